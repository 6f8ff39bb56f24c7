section
-- ===== PART A: goes FIRST, ahead of the names: the tables' words, and 'selects' of the private methods out of them =====
/-- a private method of a class that the tables say can be made, by its rows of tables_1 -/
def lw_okq (q : MethodName × Nat) : Prop := (q.1.cls ≠ "java/lang/invoke/MethodHandle" ∧ q.1.cls ≠ "java/lang/invoke/VarHandle") ∧ Cond.instantiable q.1.cls q.2 ∈ tables_1 ∧ Cond.privateMethod q.1 ∈ tables_1 ∧ Cond.instanceMethod q.1 ∈ tables_1
theorem lw_p0 : lw_okq (⟨"StitchDesk$PathMaker", "restart", "()V"⟩, 7) := ⟨⟨by decide +kernel, by decide +kernel⟩, List.mem_of_getElem? (i := 245) (by decide +kernel), List.mem_of_getElem? (i := 364) (by decide +kernel), List.mem_of_getElem? (i := 365) (by decide +kernel)⟩
theorem lw_p1 : lw_okq (⟨"StitchDesk$Path", "clear", "()V"⟩, 3) := ⟨⟨by decide +kernel, by decide +kernel⟩, List.mem_of_getElem? (i := 251) (by decide +kernel), List.mem_of_getElem? (i := 368) (by decide +kernel), List.mem_of_getElem? (i := 369) (by decide +kernel)⟩
theorem lw_p2 : lw_okq (⟨"StitchDesk$PathMaker", "enter", "(LStitchDesk$Shape;)V"⟩, 7) := ⟨⟨by decide +kernel, by decide +kernel⟩, List.mem_of_getElem? (i := 245) (by decide +kernel), List.mem_of_getElem? (i := 372) (by decide +kernel), List.mem_of_getElem? (i := 373) (by decide +kernel)⟩
theorem lw_p3 : lw_okq (⟨"StitchDesk$RunTeller", "tell", "(LStitchDesk$Shape;LStitchDesk$RunTaker;)V"⟩, 1) := ⟨⟨by decide +kernel, by decide +kernel⟩, List.mem_of_getElem? (i := 186) (by decide +kernel), List.mem_of_getElem? (i := 376) (by decide +kernel), List.mem_of_getElem? (i := 377) (by decide +kernel)⟩
theorem lw_p4 : lw_okq (⟨"StitchDesk$RunTeller", "tellHatch", "(LStitchDesk$Shape;LStitchDesk$RunTaker;)V"⟩, 1) := ⟨⟨by decide +kernel, by decide +kernel⟩, List.mem_of_getElem? (i := 186) (by decide +kernel), List.mem_of_getElem? (i := 380) (by decide +kernel), List.mem_of_getElem? (i := 381) (by decide +kernel)⟩
theorem lw_p5 : lw_okq (⟨"StitchDesk$HatchLine", "lay", "(LStitchDesk$Shape;I)V"⟩, 13) := ⟨⟨by decide +kernel, by decide +kernel⟩, List.mem_of_getElem? (i := 192) (by decide +kernel), List.mem_of_getElem? (i := 393) (by decide +kernel), List.mem_of_getElem? (i := 394) (by decide +kernel)⟩
theorem lw_p6 : lw_okq (⟨"StitchDesk$HatchLine", "aim", "(II)V"⟩, 13) := ⟨⟨by decide +kernel, by decide +kernel⟩, List.mem_of_getElem? (i := 192) (by decide +kernel), List.mem_of_getElem? (i := 397) (by decide +kernel), List.mem_of_getElem? (i := 398) (by decide +kernel)⟩
theorem lw_p7 : lw_okq (⟨"StitchDesk$HatchLine", "narrow", "(IIII)V"⟩, 13) := ⟨⟨by decide +kernel, by decide +kernel⟩, List.mem_of_getElem? (i := 192) (by decide +kernel), List.mem_of_getElem? (i := 405) (by decide +kernel), List.mem_of_getElem? (i := 406) (by decide +kernel)⟩
theorem lw_p8 : lw_okq (⟨"StitchDesk$HatchLine", "empty", "()V"⟩, 13) := ⟨⟨by decide +kernel, by decide +kernel⟩, List.mem_of_getElem? (i := 192) (by decide +kernel), List.mem_of_getElem? (i := 409) (by decide +kernel), List.mem_of_getElem? (i := 410) (by decide +kernel)⟩
theorem lw_p9 : lw_okq (⟨"StitchDesk$Ring", "next", "(I)I"⟩, 3) := ⟨⟨by decide +kernel, by decide +kernel⟩, List.mem_of_getElem? (i := 39) (by decide +kernel), List.mem_of_getElem? (i := 419) (by decide +kernel), List.mem_of_getElem? (i := 420) (by decide +kernel)⟩
theorem lw_p10 : lw_okq (⟨"StitchDesk$HatchLine", "addEdge", "(IIII)V"⟩, 13) := ⟨⟨by decide +kernel, by decide +kernel⟩, List.mem_of_getElem? (i := 192) (by decide +kernel), List.mem_of_getElem? (i := 423) (by decide +kernel), List.mem_of_getElem? (i := 424) (by decide +kernel)⟩
theorem lw_p11 : lw_okq (⟨"StitchDesk$HatchLine", "narrowToZero", "(II)V"⟩, 13) := ⟨⟨by decide +kernel, by decide +kernel⟩, List.mem_of_getElem? (i := 192) (by decide +kernel), List.mem_of_getElem? (i := 427) (by decide +kernel), List.mem_of_getElem? (i := 428) (by decide +kernel)⟩
theorem lw_p12 : lw_okq (⟨"StitchDesk$HatchLine", "addSpan", "(II)V"⟩, 13) := ⟨⟨by decide +kernel, by decide +kernel⟩, List.mem_of_getElem? (i := 192) (by decide +kernel), List.mem_of_getElem? (i := 431) (by decide +kernel), List.mem_of_getElem? (i := 432) (by decide +kernel)⟩
theorem lw_p13 : lw_okq (⟨"StitchDesk$HatchLine", "insert", "(I)V"⟩, 13) := ⟨⟨by decide +kernel, by decide +kernel⟩, List.mem_of_getElem? (i := 192) (by decide +kernel), List.mem_of_getElem? (i := 435) (by decide +kernel), List.mem_of_getElem? (i := 436) (by decide +kernel)⟩
theorem lw_p14 : lw_okq (⟨"StitchDesk$HatchLine", "narrowToAboveZero", "(II)V"⟩, 13) := ⟨⟨by decide +kernel, by decide +kernel⟩, List.mem_of_getElem? (i := 192) (by decide +kernel), List.mem_of_getElem? (i := 439) (by decide +kernel), List.mem_of_getElem? (i := 440) (by decide +kernel)⟩
theorem lw_p15 : lw_okq (⟨"StitchDesk$HatchLine", "gatherParts", "()V"⟩, 13) := ⟨⟨by decide +kernel, by decide +kernel⟩, List.mem_of_getElem? (i := 192) (by decide +kernel), List.mem_of_getElem? (i := 444) (by decide +kernel), List.mem_of_getElem? (i := 445) (by decide +kernel)⟩
def lw_privs_1 : List (MethodName × Nat) := [(⟨"StitchDesk$PathMaker", "restart", "()V"⟩, 7), (⟨"StitchDesk$Path", "clear", "()V"⟩, 3), (⟨"StitchDesk$PathMaker", "enter", "(LStitchDesk$Shape;)V"⟩, 7), (⟨"StitchDesk$RunTeller", "tell", "(LStitchDesk$Shape;LStitchDesk$RunTaker;)V"⟩, 1), (⟨"StitchDesk$RunTeller", "tellHatch", "(LStitchDesk$Shape;LStitchDesk$RunTaker;)V"⟩, 1), (⟨"StitchDesk$HatchLine", "lay", "(LStitchDesk$Shape;I)V"⟩, 13), (⟨"StitchDesk$HatchLine", "aim", "(II)V"⟩, 13), (⟨"StitchDesk$HatchLine", "narrow", "(IIII)V"⟩, 13), (⟨"StitchDesk$HatchLine", "empty", "()V"⟩, 13), (⟨"StitchDesk$Ring", "next", "(I)I"⟩, 3), (⟨"StitchDesk$HatchLine", "addEdge", "(IIII)V"⟩, 13), (⟨"StitchDesk$HatchLine", "narrowToZero", "(II)V"⟩, 13), (⟨"StitchDesk$HatchLine", "addSpan", "(II)V"⟩, 13), (⟨"StitchDesk$HatchLine", "insert", "(I)V"⟩, 13), (⟨"StitchDesk$HatchLine", "narrowToAboveZero", "(II)V"⟩, 13), (⟨"StitchDesk$HatchLine", "gatherParts", "()V"⟩, 13)]
theorem lw_r1 : ∀ q ∈ lw_privs_1, lw_okq q := List.forall_mem_cons.mpr ⟨lw_p0, List.forall_mem_cons.mpr ⟨lw_p1, List.forall_mem_cons.mpr ⟨lw_p2, List.forall_mem_cons.mpr ⟨lw_p3, List.forall_mem_cons.mpr ⟨lw_p4, List.forall_mem_cons.mpr ⟨lw_p5, List.forall_mem_cons.mpr ⟨lw_p6, List.forall_mem_cons.mpr ⟨lw_p7, List.forall_mem_cons.mpr ⟨lw_p8, List.forall_mem_cons.mpr ⟨lw_p9, List.forall_mem_cons.mpr ⟨lw_p10, List.forall_mem_cons.mpr ⟨lw_p11, List.forall_mem_cons.mpr ⟨lw_p12, List.forall_mem_cons.mpr ⟨lw_p13, List.forall_mem_cons.mpr ⟨lw_p14, List.forall_mem_cons.mpr ⟨lw_p15, fun _ h => absurd h List.not_mem_nil⟩⟩⟩⟩⟩⟩⟩⟩⟩⟩⟩⟩⟩⟩⟩⟩
theorem lw_p16 : lw_okq (⟨"StitchDesk$HatchLine", "addPart", "(II)V"⟩, 13) := ⟨⟨by decide +kernel, by decide +kernel⟩, List.mem_of_getElem? (i := 192) (by decide +kernel), List.mem_of_getElem? (i := 448) (by decide +kernel), List.mem_of_getElem? (i := 449) (by decide +kernel)⟩
theorem lw_p17 : lw_okq (⟨"StitchDesk$HatchLine", "xAt", "(I)I"⟩, 13) := ⟨⟨by decide +kernel, by decide +kernel⟩, List.mem_of_getElem? (i := 192) (by decide +kernel), List.mem_of_getElem? (i := 468) (by decide +kernel), List.mem_of_getElem? (i := 469) (by decide +kernel)⟩
theorem lw_p18 : lw_okq (⟨"StitchDesk$HatchLine", "yAt", "(I)I"⟩, 13) := ⟨⟨by decide +kernel, by decide +kernel⟩, List.mem_of_getElem? (i := 192) (by decide +kernel), List.mem_of_getElem? (i := 472) (by decide +kernel), List.mem_of_getElem? (i := 473) (by decide +kernel)⟩
theorem lw_p19 : lw_okq (⟨"StitchDesk$PathMaker", "move", "(III)V"⟩, 7) := ⟨⟨by decide +kernel, by decide +kernel⟩, List.mem_of_getElem? (i := 245) (by decide +kernel), List.mem_of_getElem? (i := 485) (by decide +kernel), List.mem_of_getElem? (i := 486) (by decide +kernel)⟩
theorem lw_p20 : lw_okq (⟨"StitchDesk$PathMaker", "stepsTo", "(II)I"⟩, 7) := ⟨⟨by decide +kernel, by decide +kernel⟩, List.mem_of_getElem? (i := 245) (by decide +kernel), List.mem_of_getElem? (i := 489) (by decide +kernel), List.mem_of_getElem? (i := 490) (by decide +kernel)⟩
theorem lw_p21 : lw_okq (⟨"StitchDesk$Path", "add", "(III)V"⟩, 3) := ⟨⟨by decide +kernel, by decide +kernel⟩, List.mem_of_getElem? (i := 251) (by decide +kernel), List.mem_of_getElem? (i := 501) (by decide +kernel), List.mem_of_getElem? (i := 502) (by decide +kernel)⟩
theorem lw_p22 : lw_okq (⟨"StitchDesk$PathMaker", "changeThread", "()V"⟩, 7) := ⟨⟨by decide +kernel, by decide +kernel⟩, List.mem_of_getElem? (i := 245) (by decide +kernel), List.mem_of_getElem? (i := 505) (by decide +kernel), List.mem_of_getElem? (i := 506) (by decide +kernel)⟩
theorem lw_p23 : lw_okq (⟨"StitchDesk$PathMaker", "leap", "(II)V"⟩, 7) := ⟨⟨by decide +kernel, by decide +kernel⟩, List.mem_of_getElem? (i := 245) (by decide +kernel), List.mem_of_getElem? (i := 509) (by decide +kernel), List.mem_of_getElem? (i := 510) (by decide +kernel)⟩
theorem lw_p24 : lw_okq (⟨"StitchDesk$PathMaker", "staysInShape", "(II)Z"⟩, 7) := ⟨⟨by decide +kernel, by decide +kernel⟩, List.mem_of_getElem? (i := 245) (by decide +kernel), List.mem_of_getElem? (i := 513) (by decide +kernel), List.mem_of_getElem? (i := 514) (by decide +kernel)⟩
theorem lw_p25 : lw_okq (⟨"StitchDesk$Shape", "has", "(II)Z"⟩, 11) := ⟨⟨by decide +kernel, by decide +kernel⟩, List.mem_of_getElem? (i := 32) (by decide +kernel), List.mem_of_getElem? (i := 517) (by decide +kernel), List.mem_of_getElem? (i := 518) (by decide +kernel)⟩
theorem lw_p26 : lw_okq (⟨"StitchDesk$Ring", "sideOf", "(II)I"⟩, 3) := ⟨⟨by decide +kernel, by decide +kernel⟩, List.mem_of_getElem? (i := 39) (by decide +kernel), List.mem_of_getElem? (i := 521) (by decide +kernel), List.mem_of_getElem? (i := 522) (by decide +kernel)⟩
theorem lw_p27 : lw_okq (⟨"StitchDesk$RunTeller", "tellSatin", "(LStitchDesk$Shape;LStitchDesk$RunTaker;)V"⟩, 1) := ⟨⟨by decide +kernel, by decide +kernel⟩, List.mem_of_getElem? (i := 186) (by decide +kernel), List.mem_of_getElem? (i := 530) (by decide +kernel), List.mem_of_getElem? (i := 531) (by decide +kernel)⟩
theorem lw_p28 : lw_okq (⟨"StitchDesk$RunTeller", "tellOutline", "(LStitchDesk$Shape;LStitchDesk$RunTaker;)V"⟩, 1) := ⟨⟨by decide +kernel, by decide +kernel⟩, List.mem_of_getElem? (i := 186) (by decide +kernel), List.mem_of_getElem? (i := 544) (by decide +kernel), List.mem_of_getElem? (i := 545) (by decide +kernel)⟩
theorem lw_p29 : lw_okq (⟨"StitchDesk", "firstWrongGroup", "()I"⟩, 11) := ⟨⟨by decide +kernel, by decide +kernel⟩, List.mem_of_getElem? (i := 23) (by decide +kernel), List.mem_of_getElem? (i := 553) (by decide +kernel), List.mem_of_getElem? (i := 554) (by decide +kernel)⟩
theorem lw_p30 : lw_okq (⟨"StitchDesk", "groupAt", "(I)I"⟩, 11) := ⟨⟨by decide +kernel, by decide +kernel⟩, List.mem_of_getElem? (i := 23) (by decide +kernel), List.mem_of_getElem? (i := 557) (by decide +kernel), List.mem_of_getElem? (i := 558) (by decide +kernel)⟩
theorem lw_p31 : lw_okq (⟨"StitchDesk$Path", "addPacked", "(I)V"⟩, 3) := ⟨⟨by decide +kernel, by decide +kernel⟩, List.mem_of_getElem? (i := 251) (by decide +kernel), List.mem_of_getElem? (i := 565) (by decide +kernel), List.mem_of_getElem? (i := 566) (by decide +kernel)⟩
def lw_privs_2 : List (MethodName × Nat) := [(⟨"StitchDesk$HatchLine", "addPart", "(II)V"⟩, 13), (⟨"StitchDesk$HatchLine", "xAt", "(I)I"⟩, 13), (⟨"StitchDesk$HatchLine", "yAt", "(I)I"⟩, 13), (⟨"StitchDesk$PathMaker", "move", "(III)V"⟩, 7), (⟨"StitchDesk$PathMaker", "stepsTo", "(II)I"⟩, 7), (⟨"StitchDesk$Path", "add", "(III)V"⟩, 3), (⟨"StitchDesk$PathMaker", "changeThread", "()V"⟩, 7), (⟨"StitchDesk$PathMaker", "leap", "(II)V"⟩, 7), (⟨"StitchDesk$PathMaker", "staysInShape", "(II)Z"⟩, 7), (⟨"StitchDesk$Shape", "has", "(II)Z"⟩, 11), (⟨"StitchDesk$Ring", "sideOf", "(II)I"⟩, 3), (⟨"StitchDesk$RunTeller", "tellSatin", "(LStitchDesk$Shape;LStitchDesk$RunTaker;)V"⟩, 1), (⟨"StitchDesk$RunTeller", "tellOutline", "(LStitchDesk$Shape;LStitchDesk$RunTaker;)V"⟩, 1), (⟨"StitchDesk", "firstWrongGroup", "()I"⟩, 11), (⟨"StitchDesk", "groupAt", "(I)I"⟩, 11), (⟨"StitchDesk$Path", "addPacked", "(I)V"⟩, 3)]
theorem lw_r2 : ∀ q ∈ lw_privs_2, lw_okq q := List.forall_mem_cons.mpr ⟨lw_p16, List.forall_mem_cons.mpr ⟨lw_p17, List.forall_mem_cons.mpr ⟨lw_p18, List.forall_mem_cons.mpr ⟨lw_p19, List.forall_mem_cons.mpr ⟨lw_p20, List.forall_mem_cons.mpr ⟨lw_p21, List.forall_mem_cons.mpr ⟨lw_p22, List.forall_mem_cons.mpr ⟨lw_p23, List.forall_mem_cons.mpr ⟨lw_p24, List.forall_mem_cons.mpr ⟨lw_p25, List.forall_mem_cons.mpr ⟨lw_p26, List.forall_mem_cons.mpr ⟨lw_p27, List.forall_mem_cons.mpr ⟨lw_p28, List.forall_mem_cons.mpr ⟨lw_p29, List.forall_mem_cons.mpr ⟨lw_p30, List.forall_mem_cons.mpr ⟨lw_p31, fun _ h => absurd h List.not_mem_nil⟩⟩⟩⟩⟩⟩⟩⟩⟩⟩⟩⟩⟩⟩⟩⟩
theorem lw_p32 : lw_okq (⟨"StitchDesk$Planner", "plan", "([LStitchDesk$Shape;[II)I"⟩, 6) := ⟨⟨by decide +kernel, by decide +kernel⟩, List.mem_of_getElem? (i := 293) (by decide +kernel), List.mem_of_getElem? (i := 577) (by decide +kernel), List.mem_of_getElem? (i := 578) (by decide +kernel)⟩
theorem lw_p33 : lw_okq (⟨"StitchDesk$Planner", "gather", "([LStitchDesk$Shape;[I)V"⟩, 6) := ⟨⟨by decide +kernel, by decide +kernel⟩, List.mem_of_getElem? (i := 293) (by decide +kernel), List.mem_of_getElem? (i := 582) (by decide +kernel), List.mem_of_getElem? (i := 583) (by decide +kernel)⟩
theorem lw_p34 : lw_okq (⟨"StitchDesk$Shape", "meets", "(LStitchDesk$Shape;)Z"⟩, 11) := ⟨⟨by decide +kernel, by decide +kernel⟩, List.mem_of_getElem? (i := 32) (by decide +kernel), List.mem_of_getElem? (i := 586) (by decide +kernel), List.mem_of_getElem? (i := 587) (by decide +kernel)⟩
theorem lw_p35 : lw_okq (⟨"StitchDesk$Planner", "weighSets", "()V"⟩, 6) := ⟨⟨by decide +kernel, by decide +kernel⟩, List.mem_of_getElem? (i := 293) (by decide +kernel), List.mem_of_getElem? (i := 590) (by decide +kernel), List.mem_of_getElem? (i := 591) (by decide +kernel)⟩
theorem lw_p36 : lw_okq (⟨"StitchDesk$Planner", "mayFollow", "(II)Z"⟩, 6) := ⟨⟨by decide +kernel, by decide +kernel⟩, List.mem_of_getElem? (i := 293) (by decide +kernel), List.mem_of_getElem? (i := 594) (by decide +kernel), List.mem_of_getElem? (i := 595) (by decide +kernel)⟩
theorem lw_p37 : lw_okq (⟨"StitchDesk$Planner", "changesAfter", "(II)I"⟩, 6) := ⟨⟨by decide +kernel, by decide +kernel⟩, List.mem_of_getElem? (i := 293) (by decide +kernel), List.mem_of_getElem? (i := 598) (by decide +kernel), List.mem_of_getElem? (i := 599) (by decide +kernel)⟩
theorem lw_p38 : lw_okq (⟨"StitchDesk$Planner", "weigh", "(III)V"⟩, 6) := ⟨⟨by decide +kernel, by decide +kernel⟩, List.mem_of_getElem? (i := 293) (by decide +kernel), List.mem_of_getElem? (i := 602) (by decide +kernel), List.mem_of_getElem? (i := 603) (by decide +kernel)⟩
theorem lw_p39 : lw_okq (⟨"StitchDesk$Planner", "choose", "([I)V"⟩, 6) := ⟨⟨by decide +kernel, by decide +kernel⟩, List.mem_of_getElem? (i := 293) (by decide +kernel), List.mem_of_getElem? (i := 606) (by decide +kernel), List.mem_of_getElem? (i := 607) (by decide +kernel)⟩
theorem lw_p40 : lw_okq (⟨"StitchDesk$Path", "threadBehind", "(I)I"⟩, 3) := ⟨⟨by decide +kernel, by decide +kernel⟩, List.mem_of_getElem? (i := 251) (by decide +kernel), List.mem_of_getElem? (i := 621) (by decide +kernel), List.mem_of_getElem? (i := 622) (by decide +kernel)⟩
theorem lw_p41 : lw_okq (⟨"StitchDesk$Path", "kind", "(I)I"⟩, 3) := ⟨⟨by decide +kernel, by decide +kernel⟩, List.mem_of_getElem? (i := 251) (by decide +kernel), List.mem_of_getElem? (i := 625) (by decide +kernel), List.mem_of_getElem? (i := 626) (by decide +kernel)⟩
theorem lw_p42 : lw_okq (⟨"StitchDesk$Path", "dx", "(I)I"⟩, 3) := ⟨⟨by decide +kernel, by decide +kernel⟩, List.mem_of_getElem? (i := 251) (by decide +kernel), List.mem_of_getElem? (i := 629) (by decide +kernel), List.mem_of_getElem? (i := 630) (by decide +kernel)⟩
theorem lw_p43 : lw_okq (⟨"StitchDesk$Path", "dy", "(I)I"⟩, 3) := ⟨⟨by decide +kernel, by decide +kernel⟩, List.mem_of_getElem? (i := 251) (by decide +kernel), List.mem_of_getElem? (i := 633) (by decide +kernel), List.mem_of_getElem? (i := 634) (by decide +kernel)⟩
theorem lw_p44 : lw_okq (⟨"StitchDesk$Path", "fits", "(II)Z"⟩, 3) := ⟨⟨by decide +kernel, by decide +kernel⟩, List.mem_of_getElem? (i := 251) (by decide +kernel), List.mem_of_getElem? (i := 646) (by decide +kernel), List.mem_of_getElem? (i := 647) (by decide +kernel)⟩
theorem lw_p45 : lw_okq (⟨"java/lang/Throwable", "fillInStackTrace", "(I)Ljava/lang/Throwable;"⟩, 6) := ⟨⟨by decide +kernel, by decide +kernel⟩, List.mem_of_getElem? (i := 706) (by decide +kernel), List.mem_of_getElem? (i := 704) (by decide +kernel), List.mem_of_getElem? (i := 705) (by decide +kernel)⟩
theorem lw_p46 : lw_okq (⟨"StitchDesk$Shape", "reset", "(IIII)V"⟩, 11) := ⟨⟨by decide +kernel, by decide +kernel⟩, List.mem_of_getElem? (i := 32) (by decide +kernel), List.mem_of_getElem? (i := 768) (by decide +kernel), List.mem_of_getElem? (i := 769) (by decide +kernel)⟩
theorem lw_p47 : lw_okq (⟨"StitchDesk$Ring", "clear", "()V"⟩, 3) := ⟨⟨by decide +kernel, by decide +kernel⟩, List.mem_of_getElem? (i := 39) (by decide +kernel), List.mem_of_getElem? (i := 772) (by decide +kernel), List.mem_of_getElem? (i := 773) (by decide +kernel)⟩
def lw_privs_3 : List (MethodName × Nat) := [(⟨"StitchDesk$Planner", "plan", "([LStitchDesk$Shape;[II)I"⟩, 6), (⟨"StitchDesk$Planner", "gather", "([LStitchDesk$Shape;[I)V"⟩, 6), (⟨"StitchDesk$Shape", "meets", "(LStitchDesk$Shape;)Z"⟩, 11), (⟨"StitchDesk$Planner", "weighSets", "()V"⟩, 6), (⟨"StitchDesk$Planner", "mayFollow", "(II)Z"⟩, 6), (⟨"StitchDesk$Planner", "changesAfter", "(II)I"⟩, 6), (⟨"StitchDesk$Planner", "weigh", "(III)V"⟩, 6), (⟨"StitchDesk$Planner", "choose", "([I)V"⟩, 6), (⟨"StitchDesk$Path", "threadBehind", "(I)I"⟩, 3), (⟨"StitchDesk$Path", "kind", "(I)I"⟩, 3), (⟨"StitchDesk$Path", "dx", "(I)I"⟩, 3), (⟨"StitchDesk$Path", "dy", "(I)I"⟩, 3), (⟨"StitchDesk$Path", "fits", "(II)Z"⟩, 3), (⟨"java/lang/Throwable", "fillInStackTrace", "(I)Ljava/lang/Throwable;"⟩, 6), (⟨"StitchDesk$Shape", "reset", "(IIII)V"⟩, 11), (⟨"StitchDesk$Ring", "clear", "()V"⟩, 3)]
theorem lw_r3 : ∀ q ∈ lw_privs_3, lw_okq q := List.forall_mem_cons.mpr ⟨lw_p32, List.forall_mem_cons.mpr ⟨lw_p33, List.forall_mem_cons.mpr ⟨lw_p34, List.forall_mem_cons.mpr ⟨lw_p35, List.forall_mem_cons.mpr ⟨lw_p36, List.forall_mem_cons.mpr ⟨lw_p37, List.forall_mem_cons.mpr ⟨lw_p38, List.forall_mem_cons.mpr ⟨lw_p39, List.forall_mem_cons.mpr ⟨lw_p40, List.forall_mem_cons.mpr ⟨lw_p41, List.forall_mem_cons.mpr ⟨lw_p42, List.forall_mem_cons.mpr ⟨lw_p43, List.forall_mem_cons.mpr ⟨lw_p44, List.forall_mem_cons.mpr ⟨lw_p45, List.forall_mem_cons.mpr ⟨lw_p46, List.forall_mem_cons.mpr ⟨lw_p47, fun _ h => absurd h List.not_mem_nil⟩⟩⟩⟩⟩⟩⟩⟩⟩⟩⟩⟩⟩⟩⟩⟩
theorem lw_p48 : lw_okq (⟨"StitchDesk$Tally", "clear", "()V"⟩, 2) := ⟨⟨by decide +kernel, by decide +kernel⟩, List.mem_of_getElem? (i := 69) (by decide +kernel), List.mem_of_getElem? (i := 776) (by decide +kernel), List.mem_of_getElem? (i := 777) (by decide +kernel)⟩
theorem lw_p49 : lw_okq (⟨"StitchDesk$Ring", "add", "(II)V"⟩, 3) := ⟨⟨by decide +kernel, by decide +kernel⟩, List.mem_of_getElem? (i := 39) (by decide +kernel), List.mem_of_getElem? (i := 793) (by decide +kernel), List.mem_of_getElem? (i := 794) (by decide +kernel)⟩
theorem lw_p50 : lw_okq (⟨"StitchDesk$Inspector", "inspect", "(LStitchDesk$Shape;)I"⟩, 9) := ⟨⟨by decide +kernel, by decide +kernel⟩, List.mem_of_getElem? (i := 149) (by decide +kernel), List.mem_of_getElem? (i := 815) (by decide +kernel), List.mem_of_getElem? (i := 816) (by decide +kernel)⟩
theorem lw_p51 : lw_okq (⟨"StitchDesk$Inspector", "faultOfRails", "(LStitchDesk$Shape;)I"⟩, 9) := ⟨⟨by decide +kernel, by decide +kernel⟩, List.mem_of_getElem? (i := 149) (by decide +kernel), List.mem_of_getElem? (i := 819) (by decide +kernel), List.mem_of_getElem? (i := 820) (by decide +kernel)⟩
theorem lw_p52 : lw_okq (⟨"StitchDesk$Inspector", "faultOfRings", "(LStitchDesk$Shape;)I"⟩, 9) := ⟨⟨by decide +kernel, by decide +kernel⟩, List.mem_of_getElem? (i := 149) (by decide +kernel), List.mem_of_getElem? (i := 823) (by decide +kernel), List.mem_of_getElem? (i := 824) (by decide +kernel)⟩
theorem lw_p53 : lw_okq (⟨"StitchDesk$Inspector", "hasFlatRing", "(LStitchDesk$Shape;)Z"⟩, 9) := ⟨⟨by decide +kernel, by decide +kernel⟩, List.mem_of_getElem? (i := 149) (by decide +kernel), List.mem_of_getElem? (i := 827) (by decide +kernel), List.mem_of_getElem? (i := 828) (by decide +kernel)⟩
theorem lw_p54 : lw_okq (⟨"StitchDesk$Ring", "isFlat", "()Z"⟩, 3) := ⟨⟨by decide +kernel, by decide +kernel⟩, List.mem_of_getElem? (i := 39) (by decide +kernel), List.mem_of_getElem? (i := 831) (by decide +kernel), List.mem_of_getElem? (i := 832) (by decide +kernel)⟩
theorem lw_p55 : lw_okq (⟨"StitchDesk$Inspector", "gatherEdges", "(LStitchDesk$Shape;)V"⟩, 9) := ⟨⟨by decide +kernel, by decide +kernel⟩, List.mem_of_getElem? (i := 149) (by decide +kernel), List.mem_of_getElem? (i := 835) (by decide +kernel), List.mem_of_getElem? (i := 836) (by decide +kernel)⟩
theorem lw_p56 : lw_okq (⟨"StitchDesk$Inspector", "findCrossing", "()Z"⟩, 9) := ⟨⟨by decide +kernel, by decide +kernel⟩, List.mem_of_getElem? (i := 149) (by decide +kernel), List.mem_of_getElem? (i := 840) (by decide +kernel), List.mem_of_getElem? (i := 841) (by decide +kernel)⟩
theorem lw_p57 : lw_okq (⟨"StitchDesk$Inspector", "areCrossed", "(II)Z"⟩, 9) := ⟨⟨by decide +kernel, by decide +kernel⟩, List.mem_of_getElem? (i := 149) (by decide +kernel), List.mem_of_getElem? (i := 844) (by decide +kernel), List.mem_of_getElem? (i := 845) (by decide +kernel)⟩
theorem lw_p58 : lw_okq (⟨"StitchDesk$Inspector", "turnsBack", "(II)Z"⟩, 9) := ⟨⟨by decide +kernel, by decide +kernel⟩, List.mem_of_getElem? (i := 149) (by decide +kernel), List.mem_of_getElem? (i := 848) (by decide +kernel), List.mem_of_getElem? (i := 849) (by decide +kernel)⟩
theorem lw_p59 : lw_okq (⟨"StitchDesk$Inspector", "sharePoint", "(II)Z"⟩, 9) := ⟨⟨by decide +kernel, by decide +kernel⟩, List.mem_of_getElem? (i := 149) (by decide +kernel), List.mem_of_getElem? (i := 852) (by decide +kernel), List.mem_of_getElem? (i := 853) (by decide +kernel)⟩
theorem lw_p60 : lw_okq (⟨"StitchDesk$Inspector", "turn", "(III)I"⟩, 9) := ⟨⟨by decide +kernel, by decide +kernel⟩, List.mem_of_getElem? (i := 149) (by decide +kernel), List.mem_of_getElem? (i := 858) (by decide +kernel), List.mem_of_getElem? (i := 859) (by decide +kernel)⟩
theorem lw_p61 : lw_okq (⟨"StitchDesk$Inspector", "hasHoleOutside", "(LStitchDesk$Shape;)Z"⟩, 9) := ⟨⟨by decide +kernel, by decide +kernel⟩, List.mem_of_getElem? (i := 149) (by decide +kernel), List.mem_of_getElem? (i := 865) (by decide +kernel), List.mem_of_getElem? (i := 866) (by decide +kernel)⟩
theorem lw_p62 : lw_okq (⟨"StitchDesk$Inspector", "hasHoleWithin", "(LStitchDesk$Shape;)Z"⟩, 9) := ⟨⟨by decide +kernel, by decide +kernel⟩, List.mem_of_getElem? (i := 149) (by decide +kernel), List.mem_of_getElem? (i := 873) (by decide +kernel), List.mem_of_getElem? (i := 874) (by decide +kernel)⟩
theorem lw_p63 : lw_okq (⟨"StitchDesk$Shape", "finish", "()V"⟩, 11) := ⟨⟨by decide +kernel, by decide +kernel⟩, List.mem_of_getElem? (i := 32) (by decide +kernel), List.mem_of_getElem? (i := 877) (by decide +kernel), List.mem_of_getElem? (i := 878) (by decide +kernel)⟩
def lw_privs_4 : List (MethodName × Nat) := [(⟨"StitchDesk$Tally", "clear", "()V"⟩, 2), (⟨"StitchDesk$Ring", "add", "(II)V"⟩, 3), (⟨"StitchDesk$Inspector", "inspect", "(LStitchDesk$Shape;)I"⟩, 9), (⟨"StitchDesk$Inspector", "faultOfRails", "(LStitchDesk$Shape;)I"⟩, 9), (⟨"StitchDesk$Inspector", "faultOfRings", "(LStitchDesk$Shape;)I"⟩, 9), (⟨"StitchDesk$Inspector", "hasFlatRing", "(LStitchDesk$Shape;)Z"⟩, 9), (⟨"StitchDesk$Ring", "isFlat", "()Z"⟩, 3), (⟨"StitchDesk$Inspector", "gatherEdges", "(LStitchDesk$Shape;)V"⟩, 9), (⟨"StitchDesk$Inspector", "findCrossing", "()Z"⟩, 9), (⟨"StitchDesk$Inspector", "areCrossed", "(II)Z"⟩, 9), (⟨"StitchDesk$Inspector", "turnsBack", "(II)Z"⟩, 9), (⟨"StitchDesk$Inspector", "sharePoint", "(II)Z"⟩, 9), (⟨"StitchDesk$Inspector", "turn", "(III)I"⟩, 9), (⟨"StitchDesk$Inspector", "hasHoleOutside", "(LStitchDesk$Shape;)Z"⟩, 9), (⟨"StitchDesk$Inspector", "hasHoleWithin", "(LStitchDesk$Shape;)Z"⟩, 9), (⟨"StitchDesk$Shape", "finish", "()V"⟩, 11)]
theorem lw_r4 : ∀ q ∈ lw_privs_4, lw_okq q := List.forall_mem_cons.mpr ⟨lw_p48, List.forall_mem_cons.mpr ⟨lw_p49, List.forall_mem_cons.mpr ⟨lw_p50, List.forall_mem_cons.mpr ⟨lw_p51, List.forall_mem_cons.mpr ⟨lw_p52, List.forall_mem_cons.mpr ⟨lw_p53, List.forall_mem_cons.mpr ⟨lw_p54, List.forall_mem_cons.mpr ⟨lw_p55, List.forall_mem_cons.mpr ⟨lw_p56, List.forall_mem_cons.mpr ⟨lw_p57, List.forall_mem_cons.mpr ⟨lw_p58, List.forall_mem_cons.mpr ⟨lw_p59, List.forall_mem_cons.mpr ⟨lw_p60, List.forall_mem_cons.mpr ⟨lw_p61, List.forall_mem_cons.mpr ⟨lw_p62, List.forall_mem_cons.mpr ⟨lw_p63, fun _ h => absurd h List.not_mem_nil⟩⟩⟩⟩⟩⟩⟩⟩⟩⟩⟩⟩⟩⟩⟩⟩
theorem lw_p64 : lw_okq (⟨"StitchDesk$Shape", "joinRails", "()V"⟩, 11) := ⟨⟨by decide +kernel, by decide +kernel⟩, List.mem_of_getElem? (i := 32) (by decide +kernel), List.mem_of_getElem? (i := 881) (by decide +kernel), List.mem_of_getElem? (i := 882) (by decide +kernel)⟩
theorem lw_p65 : lw_okq (⟨"StitchDesk$Shape", "measure", "()V"⟩, 11) := ⟨⟨by decide +kernel, by decide +kernel⟩, List.mem_of_getElem? (i := 32) (by decide +kernel), List.mem_of_getElem? (i := 886) (by decide +kernel), List.mem_of_getElem? (i := 887) (by decide +kernel)⟩
theorem lw_p66 : lw_okq (⟨"StitchDesk$Path", "packed", "(I)I"⟩, 3) := ⟨⟨by decide +kernel, by decide +kernel⟩, List.mem_of_getElem? (i := 251) (by decide +kernel), List.mem_of_getElem? (i := 951) (by decide +kernel), List.mem_of_getElem? (i := 952) (by decide +kernel)⟩
theorem lw_p67 : lw_okq (⟨"StitchDeskModel", "oneMore", "(III)I"⟩, 34) := ⟨⟨by decide +kernel, by decide +kernel⟩, List.mem_of_getElem? (i := 984) (by decide +kernel), List.mem_of_getElem? (i := 1109) (by decide +kernel), List.mem_of_getElem? (i := 1110) (by decide +kernel)⟩
theorem lw_p68 : lw_okq (⟨"StitchDeskModel", "findFault", "()I"⟩, 34) := ⟨⟨by decide +kernel, by decide +kernel⟩, List.mem_of_getElem? (i := 984) (by decide +kernel), List.mem_of_getElem? (i := 1121) (by decide +kernel), List.mem_of_getElem? (i := 1122) (by decide +kernel)⟩
theorem lw_p69 : lw_okq (⟨"StitchDeskModel", "flat", "()Z"⟩, 34) := ⟨⟨by decide +kernel, by decide +kernel⟩, List.mem_of_getElem? (i := 984) (by decide +kernel), List.mem_of_getElem? (i := 1125) (by decide +kernel), List.mem_of_getElem? (i := 1126) (by decide +kernel)⟩
theorem lw_p70 : lw_okq (⟨"StitchDeskModel", "edgesOf", "(I)V"⟩, 34) := ⟨⟨by decide +kernel, by decide +kernel⟩, List.mem_of_getElem? (i := 984) (by decide +kernel), List.mem_of_getElem? (i := 1132) (by decide +kernel), List.mem_of_getElem? (i := 1133) (by decide +kernel)⟩
theorem lw_p71 : lw_okq (⟨"StitchDeskModel", "railCorner", "(II)I"⟩, 34) := ⟨⟨by decide +kernel, by decide +kernel⟩, List.mem_of_getElem? (i := 984) (by decide +kernel), List.mem_of_getElem? (i := 1136) (by decide +kernel), List.mem_of_getElem? (i := 1137) (by decide +kernel)⟩
theorem lw_p72 : lw_okq (⟨"StitchDeskModel", "edge", "(IIIIII)V"⟩, 34) := ⟨⟨by decide +kernel, by decide +kernel⟩, List.mem_of_getElem? (i := 984) (by decide +kernel), List.mem_of_getElem? (i := 1140) (by decide +kernel), List.mem_of_getElem? (i := 1141) (by decide +kernel)⟩
theorem lw_p73 : lw_okq (⟨"StitchDeskModel", "crossed", "(II)Z"⟩, 34) := ⟨⟨by decide +kernel, by decide +kernel⟩, List.mem_of_getElem? (i := 984) (by decide +kernel), List.mem_of_getElem? (i := 1144) (by decide +kernel), List.mem_of_getElem? (i := 1145) (by decide +kernel)⟩
theorem lw_p74 : lw_okq (⟨"StitchDeskModel", "touch", "(II)Z"⟩, 34) := ⟨⟨by decide +kernel, by decide +kernel⟩, List.mem_of_getElem? (i := 984) (by decide +kernel), List.mem_of_getElem? (i := 1148) (by decide +kernel), List.mem_of_getElem? (i := 1149) (by decide +kernel)⟩
theorem lw_p75 : lw_okq (⟨"StitchDeskModel", "onEdge", "(III)Z"⟩, 34) := ⟨⟨by decide +kernel, by decide +kernel⟩, List.mem_of_getElem? (i := 984) (by decide +kernel), List.mem_of_getElem? (i := 1152) (by decide +kernel), List.mem_of_getElem? (i := 1153) (by decide +kernel)⟩
theorem lw_p76 : lw_okq (⟨"StitchDeskModel", "folded", "(II)Z"⟩, 34) := ⟨⟨by decide +kernel, by decide +kernel⟩, List.mem_of_getElem? (i := 984) (by decide +kernel), List.mem_of_getElem? (i := 1162) (by decide +kernel), List.mem_of_getElem? (i := 1163) (by decide +kernel)⟩
theorem lw_p77 : lw_okq (⟨"StitchDeskModel", "inside", "(III)Z"⟩, 34) := ⟨⟨by decide +kernel, by decide +kernel⟩, List.mem_of_getElem? (i := 984) (by decide +kernel), List.mem_of_getElem? (i := 1166) (by decide +kernel), List.mem_of_getElem? (i := 1167) (by decide +kernel)⟩
theorem lw_p78 : lw_okq (⟨"StitchDeskModel", "passes", "(III)Z"⟩, 34) := ⟨⟨by decide +kernel, by decide +kernel⟩, List.mem_of_getElem? (i := 984) (by decide +kernel), List.mem_of_getElem? (i := 1170) (by decide +kernel), List.mem_of_getElem? (i := 1171) (by decide +kernel)⟩
theorem lw_p79 : lw_okq (⟨"StitchDeskModel", "runsOf", "(IZ)V"⟩, 34) := ⟨⟨by decide +kernel, by decide +kernel⟩, List.mem_of_getElem? (i := 984) (by decide +kernel), List.mem_of_getElem? (i := 1182) (by decide +kernel), List.mem_of_getElem? (i := 1183) (by decide +kernel)⟩
def lw_privs_5 : List (MethodName × Nat) := [(⟨"StitchDesk$Shape", "joinRails", "()V"⟩, 11), (⟨"StitchDesk$Shape", "measure", "()V"⟩, 11), (⟨"StitchDesk$Path", "packed", "(I)I"⟩, 3), (⟨"StitchDeskModel", "oneMore", "(III)I"⟩, 34), (⟨"StitchDeskModel", "findFault", "()I"⟩, 34), (⟨"StitchDeskModel", "flat", "()Z"⟩, 34), (⟨"StitchDeskModel", "edgesOf", "(I)V"⟩, 34), (⟨"StitchDeskModel", "railCorner", "(II)I"⟩, 34), (⟨"StitchDeskModel", "edge", "(IIIIII)V"⟩, 34), (⟨"StitchDeskModel", "crossed", "(II)Z"⟩, 34), (⟨"StitchDeskModel", "touch", "(II)Z"⟩, 34), (⟨"StitchDeskModel", "onEdge", "(III)Z"⟩, 34), (⟨"StitchDeskModel", "folded", "(II)Z"⟩, 34), (⟨"StitchDeskModel", "inside", "(III)Z"⟩, 34), (⟨"StitchDeskModel", "passes", "(III)Z"⟩, 34), (⟨"StitchDeskModel", "runsOf", "(IZ)V"⟩, 34)]
theorem lw_r5 : ∀ q ∈ lw_privs_5, lw_okq q := List.forall_mem_cons.mpr ⟨lw_p64, List.forall_mem_cons.mpr ⟨lw_p65, List.forall_mem_cons.mpr ⟨lw_p66, List.forall_mem_cons.mpr ⟨lw_p67, List.forall_mem_cons.mpr ⟨lw_p68, List.forall_mem_cons.mpr ⟨lw_p69, List.forall_mem_cons.mpr ⟨lw_p70, List.forall_mem_cons.mpr ⟨lw_p71, List.forall_mem_cons.mpr ⟨lw_p72, List.forall_mem_cons.mpr ⟨lw_p73, List.forall_mem_cons.mpr ⟨lw_p74, List.forall_mem_cons.mpr ⟨lw_p75, List.forall_mem_cons.mpr ⟨lw_p76, List.forall_mem_cons.mpr ⟨lw_p77, List.forall_mem_cons.mpr ⟨lw_p78, List.forall_mem_cons.mpr ⟨lw_p79, fun _ h => absurd h List.not_mem_nil⟩⟩⟩⟩⟩⟩⟩⟩⟩⟩⟩⟩⟩⟩⟩⟩
theorem lw_p80 : lw_okq (⟨"StitchDeskModel", "hatch", "(I)V"⟩, 34) := ⟨⟨by decide +kernel, by decide +kernel⟩, List.mem_of_getElem? (i := 984) (by decide +kernel), List.mem_of_getElem? (i := 1186) (by decide +kernel), List.mem_of_getElem? (i := 1187) (by decide +kernel)⟩
theorem lw_p81 : lw_okq (⟨"StitchDeskModel", "line", "(IIIZ)V"⟩, 34) := ⟨⟨by decide +kernel, by decide +kernel⟩, List.mem_of_getElem? (i := 984) (by decide +kernel), List.mem_of_getElem? (i := 1193) (by decide +kernel), List.mem_of_getElem? (i := 1194) (by decide +kernel)⟩
theorem lw_p82 : lw_okq (⟨"StitchDeskModel", "in", "(II)Z"⟩, 34) := ⟨⟨by decide +kernel, by decide +kernel⟩, List.mem_of_getElem? (i := 984) (by decide +kernel), List.mem_of_getElem? (i := 1203) (by decide +kernel), List.mem_of_getElem? (i := 1204) (by decide +kernel)⟩
theorem lw_p83 : lw_okq (⟨"StitchDeskModel", "comes", "(IIIZ)V"⟩, 34) := ⟨⟨by decide +kernel, by decide +kernel⟩, List.mem_of_getElem? (i := 984) (by decide +kernel), List.mem_of_getElem? (i := 1207) (by decide +kernel), List.mem_of_getElem? (i := 1208) (by decide +kernel)⟩
theorem lw_p84 : lw_okq (⟨"StitchDeskModel", "move", "(III)V"⟩, 34) := ⟨⟨by decide +kernel, by decide +kernel⟩, List.mem_of_getElem? (i := 984) (by decide +kernel), List.mem_of_getElem? (i := 1211) (by decide +kernel), List.mem_of_getElem? (i := 1212) (by decide +kernel)⟩
theorem lw_p85 : lw_okq (⟨"StitchDeskModel", "stepsTo", "(II)I"⟩, 34) := ⟨⟨by decide +kernel, by decide +kernel⟩, List.mem_of_getElem? (i := 984) (by decide +kernel), List.mem_of_getElem? (i := 1215) (by decide +kernel), List.mem_of_getElem? (i := 1216) (by decide +kernel)⟩
theorem lw_p86 : lw_okq (⟨"StitchDeskModel", "step", "(III)V"⟩, 34) := ⟨⟨by decide +kernel, by decide +kernel⟩, List.mem_of_getElem? (i := 984) (by decide +kernel), List.mem_of_getElem? (i := 1222) (by decide +kernel), List.mem_of_getElem? (i := 1223) (by decide +kernel)⟩
theorem lw_p87 : lw_okq (⟨"StitchDeskModel", "leap", "(II)V"⟩, 34) := ⟨⟨by decide +kernel, by decide +kernel⟩, List.mem_of_getElem? (i := 984) (by decide +kernel), List.mem_of_getElem? (i := 1226) (by decide +kernel), List.mem_of_getElem? (i := 1227) (by decide +kernel)⟩
theorem lw_p88 : lw_okq (⟨"StitchDeskModel", "stepsIn", "(II)Z"⟩, 34) := ⟨⟨by decide +kernel, by decide +kernel⟩, List.mem_of_getElem? (i := 984) (by decide +kernel), List.mem_of_getElem? (i := 1230) (by decide +kernel), List.mem_of_getElem? (i := 1231) (by decide +kernel)⟩
theorem lw_p89 : lw_okq (⟨"StitchDeskModel", "satin", "(I)V"⟩, 34) := ⟨⟨by decide +kernel, by decide +kernel⟩, List.mem_of_getElem? (i := 984) (by decide +kernel), List.mem_of_getElem? (i := 1234) (by decide +kernel), List.mem_of_getElem? (i := 1235) (by decide +kernel)⟩
theorem lw_p90 : lw_okq (⟨"StitchDeskModel", "outline", "(I)V"⟩, 34) := ⟨⟨by decide +kernel, by decide +kernel⟩, List.mem_of_getElem? (i := 984) (by decide +kernel), List.mem_of_getElem? (i := 1238) (by decide +kernel), List.mem_of_getElem? (i := 1239) (by decide +kernel)⟩
theorem lw_p91 : lw_okq (⟨"StitchDeskModel", "group", "(I)I"⟩, 34) := ⟨⟨by decide +kernel, by decide +kernel⟩, List.mem_of_getElem? (i := 984) (by decide +kernel), List.mem_of_getElem? (i := 1269) (by decide +kernel), List.mem_of_getElem? (i := 1270) (by decide +kernel)⟩
theorem lw_p92 : lw_okq (⟨"StitchDeskModel", "findLeft", "()V"⟩, 34) := ⟨⟨by decide +kernel, by decide +kernel⟩, List.mem_of_getElem? (i := 984) (by decide +kernel), List.mem_of_getElem? (i := 1280) (by decide +kernel), List.mem_of_getElem? (i := 1281) (by decide +kernel)⟩
theorem lw_p93 : lw_okq (⟨"StitchDeskModel", "mayCome", "(II)Z"⟩, 34) := ⟨⟨by decide +kernel, by decide +kernel⟩, List.mem_of_getElem? (i := 984) (by decide +kernel), List.mem_of_getElem? (i := 1284) (by decide +kernel), List.mem_of_getElem? (i := 1285) (by decide +kernel)⟩
theorem lw_p94 : lw_okq (⟨"StitchDeskModel", "meetBoxes", "(II)Z"⟩, 34) := ⟨⟨by decide +kernel, by decide +kernel⟩, List.mem_of_getElem? (i := 984) (by decide +kernel), List.mem_of_getElem? (i := 1288) (by decide +kernel), List.mem_of_getElem? (i := 1289) (by decide +kernel)⟩
theorem lw_p95 : lw_okq (⟨"StitchDeskModel", "costOf", "(III)I"⟩, 34) := ⟨⟨by decide +kernel, by decide +kernel⟩, List.mem_of_getElem? (i := 984) (by decide +kernel), List.mem_of_getElem? (i := 1292) (by decide +kernel), List.mem_of_getElem? (i := 1293) (by decide +kernel)⟩
def lw_privs_6 : List (MethodName × Nat) := [(⟨"StitchDeskModel", "hatch", "(I)V"⟩, 34), (⟨"StitchDeskModel", "line", "(IIIZ)V"⟩, 34), (⟨"StitchDeskModel", "in", "(II)Z"⟩, 34), (⟨"StitchDeskModel", "comes", "(IIIZ)V"⟩, 34), (⟨"StitchDeskModel", "move", "(III)V"⟩, 34), (⟨"StitchDeskModel", "stepsTo", "(II)I"⟩, 34), (⟨"StitchDeskModel", "step", "(III)V"⟩, 34), (⟨"StitchDeskModel", "leap", "(II)V"⟩, 34), (⟨"StitchDeskModel", "stepsIn", "(II)Z"⟩, 34), (⟨"StitchDeskModel", "satin", "(I)V"⟩, 34), (⟨"StitchDeskModel", "outline", "(I)V"⟩, 34), (⟨"StitchDeskModel", "group", "(I)I"⟩, 34), (⟨"StitchDeskModel", "findLeft", "()V"⟩, 34), (⟨"StitchDeskModel", "mayCome", "(II)Z"⟩, 34), (⟨"StitchDeskModel", "meetBoxes", "(II)Z"⟩, 34), (⟨"StitchDeskModel", "costOf", "(III)I"⟩, 34)]
theorem lw_r6 : ∀ q ∈ lw_privs_6, lw_okq q := List.forall_mem_cons.mpr ⟨lw_p80, List.forall_mem_cons.mpr ⟨lw_p81, List.forall_mem_cons.mpr ⟨lw_p82, List.forall_mem_cons.mpr ⟨lw_p83, List.forall_mem_cons.mpr ⟨lw_p84, List.forall_mem_cons.mpr ⟨lw_p85, List.forall_mem_cons.mpr ⟨lw_p86, List.forall_mem_cons.mpr ⟨lw_p87, List.forall_mem_cons.mpr ⟨lw_p88, List.forall_mem_cons.mpr ⟨lw_p89, List.forall_mem_cons.mpr ⟨lw_p90, List.forall_mem_cons.mpr ⟨lw_p91, List.forall_mem_cons.mpr ⟨lw_p92, List.forall_mem_cons.mpr ⟨lw_p93, List.forall_mem_cons.mpr ⟨lw_p94, List.forall_mem_cons.mpr ⟨lw_p95, fun _ h => absurd h List.not_mem_nil⟩⟩⟩⟩⟩⟩⟩⟩⟩⟩⟩⟩⟩⟩⟩⟩
def lw_privs : List (MethodName × Nat) := lw_privs_1 ++ (lw_privs_2 ++ (lw_privs_3 ++ (lw_privs_4 ++ (lw_privs_5 ++ (lw_privs_6)))))
def lw_tbl : List Cond := k2_sels lw_privs ++ tables_1
theorem lw_privs_ok : ∀ q ∈ lw_privs, lw_okq q := by
  show ∀ q ∈ lw_privs_1 ++ (lw_privs_2 ++ (lw_privs_3 ++ (lw_privs_4 ++ (lw_privs_5 ++ (lw_privs_6))))), lw_okq q
  exact List.forall_mem_append.mpr ⟨lw_r1, List.forall_mem_append.mpr ⟨lw_r2, List.forall_mem_append.mpr ⟨lw_r3, List.forall_mem_append.mpr ⟨lw_r4, List.forall_mem_append.mpr ⟨lw_r5, lw_r6⟩⟩⟩⟩⟩
end
section
def R_Dk : String := "StitchDesk"
def T_Dk : u_T := fun k => match k with
  | 0 => ("StitchDesk", "shapes", "[LStitchDesk$Shape;", true)
  | 1 => ("StitchDesk", "sequence", "[I", true)
  | 2 => ("StitchDesk", "loaded", "[I", true)
  | 3 => ("StitchDesk", "inspector", "LStitchDesk$Inspector;", true)
  | 4 => ("StitchDesk", "teller", "LStitchDesk$RunTeller;", true)
  | 5 => ("StitchDesk", "path", "LStitchDesk$Path;", true)
  | 6 => ("StitchDesk", "maker", "LStitchDesk$PathMaker;", true)
  | 7 => ("StitchDesk", "planner", "LStitchDesk$Planner;", true)
  | 8 => ("StitchDesk", "shapeTotal", "I", false)
  | 9 => ("StitchDesk", "loadedTotal", "I", false)
  | _ => ("StitchDesk", "open", "Z", false)
def ty_Dk : Nat → FieldType := fun k => match k with
  | 0 => .array (.object "StitchDesk$Shape")
  | 1 => .array .int
  | 2 => .array .int
  | 3 => .object "StitchDesk$Inspector"
  | 4 => .object "StitchDesk$RunTeller"
  | 5 => .object "StitchDesk$Path"
  | 6 => .object "StitchDesk$PathMaker"
  | 7 => .object "StitchDesk$Planner"
  | 8 => .int
  | 9 => .int
  | _ => .boolean
theorem nm_Dk : ∀ a, a < 11 → ∀ b, b < 11 → a ≠ b → (T_Dk a).2.1 ≠ (T_Dk b).2.1 := by decide +kernel
theorem ok_Dk : ∀ k, k < 11 → parseFieldDescriptor (T_Dk k).2.2.1 = some (ty_Dk k) := by decide +kernel
def R_Sh : String := "StitchDesk$Shape"
def T_Sh : u_T := fun k => match k with
  | 0 => ("StitchDesk$Shape", "rings", "[LStitchDesk$Ring;", true)
  | 1 => ("StitchDesk$Shape", "rails", "[LStitchDesk$Ring;", true)
  | 2 => ("StitchDesk$Shape", "tally", "LStitchDesk$Tally;", true)
  | 3 => ("StitchDesk$Shape", "colour", "I", false)
  | 4 => ("StitchDesk$Shape", "fill", "I", false)
  | 5 => ("StitchDesk$Shape", "spacing", "I", false)
  | 6 => ("StitchDesk$Shape", "direction", "I", false)
  | 7 => ("StitchDesk$Shape", "left", "I", false)
  | 8 => ("StitchDesk$Shape", "top", "I", false)
  | 9 => ("StitchDesk$Shape", "right", "I", false)
  | _ => ("StitchDesk$Shape", "bottom", "I", false)
def ty_Sh : Nat → FieldType := fun k => match k with
  | 0 => .array (.object "StitchDesk$Ring")
  | 1 => .array (.object "StitchDesk$Ring")
  | 2 => .object "StitchDesk$Tally"
  | 3 => .int
  | 4 => .int
  | 5 => .int
  | 6 => .int
  | 7 => .int
  | 8 => .int
  | 9 => .int
  | _ => .int
theorem nm_Sh : ∀ a, a < 11 → ∀ b, b < 11 → a ≠ b → (T_Sh a).2.1 ≠ (T_Sh b).2.1 := by decide +kernel
theorem ok_Sh : ∀ k, k < 11 → parseFieldDescriptor (T_Sh k).2.2.1 = some (ty_Sh k) := by decide +kernel
def R_Rg : String := "StitchDesk$Ring"
def T_Rg : u_T := fun k => match k with
  | 0 => ("StitchDesk$Ring", "xs", "[I", true)
  | 1 => ("StitchDesk$Ring", "ys", "[I", true)
  | _ => ("StitchDesk$Ring", "size", "I", false)
def ty_Rg : Nat → FieldType := fun k => match k with
  | 0 => .array .int
  | 1 => .array .int
  | _ => .int
theorem nm_Rg : ∀ a, a < 3 → ∀ b, b < 3 → a ≠ b → (T_Rg a).2.1 ≠ (T_Rg b).2.1 := by decide +kernel
theorem ok_Rg : ∀ k, k < 3 → parseFieldDescriptor (T_Rg k).2.2.1 = some (ty_Rg k) := by decide +kernel
def R_Ty : String := "StitchDesk$Tally"
def T_Ty : u_T := fun k => match k with
  | 0 => ("StitchDesk$Tally", "runs", "I", false)
  | _ => ("StitchDesk$Tally", "places", "I", false)
def ty_Ty : Nat → FieldType := fun k => match k with
  | 0 => .int
  | _ => .int
theorem nm_Ty : ∀ a, a < 2 → ∀ b, b < 2 → a ≠ b → (T_Ty a).2.1 ≠ (T_Ty b).2.1 := by decide +kernel
theorem ok_Ty : ∀ k, k < 2 → parseFieldDescriptor (T_Ty k).2.2.1 = some (ty_Ty k) := by decide +kernel
def R_In : String := "StitchDesk$Inspector"
def T_In : u_T := fun k => match k with
  | 0 => ("StitchDesk$Inspector", "x1", "[I", true)
  | 1 => ("StitchDesk$Inspector", "y1", "[I", true)
  | 2 => ("StitchDesk$Inspector", "x2", "[I", true)
  | 3 => ("StitchDesk$Inspector", "y2", "[I", true)
  | 4 => ("StitchDesk$Inspector", "follower", "[I", true)
  | 5 => ("StitchDesk$Inspector", "edgeTotal", "I", false)
  | 6 => ("StitchDesk$Inspector", "found", "I", false)
  | 7 => ("StitchDesk$Inspector", "lesser", "I", false)
  | _ => ("StitchDesk$Inspector", "other", "I", false)
def ty_In : Nat → FieldType := fun k => match k with
  | 0 => .array .int
  | 1 => .array .int
  | 2 => .array .int
  | 3 => .array .int
  | 4 => .array .int
  | 5 => .int
  | 6 => .int
  | 7 => .int
  | _ => .int
theorem nm_In : ∀ a, a < 9 → ∀ b, b < 9 → a ≠ b → (T_In a).2.1 ≠ (T_In b).2.1 := by decide +kernel
theorem ok_In : ∀ k, k < 9 → parseFieldDescriptor (T_In k).2.2.1 = some (ty_In k) := by decide +kernel
def R_Rt : String := "StitchDesk$RunTeller"
def T_Rt : u_T := fun k => match k with
  | _ => ("StitchDesk$RunTeller", "line", "LStitchDesk$HatchLine;", true)
def ty_Rt : Nat → FieldType := fun k => match k with
  | _ => .object "StitchDesk$HatchLine"
theorem nm_Rt : ∀ a, a < 1 → ∀ b, b < 1 → a ≠ b → (T_Rt a).2.1 ≠ (T_Rt b).2.1 := by decide +kernel
theorem ok_Rt : ∀ k, k < 1 → parseFieldDescriptor (T_Rt k).2.2.1 = some (ty_Rt k) := by decide +kernel
def R_Hl : String := "StitchDesk$HatchLine"
def T_Hl : u_T := fun k => match k with
  | 0 => ("StitchDesk$HatchLine", "events", "[I", true)
  | 1 => ("StitchDesk$HatchLine", "starts", "[I", true)
  | 2 => ("StitchDesk$HatchLine", "ends", "[I", true)
  | 3 => ("StitchDesk$HatchLine", "eventTotal", "I", false)
  | 4 => ("StitchDesk$HatchLine", "partTotal", "I", false)
  | 5 => ("StitchDesk$HatchLine", "xStep", "I", false)
  | 6 => ("StitchDesk$HatchLine", "xBase", "I", false)
  | 7 => ("StitchDesk$HatchLine", "yStep", "I", false)
  | 8 => ("StitchDesk$HatchLine", "yBase", "I", false)
  | 9 => ("StitchDesk$HatchLine", "first", "I", false)
  | 10 => ("StitchDesk$HatchLine", "last", "I", false)
  | 11 => ("StitchDesk$HatchLine", "low", "I", false)
  | _ => ("StitchDesk$HatchLine", "high", "I", false)
def ty_Hl : Nat → FieldType := fun k => match k with
  | 0 => .array .int
  | 1 => .array .int
  | 2 => .array .int
  | 3 => .int
  | 4 => .int
  | 5 => .int
  | 6 => .int
  | 7 => .int
  | 8 => .int
  | 9 => .int
  | 10 => .int
  | 11 => .int
  | _ => .int
theorem nm_Hl : ∀ a, a < 13 → ∀ b, b < 13 → a ≠ b → (T_Hl a).2.1 ≠ (T_Hl b).2.1 := by decide +kernel
theorem ok_Hl : ∀ k, k < 13 → parseFieldDescriptor (T_Hl k).2.2.1 = some (ty_Hl k) := by decide +kernel
def R_Pm : String := "StitchDesk$PathMaker"
def T_Pm : u_T := fun k => match k with
  | 0 => ("StitchDesk$PathMaker", "path", "LStitchDesk$Path;", true)
  | 1 => ("StitchDesk$PathMaker", "shape", "LStitchDesk$Shape;", false)
  | 2 => ("StitchDesk$PathMaker", "x", "I", false)
  | 3 => ("StitchDesk$PathMaker", "y", "I", false)
  | 4 => ("StitchDesk$PathMaker", "threaded", "I", false)
  | 5 => ("StitchDesk$PathMaker", "entering", "Z", false)
  | _ => ("StitchDesk$PathMaker", "atRunStart", "Z", false)
def ty_Pm : Nat → FieldType := fun k => match k with
  | 0 => .object "StitchDesk$Path"
  | 1 => .object "StitchDesk$Shape"
  | 2 => .int
  | 3 => .int
  | 4 => .int
  | 5 => .boolean
  | _ => .boolean
theorem nm_Pm : ∀ a, a < 7 → ∀ b, b < 7 → a ≠ b → (T_Pm a).2.1 ≠ (T_Pm b).2.1 := by decide +kernel
theorem ok_Pm : ∀ k, k < 7 → parseFieldDescriptor (T_Pm k).2.2.1 = some (ty_Pm k) := by decide +kernel
def R_Pa : String := "StitchDesk$Path"
def T_Pa : u_T := fun k => match k with
  | 0 => ("StitchDesk$Path", "codes", "[I", true)
  | 1 => ("StitchDesk$Path", "size", "I", false)
  | _ => ("StitchDesk$Path", "overfull", "Z", false)
def ty_Pa : Nat → FieldType := fun k => match k with
  | 0 => .array .int
  | 1 => .int
  | _ => .boolean
theorem nm_Pa : ∀ a, a < 3 → ∀ b, b < 3 → a ≠ b → (T_Pa a).2.1 ≠ (T_Pa b).2.1 := by decide +kernel
theorem ok_Pa : ∀ k, k < 3 → parseFieldDescriptor (T_Pa k).2.2.1 = some (ty_Pa k) := by decide +kernel
def R_Pl : String := "StitchDesk$Planner"
def T_Pl : u_T := fun k => match k with
  | 0 => ("StitchDesk$Planner", "fewest", "[I", true)
  | 1 => ("StitchDesk$Planner", "friendly", "[I", true)
  | 2 => ("StitchDesk$Planner", "ahead", "[I", true)
  | 3 => ("StitchDesk$Planner", "colours", "[I", true)
  | 4 => ("StitchDesk$Planner", "planned", "[I", true)
  | _ => ("StitchDesk$Planner", "total", "I", false)
def ty_Pl : Nat → FieldType := fun k => match k with
  | 0 => .array .int
  | 1 => .array .int
  | 2 => .array .int
  | 3 => .array .int
  | 4 => .array .int
  | _ => .int
theorem nm_Pl : ∀ a, a < 6 → ∀ b, b < 6 → a ≠ b → (T_Pl a).2.1 ≠ (T_Pl b).2.1 := by decide +kernel
theorem ok_Pl : ∀ k, k < 6 → parseFieldDescriptor (T_Pl k).2.2.1 = some (ty_Pl k) := by decide +kernel
def R_Mo : String := "StitchDeskModel"
def T_Mo : u_T := fun k => match k with
  | 0 => ("StitchDeskModel", "thrownCode", "I", false)
  | 1 => ("StitchDeskModel", "shapes", "I", false)
  | 2 => ("StitchDeskModel", "open", "Z", false)
  | 3 => ("StitchDeskModel", "told", "[I", true)
  | 4 => ("StitchDeskModel", "corners", "[I", true)
  | 5 => ("StitchDeskModel", "cx", "[I", true)
  | 6 => ("StitchDeskModel", "cy", "[I", true)
  | 7 => ("StitchDeskModel", "box", "[I", true)
  | 8 => ("StitchDeskModel", "order", "[I", true)
  | 9 => ("StitchDeskModel", "faultNow", "I", false)
  | 10 => ("StitchDeskModel", "faultOne", "I", false)
  | 11 => ("StitchDeskModel", "faultOther", "I", false)
  | 12 => ("StitchDeskModel", "edges", "I", false)
  | 13 => ("StitchDeskModel", "ex", "[I", true)
  | 14 => ("StitchDeskModel", "ey", "[I", true)
  | 15 => ("StitchDeskModel", "fx", "[I", true)
  | 16 => ("StitchDeskModel", "fy", "[I", true)
  | 17 => ("StitchDeskModel", "ring", "[I", true)
  | 18 => ("StitchDeskModel", "place", "[I", true)
  | 19 => ("StitchDeskModel", "odd", "[Z", true)
  | 20 => ("StitchDeskModel", "records", "I", false)
  | 21 => ("StitchDeskModel", "dx", "[I", true)
  | 22 => ("StitchDeskModel", "dy", "[I", true)
  | 23 => ("StitchDeskModel", "kind", "[I", true)
  | 24 => ("StitchDeskModel", "nx", "I", false)
  | 25 => ("StitchDeskModel", "ny", "I", false)
  | 26 => ("StitchDeskModel", "stitching", "Z", false)
  | 27 => ("StitchDeskModel", "runs", "I", false)
  | 28 => ("StitchDeskModel", "places", "I", false)
  | 29 => ("StitchDeskModel", "lastColour", "I", false)
  | 30 => ("StitchDeskModel", "loaded", "I", false)
  | 31 => ("StitchDeskModel", "bytes", "[I", true)
  | 32 => ("StitchDeskModel", "left", "[I", true)
  | _ => ("StitchDeskModel", "newOrder", "[I", true)
def ty_Mo : Nat → FieldType := fun k => match k with
  | 0 => .int
  | 1 => .int
  | 2 => .boolean
  | 3 => .array .int
  | 4 => .array .int
  | 5 => .array .int
  | 6 => .array .int
  | 7 => .array .int
  | 8 => .array .int
  | 9 => .int
  | 10 => .int
  | 11 => .int
  | 12 => .int
  | 13 => .array .int
  | 14 => .array .int
  | 15 => .array .int
  | 16 => .array .int
  | 17 => .array .int
  | 18 => .array .int
  | 19 => .array .boolean
  | 20 => .int
  | 21 => .array .int
  | 22 => .array .int
  | 23 => .array .int
  | 24 => .int
  | 25 => .int
  | 26 => .boolean
  | 27 => .int
  | 28 => .int
  | 29 => .int
  | 30 => .int
  | 31 => .array .int
  | 32 => .array .int
  | _ => .array .int
theorem nm_Mo : ∀ a, a < 34 → ∀ b, b < 34 → a ≠ b → (T_Mo a).2.1 ≠ (T_Mo b).2.1 := by decide +kernel
theorem ok_Mo : ∀ k, k < 34 → parseFieldDescriptor (T_Mo k).2.2.1 = some (ty_Mo k) := by decide +kernel
abbrev vwCl : List vw_C := [(R_Dk, T_Dk, 11), (R_Sh, T_Sh, 11), (R_Rg, T_Rg, 3), (R_Ty, T_Ty, 2), (R_In, T_In, 9), (R_Rt, T_Rt, 1), (R_Hl, T_Hl, 13), (R_Pm, T_Pm, 7), (R_Pa, T_Pa, 3), (R_Pl, T_Pl, 6), (R_Mo, T_Mo, 34)]
theorem cl_Dk : vwCl[0]? = some (R_Dk, T_Dk, 11) := rfl
theorem cl_Sh : vwCl[1]? = some (R_Sh, T_Sh, 11) := rfl
theorem cl_Rg : vwCl[2]? = some (R_Rg, T_Rg, 3) := rfl
theorem cl_Ty : vwCl[3]? = some (R_Ty, T_Ty, 2) := rfl
theorem cl_In : vwCl[4]? = some (R_In, T_In, 9) := rfl
theorem cl_Rt : vwCl[5]? = some (R_Rt, T_Rt, 1) := rfl
theorem cl_Hl : vwCl[6]? = some (R_Hl, T_Hl, 13) := rfl
theorem cl_Pm : vwCl[7]? = some (R_Pm, T_Pm, 7) := rfl
theorem cl_Pa : vwCl[8]? = some (R_Pa, T_Pa, 3) := rfl
theorem cl_Pl : vwCl[9]? = some (R_Pl, T_Pl, 6) := rfl
theorem cl_Mo : vwCl[10]? = some (R_Mo, T_Mo, 34) := rfl
def gTl (t : Nat → ClassId) : List (ClassId × FieldType) := [(t 0, .int), (t 1, .long), (t 2, .object "StitchDesk$Ring"), (t 3, .object "StitchDesk$Shape"), (t 4, .boolean)]
abbrev b_Dk_init : ByteArray := prog_1_method_1_code
def y_Dk_init : MethodName := ⟨"StitchDesk", "<init>", "()V"⟩
abbrev b_Ob_init : ByteArray := object_method_1_code
def y_Ob_init : MethodName := ⟨"java/lang/Object", "<init>", "()V"⟩
abbrev b_Sh_init : ByteArray := prog_10_method_1_code
def y_Sh_init : MethodName := ⟨"StitchDesk$Shape", "<init>", "()V"⟩
abbrev b_Rg_init : ByteArray := prog_7_method_1_code
def y_Rg_init : MethodName := ⟨"StitchDesk$Ring", "<init>", "(I)V"⟩
abbrev b_Ty_init : ByteArray := prog_11_method_1_code
def y_Ty_init : MethodName := ⟨"StitchDesk$Tally", "<init>", "()V"⟩
abbrev b_In_init : ByteArray := prog_3_method_1_code
def y_In_init : MethodName := ⟨"StitchDesk$Inspector", "<init>", "()V"⟩
abbrev b_Rt_init : ByteArray := prog_9_method_1_code
def y_Rt_init : MethodName := ⟨"StitchDesk$RunTeller", "<init>", "()V"⟩
abbrev b_Hl_init : ByteArray := prog_2_method_1_code
def y_Hl_init : MethodName := ⟨"StitchDesk$HatchLine", "<init>", "()V"⟩
abbrev b_Pm_init : ByteArray := prog_5_method_1_code
def y_Pm_init : MethodName := ⟨"StitchDesk$PathMaker", "<init>", "()V"⟩
abbrev b_Pa_init : ByteArray := prog_4_method_1_code
def y_Pa_init : MethodName := ⟨"StitchDesk$Path", "<init>", "()V"⟩
abbrev b_Pl_init : ByteArray := prog_6_method_1_code
def y_Pl_init : MethodName := ⟨"StitchDesk$Planner", "<init>", "()V"⟩
abbrev b_Dk_fault : ByteArray := prog_1_method_6_code
def y_Dk_fault : MethodName := ⟨"StitchDesk", "fault", "(I)I"⟩
abbrev b_Dk_count : ByteArray := prog_1_method_8_code
def y_Dk_count : MethodName := ⟨"StitchDesk", "count", "(I)I"⟩
abbrev b_Dk_stitch : ByteArray := prog_1_method_9_code
def y_Dk_stitch : MethodName := ⟨"StitchDesk", "stitch", "()I"⟩
abbrev b_Pm_restart : ByteArray := prog_5_method_2_code
def y_Pm_restart : MethodName := ⟨"StitchDesk$PathMaker", "restart", "()V"⟩
abbrev b_Pa_clear : ByteArray := prog_4_method_2_code
def y_Pa_clear : MethodName := ⟨"StitchDesk$Path", "clear", "()V"⟩
abbrev b_Pm_enter : ByteArray := prog_5_method_3_code
def y_Pm_enter : MethodName := ⟨"StitchDesk$PathMaker", "enter", "(LStitchDesk$Shape;)V"⟩
abbrev b_Rt_tell : ByteArray := prog_9_method_2_code
def y_Rt_tell : MethodName := ⟨"StitchDesk$RunTeller", "tell", "(LStitchDesk$Shape;LStitchDesk$RunTaker;)V"⟩
abbrev b_Rt_tellHatch : ByteArray := prog_9_method_7_code
def y_Rt_tellHatch : MethodName := ⟨"StitchDesk$RunTeller", "tellHatch", "(LStitchDesk$Shape;LStitchDesk$RunTaker;)V"⟩
abbrev b_Rt_leastF : ByteArray := prog_9_method_8_code
def y_Rt_leastF : MethodName := ⟨"StitchDesk$RunTeller", "leastF", "(LStitchDesk$Shape;)I"⟩
abbrev b_Ma_floorDiv : ByteArray := prog_19_method_47_code
def y_Ma_floorDiv : MethodName := ⟨"java/lang/Math", "floorDiv", "(II)I"⟩
abbrev b_Rt_greatestF : ByteArray := prog_9_method_9_code
def y_Rt_greatestF : MethodName := ⟨"StitchDesk$RunTeller", "greatestF", "(LStitchDesk$Shape;)I"⟩
abbrev b_Hl_lay : ByteArray := prog_2_method_4_code
def y_Hl_lay : MethodName := ⟨"StitchDesk$HatchLine", "lay", "(LStitchDesk$Shape;I)V"⟩
abbrev b_Hl_aim : ByteArray := prog_2_method_5_code
def y_Hl_aim : MethodName := ⟨"StitchDesk$HatchLine", "aim", "(II)V"⟩
abbrev b_Hl_narrow : ByteArray := prog_2_method_7_code
def y_Hl_narrow : MethodName := ⟨"StitchDesk$HatchLine", "narrow", "(IIII)V"⟩
abbrev b_Hl_empty : ByteArray := prog_2_method_10_code
def y_Hl_empty : MethodName := ⟨"StitchDesk$HatchLine", "empty", "()V"⟩
abbrev b_Ma_max : ByteArray := prog_19_method_65_code
def y_Ma_max : MethodName := ⟨"java/lang/Math", "max", "(II)I"⟩
abbrev b_Ma_min : ByteArray := prog_19_method_69_code
def y_Ma_min : MethodName := ⟨"java/lang/Math", "min", "(II)I"⟩
abbrev b_Rg_next : ByteArray := prog_7_method_4_code
def y_Rg_next : MethodName := ⟨"StitchDesk$Ring", "next", "(I)I"⟩
abbrev b_Hl_addEdge : ByteArray := prog_2_method_6_code
def y_Hl_addEdge : MethodName := ⟨"StitchDesk$HatchLine", "addEdge", "(IIII)V"⟩
abbrev b_Hl_narrowToZero : ByteArray := prog_2_method_8_code
def y_Hl_narrowToZero : MethodName := ⟨"StitchDesk$HatchLine", "narrowToZero", "(II)V"⟩
abbrev b_Hl_addSpan : ByteArray := prog_2_method_11_code
def y_Hl_addSpan : MethodName := ⟨"StitchDesk$HatchLine", "addSpan", "(II)V"⟩
abbrev b_Hl_insert : ByteArray := prog_2_method_12_code
def y_Hl_insert : MethodName := ⟨"StitchDesk$HatchLine", "insert", "(I)V"⟩
abbrev b_Hl_narrowToAboveZero : ByteArray := prog_2_method_9_code
def y_Hl_narrowToAboveZero : MethodName := ⟨"StitchDesk$HatchLine", "narrowToAboveZero", "(II)V"⟩
abbrev b_Hl_gatherParts : ByteArray := prog_2_method_13_code
def y_Hl_gatherParts : MethodName := ⟨"StitchDesk$HatchLine", "gatherParts", "()V"⟩
abbrev b_Hl_addPart : ByteArray := prog_2_method_14_code
def y_Hl_addPart : MethodName := ⟨"StitchDesk$HatchLine", "addPart", "(II)V"⟩
abbrev b_Pm_beginRun : ByteArray := prog_5_method_4_code
def y_Pm_beginRun : MethodName := ⟨"StitchDesk$PathMaker", "beginRun", "()V"⟩
abbrev b_Ty_beginRun : ByteArray := prog_11_method_3_code
def y_Ty_beginRun : MethodName := ⟨"StitchDesk$Tally", "beginRun", "()V"⟩
abbrev b_Hl_xAt : ByteArray := prog_2_method_2_code
def y_Hl_xAt : MethodName := ⟨"StitchDesk$HatchLine", "xAt", "(I)I"⟩
abbrev b_Hl_yAt : ByteArray := prog_2_method_3_code
def y_Hl_yAt : MethodName := ⟨"StitchDesk$HatchLine", "yAt", "(I)I"⟩
abbrev b_Pm_take : ByteArray := prog_5_method_5_code
def y_Pm_take : MethodName := ⟨"StitchDesk$PathMaker", "take", "(II)V"⟩
abbrev b_Pm_move : ByteArray := prog_5_method_8_code
def y_Pm_move : MethodName := ⟨"StitchDesk$PathMaker", "move", "(III)V"⟩
abbrev b_Pm_stepsTo : ByteArray := prog_5_method_10_code
def y_Pm_stepsTo : MethodName := ⟨"StitchDesk$PathMaker", "stepsTo", "(II)I"⟩
abbrev b_Ma_abs : ByteArray := prog_19_method_59_code
def y_Ma_abs : MethodName := ⟨"java/lang/Math", "abs", "(I)I"⟩
abbrev b_Dk_along : ByteArray := prog_1_method_23_code
def y_Dk_along : MethodName := ⟨"StitchDesk", "along", "(IIII)I"⟩
abbrev b_Pa_add : ByteArray := prog_4_method_3_code
def y_Pa_add : MethodName := ⟨"StitchDesk$Path", "add", "(III)V"⟩
abbrev b_Pm_changeThread : ByteArray := prog_5_method_6_code
def y_Pm_changeThread : MethodName := ⟨"StitchDesk$PathMaker", "changeThread", "()V"⟩
abbrev b_Pm_leap : ByteArray := prog_5_method_7_code
def y_Pm_leap : MethodName := ⟨"StitchDesk$PathMaker", "leap", "(II)V"⟩
abbrev b_Pm_staysInShape : ByteArray := prog_5_method_9_code
def y_Pm_staysInShape : MethodName := ⟨"StitchDesk$PathMaker", "staysInShape", "(II)Z"⟩
abbrev b_Sh_has : ByteArray := prog_10_method_6_code
def y_Sh_has : MethodName := ⟨"StitchDesk$Shape", "has", "(II)Z"⟩
abbrev b_Rg_sideOf : ByteArray := prog_7_method_6_code
def y_Rg_sideOf : MethodName := ⟨"StitchDesk$Ring", "sideOf", "(II)I"⟩
abbrev b_Ty_take : ByteArray := prog_11_method_4_code
def y_Ty_take : MethodName := ⟨"StitchDesk$Tally", "take", "(II)V"⟩
abbrev b_Rt_tellSatin : ByteArray := prog_9_method_4_code
def y_Rt_tellSatin : MethodName := ⟨"StitchDesk$RunTeller", "tellSatin", "(LStitchDesk$Shape;LStitchDesk$RunTaker;)V"⟩
abbrev b_Rt_reach : ByteArray := prog_9_method_5_code
def y_Rt_reach : MethodName := ⟨"StitchDesk$RunTeller", "reach", "(LStitchDesk$Ring;I)I"⟩
abbrev b_Rt_pointOf : ByteArray := prog_9_method_6_code
def y_Rt_pointOf : MethodName := ⟨"StitchDesk$RunTeller", "pointOf", "([IIII)I"⟩
abbrev b_Rt_tellOutline : ByteArray := prog_9_method_3_code
def y_Rt_tellOutline : MethodName := ⟨"StitchDesk$RunTeller", "tellOutline", "(LStitchDesk$Shape;LStitchDesk$RunTaker;)V"⟩
abbrev b_Dk_decode : ByteArray := prog_1_method_13_code
def y_Dk_decode : MethodName := ⟨"StitchDesk", "decode", "()I"⟩
abbrev b_Dk_firstWrongGroup : ByteArray := prog_1_method_24_code
def y_Dk_firstWrongGroup : MethodName := ⟨"StitchDesk", "firstWrongGroup", "()I"⟩
abbrev b_Dk_groupAt : ByteArray := prog_1_method_25_code
def y_Dk_groupAt : MethodName := ⟨"StitchDesk", "groupAt", "(I)I"⟩
abbrev b_Pa_isRecord : ByteArray := prog_4_method_9_code
def y_Pa_isRecord : MethodName := ⟨"StitchDesk$Path", "isRecord", "(I)Z"⟩
abbrev b_Pa_addPacked : ByteArray := prog_4_method_8_code
def y_Pa_addPacked : MethodName := ⟨"StitchDesk$Path", "addPacked", "(I)V"⟩
abbrev b_Pa_numberOf : ByteArray := prog_4_method_11_code
def y_Pa_numberOf : MethodName := ⟨"StitchDesk$Path", "numberOf", "(I)I"⟩
abbrev b_Dk_reorder : ByteArray := prog_1_method_14_code
def y_Dk_reorder : MethodName := ⟨"StitchDesk", "reorder", "()I"⟩
abbrev b_Pl_plan : ByteArray := prog_6_method_2_code
def y_Pl_plan : MethodName := ⟨"StitchDesk$Planner", "plan", "([LStitchDesk$Shape;[II)I"⟩
abbrev b_Pl_gather : ByteArray := prog_6_method_3_code
def y_Pl_gather : MethodName := ⟨"StitchDesk$Planner", "gather", "([LStitchDesk$Shape;[I)V"⟩
abbrev b_Sh_meets : ByteArray := prog_10_method_7_code
def y_Sh_meets : MethodName := ⟨"StitchDesk$Shape", "meets", "(LStitchDesk$Shape;)Z"⟩
abbrev b_Pl_weighSets : ByteArray := prog_6_method_4_code
def y_Pl_weighSets : MethodName := ⟨"StitchDesk$Planner", "weighSets", "()V"⟩
abbrev b_Pl_mayFollow : ByteArray := prog_6_method_6_code
def y_Pl_mayFollow : MethodName := ⟨"StitchDesk$Planner", "mayFollow", "(II)Z"⟩
abbrev b_Pl_changesAfter : ByteArray := prog_6_method_7_code
def y_Pl_changesAfter : MethodName := ⟨"StitchDesk$Planner", "changesAfter", "(II)I"⟩
abbrev b_Pl_weigh : ByteArray := prog_6_method_5_code
def y_Pl_weigh : MethodName := ⟨"StitchDesk$Planner", "weigh", "(III)V"⟩
abbrev b_Pl_choose : ByteArray := prog_6_method_8_code
def y_Pl_choose : MethodName := ⟨"StitchDesk$Planner", "choose", "([I)V"⟩
abbrev b_Dk_order : ByteArray := prog_1_method_15_code
def y_Dk_order : MethodName := ⟨"StitchDesk", "order", "(I)I"⟩
abbrev b_Dk_isBelow : ByteArray := prog_1_method_21_code
def y_Dk_isBelow : MethodName := ⟨"StitchDesk", "isBelow", "(II)Z"⟩
abbrev b_Dk_thread : ByteArray := prog_1_method_16_code
def y_Dk_thread : MethodName := ⟨"StitchDesk", "thread", "(I)I"⟩
abbrev b_Pa_threadBehind : ByteArray := prog_4_method_12_code
def y_Pa_threadBehind : MethodName := ⟨"StitchDesk$Path", "threadBehind", "(I)I"⟩
abbrev b_Pa_kind : ByteArray := prog_4_method_6_code
def y_Pa_kind : MethodName := ⟨"StitchDesk$Path", "kind", "(I)I"⟩
abbrev b_Pa_dx : ByteArray := prog_4_method_4_code
def y_Pa_dx : MethodName := ⟨"StitchDesk$Path", "dx", "(I)I"⟩
abbrev b_Pa_dy : ByteArray := prog_4_method_5_code
def y_Pa_dy : MethodName := ⟨"StitchDesk$Path", "dy", "(I)I"⟩
abbrev b_Pa_rootUp : ByteArray := prog_4_method_13_code
def y_Pa_rootUp : MethodName := ⟨"StitchDesk$Path", "rootUp", "(II)I"⟩
abbrev b_Dk_hoop : ByteArray := prog_1_method_19_code
def y_Dk_hoop : MethodName := ⟨"StitchDesk", "hoop", "(II)Z"⟩
abbrev b_Pa_fits : ByteArray := prog_4_method_14_code
def y_Pa_fits : MethodName := ⟨"StitchDesk$Path", "fits", "(II)Z"⟩
abbrev b_Dk_stop : ByteArray := prog_1_method_20_code
def y_Dk_stop : MethodName := ⟨"StitchDesk", "stop", "(I)I"⟩
abbrev b_Lw_begin : ByteArray := method_3_code
def y_Lw_begin : MethodName := ⟨"StitchDeskLaw", "begin", "(LStitchDesk;IIII)I"⟩
abbrev b_Dk_begin : ByteArray := prog_1_method_2_code
def y_Dk_begin : MethodName := ⟨"StitchDesk", "begin", "(IIII)V"⟩
abbrev b_Sh_reset : ByteArray := prog_10_method_2_code
def y_Sh_reset : MethodName := ⟨"StitchDesk$Shape", "reset", "(IIII)V"⟩
abbrev b_Rg_clear : ByteArray := prog_7_method_2_code
def y_Rg_clear : MethodName := ⟨"StitchDesk$Ring", "clear", "()V"⟩
abbrev b_Ty_clear : ByteArray := prog_11_method_2_code
def y_Ty_clear : MethodName := ⟨"StitchDesk$Tally", "clear", "()V"⟩
abbrev b_Lw_corner : ByteArray := method_4_code
def y_Lw_corner : MethodName := ⟨"StitchDeskLaw", "corner", "(LStitchDesk;III[J)I"⟩
abbrev b_Dk_corner : ByteArray := prog_1_method_3_code
def y_Dk_corner : MethodName := ⟨"StitchDesk", "corner", "(III)I"⟩
abbrev b_Dk_isPlace : ByteArray := prog_1_method_22_code
def y_Dk_isPlace : MethodName := ⟨"StitchDesk", "isPlace", "(II)Z"⟩
abbrev b_Rg_add : ByteArray := prog_7_method_3_code
def y_Rg_add : MethodName := ⟨"StitchDesk$Ring", "add", "(II)V"⟩
abbrev b_Lw_rail : ByteArray := method_5_code
def y_Lw_rail : MethodName := ⟨"StitchDeskLaw", "rail", "(LStitchDesk;III[J)I"⟩
abbrev b_Dk_rail : ByteArray := prog_1_method_4_code
def y_Dk_rail : MethodName := ⟨"StitchDesk", "rail", "(III)I"⟩
abbrev b_Lw_end : ByteArray := method_6_code
def y_Lw_end : MethodName := ⟨"StitchDeskLaw", "end", "(LStitchDesk;[J)I"⟩
abbrev b_Dk_end : ByteArray := prog_1_method_5_code
def y_Dk_end : MethodName := ⟨"StitchDesk", "end", "()I"⟩
abbrev b_In_inspect : ByteArray := prog_3_method_2_code
def y_In_inspect : MethodName := ⟨"StitchDesk$Inspector", "inspect", "(LStitchDesk$Shape;)I"⟩
abbrev b_In_faultOfRails : ByteArray := prog_3_method_3_code
def y_In_faultOfRails : MethodName := ⟨"StitchDesk$Inspector", "faultOfRails", "(LStitchDesk$Shape;)I"⟩
abbrev b_In_faultOfRings : ByteArray := prog_3_method_4_code
def y_In_faultOfRings : MethodName := ⟨"StitchDesk$Inspector", "faultOfRings", "(LStitchDesk$Shape;)I"⟩
abbrev b_In_hasFlatRing : ByteArray := prog_3_method_5_code
def y_In_hasFlatRing : MethodName := ⟨"StitchDesk$Inspector", "hasFlatRing", "(LStitchDesk$Shape;)Z"⟩
abbrev b_Rg_isFlat : ByteArray := prog_7_method_5_code
def y_Rg_isFlat : MethodName := ⟨"StitchDesk$Ring", "isFlat", "()Z"⟩
abbrev b_In_gatherEdges : ByteArray := prog_3_method_6_code
def y_In_gatherEdges : MethodName := ⟨"StitchDesk$Inspector", "gatherEdges", "(LStitchDesk$Shape;)V"⟩
abbrev b_In_findCrossing : ByteArray := prog_3_method_7_code
def y_In_findCrossing : MethodName := ⟨"StitchDesk$Inspector", "findCrossing", "()Z"⟩
abbrev b_In_areCrossed : ByteArray := prog_3_method_8_code
def y_In_areCrossed : MethodName := ⟨"StitchDesk$Inspector", "areCrossed", "(II)Z"⟩
abbrev b_In_turnsBack : ByteArray := prog_3_method_9_code
def y_In_turnsBack : MethodName := ⟨"StitchDesk$Inspector", "turnsBack", "(II)Z"⟩
abbrev b_In_sharePoint : ByteArray := prog_3_method_10_code
def y_In_sharePoint : MethodName := ⟨"StitchDesk$Inspector", "sharePoint", "(II)Z"⟩
abbrev b_In_turn : ByteArray := prog_3_method_11_code
def y_In_turn : MethodName := ⟨"StitchDesk$Inspector", "turn", "(III)I"⟩
abbrev b_Ig_signum : ByteArray := prog_18_method_56_code
def y_Ig_signum : MethodName := ⟨"java/lang/Integer", "signum", "(I)I"⟩
abbrev b_In_hasHoleOutside : ByteArray := prog_3_method_12_code
def y_In_hasHoleOutside : MethodName := ⟨"StitchDesk$Inspector", "hasHoleOutside", "(LStitchDesk$Shape;)Z"⟩
abbrev b_In_beginsInside : ByteArray := prog_3_method_14_code
def y_In_beginsInside : MethodName := ⟨"StitchDesk$Inspector", "beginsInside", "(LStitchDesk$Ring;LStitchDesk$Ring;)Z"⟩
abbrev b_In_hasHoleWithin : ByteArray := prog_3_method_13_code
def y_In_hasHoleWithin : MethodName := ⟨"StitchDesk$Inspector", "hasHoleWithin", "(LStitchDesk$Shape;)Z"⟩
abbrev b_Sh_finish : ByteArray := prog_10_method_3_code
def y_Sh_finish : MethodName := ⟨"StitchDesk$Shape", "finish", "()V"⟩
abbrev b_Sh_joinRails : ByteArray := prog_10_method_4_code
def y_Sh_joinRails : MethodName := ⟨"StitchDesk$Shape", "joinRails", "()V"⟩
abbrev b_Sh_measure : ByteArray := prog_10_method_5_code
def y_Sh_measure : MethodName := ⟨"StitchDesk$Shape", "measure", "()V"⟩
abbrev b_Lw_shape : ByteArray := method_7_code
def y_Lw_shape : MethodName := ⟨"StitchDeskLaw", "shape", "(LStitchDesk;II[J)I"⟩
abbrev b_Dk_shape : ByteArray := prog_1_method_7_code
def y_Dk_shape : MethodName := ⟨"StitchDesk", "shape", "(II)I"⟩
abbrev b_Lw_record : ByteArray := method_8_code
def y_Lw_record : MethodName := ⟨"StitchDeskLaw", "record", "(LStitchDesk;II[J)I"⟩
abbrev b_Dk_record : ByteArray := prog_1_method_10_code
def y_Dk_record : MethodName := ⟨"StitchDesk", "record", "(II)I"⟩
abbrev b_Lw_byteAt : ByteArray := method_9_code
def y_Lw_byteAt : MethodName := ⟨"StitchDeskLaw", "byteAt", "(LStitchDesk;I[J)I"⟩
abbrev b_Dk_byteAt : ByteArray := prog_1_method_11_code
def y_Dk_byteAt : MethodName := ⟨"StitchDesk", "byteAt", "(I)I"⟩
abbrev b_Pa_packed : ByteArray := prog_4_method_7_code
def y_Pa_packed : MethodName := ⟨"StitchDesk$Path", "packed", "(I)I"⟩
abbrev b_Pa_digitsOf : ByteArray := prog_4_method_10_code
def y_Pa_digitsOf : MethodName := ⟨"StitchDesk$Path", "digitsOf", "(I)I"⟩
abbrev b_Lw_load : ByteArray := method_10_code
def y_Lw_load : MethodName := ⟨"StitchDeskLaw", "load", "(LStitchDesk;II[J)I"⟩
abbrev b_Dk_load : ByteArray := prog_1_method_12_code
def y_Dk_load : MethodName := ⟨"StitchDesk", "load", "(II)I"⟩
abbrev b_Lw_under : ByteArray := method_11_code
def y_Lw_under : MethodName := ⟨"StitchDeskLaw", "under", "(LStitchDesk;II[J)I"⟩
abbrev b_Dk_under : ByteArray := prog_1_method_17_code
def y_Dk_under : MethodName := ⟨"StitchDesk", "under", "(II)I"⟩
abbrev b_Lw_needle : ByteArray := method_12_code
def y_Lw_needle : MethodName := ⟨"StitchDeskLaw", "needle", "(LStitchDesk;II[J)I"⟩
abbrev b_Dk_needle : ByteArray := prog_1_method_18_code
def y_Dk_needle : MethodName := ⟨"StitchDesk", "needle", "(II)I"⟩
abbrev b_Mo_init : ByteArray := prog_13_method_1_code
def y_Mo_init : MethodName := ⟨"StitchDeskModel", "<init>", "()V"⟩
abbrev b_Mo_thrown : ByteArray := prog_13_method_39_code
def y_Mo_thrown : MethodName := ⟨"StitchDeskModel", "thrown", "()I"⟩
abbrev b_Mo_begin : ByteArray := prog_13_method_40_code
def y_Mo_begin : MethodName := ⟨"StitchDeskModel", "begin", "(IIII)V"⟩
abbrev b_Mo_corner : ByteArray := prog_13_method_42_code
def y_Mo_corner : MethodName := ⟨"StitchDeskModel", "corner", "(III)I"⟩
abbrev b_Mo_isPlace : ByteArray := prog_13_method_5_code
def y_Mo_isPlace : MethodName := ⟨"StitchDeskModel", "isPlace", "(II)Z"⟩
abbrev b_Mo_oneMore : ByteArray := prog_13_method_41_code
def y_Mo_oneMore : MethodName := ⟨"StitchDeskModel", "oneMore", "(III)I"⟩
abbrev b_Mo_rail : ByteArray := prog_13_method_43_code
def y_Mo_rail : MethodName := ⟨"StitchDeskModel", "rail", "(III)I"⟩
abbrev b_Mo_end : ByteArray := prog_13_method_44_code
def y_Mo_end : MethodName := ⟨"StitchDeskModel", "end", "()I"⟩
abbrev b_Mo_findFault : ByteArray := prog_13_method_19_code
def y_Mo_findFault : MethodName := ⟨"StitchDeskModel", "findFault", "()I"⟩
abbrev b_Mo_flat : ByteArray := prog_13_method_14_code
def y_Mo_flat : MethodName := ⟨"StitchDeskModel", "flat", "()Z"⟩
abbrev b_Mo_turn : ByteArray := prog_13_method_9_code
def y_Mo_turn : MethodName := ⟨"StitchDeskModel", "turn", "(IIIIII)I"⟩
abbrev b_Mo_edgesOf : ByteArray := prog_13_method_7_code
def y_Mo_edgesOf : MethodName := ⟨"StitchDeskModel", "edgesOf", "(I)V"⟩
abbrev b_Mo_railCorner : ByteArray := prog_13_method_8_code
def y_Mo_railCorner : MethodName := ⟨"StitchDeskModel", "railCorner", "(II)I"⟩
abbrev b_Mo_edge : ByteArray := prog_13_method_6_code
def y_Mo_edge : MethodName := ⟨"StitchDeskModel", "edge", "(IIIIII)V"⟩
abbrev b_Mo_crossed : ByteArray := prog_13_method_18_code
def y_Mo_crossed : MethodName := ⟨"StitchDeskModel", "crossed", "(II)Z"⟩
abbrev b_Mo_touch : ByteArray := prog_13_method_16_code
def y_Mo_touch : MethodName := ⟨"StitchDeskModel", "touch", "(II)Z"⟩
abbrev b_Mo_onEdge : ByteArray := prog_13_method_10_code
def y_Mo_onEdge : MethodName := ⟨"StitchDeskModel", "onEdge", "(III)Z"⟩
abbrev b_Mo_size : ByteArray := prog_13_method_3_code
def y_Mo_size : MethodName := ⟨"StitchDeskModel", "size", "(I)I"⟩
abbrev b_Mo_sign : ByteArray := prog_13_method_15_code
def y_Mo_sign : MethodName := ⟨"StitchDeskModel", "sign", "(I)I"⟩
abbrev b_Mo_folded : ByteArray := prog_13_method_17_code
def y_Mo_folded : MethodName := ⟨"StitchDeskModel", "folded", "(II)Z"⟩
abbrev b_Mo_inside : ByteArray := prog_13_method_12_code
def y_Mo_inside : MethodName := ⟨"StitchDeskModel", "inside", "(III)Z"⟩
abbrev b_Mo_passes : ByteArray := prog_13_method_11_code
def y_Mo_passes : MethodName := ⟨"StitchDeskModel", "passes", "(III)Z"⟩
abbrev b_Mo_fault : ByteArray := prog_13_method_45_code
def y_Mo_fault : MethodName := ⟨"StitchDeskModel", "fault", "(I)I"⟩
abbrev b_Mo_shape : ByteArray := prog_13_method_46_code
def y_Mo_shape : MethodName := ⟨"StitchDeskModel", "shape", "(II)I"⟩
abbrev b_Mo_runsOf : ByteArray := prog_13_method_32_code
def y_Mo_runsOf : MethodName := ⟨"StitchDeskModel", "runsOf", "(IZ)V"⟩
abbrev b_Mo_hatch : ByteArray := prog_13_method_30_code
def y_Mo_hatch : MethodName := ⟨"StitchDeskModel", "hatch", "(I)V"⟩
abbrev b_Mo_down : ByteArray := prog_13_method_2_code
def y_Mo_down : MethodName := ⟨"StitchDeskModel", "down", "(II)I"⟩
abbrev b_Mo_line : ByteArray := prog_13_method_31_code
def y_Mo_line : MethodName := ⟨"StitchDeskModel", "line", "(IIIZ)V"⟩
abbrev b_Mo_xOf : ByteArray := prog_13_method_28_code
def y_Mo_xOf : MethodName := ⟨"StitchDeskModel", "xOf", "(III)I"⟩
abbrev b_Mo_yOf : ByteArray := prog_13_method_29_code
def y_Mo_yOf : MethodName := ⟨"StitchDeskModel", "yOf", "(III)I"⟩
abbrev b_Mo_in : ByteArray := prog_13_method_13_code
def y_Mo_in : MethodName := ⟨"StitchDeskModel", "in", "(II)Z"⟩
abbrev b_Mo_comes : ByteArray := prog_13_method_25_code
def y_Mo_comes : MethodName := ⟨"StitchDeskModel", "comes", "(IIIZ)V"⟩
abbrev b_Mo_move : ByteArray := prog_13_method_22_code
def y_Mo_move : MethodName := ⟨"StitchDeskModel", "move", "(III)V"⟩
abbrev b_Mo_stepsTo : ByteArray := prog_13_method_21_code
def y_Mo_stepsTo : MethodName := ⟨"StitchDeskModel", "stepsTo", "(II)I"⟩
abbrev b_Mo_greater : ByteArray := prog_13_method_4_code
def y_Mo_greater : MethodName := ⟨"StitchDeskModel", "greater", "(II)I"⟩
abbrev b_Mo_step : ByteArray := prog_13_method_20_code
def y_Mo_step : MethodName := ⟨"StitchDeskModel", "step", "(III)V"⟩
abbrev b_Mo_leap : ByteArray := prog_13_method_23_code
def y_Mo_leap : MethodName := ⟨"StitchDeskModel", "leap", "(II)V"⟩
abbrev b_Mo_stepsIn : ByteArray := prog_13_method_24_code
def y_Mo_stepsIn : MethodName := ⟨"StitchDeskModel", "stepsIn", "(II)Z"⟩
abbrev b_Mo_satin : ByteArray := prog_13_method_27_code
def y_Mo_satin : MethodName := ⟨"StitchDeskModel", "satin", "(I)V"⟩
abbrev b_Mo_outline : ByteArray := prog_13_method_26_code
def y_Mo_outline : MethodName := ⟨"StitchDeskModel", "outline", "(I)V"⟩
abbrev b_Mo_count : ByteArray := prog_13_method_47_code
def y_Mo_count : MethodName := ⟨"StitchDeskModel", "count", "(I)I"⟩
abbrev b_Mo_stitch : ByteArray := prog_13_method_48_code
def y_Mo_stitch : MethodName := ⟨"StitchDeskModel", "stitch", "()I"⟩
abbrev b_Mo_record : ByteArray := prog_13_method_49_code
def y_Mo_record : MethodName := ⟨"StitchDeskModel", "record", "(II)I"⟩
abbrev b_Mo_byteAt : ByteArray := prog_13_method_50_code
def y_Mo_byteAt : MethodName := ⟨"StitchDeskModel", "byteAt", "(I)I"⟩
abbrev b_Mo_digits : ByteArray := prog_13_method_33_code
def y_Mo_digits : MethodName := ⟨"StitchDeskModel", "digits", "(I)I"⟩
abbrev b_Mo_load : ByteArray := prog_13_method_51_code
def y_Mo_load : MethodName := ⟨"StitchDeskModel", "load", "(II)I"⟩
abbrev b_Mo_decode : ByteArray := prog_13_method_53_code
def y_Mo_decode : MethodName := ⟨"StitchDeskModel", "decode", "()I"⟩
abbrev b_Mo_group : ByteArray := prog_13_method_52_code
def y_Mo_group : MethodName := ⟨"StitchDeskModel", "group", "(I)I"⟩
abbrev b_Mo_number : ByteArray := prog_13_method_34_code
def y_Mo_number : MethodName := ⟨"StitchDeskModel", "number", "(I)I"⟩
abbrev b_Mo_reorder : ByteArray := prog_13_method_54_code
def y_Mo_reorder : MethodName := ⟨"StitchDeskModel", "reorder", "()I"⟩
abbrev b_Mo_findLeft : ByteArray := prog_13_method_38_code
def y_Mo_findLeft : MethodName := ⟨"StitchDeskModel", "findLeft", "()V"⟩
abbrev b_Mo_mayCome : ByteArray := prog_13_method_36_code
def y_Mo_mayCome : MethodName := ⟨"StitchDeskModel", "mayCome", "(II)Z"⟩
abbrev b_Mo_meetBoxes : ByteArray := prog_13_method_35_code
def y_Mo_meetBoxes : MethodName := ⟨"StitchDeskModel", "meetBoxes", "(II)Z"⟩
abbrev b_Mo_costOf : ByteArray := prog_13_method_37_code
def y_Mo_costOf : MethodName := ⟨"StitchDeskModel", "costOf", "(III)I"⟩
abbrev b_Mo_order : ByteArray := prog_13_method_55_code
def y_Mo_order : MethodName := ⟨"StitchDeskModel", "order", "(I)I"⟩
abbrev b_Mo_thread : ByteArray := prog_13_method_57_code
def y_Mo_thread : MethodName := ⟨"StitchDeskModel", "thread", "(I)I"⟩
abbrev b_Mo_rootUp : ByteArray := prog_13_method_56_code
def y_Mo_rootUp : MethodName := ⟨"StitchDeskModel", "rootUp", "(I)I"⟩
abbrev b_Mo_under : ByteArray := prog_13_method_58_code
def y_Mo_under : MethodName := ⟨"StitchDeskModel", "under", "(II)I"⟩
abbrev b_Mo_needle : ByteArray := prog_13_method_59_code
def y_Mo_needle : MethodName := ⟨"StitchDeskModel", "needle", "(II)I"⟩
abbrev b_Mo_hoop : ByteArray := prog_13_method_60_code
def y_Mo_hoop : MethodName := ⟨"StitchDeskModel", "hoop", "(II)Z"⟩
abbrev b_Mo_stop : ByteArray := prog_13_method_61_code
def y_Mo_stop : MethodName := ⟨"StitchDeskModel", "stop", "(I)I"⟩
end
section
set_option maxRecDepth 20000 in
theorem k_0 : (Cond.initialized "StitchDeskLaw") ∈ lw_tbl := List.mem_append_right _ (List.mem_of_getElem? (i := 0) (by decide +kernel))
set_option maxRecDepth 20000 in
theorem k_1 : (Cond.initialized "StitchDesk") ∈ lw_tbl := List.mem_append_right _ (List.mem_of_getElem? (i := 1) (by decide +kernel))
set_option maxRecDepth 20000 in
theorem k_2 : (Cond.initialized "StitchDesk$Shape") ∈ lw_tbl := List.mem_append_right _ (List.mem_of_getElem? (i := 2) (by decide +kernel))
set_option maxRecDepth 20000 in
theorem k_3 : (Cond.initialized "StitchDesk$Ring") ∈ lw_tbl := List.mem_append_right _ (List.mem_of_getElem? (i := 3) (by decide +kernel))
set_option maxRecDepth 20000 in
theorem k_4 : (Cond.initialized "StitchDesk$Tally") ∈ lw_tbl := List.mem_append_right _ (List.mem_of_getElem? (i := 4) (by decide +kernel))
set_option maxRecDepth 20000 in
theorem k_5 : (Cond.initialized "StitchDesk$Inspector") ∈ lw_tbl := List.mem_append_right _ (List.mem_of_getElem? (i := 5) (by decide +kernel))
set_option maxRecDepth 20000 in
theorem k_6 : (Cond.initialized "StitchDesk$RunTeller") ∈ lw_tbl := List.mem_append_right _ (List.mem_of_getElem? (i := 6) (by decide +kernel))
set_option maxRecDepth 20000 in
theorem k_7 : (Cond.initialized "StitchDesk$HatchLine") ∈ lw_tbl := List.mem_append_right _ (List.mem_of_getElem? (i := 7) (by decide +kernel))
set_option maxRecDepth 20000 in
theorem k_8 : (Cond.initialized "StitchDesk$PathMaker") ∈ lw_tbl := List.mem_append_right _ (List.mem_of_getElem? (i := 8) (by decide +kernel))
set_option maxRecDepth 20000 in
theorem k_9 : (Cond.initialized "StitchDesk$Path") ∈ lw_tbl := List.mem_append_right _ (List.mem_of_getElem? (i := 9) (by decide +kernel))
set_option maxRecDepth 20000 in
theorem k_10 : (Cond.initialized "StitchDesk$Planner") ∈ lw_tbl := List.mem_append_right _ (List.mem_of_getElem? (i := 10) (by decide +kernel))
set_option maxRecDepth 20000 in
theorem k_11 : (Cond.initialized "StitchDeskModel") ∈ lw_tbl := List.mem_append_right _ (List.mem_of_getElem? (i := 11) (by decide +kernel))
set_option maxRecDepth 20000 in
theorem k_12 : (Cond.initialized "java/lang/Throwable") ∈ lw_tbl := List.mem_append_right _ (List.mem_of_getElem? (i := 12) (by decide +kernel))
set_option maxRecDepth 20000 in
theorem k_13 : (Cond.initialized "java/lang/Exception") ∈ lw_tbl := List.mem_append_right _ (List.mem_of_getElem? (i := 13) (by decide +kernel))
set_option maxRecDepth 20000 in
theorem k_14 : (Cond.initialized "java/lang/RuntimeException") ∈ lw_tbl := List.mem_append_right _ (List.mem_of_getElem? (i := 14) (by decide +kernel))
set_option maxRecDepth 20000 in
theorem k_15 : (Cond.initialized "java/lang/IllegalStateException") ∈ lw_tbl := List.mem_append_right _ (List.mem_of_getElem? (i := 15) (by decide +kernel))
set_option maxRecDepth 20000 in
theorem k_16 : (Cond.initialized "java/lang/UnsupportedOperationException") ∈ lw_tbl := List.mem_append_right _ (List.mem_of_getElem? (i := 16) (by decide +kernel))
set_option maxRecDepth 20000 in
theorem k_17 : (Cond.initialized "java/lang/IllegalArgumentException") ∈ lw_tbl := List.mem_append_right _ (List.mem_of_getElem? (i := 17) (by decide +kernel))
set_option maxRecDepth 20000 in
theorem k_18 : (Cond.initialized "java/lang/Math") ∈ lw_tbl := List.mem_append_right _ (List.mem_of_getElem? (i := 18) (by decide +kernel))
set_option maxRecDepth 20000 in
theorem k_19 : (Cond.initialized "java/lang/Integer") ∈ lw_tbl := List.mem_append_right _ (List.mem_of_getElem? (i := 19) (by decide +kernel))
set_option maxRecDepth 20000 in
theorem k_20 : (Cond.initialized "java/util/NoSuchElementException") ∈ lw_tbl := List.mem_append_right _ (List.mem_of_getElem? (i := 20) (by decide +kernel))
set_option maxRecDepth 20000 in
theorem k_21 : (Cond.initialized "java/lang/IndexOutOfBoundsException") ∈ lw_tbl := List.mem_append_right _ (List.mem_of_getElem? (i := 21) (by decide +kernel))
set_option maxRecDepth 20000 in
theorem k_22 : (Cond.classLink "StitchDeskLaw" (8 : Nat) "StitchDesk") ∈ lw_tbl := List.mem_append_right _ (List.mem_of_getElem? (i := 22) (by decide +kernel))
set_option maxRecDepth 20000 in
theorem k_23 : (Cond.instantiable "StitchDesk" (11 : Nat)) ∈ lw_tbl := List.mem_append_right _ (List.mem_of_getElem? (i := 23) (by decide +kernel))
set_option maxRecDepth 20000 in
theorem k_24 : (Cond.methodLink "StitchDeskLaw" (54 : Nat) ({ cls := "StitchDesk", name := "<init>", desc := "()V" } : MethodName)) ∈ lw_tbl := List.mem_append_right _ (List.mem_of_getElem? (i := 24) (by decide +kernel))
set_option maxRecDepth 20000 in
theorem k_25 : (Cond.instanceMethod ({ cls := "StitchDesk", name := "<init>", desc := "()V" } : MethodName)) ∈ lw_tbl := List.mem_append_right _ (List.mem_of_getElem? (i := 25) (by decide +kernel))
set_option maxRecDepth 20000 in
theorem k_26 : (Cond.code ({ cls := "StitchDesk", name := "<init>", desc := "()V" } : MethodName) prog_1_method_1_code (2 : Nat) (Option.none : Option ClassFile.FieldType)) ∈ lw_tbl := List.mem_append_right _ (List.mem_of_getElem? (i := 26) (by decide +kernel))
set_option maxRecDepth 20000 in
theorem k_27 : (Cond.methodLink "StitchDesk" (3 : Nat) ({ cls := "java/lang/Object", name := "<init>", desc := "()V" } : MethodName)) ∈ lw_tbl := List.mem_append_right _ (List.mem_of_getElem? (i := 27) (by decide +kernel))
set_option maxRecDepth 20000 in
theorem k_28 : (Cond.instanceMethod ({ cls := "java/lang/Object", name := "<init>", desc := "()V" } : MethodName)) ∈ lw_tbl := List.mem_append_right _ (List.mem_of_getElem? (i := 28) (by decide +kernel))
set_option maxRecDepth 20000 in
theorem k_29 : (Cond.code ({ cls := "java/lang/Object", name := "<init>", desc := "()V" } : MethodName) object_method_1_code (1 : Nat) (Option.none : Option ClassFile.FieldType)) ∈ lw_tbl := List.mem_append_right _ (List.mem_of_getElem? (i := 29) (by decide +kernel))
set_option maxRecDepth 20000 in
theorem k_30 : (Cond.classLink "StitchDesk" (9 : Nat) "StitchDesk$Shape") ∈ lw_tbl := List.mem_append_right _ (List.mem_of_getElem? (i := 30) (by decide +kernel))
set_option maxRecDepth 20000 in
theorem k_31 : (Cond.arrayOver (ClassFile.FieldType.object "StitchDesk$Shape")) ∈ lw_tbl := List.mem_append_right _ (List.mem_of_getElem? (i := 31) (by decide +kernel))
set_option maxRecDepth 20000 in
theorem k_32 : (Cond.instantiable "StitchDesk$Shape" (11 : Nat)) ∈ lw_tbl := List.mem_append_right _ (List.mem_of_getElem? (i := 32) (by decide +kernel))
set_option maxRecDepth 20000 in
theorem k_33 : (Cond.methodLinkNest "StitchDesk" (15 : Nat) ({ cls := "StitchDesk$Shape", name := "<init>", desc := "()V" } : MethodName) "StitchDesk") ∈ lw_tbl := List.mem_append_right _ (List.mem_of_getElem? (i := 33) (by decide +kernel))
set_option maxRecDepth 20000 in
theorem k_34 : (Cond.instanceMethod ({ cls := "StitchDesk$Shape", name := "<init>", desc := "()V" } : MethodName)) ∈ lw_tbl := List.mem_append_right _ (List.mem_of_getElem? (i := 34) (by decide +kernel))
set_option maxRecDepth 20000 in
theorem k_35 : (Cond.code ({ cls := "StitchDesk$Shape", name := "<init>", desc := "()V" } : MethodName) prog_10_method_1_code (2 : Nat) (Option.none : Option ClassFile.FieldType)) ∈ lw_tbl := List.mem_append_right _ (List.mem_of_getElem? (i := 35) (by decide +kernel))
set_option maxRecDepth 20000 in
theorem k_36 : (Cond.methodLink "StitchDesk$Shape" (3 : Nat) ({ cls := "java/lang/Object", name := "<init>", desc := "()V" } : MethodName)) ∈ lw_tbl := List.mem_append_right _ (List.mem_of_getElem? (i := 36) (by decide +kernel))
set_option maxRecDepth 20000 in
theorem k_37 : (Cond.classLink "StitchDesk$Shape" (9 : Nat) "StitchDesk$Ring") ∈ lw_tbl := List.mem_append_right _ (List.mem_of_getElem? (i := 37) (by decide +kernel))
set_option maxRecDepth 20000 in
theorem k_38 : (Cond.arrayOver (ClassFile.FieldType.object "StitchDesk$Ring")) ∈ lw_tbl := List.mem_append_right _ (List.mem_of_getElem? (i := 38) (by decide +kernel))
set_option maxRecDepth 20000 in
theorem k_39 : (Cond.instantiable "StitchDesk$Ring" (3 : Nat)) ∈ lw_tbl := List.mem_append_right _ (List.mem_of_getElem? (i := 39) (by decide +kernel))
set_option maxRecDepth 20000 in
theorem k_40 : (Cond.methodLinkNest "StitchDesk$Shape" (20 : Nat) ({ cls := "StitchDesk$Ring", name := "<init>", desc := "(I)V" } : MethodName) "StitchDesk") ∈ lw_tbl := List.mem_append_right _ (List.mem_of_getElem? (i := 40) (by decide +kernel))
set_option maxRecDepth 20000 in
theorem k_41 : (Cond.instanceMethod ({ cls := "StitchDesk$Ring", name := "<init>", desc := "(I)V" } : MethodName)) ∈ lw_tbl := List.mem_append_right _ (List.mem_of_getElem? (i := 41) (by decide +kernel))
set_option maxRecDepth 20000 in
theorem k_42 : (Cond.code ({ cls := "StitchDesk$Ring", name := "<init>", desc := "(I)V" } : MethodName) prog_7_method_1_code (2 : Nat) (Option.none : Option ClassFile.FieldType)) ∈ lw_tbl := List.mem_append_right _ (List.mem_of_getElem? (i := 42) (by decide +kernel))
set_option maxRecDepth 20000 in
theorem k_43 : (Cond.methodLink "StitchDesk$Ring" (1 : Nat) ({ cls := "java/lang/Object", name := "<init>", desc := "()V" } : MethodName)) ∈ lw_tbl := List.mem_append_right _ (List.mem_of_getElem? (i := 43) (by decide +kernel))
set_option maxRecDepth 20000 in
theorem k_44 : (Cond.fieldLink "StitchDesk$Ring" (7 : Nat) "StitchDesk$Ring" "xs" "[I") ∈ lw_tbl := List.mem_append_right _ (List.mem_of_getElem? (i := 44) (by decide +kernel))
set_option maxRecDepth 20000 in
theorem k_45 : (Cond.fieldLinkNest "StitchDesk$RunTeller" (48 : Nat) "StitchDesk$Ring" "xs" "[I" "StitchDesk") ∈ lw_tbl := List.mem_append_right _ (List.mem_of_getElem? (i := 45) (by decide +kernel))
set_option maxRecDepth 20000 in
theorem k_46 : (Cond.fieldLinkNest "StitchDesk$Shape" (56 : Nat) "StitchDesk$Ring" "xs" "[I" "StitchDesk") ∈ lw_tbl := List.mem_append_right _ (List.mem_of_getElem? (i := 46) (by decide +kernel))
set_option maxRecDepth 20000 in
theorem k_47 : (Cond.fieldLinkNest "StitchDesk$HatchLine" (87 : Nat) "StitchDesk$Ring" "xs" "[I" "StitchDesk") ∈ lw_tbl := List.mem_append_right _ (List.mem_of_getElem? (i := 47) (by decide +kernel))
set_option maxRecDepth 20000 in
theorem k_48 : (Cond.fieldLinkNest "StitchDesk$Inspector" (89 : Nat) "StitchDesk$Ring" "xs" "[I" "StitchDesk") ∈ lw_tbl := List.mem_append_right _ (List.mem_of_getElem? (i := 48) (by decide +kernel))
set_option maxRecDepth 20000 in
theorem k_49 : (Cond.fieldLink "StitchDesk$Ring" (13 : Nat) "StitchDesk$Ring" "ys" "[I") ∈ lw_tbl := List.mem_append_right _ (List.mem_of_getElem? (i := 49) (by decide +kernel))
set_option maxRecDepth 20000 in
theorem k_50 : (Cond.fieldLinkNest "StitchDesk$RunTeller" (52 : Nat) "StitchDesk$Ring" "ys" "[I" "StitchDesk") ∈ lw_tbl := List.mem_append_right _ (List.mem_of_getElem? (i := 50) (by decide +kernel))
set_option maxRecDepth 20000 in
theorem k_51 : (Cond.fieldLinkNest "StitchDesk$Shape" (60 : Nat) "StitchDesk$Ring" "ys" "[I" "StitchDesk") ∈ lw_tbl := List.mem_append_right _ (List.mem_of_getElem? (i := 51) (by decide +kernel))
set_option maxRecDepth 20000 in
theorem k_52 : (Cond.fieldLinkNest "StitchDesk$HatchLine" (90 : Nat) "StitchDesk$Ring" "ys" "[I" "StitchDesk") ∈ lw_tbl := List.mem_append_right _ (List.mem_of_getElem? (i := 52) (by decide +kernel))
set_option maxRecDepth 20000 in
theorem k_53 : (Cond.fieldLinkNest "StitchDesk$Inspector" (92 : Nat) "StitchDesk$Ring" "ys" "[I" "StitchDesk") ∈ lw_tbl := List.mem_append_right _ (List.mem_of_getElem? (i := 53) (by decide +kernel))
set_option maxRecDepth 20000 in
theorem k_54 : (Cond.fieldLink "StitchDesk$Ring" (16 : Nat) "StitchDesk$Ring" "size" "I") ∈ lw_tbl := List.mem_append_right _ (List.mem_of_getElem? (i := 54) (by decide +kernel))
set_option maxRecDepth 20000 in
theorem k_55 : (Cond.fieldLinkNest "StitchDesk$Inspector" (53 : Nat) "StitchDesk$Ring" "size" "I" "StitchDesk") ∈ lw_tbl := List.mem_append_right _ (List.mem_of_getElem? (i := 55) (by decide +kernel))
set_option maxRecDepth 20000 in
theorem k_56 : (Cond.fieldLinkNest "StitchDesk$RunTeller" (38 : Nat) "StitchDesk$Ring" "size" "I" "StitchDesk") ∈ lw_tbl := List.mem_append_right _ (List.mem_of_getElem? (i := 56) (by decide +kernel))
set_option maxRecDepth 20000 in
theorem k_57 : (Cond.fieldLinkNest "StitchDesk" (103 : Nat) "StitchDesk$Ring" "size" "I" "StitchDesk") ∈ lw_tbl := List.mem_append_right _ (List.mem_of_getElem? (i := 57) (by decide +kernel))
set_option maxRecDepth 20000 in
theorem k_58 : (Cond.fieldLinkNest "StitchDesk$Shape" (53 : Nat) "StitchDesk$Ring" "size" "I" "StitchDesk") ∈ lw_tbl := List.mem_append_right _ (List.mem_of_getElem? (i := 58) (by decide +kernel))
set_option maxRecDepth 20000 in
theorem k_59 : (Cond.fieldLinkNest "StitchDesk$HatchLine" (78 : Nat) "StitchDesk$Ring" "size" "I" "StitchDesk") ∈ lw_tbl := List.mem_append_right _ (List.mem_of_getElem? (i := 59) (by decide +kernel))
set_option maxRecDepth 20000 in
theorem k_60 : (Cond.laysFinal "StitchDesk$Ring" "StitchDesk$Ring" "xs" "[I") ∈ lw_tbl := List.mem_append_right _ (List.mem_of_getElem? (i := 60) (by decide +kernel))
set_option maxRecDepth 20000 in
theorem k_61 : (Cond.soleField "StitchDesk$Ring" "xs") ∈ lw_tbl := List.mem_append_right _ (List.mem_of_getElem? (i := 61) (by decide +kernel))
set_option maxRecDepth 20000 in
theorem k_62 : (Cond.laysFinal "StitchDesk$Ring" "StitchDesk$Ring" "ys" "[I") ∈ lw_tbl := List.mem_append_right _ (List.mem_of_getElem? (i := 62) (by decide +kernel))
set_option maxRecDepth 20000 in
theorem k_63 : (Cond.soleField "StitchDesk$Ring" "ys") ∈ lw_tbl := List.mem_append_right _ (List.mem_of_getElem? (i := 63) (by decide +kernel))
set_option maxRecDepth 20000 in
theorem k_64 : (Cond.lays "StitchDesk$Ring" "StitchDesk$Ring" "size" "I") ∈ lw_tbl := List.mem_append_right _ (List.mem_of_getElem? (i := 64) (by decide +kernel))
set_option maxRecDepth 20000 in
theorem k_65 : (Cond.soleField "StitchDesk$Ring" "size") ∈ lw_tbl := List.mem_append_right _ (List.mem_of_getElem? (i := 65) (by decide +kernel))
set_option maxRecDepth 20000 in
theorem k_66 : (Cond.superclass "StitchDesk$Ring" "java/lang/Object") ∈ lw_tbl := List.mem_append_right _ (List.mem_of_getElem? (i := 66) (by decide +kernel))
set_option maxRecDepth 20000 in
theorem k_67 : (Cond.arrayClass ClassFile.FieldType.int) ∈ lw_tbl := List.mem_append_right _ (List.mem_of_getElem? (i := 67) (by decide +kernel))
set_option maxRecDepth 20000 in
theorem k_68 : (Cond.classLink "StitchDesk$Shape" (23 : Nat) "StitchDesk$Tally") ∈ lw_tbl := List.mem_append_right _ (List.mem_of_getElem? (i := 68) (by decide +kernel))
set_option maxRecDepth 20000 in
theorem k_69 : (Cond.instantiable "StitchDesk$Tally" (2 : Nat)) ∈ lw_tbl := List.mem_append_right _ (List.mem_of_getElem? (i := 69) (by decide +kernel))
set_option maxRecDepth 20000 in
theorem k_70 : (Cond.methodLinkNest "StitchDesk$Shape" (25 : Nat) ({ cls := "StitchDesk$Tally", name := "<init>", desc := "()V" } : MethodName) "StitchDesk") ∈ lw_tbl := List.mem_append_right _ (List.mem_of_getElem? (i := 70) (by decide +kernel))
set_option maxRecDepth 20000 in
theorem k_71 : (Cond.instanceMethod ({ cls := "StitchDesk$Tally", name := "<init>", desc := "()V" } : MethodName)) ∈ lw_tbl := List.mem_append_right _ (List.mem_of_getElem? (i := 71) (by decide +kernel))
set_option maxRecDepth 20000 in
theorem k_72 : (Cond.code ({ cls := "StitchDesk$Tally", name := "<init>", desc := "()V" } : MethodName) prog_11_method_1_code (1 : Nat) (Option.none : Option ClassFile.FieldType)) ∈ lw_tbl := List.mem_append_right _ (List.mem_of_getElem? (i := 72) (by decide +kernel))
set_option maxRecDepth 20000 in
theorem k_73 : (Cond.methodLink "StitchDesk$Tally" (1 : Nat) ({ cls := "java/lang/Object", name := "<init>", desc := "()V" } : MethodName)) ∈ lw_tbl := List.mem_append_right _ (List.mem_of_getElem? (i := 73) (by decide +kernel))
set_option maxRecDepth 20000 in
theorem k_74 : (Cond.fieldLink "StitchDesk$Tally" (7 : Nat) "StitchDesk$Tally" "runs" "I") ∈ lw_tbl := List.mem_append_right _ (List.mem_of_getElem? (i := 74) (by decide +kernel))
set_option maxRecDepth 20000 in
theorem k_75 : (Cond.fieldLinkNest "StitchDesk" (173 : Nat) "StitchDesk$Tally" "runs" "I" "StitchDesk") ∈ lw_tbl := List.mem_append_right _ (List.mem_of_getElem? (i := 75) (by decide +kernel))
set_option maxRecDepth 20000 in
theorem k_76 : (Cond.fieldLink "StitchDesk$Tally" (13 : Nat) "StitchDesk$Tally" "places" "I") ∈ lw_tbl := List.mem_append_right _ (List.mem_of_getElem? (i := 76) (by decide +kernel))
set_option maxRecDepth 20000 in
theorem k_77 : (Cond.fieldLinkNest "StitchDesk" (178 : Nat) "StitchDesk$Tally" "places" "I" "StitchDesk") ∈ lw_tbl := List.mem_append_right _ (List.mem_of_getElem? (i := 77) (by decide +kernel))
set_option maxRecDepth 20000 in
theorem k_78 : (Cond.lays "StitchDesk$Tally" "StitchDesk$Tally" "runs" "I") ∈ lw_tbl := List.mem_append_right _ (List.mem_of_getElem? (i := 78) (by decide +kernel))
set_option maxRecDepth 20000 in
theorem k_79 : (Cond.soleField "StitchDesk$Tally" "runs") ∈ lw_tbl := List.mem_append_right _ (List.mem_of_getElem? (i := 79) (by decide +kernel))
set_option maxRecDepth 20000 in
theorem k_80 : (Cond.lays "StitchDesk$Tally" "StitchDesk$Tally" "places" "I") ∈ lw_tbl := List.mem_append_right _ (List.mem_of_getElem? (i := 80) (by decide +kernel))
set_option maxRecDepth 20000 in
theorem k_81 : (Cond.soleField "StitchDesk$Tally" "places") ∈ lw_tbl := List.mem_append_right _ (List.mem_of_getElem? (i := 81) (by decide +kernel))
set_option maxRecDepth 20000 in
theorem k_82 : (Cond.superclass "StitchDesk$Tally" "java/lang/Object") ∈ lw_tbl := List.mem_append_right _ (List.mem_of_getElem? (i := 82) (by decide +kernel))
set_option maxRecDepth 20000 in
theorem k_83 : (Cond.fieldLink "StitchDesk$Shape" (11 : Nat) "StitchDesk$Shape" "rings" "[LStitchDesk$Ring;") ∈ lw_tbl := List.mem_append_right _ (List.mem_of_getElem? (i := 83) (by decide +kernel))
set_option maxRecDepth 20000 in
theorem k_84 : (Cond.fieldLinkNest "StitchDesk$RunTeller" (34 : Nat) "StitchDesk$Shape" "rings" "[LStitchDesk$Ring;" "StitchDesk") ∈ lw_tbl := List.mem_append_right _ (List.mem_of_getElem? (i := 84) (by decide +kernel))
set_option maxRecDepth 20000 in
theorem k_85 : (Cond.fieldLinkNest "StitchDesk" (99 : Nat) "StitchDesk$Shape" "rings" "[LStitchDesk$Ring;" "StitchDesk") ∈ lw_tbl := List.mem_append_right _ (List.mem_of_getElem? (i := 85) (by decide +kernel))
set_option maxRecDepth 20000 in
theorem k_86 : (Cond.fieldLinkNest "StitchDesk$HatchLine" (74 : Nat) "StitchDesk$Shape" "rings" "[LStitchDesk$Ring;" "StitchDesk") ∈ lw_tbl := List.mem_append_right _ (List.mem_of_getElem? (i := 86) (by decide +kernel))
set_option maxRecDepth 20000 in
theorem k_87 : (Cond.fieldLinkNest "StitchDesk$Inspector" (76 : Nat) "StitchDesk$Shape" "rings" "[LStitchDesk$Ring;" "StitchDesk") ∈ lw_tbl := List.mem_append_right _ (List.mem_of_getElem? (i := 87) (by decide +kernel))
set_option maxRecDepth 20000 in
theorem k_88 : (Cond.fieldLink "StitchDesk$Shape" (17 : Nat) "StitchDesk$Shape" "rails" "[LStitchDesk$Ring;") ∈ lw_tbl := List.mem_append_right _ (List.mem_of_getElem? (i := 88) (by decide +kernel))
set_option maxRecDepth 20000 in
theorem k_89 : (Cond.fieldLinkNest "StitchDesk$Inspector" (49 : Nat) "StitchDesk$Shape" "rails" "[LStitchDesk$Ring;" "StitchDesk") ∈ lw_tbl := List.mem_append_right _ (List.mem_of_getElem? (i := 89) (by decide +kernel))
set_option maxRecDepth 20000 in
theorem k_90 : (Cond.fieldLinkNest "StitchDesk$RunTeller" (59 : Nat) "StitchDesk$Shape" "rails" "[LStitchDesk$Ring;" "StitchDesk") ∈ lw_tbl := List.mem_append_right _ (List.mem_of_getElem? (i := 90) (by decide +kernel))
set_option maxRecDepth 20000 in
theorem k_91 : (Cond.fieldLinkNest "StitchDesk" (118 : Nat) "StitchDesk$Shape" "rails" "[LStitchDesk$Ring;" "StitchDesk") ∈ lw_tbl := List.mem_append_right _ (List.mem_of_getElem? (i := 91) (by decide +kernel))
set_option maxRecDepth 20000 in
theorem k_92 : (Cond.fieldLink "StitchDesk$Shape" (26 : Nat) "StitchDesk$Shape" "tally" "LStitchDesk$Tally;") ∈ lw_tbl := List.mem_append_right _ (List.mem_of_getElem? (i := 92) (by decide +kernel))
set_option maxRecDepth 20000 in
theorem k_93 : (Cond.fieldLinkNest "StitchDesk" (132 : Nat) "StitchDesk$Shape" "tally" "LStitchDesk$Tally;" "StitchDesk") ∈ lw_tbl := List.mem_append_right _ (List.mem_of_getElem? (i := 93) (by decide +kernel))
set_option maxRecDepth 20000 in
theorem k_94 : (Cond.fieldLink "StitchDesk$Shape" (34 : Nat) "StitchDesk$Shape" "colour" "I") ∈ lw_tbl := List.mem_append_right _ (List.mem_of_getElem? (i := 94) (by decide +kernel))
set_option maxRecDepth 20000 in
theorem k_95 : (Cond.fieldLinkNest "StitchDesk$Planner" (48 : Nat) "StitchDesk$Shape" "colour" "I" "StitchDesk") ∈ lw_tbl := List.mem_append_right _ (List.mem_of_getElem? (i := 95) (by decide +kernel))
set_option maxRecDepth 20000 in
theorem k_96 : (Cond.fieldLinkNest "StitchDesk$PathMaker" (60 : Nat) "StitchDesk$Shape" "colour" "I" "StitchDesk") ∈ lw_tbl := List.mem_append_right _ (List.mem_of_getElem? (i := 96) (by decide +kernel))
set_option maxRecDepth 20000 in
theorem k_97 : (Cond.fieldLinkNest "StitchDesk" (152 : Nat) "StitchDesk$Shape" "colour" "I" "StitchDesk") ∈ lw_tbl := List.mem_append_right _ (List.mem_of_getElem? (i := 97) (by decide +kernel))
set_option maxRecDepth 20000 in
theorem k_98 : (Cond.fieldLinkNest "StitchDesk$RunTeller" (18 : Nat) "StitchDesk$Shape" "fill" "I" "StitchDesk") ∈ lw_tbl := List.mem_append_right _ (List.mem_of_getElem? (i := 98) (by decide +kernel))
set_option maxRecDepth 20000 in
theorem k_99 : (Cond.fieldLink "StitchDesk$Shape" (37 : Nat) "StitchDesk$Shape" "fill" "I") ∈ lw_tbl := List.mem_append_right _ (List.mem_of_getElem? (i := 99) (by decide +kernel))
set_option maxRecDepth 20000 in
theorem k_100 : (Cond.fieldLinkNest "StitchDesk$Inspector" (34 : Nat) "StitchDesk$Shape" "fill" "I" "StitchDesk") ∈ lw_tbl := List.mem_append_right _ (List.mem_of_getElem? (i := 100) (by decide +kernel))
set_option maxRecDepth 20000 in
theorem k_101 : (Cond.fieldLinkNest "StitchDesk" (89 : Nat) "StitchDesk$Shape" "fill" "I" "StitchDesk") ∈ lw_tbl := List.mem_append_right _ (List.mem_of_getElem? (i := 101) (by decide +kernel))
set_option maxRecDepth 20000 in
theorem k_102 : (Cond.fieldLink "StitchDesk$Shape" (30 : Nat) "StitchDesk$Shape" "spacing" "I") ∈ lw_tbl := List.mem_append_right _ (List.mem_of_getElem? (i := 102) (by decide +kernel))
set_option maxRecDepth 20000 in
theorem k_103 : (Cond.fieldLinkNest "StitchDesk$RunTeller" (75 : Nat) "StitchDesk$Shape" "spacing" "I" "StitchDesk") ∈ lw_tbl := List.mem_append_right _ (List.mem_of_getElem? (i := 103) (by decide +kernel))
set_option maxRecDepth 20000 in
theorem k_104 : (Cond.fieldLinkNest "StitchDesk" (155 : Nat) "StitchDesk$Shape" "spacing" "I" "StitchDesk") ∈ lw_tbl := List.mem_append_right _ (List.mem_of_getElem? (i := 104) (by decide +kernel))
set_option maxRecDepth 20000 in
theorem k_105 : (Cond.fieldLink "StitchDesk$Shape" (40 : Nat) "StitchDesk$Shape" "direction" "I") ∈ lw_tbl := List.mem_append_right _ (List.mem_of_getElem? (i := 105) (by decide +kernel))
set_option maxRecDepth 20000 in
theorem k_106 : (Cond.fieldLinkNest "StitchDesk$HatchLine" (34 : Nat) "StitchDesk$Shape" "direction" "I" "StitchDesk") ∈ lw_tbl := List.mem_append_right _ (List.mem_of_getElem? (i := 106) (by decide +kernel))
set_option maxRecDepth 20000 in
theorem k_107 : (Cond.fieldLinkNest "StitchDesk" (158 : Nat) "StitchDesk$Shape" "direction" "I" "StitchDesk") ∈ lw_tbl := List.mem_append_right _ (List.mem_of_getElem? (i := 107) (by decide +kernel))
set_option maxRecDepth 20000 in
theorem k_108 : (Cond.fieldLinkNest "StitchDesk$RunTeller" (119 : Nat) "StitchDesk$Shape" "direction" "I" "StitchDesk") ∈ lw_tbl := List.mem_append_right _ (List.mem_of_getElem? (i := 108) (by decide +kernel))
set_option maxRecDepth 20000 in
theorem k_109 : (Cond.fieldLinkNest "StitchDesk$HatchLine" (49 : Nat) "StitchDesk$Shape" "left" "I" "StitchDesk") ∈ lw_tbl := List.mem_append_right _ (List.mem_of_getElem? (i := 109) (by decide +kernel))
set_option maxRecDepth 20000 in
theorem k_110 : (Cond.fieldLink "StitchDesk$Shape" (67 : Nat) "StitchDesk$Shape" "left" "I") ∈ lw_tbl := List.mem_append_right _ (List.mem_of_getElem? (i := 110) (by decide +kernel))
set_option maxRecDepth 20000 in
theorem k_111 : (Cond.fieldLinkNest "StitchDesk" (161 : Nat) "StitchDesk$Shape" "left" "I" "StitchDesk") ∈ lw_tbl := List.mem_append_right _ (List.mem_of_getElem? (i := 111) (by decide +kernel))
set_option maxRecDepth 20000 in
theorem k_112 : (Cond.fieldLinkNest "StitchDesk$RunTeller" (125 : Nat) "StitchDesk$Shape" "left" "I" "StitchDesk") ∈ lw_tbl := List.mem_append_right _ (List.mem_of_getElem? (i := 112) (by decide +kernel))
set_option maxRecDepth 20000 in
theorem k_113 : (Cond.fieldLinkNest "StitchDesk$HatchLine" (59 : Nat) "StitchDesk$Shape" "top" "I" "StitchDesk") ∈ lw_tbl := List.mem_append_right _ (List.mem_of_getElem? (i := 113) (by decide +kernel))
set_option maxRecDepth 20000 in
theorem k_114 : (Cond.fieldLink "StitchDesk$Shape" (70 : Nat) "StitchDesk$Shape" "top" "I") ∈ lw_tbl := List.mem_append_right _ (List.mem_of_getElem? (i := 114) (by decide +kernel))
set_option maxRecDepth 20000 in
theorem k_115 : (Cond.fieldLinkNest "StitchDesk" (164 : Nat) "StitchDesk$Shape" "top" "I" "StitchDesk") ∈ lw_tbl := List.mem_append_right _ (List.mem_of_getElem? (i := 115) (by decide +kernel))
set_option maxRecDepth 20000 in
theorem k_116 : (Cond.fieldLinkNest "StitchDesk$RunTeller" (122 : Nat) "StitchDesk$Shape" "top" "I" "StitchDesk") ∈ lw_tbl := List.mem_append_right _ (List.mem_of_getElem? (i := 116) (by decide +kernel))
set_option maxRecDepth 20000 in
theorem k_117 : (Cond.fieldLinkNest "StitchDesk$HatchLine" (52 : Nat) "StitchDesk$Shape" "right" "I" "StitchDesk") ∈ lw_tbl := List.mem_append_right _ (List.mem_of_getElem? (i := 117) (by decide +kernel))
set_option maxRecDepth 20000 in
theorem k_118 : (Cond.fieldLink "StitchDesk$Shape" (73 : Nat) "StitchDesk$Shape" "right" "I") ∈ lw_tbl := List.mem_append_right _ (List.mem_of_getElem? (i := 118) (by decide +kernel))
set_option maxRecDepth 20000 in
theorem k_119 : (Cond.fieldLinkNest "StitchDesk" (167 : Nat) "StitchDesk$Shape" "right" "I" "StitchDesk") ∈ lw_tbl := List.mem_append_right _ (List.mem_of_getElem? (i := 119) (by decide +kernel))
set_option maxRecDepth 20000 in
theorem k_120 : (Cond.fieldLinkNest "StitchDesk$RunTeller" (128 : Nat) "StitchDesk$Shape" "right" "I" "StitchDesk") ∈ lw_tbl := List.mem_append_right _ (List.mem_of_getElem? (i := 120) (by decide +kernel))
set_option maxRecDepth 20000 in
theorem k_121 : (Cond.fieldLinkNest "StitchDesk$HatchLine" (62 : Nat) "StitchDesk$Shape" "bottom" "I" "StitchDesk") ∈ lw_tbl := List.mem_append_right _ (List.mem_of_getElem? (i := 121) (by decide +kernel))
set_option maxRecDepth 20000 in
theorem k_122 : (Cond.fieldLink "StitchDesk$Shape" (76 : Nat) "StitchDesk$Shape" "bottom" "I") ∈ lw_tbl := List.mem_append_right _ (List.mem_of_getElem? (i := 122) (by decide +kernel))
set_option maxRecDepth 20000 in
theorem k_123 : (Cond.fieldLinkNest "StitchDesk" (170 : Nat) "StitchDesk$Shape" "bottom" "I" "StitchDesk") ∈ lw_tbl := List.mem_append_right _ (List.mem_of_getElem? (i := 123) (by decide +kernel))
set_option maxRecDepth 20000 in
theorem k_124 : (Cond.fieldLinkNest "StitchDesk$RunTeller" (131 : Nat) "StitchDesk$Shape" "bottom" "I" "StitchDesk") ∈ lw_tbl := List.mem_append_right _ (List.mem_of_getElem? (i := 124) (by decide +kernel))
set_option maxRecDepth 20000 in
theorem k_125 : (Cond.laysFinal "StitchDesk$Shape" "StitchDesk$Shape" "rings" "[LStitchDesk$Ring;") ∈ lw_tbl := List.mem_append_right _ (List.mem_of_getElem? (i := 125) (by decide +kernel))
set_option maxRecDepth 20000 in
theorem k_126 : (Cond.soleField "StitchDesk$Shape" "rings") ∈ lw_tbl := List.mem_append_right _ (List.mem_of_getElem? (i := 126) (by decide +kernel))
set_option maxRecDepth 20000 in
theorem k_127 : (Cond.laysFinal "StitchDesk$Shape" "StitchDesk$Shape" "rails" "[LStitchDesk$Ring;") ∈ lw_tbl := List.mem_append_right _ (List.mem_of_getElem? (i := 127) (by decide +kernel))
set_option maxRecDepth 20000 in
theorem k_128 : (Cond.soleField "StitchDesk$Shape" "rails") ∈ lw_tbl := List.mem_append_right _ (List.mem_of_getElem? (i := 128) (by decide +kernel))
set_option maxRecDepth 20000 in
theorem k_129 : (Cond.laysFinal "StitchDesk$Shape" "StitchDesk$Shape" "tally" "LStitchDesk$Tally;") ∈ lw_tbl := List.mem_append_right _ (List.mem_of_getElem? (i := 129) (by decide +kernel))
set_option maxRecDepth 20000 in
theorem k_130 : (Cond.soleField "StitchDesk$Shape" "tally") ∈ lw_tbl := List.mem_append_right _ (List.mem_of_getElem? (i := 130) (by decide +kernel))
set_option maxRecDepth 20000 in
theorem k_131 : (Cond.lays "StitchDesk$Shape" "StitchDesk$Shape" "colour" "I") ∈ lw_tbl := List.mem_append_right _ (List.mem_of_getElem? (i := 131) (by decide +kernel))
set_option maxRecDepth 20000 in
theorem k_132 : (Cond.soleField "StitchDesk$Shape" "colour") ∈ lw_tbl := List.mem_append_right _ (List.mem_of_getElem? (i := 132) (by decide +kernel))
set_option maxRecDepth 20000 in
theorem k_133 : (Cond.lays "StitchDesk$Shape" "StitchDesk$Shape" "fill" "I") ∈ lw_tbl := List.mem_append_right _ (List.mem_of_getElem? (i := 133) (by decide +kernel))
set_option maxRecDepth 20000 in
theorem k_134 : (Cond.soleField "StitchDesk$Shape" "fill") ∈ lw_tbl := List.mem_append_right _ (List.mem_of_getElem? (i := 134) (by decide +kernel))
set_option maxRecDepth 20000 in
theorem k_135 : (Cond.lays "StitchDesk$Shape" "StitchDesk$Shape" "spacing" "I") ∈ lw_tbl := List.mem_append_right _ (List.mem_of_getElem? (i := 135) (by decide +kernel))
set_option maxRecDepth 20000 in
theorem k_136 : (Cond.soleField "StitchDesk$Shape" "spacing") ∈ lw_tbl := List.mem_append_right _ (List.mem_of_getElem? (i := 136) (by decide +kernel))
set_option maxRecDepth 20000 in
theorem k_137 : (Cond.lays "StitchDesk$Shape" "StitchDesk$Shape" "direction" "I") ∈ lw_tbl := List.mem_append_right _ (List.mem_of_getElem? (i := 137) (by decide +kernel))
set_option maxRecDepth 20000 in
theorem k_138 : (Cond.soleField "StitchDesk$Shape" "direction") ∈ lw_tbl := List.mem_append_right _ (List.mem_of_getElem? (i := 138) (by decide +kernel))
set_option maxRecDepth 20000 in
theorem k_139 : (Cond.lays "StitchDesk$Shape" "StitchDesk$Shape" "left" "I") ∈ lw_tbl := List.mem_append_right _ (List.mem_of_getElem? (i := 139) (by decide +kernel))
set_option maxRecDepth 20000 in
theorem k_140 : (Cond.soleField "StitchDesk$Shape" "left") ∈ lw_tbl := List.mem_append_right _ (List.mem_of_getElem? (i := 140) (by decide +kernel))
set_option maxRecDepth 20000 in
theorem k_141 : (Cond.lays "StitchDesk$Shape" "StitchDesk$Shape" "top" "I") ∈ lw_tbl := List.mem_append_right _ (List.mem_of_getElem? (i := 141) (by decide +kernel))
set_option maxRecDepth 20000 in
theorem k_142 : (Cond.soleField "StitchDesk$Shape" "top") ∈ lw_tbl := List.mem_append_right _ (List.mem_of_getElem? (i := 142) (by decide +kernel))
set_option maxRecDepth 20000 in
theorem k_143 : (Cond.lays "StitchDesk$Shape" "StitchDesk$Shape" "right" "I") ∈ lw_tbl := List.mem_append_right _ (List.mem_of_getElem? (i := 143) (by decide +kernel))
set_option maxRecDepth 20000 in
theorem k_144 : (Cond.soleField "StitchDesk$Shape" "right") ∈ lw_tbl := List.mem_append_right _ (List.mem_of_getElem? (i := 144) (by decide +kernel))
set_option maxRecDepth 20000 in
theorem k_145 : (Cond.lays "StitchDesk$Shape" "StitchDesk$Shape" "bottom" "I") ∈ lw_tbl := List.mem_append_right _ (List.mem_of_getElem? (i := 145) (by decide +kernel))
set_option maxRecDepth 20000 in
theorem k_146 : (Cond.soleField "StitchDesk$Shape" "bottom") ∈ lw_tbl := List.mem_append_right _ (List.mem_of_getElem? (i := 146) (by decide +kernel))
set_option maxRecDepth 20000 in
theorem k_147 : (Cond.superclass "StitchDesk$Shape" "java/lang/Object") ∈ lw_tbl := List.mem_append_right _ (List.mem_of_getElem? (i := 147) (by decide +kernel))
set_option maxRecDepth 20000 in
theorem k_148 : (Cond.classLink "StitchDesk" (23 : Nat) "StitchDesk$Inspector") ∈ lw_tbl := List.mem_append_right _ (List.mem_of_getElem? (i := 148) (by decide +kernel))
set_option maxRecDepth 20000 in
theorem k_149 : (Cond.instantiable "StitchDesk$Inspector" (9 : Nat)) ∈ lw_tbl := List.mem_append_right _ (List.mem_of_getElem? (i := 149) (by decide +kernel))
set_option maxRecDepth 20000 in
theorem k_150 : (Cond.methodLinkNest "StitchDesk" (25 : Nat) ({ cls := "StitchDesk$Inspector", name := "<init>", desc := "()V" } : MethodName) "StitchDesk") ∈ lw_tbl := List.mem_append_right _ (List.mem_of_getElem? (i := 150) (by decide +kernel))
set_option maxRecDepth 20000 in
theorem k_151 : (Cond.instanceMethod ({ cls := "StitchDesk$Inspector", name := "<init>", desc := "()V" } : MethodName)) ∈ lw_tbl := List.mem_append_right _ (List.mem_of_getElem? (i := 151) (by decide +kernel))
set_option maxRecDepth 20000 in
theorem k_152 : (Cond.code ({ cls := "StitchDesk$Inspector", name := "<init>", desc := "()V" } : MethodName) prog_3_method_1_code (1 : Nat) (Option.none : Option ClassFile.FieldType)) ∈ lw_tbl := List.mem_append_right _ (List.mem_of_getElem? (i := 152) (by decide +kernel))
set_option maxRecDepth 20000 in
theorem k_153 : (Cond.methodLink "StitchDesk$Inspector" (3 : Nat) ({ cls := "java/lang/Object", name := "<init>", desc := "()V" } : MethodName)) ∈ lw_tbl := List.mem_append_right _ (List.mem_of_getElem? (i := 153) (by decide +kernel))
set_option maxRecDepth 20000 in
theorem k_154 : (Cond.fieldLink "StitchDesk$Inspector" (9 : Nat) "StitchDesk$Inspector" "x1" "[I") ∈ lw_tbl := List.mem_append_right _ (List.mem_of_getElem? (i := 154) (by decide +kernel))
set_option maxRecDepth 20000 in
theorem k_155 : (Cond.fieldLink "StitchDesk$Inspector" (15 : Nat) "StitchDesk$Inspector" "y1" "[I") ∈ lw_tbl := List.mem_append_right _ (List.mem_of_getElem? (i := 155) (by decide +kernel))
set_option maxRecDepth 20000 in
theorem k_156 : (Cond.fieldLink "StitchDesk$Inspector" (18 : Nat) "StitchDesk$Inspector" "x2" "[I") ∈ lw_tbl := List.mem_append_right _ (List.mem_of_getElem? (i := 156) (by decide +kernel))
set_option maxRecDepth 20000 in
theorem k_157 : (Cond.fieldLink "StitchDesk$Inspector" (21 : Nat) "StitchDesk$Inspector" "y2" "[I") ∈ lw_tbl := List.mem_append_right _ (List.mem_of_getElem? (i := 157) (by decide +kernel))
set_option maxRecDepth 20000 in
theorem k_158 : (Cond.fieldLink "StitchDesk$Inspector" (24 : Nat) "StitchDesk$Inspector" "follower" "[I") ∈ lw_tbl := List.mem_append_right _ (List.mem_of_getElem? (i := 158) (by decide +kernel))
set_option maxRecDepth 20000 in
theorem k_159 : (Cond.fieldLink "StitchDesk$Inspector" (82 : Nat) "StitchDesk$Inspector" "edgeTotal" "I") ∈ lw_tbl := List.mem_append_right _ (List.mem_of_getElem? (i := 159) (by decide +kernel))
set_option maxRecDepth 20000 in
theorem k_160 : (Cond.fieldLink "StitchDesk$Inspector" (46 : Nat) "StitchDesk$Inspector" "found" "I") ∈ lw_tbl := List.mem_append_right _ (List.mem_of_getElem? (i := 160) (by decide +kernel))
set_option maxRecDepth 20000 in
theorem k_161 : (Cond.fieldLinkNest "StitchDesk" (140 : Nat) "StitchDesk$Inspector" "found" "I" "StitchDesk") ∈ lw_tbl := List.mem_append_right _ (List.mem_of_getElem? (i := 161) (by decide +kernel))
set_option maxRecDepth 20000 in
theorem k_162 : (Cond.fieldLink "StitchDesk$Inspector" (27 : Nat) "StitchDesk$Inspector" "lesser" "I") ∈ lw_tbl := List.mem_append_right _ (List.mem_of_getElem? (i := 162) (by decide +kernel))
set_option maxRecDepth 20000 in
theorem k_163 : (Cond.fieldLinkNest "StitchDesk" (143 : Nat) "StitchDesk$Inspector" "lesser" "I" "StitchDesk") ∈ lw_tbl := List.mem_append_right _ (List.mem_of_getElem? (i := 163) (by decide +kernel))
set_option maxRecDepth 20000 in
theorem k_164 : (Cond.fieldLink "StitchDesk$Inspector" (31 : Nat) "StitchDesk$Inspector" "other" "I") ∈ lw_tbl := List.mem_append_right _ (List.mem_of_getElem? (i := 164) (by decide +kernel))
set_option maxRecDepth 20000 in
theorem k_165 : (Cond.fieldLinkNest "StitchDesk" (146 : Nat) "StitchDesk$Inspector" "other" "I" "StitchDesk") ∈ lw_tbl := List.mem_append_right _ (List.mem_of_getElem? (i := 165) (by decide +kernel))
set_option maxRecDepth 20000 in
theorem k_166 : (Cond.laysFinal "StitchDesk$Inspector" "StitchDesk$Inspector" "x1" "[I") ∈ lw_tbl := List.mem_append_right _ (List.mem_of_getElem? (i := 166) (by decide +kernel))
set_option maxRecDepth 20000 in
theorem k_167 : (Cond.soleField "StitchDesk$Inspector" "x1") ∈ lw_tbl := List.mem_append_right _ (List.mem_of_getElem? (i := 167) (by decide +kernel))
set_option maxRecDepth 20000 in
theorem k_168 : (Cond.laysFinal "StitchDesk$Inspector" "StitchDesk$Inspector" "y1" "[I") ∈ lw_tbl := List.mem_append_right _ (List.mem_of_getElem? (i := 168) (by decide +kernel))
set_option maxRecDepth 20000 in
theorem k_169 : (Cond.soleField "StitchDesk$Inspector" "y1") ∈ lw_tbl := List.mem_append_right _ (List.mem_of_getElem? (i := 169) (by decide +kernel))
set_option maxRecDepth 20000 in
theorem k_170 : (Cond.laysFinal "StitchDesk$Inspector" "StitchDesk$Inspector" "x2" "[I") ∈ lw_tbl := List.mem_append_right _ (List.mem_of_getElem? (i := 170) (by decide +kernel))
set_option maxRecDepth 20000 in
theorem k_171 : (Cond.soleField "StitchDesk$Inspector" "x2") ∈ lw_tbl := List.mem_append_right _ (List.mem_of_getElem? (i := 171) (by decide +kernel))
set_option maxRecDepth 20000 in
theorem k_172 : (Cond.laysFinal "StitchDesk$Inspector" "StitchDesk$Inspector" "y2" "[I") ∈ lw_tbl := List.mem_append_right _ (List.mem_of_getElem? (i := 172) (by decide +kernel))
set_option maxRecDepth 20000 in
theorem k_173 : (Cond.soleField "StitchDesk$Inspector" "y2") ∈ lw_tbl := List.mem_append_right _ (List.mem_of_getElem? (i := 173) (by decide +kernel))
set_option maxRecDepth 20000 in
theorem k_174 : (Cond.laysFinal "StitchDesk$Inspector" "StitchDesk$Inspector" "follower" "[I") ∈ lw_tbl := List.mem_append_right _ (List.mem_of_getElem? (i := 174) (by decide +kernel))
set_option maxRecDepth 20000 in
theorem k_175 : (Cond.soleField "StitchDesk$Inspector" "follower") ∈ lw_tbl := List.mem_append_right _ (List.mem_of_getElem? (i := 175) (by decide +kernel))
set_option maxRecDepth 20000 in
theorem k_176 : (Cond.lays "StitchDesk$Inspector" "StitchDesk$Inspector" "edgeTotal" "I") ∈ lw_tbl := List.mem_append_right _ (List.mem_of_getElem? (i := 176) (by decide +kernel))
set_option maxRecDepth 20000 in
theorem k_177 : (Cond.soleField "StitchDesk$Inspector" "edgeTotal") ∈ lw_tbl := List.mem_append_right _ (List.mem_of_getElem? (i := 177) (by decide +kernel))
set_option maxRecDepth 20000 in
theorem k_178 : (Cond.lays "StitchDesk$Inspector" "StitchDesk$Inspector" "found" "I") ∈ lw_tbl := List.mem_append_right _ (List.mem_of_getElem? (i := 178) (by decide +kernel))
set_option maxRecDepth 20000 in
theorem k_179 : (Cond.soleField "StitchDesk$Inspector" "found") ∈ lw_tbl := List.mem_append_right _ (List.mem_of_getElem? (i := 179) (by decide +kernel))
set_option maxRecDepth 20000 in
theorem k_180 : (Cond.lays "StitchDesk$Inspector" "StitchDesk$Inspector" "lesser" "I") ∈ lw_tbl := List.mem_append_right _ (List.mem_of_getElem? (i := 180) (by decide +kernel))
set_option maxRecDepth 20000 in
theorem k_181 : (Cond.soleField "StitchDesk$Inspector" "lesser") ∈ lw_tbl := List.mem_append_right _ (List.mem_of_getElem? (i := 181) (by decide +kernel))
set_option maxRecDepth 20000 in
theorem k_182 : (Cond.lays "StitchDesk$Inspector" "StitchDesk$Inspector" "other" "I") ∈ lw_tbl := List.mem_append_right _ (List.mem_of_getElem? (i := 182) (by decide +kernel))
set_option maxRecDepth 20000 in
theorem k_183 : (Cond.soleField "StitchDesk$Inspector" "other") ∈ lw_tbl := List.mem_append_right _ (List.mem_of_getElem? (i := 183) (by decide +kernel))
set_option maxRecDepth 20000 in
theorem k_184 : (Cond.superclass "StitchDesk$Inspector" "java/lang/Object") ∈ lw_tbl := List.mem_append_right _ (List.mem_of_getElem? (i := 184) (by decide +kernel))
set_option maxRecDepth 20000 in
theorem k_185 : (Cond.classLink "StitchDesk" (30 : Nat) "StitchDesk$RunTeller") ∈ lw_tbl := List.mem_append_right _ (List.mem_of_getElem? (i := 185) (by decide +kernel))
set_option maxRecDepth 20000 in
theorem k_186 : (Cond.instantiable "StitchDesk$RunTeller" (1 : Nat)) ∈ lw_tbl := List.mem_append_right _ (List.mem_of_getElem? (i := 186) (by decide +kernel))
set_option maxRecDepth 20000 in
theorem k_187 : (Cond.methodLinkNest "StitchDesk" (32 : Nat) ({ cls := "StitchDesk$RunTeller", name := "<init>", desc := "()V" } : MethodName) "StitchDesk") ∈ lw_tbl := List.mem_append_right _ (List.mem_of_getElem? (i := 187) (by decide +kernel))
set_option maxRecDepth 20000 in
theorem k_188 : (Cond.instanceMethod ({ cls := "StitchDesk$RunTeller", name := "<init>", desc := "()V" } : MethodName)) ∈ lw_tbl := List.mem_append_right _ (List.mem_of_getElem? (i := 188) (by decide +kernel))
set_option maxRecDepth 20000 in
theorem k_189 : (Cond.code ({ cls := "StitchDesk$RunTeller", name := "<init>", desc := "()V" } : MethodName) prog_9_method_1_code (1 : Nat) (Option.none : Option ClassFile.FieldType)) ∈ lw_tbl := List.mem_append_right _ (List.mem_of_getElem? (i := 189) (by decide +kernel))
set_option maxRecDepth 20000 in
theorem k_190 : (Cond.methodLink "StitchDesk$RunTeller" (3 : Nat) ({ cls := "java/lang/Object", name := "<init>", desc := "()V" } : MethodName)) ∈ lw_tbl := List.mem_append_right _ (List.mem_of_getElem? (i := 190) (by decide +kernel))
set_option maxRecDepth 20000 in
theorem k_191 : (Cond.classLink "StitchDesk$RunTeller" (9 : Nat) "StitchDesk$HatchLine") ∈ lw_tbl := List.mem_append_right _ (List.mem_of_getElem? (i := 191) (by decide +kernel))
set_option maxRecDepth 20000 in
theorem k_192 : (Cond.instantiable "StitchDesk$HatchLine" (13 : Nat)) ∈ lw_tbl := List.mem_append_right _ (List.mem_of_getElem? (i := 192) (by decide +kernel))
set_option maxRecDepth 20000 in
theorem k_193 : (Cond.methodLinkNest "StitchDesk$RunTeller" (11 : Nat) ({ cls := "StitchDesk$HatchLine", name := "<init>", desc := "()V" } : MethodName) "StitchDesk") ∈ lw_tbl := List.mem_append_right _ (List.mem_of_getElem? (i := 193) (by decide +kernel))
set_option maxRecDepth 20000 in
theorem k_194 : (Cond.instanceMethod ({ cls := "StitchDesk$HatchLine", name := "<init>", desc := "()V" } : MethodName)) ∈ lw_tbl := List.mem_append_right _ (List.mem_of_getElem? (i := 194) (by decide +kernel))
set_option maxRecDepth 20000 in
theorem k_195 : (Cond.code ({ cls := "StitchDesk$HatchLine", name := "<init>", desc := "()V" } : MethodName) prog_2_method_1_code (1 : Nat) (Option.none : Option ClassFile.FieldType)) ∈ lw_tbl := List.mem_append_right _ (List.mem_of_getElem? (i := 195) (by decide +kernel))
set_option maxRecDepth 20000 in
theorem k_196 : (Cond.methodLink "StitchDesk$HatchLine" (3 : Nat) ({ cls := "java/lang/Object", name := "<init>", desc := "()V" } : MethodName)) ∈ lw_tbl := List.mem_append_right _ (List.mem_of_getElem? (i := 196) (by decide +kernel))
set_option maxRecDepth 20000 in
theorem k_197 : (Cond.fieldLink "StitchDesk$HatchLine" (9 : Nat) "StitchDesk$HatchLine" "events" "[I") ∈ lw_tbl := List.mem_append_right _ (List.mem_of_getElem? (i := 197) (by decide +kernel))
set_option maxRecDepth 20000 in
theorem k_198 : (Cond.fieldLink "StitchDesk$HatchLine" (15 : Nat) "StitchDesk$HatchLine" "starts" "[I") ∈ lw_tbl := List.mem_append_right _ (List.mem_of_getElem? (i := 198) (by decide +kernel))
set_option maxRecDepth 20000 in
theorem k_199 : (Cond.fieldLinkNest "StitchDesk$RunTeller" (107 : Nat) "StitchDesk$HatchLine" "starts" "[I" "StitchDesk") ∈ lw_tbl := List.mem_append_right _ (List.mem_of_getElem? (i := 199) (by decide +kernel))
set_option maxRecDepth 20000 in
theorem k_200 : (Cond.fieldLink "StitchDesk$HatchLine" (18 : Nat) "StitchDesk$HatchLine" "ends" "[I") ∈ lw_tbl := List.mem_append_right _ (List.mem_of_getElem? (i := 200) (by decide +kernel))
set_option maxRecDepth 20000 in
theorem k_201 : (Cond.fieldLinkNest "StitchDesk$RunTeller" (110 : Nat) "StitchDesk$HatchLine" "ends" "[I" "StitchDesk") ∈ lw_tbl := List.mem_append_right _ (List.mem_of_getElem? (i := 201) (by decide +kernel))
set_option maxRecDepth 20000 in
theorem k_202 : (Cond.fieldLink "StitchDesk$HatchLine" (71 : Nat) "StitchDesk$HatchLine" "eventTotal" "I") ∈ lw_tbl := List.mem_append_right _ (List.mem_of_getElem? (i := 202) (by decide +kernel))
set_option maxRecDepth 20000 in
theorem k_203 : (Cond.fieldLinkNest "StitchDesk$RunTeller" (104 : Nat) "StitchDesk$HatchLine" "partTotal" "I" "StitchDesk") ∈ lw_tbl := List.mem_append_right _ (List.mem_of_getElem? (i := 203) (by decide +kernel))
set_option maxRecDepth 20000 in
theorem k_204 : (Cond.fieldLink "StitchDesk$HatchLine" (133 : Nat) "StitchDesk$HatchLine" "partTotal" "I") ∈ lw_tbl := List.mem_append_right _ (List.mem_of_getElem? (i := 204) (by decide +kernel))
set_option maxRecDepth 20000 in
theorem k_205 : (Cond.fieldLink "StitchDesk$HatchLine" (21 : Nat) "StitchDesk$HatchLine" "xStep" "I") ∈ lw_tbl := List.mem_append_right _ (List.mem_of_getElem? (i := 205) (by decide +kernel))
set_option maxRecDepth 20000 in
theorem k_206 : (Cond.fieldLink "StitchDesk$HatchLine" (25 : Nat) "StitchDesk$HatchLine" "xBase" "I") ∈ lw_tbl := List.mem_append_right _ (List.mem_of_getElem? (i := 206) (by decide +kernel))
set_option maxRecDepth 20000 in
theorem k_207 : (Cond.fieldLink "StitchDesk$HatchLine" (28 : Nat) "StitchDesk$HatchLine" "yStep" "I") ∈ lw_tbl := List.mem_append_right _ (List.mem_of_getElem? (i := 207) (by decide +kernel))
set_option maxRecDepth 20000 in
theorem k_208 : (Cond.fieldLink "StitchDesk$HatchLine" (31 : Nat) "StitchDesk$HatchLine" "yBase" "I") ∈ lw_tbl := List.mem_append_right _ (List.mem_of_getElem? (i := 208) (by decide +kernel))
set_option maxRecDepth 20000 in
theorem k_209 : (Cond.fieldLink "StitchDesk$HatchLine" (65 : Nat) "StitchDesk$HatchLine" "first" "I") ∈ lw_tbl := List.mem_append_right _ (List.mem_of_getElem? (i := 209) (by decide +kernel))
set_option maxRecDepth 20000 in
theorem k_210 : (Cond.fieldLink "StitchDesk$HatchLine" (68 : Nat) "StitchDesk$HatchLine" "last" "I") ∈ lw_tbl := List.mem_append_right _ (List.mem_of_getElem? (i := 210) (by decide +kernel))
set_option maxRecDepth 20000 in
theorem k_211 : (Cond.fieldLink "StitchDesk$HatchLine" (43 : Nat) "StitchDesk$HatchLine" "low" "I") ∈ lw_tbl := List.mem_append_right _ (List.mem_of_getElem? (i := 211) (by decide +kernel))
set_option maxRecDepth 20000 in
theorem k_212 : (Cond.fieldLink "StitchDesk$HatchLine" (46 : Nat) "StitchDesk$HatchLine" "high" "I") ∈ lw_tbl := List.mem_append_right _ (List.mem_of_getElem? (i := 212) (by decide +kernel))
set_option maxRecDepth 20000 in
theorem k_213 : (Cond.laysFinal "StitchDesk$HatchLine" "StitchDesk$HatchLine" "events" "[I") ∈ lw_tbl := List.mem_append_right _ (List.mem_of_getElem? (i := 213) (by decide +kernel))
set_option maxRecDepth 20000 in
theorem k_214 : (Cond.soleField "StitchDesk$HatchLine" "events") ∈ lw_tbl := List.mem_append_right _ (List.mem_of_getElem? (i := 214) (by decide +kernel))
set_option maxRecDepth 20000 in
theorem k_215 : (Cond.laysFinal "StitchDesk$HatchLine" "StitchDesk$HatchLine" "starts" "[I") ∈ lw_tbl := List.mem_append_right _ (List.mem_of_getElem? (i := 215) (by decide +kernel))
set_option maxRecDepth 20000 in
theorem k_216 : (Cond.soleField "StitchDesk$HatchLine" "starts") ∈ lw_tbl := List.mem_append_right _ (List.mem_of_getElem? (i := 216) (by decide +kernel))
set_option maxRecDepth 20000 in
theorem k_217 : (Cond.laysFinal "StitchDesk$HatchLine" "StitchDesk$HatchLine" "ends" "[I") ∈ lw_tbl := List.mem_append_right _ (List.mem_of_getElem? (i := 217) (by decide +kernel))
set_option maxRecDepth 20000 in
theorem k_218 : (Cond.soleField "StitchDesk$HatchLine" "ends") ∈ lw_tbl := List.mem_append_right _ (List.mem_of_getElem? (i := 218) (by decide +kernel))
set_option maxRecDepth 20000 in
theorem k_219 : (Cond.lays "StitchDesk$HatchLine" "StitchDesk$HatchLine" "eventTotal" "I") ∈ lw_tbl := List.mem_append_right _ (List.mem_of_getElem? (i := 219) (by decide +kernel))
set_option maxRecDepth 20000 in
theorem k_220 : (Cond.soleField "StitchDesk$HatchLine" "eventTotal") ∈ lw_tbl := List.mem_append_right _ (List.mem_of_getElem? (i := 220) (by decide +kernel))
set_option maxRecDepth 20000 in
theorem k_221 : (Cond.lays "StitchDesk$HatchLine" "StitchDesk$HatchLine" "partTotal" "I") ∈ lw_tbl := List.mem_append_right _ (List.mem_of_getElem? (i := 221) (by decide +kernel))
set_option maxRecDepth 20000 in
theorem k_222 : (Cond.soleField "StitchDesk$HatchLine" "partTotal") ∈ lw_tbl := List.mem_append_right _ (List.mem_of_getElem? (i := 222) (by decide +kernel))
set_option maxRecDepth 20000 in
theorem k_223 : (Cond.lays "StitchDesk$HatchLine" "StitchDesk$HatchLine" "xStep" "I") ∈ lw_tbl := List.mem_append_right _ (List.mem_of_getElem? (i := 223) (by decide +kernel))
set_option maxRecDepth 20000 in
theorem k_224 : (Cond.soleField "StitchDesk$HatchLine" "xStep") ∈ lw_tbl := List.mem_append_right _ (List.mem_of_getElem? (i := 224) (by decide +kernel))
set_option maxRecDepth 20000 in
theorem k_225 : (Cond.lays "StitchDesk$HatchLine" "StitchDesk$HatchLine" "xBase" "I") ∈ lw_tbl := List.mem_append_right _ (List.mem_of_getElem? (i := 225) (by decide +kernel))
set_option maxRecDepth 20000 in
theorem k_226 : (Cond.soleField "StitchDesk$HatchLine" "xBase") ∈ lw_tbl := List.mem_append_right _ (List.mem_of_getElem? (i := 226) (by decide +kernel))
set_option maxRecDepth 20000 in
theorem k_227 : (Cond.lays "StitchDesk$HatchLine" "StitchDesk$HatchLine" "yStep" "I") ∈ lw_tbl := List.mem_append_right _ (List.mem_of_getElem? (i := 227) (by decide +kernel))
set_option maxRecDepth 20000 in
theorem k_228 : (Cond.soleField "StitchDesk$HatchLine" "yStep") ∈ lw_tbl := List.mem_append_right _ (List.mem_of_getElem? (i := 228) (by decide +kernel))
set_option maxRecDepth 20000 in
theorem k_229 : (Cond.lays "StitchDesk$HatchLine" "StitchDesk$HatchLine" "yBase" "I") ∈ lw_tbl := List.mem_append_right _ (List.mem_of_getElem? (i := 229) (by decide +kernel))
set_option maxRecDepth 20000 in
theorem k_230 : (Cond.soleField "StitchDesk$HatchLine" "yBase") ∈ lw_tbl := List.mem_append_right _ (List.mem_of_getElem? (i := 230) (by decide +kernel))
set_option maxRecDepth 20000 in
theorem k_231 : (Cond.lays "StitchDesk$HatchLine" "StitchDesk$HatchLine" "first" "I") ∈ lw_tbl := List.mem_append_right _ (List.mem_of_getElem? (i := 231) (by decide +kernel))
set_option maxRecDepth 20000 in
theorem k_232 : (Cond.soleField "StitchDesk$HatchLine" "first") ∈ lw_tbl := List.mem_append_right _ (List.mem_of_getElem? (i := 232) (by decide +kernel))
set_option maxRecDepth 20000 in
theorem k_233 : (Cond.lays "StitchDesk$HatchLine" "StitchDesk$HatchLine" "last" "I") ∈ lw_tbl := List.mem_append_right _ (List.mem_of_getElem? (i := 233) (by decide +kernel))
set_option maxRecDepth 20000 in
theorem k_234 : (Cond.soleField "StitchDesk$HatchLine" "last") ∈ lw_tbl := List.mem_append_right _ (List.mem_of_getElem? (i := 234) (by decide +kernel))
set_option maxRecDepth 20000 in
theorem k_235 : (Cond.lays "StitchDesk$HatchLine" "StitchDesk$HatchLine" "low" "I") ∈ lw_tbl := List.mem_append_right _ (List.mem_of_getElem? (i := 235) (by decide +kernel))
set_option maxRecDepth 20000 in
theorem k_236 : (Cond.soleField "StitchDesk$HatchLine" "low") ∈ lw_tbl := List.mem_append_right _ (List.mem_of_getElem? (i := 236) (by decide +kernel))
set_option maxRecDepth 20000 in
theorem k_237 : (Cond.lays "StitchDesk$HatchLine" "StitchDesk$HatchLine" "high" "I") ∈ lw_tbl := List.mem_append_right _ (List.mem_of_getElem? (i := 237) (by decide +kernel))
set_option maxRecDepth 20000 in
theorem k_238 : (Cond.soleField "StitchDesk$HatchLine" "high") ∈ lw_tbl := List.mem_append_right _ (List.mem_of_getElem? (i := 238) (by decide +kernel))
set_option maxRecDepth 20000 in
theorem k_239 : (Cond.superclass "StitchDesk$HatchLine" "java/lang/Object") ∈ lw_tbl := List.mem_append_right _ (List.mem_of_getElem? (i := 239) (by decide +kernel))
set_option maxRecDepth 20000 in
theorem k_240 : (Cond.fieldLink "StitchDesk$RunTeller" (12 : Nat) "StitchDesk$RunTeller" "line" "LStitchDesk$HatchLine;") ∈ lw_tbl := List.mem_append_right _ (List.mem_of_getElem? (i := 240) (by decide +kernel))
set_option maxRecDepth 20000 in
theorem k_241 : (Cond.laysFinal "StitchDesk$RunTeller" "StitchDesk$RunTeller" "line" "LStitchDesk$HatchLine;") ∈ lw_tbl := List.mem_append_right _ (List.mem_of_getElem? (i := 241) (by decide +kernel))
set_option maxRecDepth 20000 in
theorem k_242 : (Cond.soleField "StitchDesk$RunTeller" "line") ∈ lw_tbl := List.mem_append_right _ (List.mem_of_getElem? (i := 242) (by decide +kernel))
set_option maxRecDepth 20000 in
theorem k_243 : (Cond.superclass "StitchDesk$RunTeller" "java/lang/Object") ∈ lw_tbl := List.mem_append_right _ (List.mem_of_getElem? (i := 243) (by decide +kernel))
set_option maxRecDepth 20000 in
theorem k_244 : (Cond.classLink "StitchDesk" (37 : Nat) "StitchDesk$PathMaker") ∈ lw_tbl := List.mem_append_right _ (List.mem_of_getElem? (i := 244) (by decide +kernel))
set_option maxRecDepth 20000 in
theorem k_245 : (Cond.instantiable "StitchDesk$PathMaker" (7 : Nat)) ∈ lw_tbl := List.mem_append_right _ (List.mem_of_getElem? (i := 245) (by decide +kernel))
set_option maxRecDepth 20000 in
theorem k_246 : (Cond.methodLinkNest "StitchDesk" (39 : Nat) ({ cls := "StitchDesk$PathMaker", name := "<init>", desc := "()V" } : MethodName) "StitchDesk") ∈ lw_tbl := List.mem_append_right _ (List.mem_of_getElem? (i := 246) (by decide +kernel))
set_option maxRecDepth 20000 in
theorem k_247 : (Cond.instanceMethod ({ cls := "StitchDesk$PathMaker", name := "<init>", desc := "()V" } : MethodName)) ∈ lw_tbl := List.mem_append_right _ (List.mem_of_getElem? (i := 247) (by decide +kernel))
set_option maxRecDepth 20000 in
theorem k_248 : (Cond.code ({ cls := "StitchDesk$PathMaker", name := "<init>", desc := "()V" } : MethodName) prog_5_method_1_code (1 : Nat) (Option.none : Option ClassFile.FieldType)) ∈ lw_tbl := List.mem_append_right _ (List.mem_of_getElem? (i := 248) (by decide +kernel))
set_option maxRecDepth 20000 in
theorem k_249 : (Cond.methodLink "StitchDesk$PathMaker" (3 : Nat) ({ cls := "java/lang/Object", name := "<init>", desc := "()V" } : MethodName)) ∈ lw_tbl := List.mem_append_right _ (List.mem_of_getElem? (i := 249) (by decide +kernel))
set_option maxRecDepth 20000 in
theorem k_250 : (Cond.classLink "StitchDesk$PathMaker" (9 : Nat) "StitchDesk$Path") ∈ lw_tbl := List.mem_append_right _ (List.mem_of_getElem? (i := 250) (by decide +kernel))
set_option maxRecDepth 20000 in
theorem k_251 : (Cond.instantiable "StitchDesk$Path" (3 : Nat)) ∈ lw_tbl := List.mem_append_right _ (List.mem_of_getElem? (i := 251) (by decide +kernel))
set_option maxRecDepth 20000 in
theorem k_252 : (Cond.methodLinkNest "StitchDesk$PathMaker" (11 : Nat) ({ cls := "StitchDesk$Path", name := "<init>", desc := "()V" } : MethodName) "StitchDesk") ∈ lw_tbl := List.mem_append_right _ (List.mem_of_getElem? (i := 252) (by decide +kernel))
set_option maxRecDepth 20000 in
theorem k_253 : (Cond.instanceMethod ({ cls := "StitchDesk$Path", name := "<init>", desc := "()V" } : MethodName)) ∈ lw_tbl := List.mem_append_right _ (List.mem_of_getElem? (i := 253) (by decide +kernel))
set_option maxRecDepth 20000 in
theorem k_254 : (Cond.code ({ cls := "StitchDesk$Path", name := "<init>", desc := "()V" } : MethodName) prog_4_method_1_code (1 : Nat) (Option.none : Option ClassFile.FieldType)) ∈ lw_tbl := List.mem_append_right _ (List.mem_of_getElem? (i := 254) (by decide +kernel))
set_option maxRecDepth 20000 in
theorem k_255 : (Cond.methodLink "StitchDesk$Path" (3 : Nat) ({ cls := "java/lang/Object", name := "<init>", desc := "()V" } : MethodName)) ∈ lw_tbl := List.mem_append_right _ (List.mem_of_getElem? (i := 255) (by decide +kernel))
set_option maxRecDepth 20000 in
theorem k_256 : (Cond.fieldLink "StitchDesk$Path" (9 : Nat) "StitchDesk$Path" "codes" "[I") ∈ lw_tbl := List.mem_append_right _ (List.mem_of_getElem? (i := 256) (by decide +kernel))
set_option maxRecDepth 20000 in
theorem k_257 : (Cond.fieldLink "StitchDesk$Path" (15 : Nat) "StitchDesk$Path" "size" "I") ∈ lw_tbl := List.mem_append_right _ (List.mem_of_getElem? (i := 257) (by decide +kernel))
set_option maxRecDepth 20000 in
theorem k_258 : (Cond.fieldLinkNest "StitchDesk" (183 : Nat) "StitchDesk$Path" "size" "I" "StitchDesk") ∈ lw_tbl := List.mem_append_right _ (List.mem_of_getElem? (i := 258) (by decide +kernel))
set_option maxRecDepth 20000 in
theorem k_259 : (Cond.fieldLink "StitchDesk$Path" (19 : Nat) "StitchDesk$Path" "overfull" "Z") ∈ lw_tbl := List.mem_append_right _ (List.mem_of_getElem? (i := 259) (by decide +kernel))
set_option maxRecDepth 20000 in
theorem k_260 : (Cond.fieldLinkNest "StitchDesk$PathMaker" (42 : Nat) "StitchDesk$Path" "overfull" "Z" "StitchDesk") ∈ lw_tbl := List.mem_append_right _ (List.mem_of_getElem? (i := 260) (by decide +kernel))
set_option maxRecDepth 20000 in
theorem k_261 : (Cond.fieldLinkNest "StitchDesk" (192 : Nat) "StitchDesk$Path" "overfull" "Z" "StitchDesk") ∈ lw_tbl := List.mem_append_right _ (List.mem_of_getElem? (i := 261) (by decide +kernel))
set_option maxRecDepth 20000 in
theorem k_262 : (Cond.laysFinal "StitchDesk$Path" "StitchDesk$Path" "codes" "[I") ∈ lw_tbl := List.mem_append_right _ (List.mem_of_getElem? (i := 262) (by decide +kernel))
set_option maxRecDepth 20000 in
theorem k_263 : (Cond.soleField "StitchDesk$Path" "codes") ∈ lw_tbl := List.mem_append_right _ (List.mem_of_getElem? (i := 263) (by decide +kernel))
set_option maxRecDepth 20000 in
theorem k_264 : (Cond.lays "StitchDesk$Path" "StitchDesk$Path" "size" "I") ∈ lw_tbl := List.mem_append_right _ (List.mem_of_getElem? (i := 264) (by decide +kernel))
set_option maxRecDepth 20000 in
theorem k_265 : (Cond.soleField "StitchDesk$Path" "size") ∈ lw_tbl := List.mem_append_right _ (List.mem_of_getElem? (i := 265) (by decide +kernel))
set_option maxRecDepth 20000 in
theorem k_266 : (Cond.lays "StitchDesk$Path" "StitchDesk$Path" "overfull" "Z") ∈ lw_tbl := List.mem_append_right _ (List.mem_of_getElem? (i := 266) (by decide +kernel))
set_option maxRecDepth 20000 in
theorem k_267 : (Cond.soleField "StitchDesk$Path" "overfull") ∈ lw_tbl := List.mem_append_right _ (List.mem_of_getElem? (i := 267) (by decide +kernel))
set_option maxRecDepth 20000 in
theorem k_268 : (Cond.superclass "StitchDesk$Path" "java/lang/Object") ∈ lw_tbl := List.mem_append_right _ (List.mem_of_getElem? (i := 268) (by decide +kernel))
set_option maxRecDepth 20000 in
theorem k_269 : (Cond.fieldLink "StitchDesk$PathMaker" (12 : Nat) "StitchDesk$PathMaker" "path" "LStitchDesk$Path;") ∈ lw_tbl := List.mem_append_right _ (List.mem_of_getElem? (i := 269) (by decide +kernel))
set_option maxRecDepth 20000 in
theorem k_270 : (Cond.fieldLinkNest "StitchDesk" (44 : Nat) "StitchDesk$PathMaker" "path" "LStitchDesk$Path;" "StitchDesk") ∈ lw_tbl := List.mem_append_right _ (List.mem_of_getElem? (i := 270) (by decide +kernel))
set_option maxRecDepth 20000 in
theorem k_271 : (Cond.fieldLink "StitchDesk$PathMaker" (31 : Nat) "StitchDesk$PathMaker" "shape" "LStitchDesk$Shape;") ∈ lw_tbl := List.mem_append_right _ (List.mem_of_getElem? (i := 271) (by decide +kernel))
set_option maxRecDepth 20000 in
theorem k_272 : (Cond.fieldLink "StitchDesk$PathMaker" (21 : Nat) "StitchDesk$PathMaker" "x" "I") ∈ lw_tbl := List.mem_append_right _ (List.mem_of_getElem? (i := 272) (by decide +kernel))
set_option maxRecDepth 20000 in
theorem k_273 : (Cond.fieldLink "StitchDesk$PathMaker" (25 : Nat) "StitchDesk$PathMaker" "y" "I") ∈ lw_tbl := List.mem_append_right _ (List.mem_of_getElem? (i := 273) (by decide +kernel))
set_option maxRecDepth 20000 in
theorem k_274 : (Cond.fieldLink "StitchDesk$PathMaker" (28 : Nat) "StitchDesk$PathMaker" "threaded" "I") ∈ lw_tbl := List.mem_append_right _ (List.mem_of_getElem? (i := 274) (by decide +kernel))
set_option maxRecDepth 20000 in
theorem k_275 : (Cond.fieldLink "StitchDesk$PathMaker" (35 : Nat) "StitchDesk$PathMaker" "entering" "Z") ∈ lw_tbl := List.mem_append_right _ (List.mem_of_getElem? (i := 275) (by decide +kernel))
set_option maxRecDepth 20000 in
theorem k_276 : (Cond.fieldLink "StitchDesk$PathMaker" (39 : Nat) "StitchDesk$PathMaker" "atRunStart" "Z") ∈ lw_tbl := List.mem_append_right _ (List.mem_of_getElem? (i := 276) (by decide +kernel))
set_option maxRecDepth 20000 in
theorem k_277 : (Cond.laysFinal "StitchDesk$PathMaker" "StitchDesk$PathMaker" "path" "LStitchDesk$Path;") ∈ lw_tbl := List.mem_append_right _ (List.mem_of_getElem? (i := 277) (by decide +kernel))
set_option maxRecDepth 20000 in
theorem k_278 : (Cond.soleField "StitchDesk$PathMaker" "path") ∈ lw_tbl := List.mem_append_right _ (List.mem_of_getElem? (i := 278) (by decide +kernel))
set_option maxRecDepth 20000 in
theorem k_279 : (Cond.lays "StitchDesk$PathMaker" "StitchDesk$PathMaker" "shape" "LStitchDesk$Shape;") ∈ lw_tbl := List.mem_append_right _ (List.mem_of_getElem? (i := 279) (by decide +kernel))
set_option maxRecDepth 20000 in
theorem k_280 : (Cond.soleField "StitchDesk$PathMaker" "shape") ∈ lw_tbl := List.mem_append_right _ (List.mem_of_getElem? (i := 280) (by decide +kernel))
set_option maxRecDepth 20000 in
theorem k_281 : (Cond.lays "StitchDesk$PathMaker" "StitchDesk$PathMaker" "x" "I") ∈ lw_tbl := List.mem_append_right _ (List.mem_of_getElem? (i := 281) (by decide +kernel))
set_option maxRecDepth 20000 in
theorem k_282 : (Cond.soleField "StitchDesk$PathMaker" "x") ∈ lw_tbl := List.mem_append_right _ (List.mem_of_getElem? (i := 282) (by decide +kernel))
set_option maxRecDepth 20000 in
theorem k_283 : (Cond.lays "StitchDesk$PathMaker" "StitchDesk$PathMaker" "y" "I") ∈ lw_tbl := List.mem_append_right _ (List.mem_of_getElem? (i := 283) (by decide +kernel))
set_option maxRecDepth 20000 in
theorem k_284 : (Cond.soleField "StitchDesk$PathMaker" "y") ∈ lw_tbl := List.mem_append_right _ (List.mem_of_getElem? (i := 284) (by decide +kernel))
set_option maxRecDepth 20000 in
theorem k_285 : (Cond.lays "StitchDesk$PathMaker" "StitchDesk$PathMaker" "threaded" "I") ∈ lw_tbl := List.mem_append_right _ (List.mem_of_getElem? (i := 285) (by decide +kernel))
set_option maxRecDepth 20000 in
theorem k_286 : (Cond.soleField "StitchDesk$PathMaker" "threaded") ∈ lw_tbl := List.mem_append_right _ (List.mem_of_getElem? (i := 286) (by decide +kernel))
set_option maxRecDepth 20000 in
theorem k_287 : (Cond.lays "StitchDesk$PathMaker" "StitchDesk$PathMaker" "entering" "Z") ∈ lw_tbl := List.mem_append_right _ (List.mem_of_getElem? (i := 287) (by decide +kernel))
set_option maxRecDepth 20000 in
theorem k_288 : (Cond.soleField "StitchDesk$PathMaker" "entering") ∈ lw_tbl := List.mem_append_right _ (List.mem_of_getElem? (i := 288) (by decide +kernel))
set_option maxRecDepth 20000 in
theorem k_289 : (Cond.lays "StitchDesk$PathMaker" "StitchDesk$PathMaker" "atRunStart" "Z") ∈ lw_tbl := List.mem_append_right _ (List.mem_of_getElem? (i := 289) (by decide +kernel))
set_option maxRecDepth 20000 in
theorem k_290 : (Cond.soleField "StitchDesk$PathMaker" "atRunStart") ∈ lw_tbl := List.mem_append_right _ (List.mem_of_getElem? (i := 290) (by decide +kernel))
set_option maxRecDepth 20000 in
theorem k_291 : (Cond.superclass "StitchDesk$PathMaker" "java/lang/Object") ∈ lw_tbl := List.mem_append_right _ (List.mem_of_getElem? (i := 291) (by decide +kernel))
set_option maxRecDepth 20000 in
theorem k_292 : (Cond.classLink "StitchDesk" (49 : Nat) "StitchDesk$Planner") ∈ lw_tbl := List.mem_append_right _ (List.mem_of_getElem? (i := 292) (by decide +kernel))
set_option maxRecDepth 20000 in
theorem k_293 : (Cond.instantiable "StitchDesk$Planner" (6 : Nat)) ∈ lw_tbl := List.mem_append_right _ (List.mem_of_getElem? (i := 293) (by decide +kernel))
set_option maxRecDepth 20000 in
theorem k_294 : (Cond.methodLinkNest "StitchDesk" (51 : Nat) ({ cls := "StitchDesk$Planner", name := "<init>", desc := "()V" } : MethodName) "StitchDesk") ∈ lw_tbl := List.mem_append_right _ (List.mem_of_getElem? (i := 294) (by decide +kernel))
set_option maxRecDepth 20000 in
theorem k_295 : (Cond.instanceMethod ({ cls := "StitchDesk$Planner", name := "<init>", desc := "()V" } : MethodName)) ∈ lw_tbl := List.mem_append_right _ (List.mem_of_getElem? (i := 295) (by decide +kernel))
set_option maxRecDepth 20000 in
theorem k_296 : (Cond.code ({ cls := "StitchDesk$Planner", name := "<init>", desc := "()V" } : MethodName) prog_6_method_1_code (1 : Nat) (Option.none : Option ClassFile.FieldType)) ∈ lw_tbl := List.mem_append_right _ (List.mem_of_getElem? (i := 296) (by decide +kernel))
set_option maxRecDepth 20000 in
theorem k_297 : (Cond.methodLink "StitchDesk$Planner" (3 : Nat) ({ cls := "java/lang/Object", name := "<init>", desc := "()V" } : MethodName)) ∈ lw_tbl := List.mem_append_right _ (List.mem_of_getElem? (i := 297) (by decide +kernel))
set_option maxRecDepth 20000 in
theorem k_298 : (Cond.fieldLink "StitchDesk$Planner" (9 : Nat) "StitchDesk$Planner" "fewest" "[I") ∈ lw_tbl := List.mem_append_right _ (List.mem_of_getElem? (i := 298) (by decide +kernel))
set_option maxRecDepth 20000 in
theorem k_299 : (Cond.fieldLink "StitchDesk$Planner" (15 : Nat) "StitchDesk$Planner" "friendly" "[I") ∈ lw_tbl := List.mem_append_right _ (List.mem_of_getElem? (i := 299) (by decide +kernel))
set_option maxRecDepth 20000 in
theorem k_300 : (Cond.fieldLink "StitchDesk$Planner" (18 : Nat) "StitchDesk$Planner" "ahead" "[I") ∈ lw_tbl := List.mem_append_right _ (List.mem_of_getElem? (i := 300) (by decide +kernel))
set_option maxRecDepth 20000 in
theorem k_301 : (Cond.fieldLink "StitchDesk$Planner" (21 : Nat) "StitchDesk$Planner" "colours" "[I") ∈ lw_tbl := List.mem_append_right _ (List.mem_of_getElem? (i := 301) (by decide +kernel))
set_option maxRecDepth 20000 in
theorem k_302 : (Cond.fieldLink "StitchDesk$Planner" (24 : Nat) "StitchDesk$Planner" "planned" "[I") ∈ lw_tbl := List.mem_append_right _ (List.mem_of_getElem? (i := 302) (by decide +kernel))
set_option maxRecDepth 20000 in
theorem k_303 : (Cond.fieldLink "StitchDesk$Planner" (33 : Nat) "StitchDesk$Planner" "total" "I") ∈ lw_tbl := List.mem_append_right _ (List.mem_of_getElem? (i := 303) (by decide +kernel))
set_option maxRecDepth 20000 in
theorem k_304 : (Cond.laysFinal "StitchDesk$Planner" "StitchDesk$Planner" "fewest" "[I") ∈ lw_tbl := List.mem_append_right _ (List.mem_of_getElem? (i := 304) (by decide +kernel))
set_option maxRecDepth 20000 in
theorem k_305 : (Cond.soleField "StitchDesk$Planner" "fewest") ∈ lw_tbl := List.mem_append_right _ (List.mem_of_getElem? (i := 305) (by decide +kernel))
set_option maxRecDepth 20000 in
theorem k_306 : (Cond.laysFinal "StitchDesk$Planner" "StitchDesk$Planner" "friendly" "[I") ∈ lw_tbl := List.mem_append_right _ (List.mem_of_getElem? (i := 306) (by decide +kernel))
set_option maxRecDepth 20000 in
theorem k_307 : (Cond.soleField "StitchDesk$Planner" "friendly") ∈ lw_tbl := List.mem_append_right _ (List.mem_of_getElem? (i := 307) (by decide +kernel))
set_option maxRecDepth 20000 in
theorem k_308 : (Cond.laysFinal "StitchDesk$Planner" "StitchDesk$Planner" "ahead" "[I") ∈ lw_tbl := List.mem_append_right _ (List.mem_of_getElem? (i := 308) (by decide +kernel))
set_option maxRecDepth 20000 in
theorem k_309 : (Cond.soleField "StitchDesk$Planner" "ahead") ∈ lw_tbl := List.mem_append_right _ (List.mem_of_getElem? (i := 309) (by decide +kernel))
set_option maxRecDepth 20000 in
theorem k_310 : (Cond.laysFinal "StitchDesk$Planner" "StitchDesk$Planner" "colours" "[I") ∈ lw_tbl := List.mem_append_right _ (List.mem_of_getElem? (i := 310) (by decide +kernel))
set_option maxRecDepth 20000 in
theorem k_311 : (Cond.soleField "StitchDesk$Planner" "colours") ∈ lw_tbl := List.mem_append_right _ (List.mem_of_getElem? (i := 311) (by decide +kernel))
set_option maxRecDepth 20000 in
theorem k_312 : (Cond.laysFinal "StitchDesk$Planner" "StitchDesk$Planner" "planned" "[I") ∈ lw_tbl := List.mem_append_right _ (List.mem_of_getElem? (i := 312) (by decide +kernel))
set_option maxRecDepth 20000 in
theorem k_313 : (Cond.soleField "StitchDesk$Planner" "planned") ∈ lw_tbl := List.mem_append_right _ (List.mem_of_getElem? (i := 313) (by decide +kernel))
set_option maxRecDepth 20000 in
theorem k_314 : (Cond.lays "StitchDesk$Planner" "StitchDesk$Planner" "total" "I") ∈ lw_tbl := List.mem_append_right _ (List.mem_of_getElem? (i := 314) (by decide +kernel))
set_option maxRecDepth 20000 in
theorem k_315 : (Cond.soleField "StitchDesk$Planner" "total") ∈ lw_tbl := List.mem_append_right _ (List.mem_of_getElem? (i := 315) (by decide +kernel))
set_option maxRecDepth 20000 in
theorem k_316 : (Cond.superclass "StitchDesk$Planner" "java/lang/Object") ∈ lw_tbl := List.mem_append_right _ (List.mem_of_getElem? (i := 316) (by decide +kernel))
set_option maxRecDepth 20000 in
theorem k_317 : (Cond.fieldLink "StitchDesk" (11 : Nat) "StitchDesk" "shapes" "[LStitchDesk$Shape;") ∈ lw_tbl := List.mem_append_right _ (List.mem_of_getElem? (i := 317) (by decide +kernel))
set_option maxRecDepth 20000 in
theorem k_318 : (Cond.fieldLink "StitchDesk" (16 : Nat) "StitchDesk" "sequence" "[I") ∈ lw_tbl := List.mem_append_right _ (List.mem_of_getElem? (i := 318) (by decide +kernel))
set_option maxRecDepth 20000 in
theorem k_319 : (Cond.fieldLink "StitchDesk" (20 : Nat) "StitchDesk" "loaded" "[I") ∈ lw_tbl := List.mem_append_right _ (List.mem_of_getElem? (i := 319) (by decide +kernel))
set_option maxRecDepth 20000 in
theorem k_320 : (Cond.fieldLink "StitchDesk" (26 : Nat) "StitchDesk" "inspector" "LStitchDesk$Inspector;") ∈ lw_tbl := List.mem_append_right _ (List.mem_of_getElem? (i := 320) (by decide +kernel))
set_option maxRecDepth 20000 in
theorem k_321 : (Cond.fieldLink "StitchDesk" (33 : Nat) "StitchDesk" "teller" "LStitchDesk$RunTeller;") ∈ lw_tbl := List.mem_append_right _ (List.mem_of_getElem? (i := 321) (by decide +kernel))
set_option maxRecDepth 20000 in
theorem k_322 : (Cond.fieldLink "StitchDesk" (48 : Nat) "StitchDesk" "path" "LStitchDesk$Path;") ∈ lw_tbl := List.mem_append_right _ (List.mem_of_getElem? (i := 322) (by decide +kernel))
set_option maxRecDepth 20000 in
theorem k_323 : (Cond.fieldLink "StitchDesk" (40 : Nat) "StitchDesk" "maker" "LStitchDesk$PathMaker;") ∈ lw_tbl := List.mem_append_right _ (List.mem_of_getElem? (i := 323) (by decide +kernel))
set_option maxRecDepth 20000 in
theorem k_324 : (Cond.fieldLink "StitchDesk" (52 : Nat) "StitchDesk" "planner" "LStitchDesk$Planner;") ∈ lw_tbl := List.mem_append_right _ (List.mem_of_getElem? (i := 324) (by decide +kernel))
set_option maxRecDepth 20000 in
theorem k_325 : (Cond.fieldLink "StitchDesk" (67 : Nat) "StitchDesk" "shapeTotal" "I") ∈ lw_tbl := List.mem_append_right _ (List.mem_of_getElem? (i := 325) (by decide +kernel))
set_option maxRecDepth 20000 in
theorem k_326 : (Cond.fieldLink "StitchDesk" (186 : Nat) "StitchDesk" "loadedTotal" "I") ∈ lw_tbl := List.mem_append_right _ (List.mem_of_getElem? (i := 326) (by decide +kernel))
set_option maxRecDepth 20000 in
theorem k_327 : (Cond.fieldLink "StitchDesk" (56 : Nat) "StitchDesk" "open" "Z") ∈ lw_tbl := List.mem_append_right _ (List.mem_of_getElem? (i := 327) (by decide +kernel))
set_option maxRecDepth 20000 in
theorem k_328 : (Cond.laysFinal "StitchDesk" "StitchDesk" "shapes" "[LStitchDesk$Shape;") ∈ lw_tbl := List.mem_append_right _ (List.mem_of_getElem? (i := 328) (by decide +kernel))
set_option maxRecDepth 20000 in
theorem k_329 : (Cond.soleField "StitchDesk" "shapes") ∈ lw_tbl := List.mem_append_right _ (List.mem_of_getElem? (i := 329) (by decide +kernel))
set_option maxRecDepth 20000 in
theorem k_330 : (Cond.laysFinal "StitchDesk" "StitchDesk" "sequence" "[I") ∈ lw_tbl := List.mem_append_right _ (List.mem_of_getElem? (i := 330) (by decide +kernel))
set_option maxRecDepth 20000 in
theorem k_331 : (Cond.soleField "StitchDesk" "sequence") ∈ lw_tbl := List.mem_append_right _ (List.mem_of_getElem? (i := 331) (by decide +kernel))
set_option maxRecDepth 20000 in
theorem k_332 : (Cond.laysFinal "StitchDesk" "StitchDesk" "loaded" "[I") ∈ lw_tbl := List.mem_append_right _ (List.mem_of_getElem? (i := 332) (by decide +kernel))
set_option maxRecDepth 20000 in
theorem k_333 : (Cond.soleField "StitchDesk" "loaded") ∈ lw_tbl := List.mem_append_right _ (List.mem_of_getElem? (i := 333) (by decide +kernel))
set_option maxRecDepth 20000 in
theorem k_334 : (Cond.laysFinal "StitchDesk" "StitchDesk" "inspector" "LStitchDesk$Inspector;") ∈ lw_tbl := List.mem_append_right _ (List.mem_of_getElem? (i := 334) (by decide +kernel))
set_option maxRecDepth 20000 in
theorem k_335 : (Cond.soleField "StitchDesk" "inspector") ∈ lw_tbl := List.mem_append_right _ (List.mem_of_getElem? (i := 335) (by decide +kernel))
set_option maxRecDepth 20000 in
theorem k_336 : (Cond.laysFinal "StitchDesk" "StitchDesk" "teller" "LStitchDesk$RunTeller;") ∈ lw_tbl := List.mem_append_right _ (List.mem_of_getElem? (i := 336) (by decide +kernel))
set_option maxRecDepth 20000 in
theorem k_337 : (Cond.soleField "StitchDesk" "teller") ∈ lw_tbl := List.mem_append_right _ (List.mem_of_getElem? (i := 337) (by decide +kernel))
set_option maxRecDepth 20000 in
theorem k_338 : (Cond.laysFinal "StitchDesk" "StitchDesk" "path" "LStitchDesk$Path;") ∈ lw_tbl := List.mem_append_right _ (List.mem_of_getElem? (i := 338) (by decide +kernel))
set_option maxRecDepth 20000 in
theorem k_339 : (Cond.soleField "StitchDesk" "path") ∈ lw_tbl := List.mem_append_right _ (List.mem_of_getElem? (i := 339) (by decide +kernel))
set_option maxRecDepth 20000 in
theorem k_340 : (Cond.laysFinal "StitchDesk" "StitchDesk" "maker" "LStitchDesk$PathMaker;") ∈ lw_tbl := List.mem_append_right _ (List.mem_of_getElem? (i := 340) (by decide +kernel))
set_option maxRecDepth 20000 in
theorem k_341 : (Cond.soleField "StitchDesk" "maker") ∈ lw_tbl := List.mem_append_right _ (List.mem_of_getElem? (i := 341) (by decide +kernel))
set_option maxRecDepth 20000 in
theorem k_342 : (Cond.laysFinal "StitchDesk" "StitchDesk" "planner" "LStitchDesk$Planner;") ∈ lw_tbl := List.mem_append_right _ (List.mem_of_getElem? (i := 342) (by decide +kernel))
set_option maxRecDepth 20000 in
theorem k_343 : (Cond.soleField "StitchDesk" "planner") ∈ lw_tbl := List.mem_append_right _ (List.mem_of_getElem? (i := 343) (by decide +kernel))
set_option maxRecDepth 20000 in
theorem k_344 : (Cond.lays "StitchDesk" "StitchDesk" "shapeTotal" "I") ∈ lw_tbl := List.mem_append_right _ (List.mem_of_getElem? (i := 344) (by decide +kernel))
set_option maxRecDepth 20000 in
theorem k_345 : (Cond.soleField "StitchDesk" "shapeTotal") ∈ lw_tbl := List.mem_append_right _ (List.mem_of_getElem? (i := 345) (by decide +kernel))
set_option maxRecDepth 20000 in
theorem k_346 : (Cond.lays "StitchDesk" "StitchDesk" "loadedTotal" "I") ∈ lw_tbl := List.mem_append_right _ (List.mem_of_getElem? (i := 346) (by decide +kernel))
set_option maxRecDepth 20000 in
theorem k_347 : (Cond.soleField "StitchDesk" "loadedTotal") ∈ lw_tbl := List.mem_append_right _ (List.mem_of_getElem? (i := 347) (by decide +kernel))
set_option maxRecDepth 20000 in
theorem k_348 : (Cond.lays "StitchDesk" "StitchDesk" "open" "Z") ∈ lw_tbl := List.mem_append_right _ (List.mem_of_getElem? (i := 348) (by decide +kernel))
set_option maxRecDepth 20000 in
theorem k_349 : (Cond.soleField "StitchDesk" "open") ∈ lw_tbl := List.mem_append_right _ (List.mem_of_getElem? (i := 349) (by decide +kernel))
set_option maxRecDepth 20000 in
theorem k_350 : (Cond.superclass "StitchDesk" "java/lang/Object") ∈ lw_tbl := List.mem_append_right _ (List.mem_of_getElem? (i := 350) (by decide +kernel))
set_option maxRecDepth 20000 in
theorem k_351 : (Cond.methodLink "StitchDeskLaw" (78 : Nat) ({ cls := "StitchDesk", name := "fault", desc := "(I)I" } : MethodName)) ∈ lw_tbl := List.mem_append_right _ (List.mem_of_getElem? (i := 351) (by decide +kernel))
set_option maxRecDepth 20000 in
theorem k_352 : (Cond.instanceMethod ({ cls := "StitchDesk", name := "fault", desc := "(I)I" } : MethodName)) ∈ lw_tbl := List.mem_append_right _ (List.mem_of_getElem? (i := 352) (by decide +kernel))
set_option maxRecDepth 20000 in
theorem k_353 : (Cond.selects "StitchDesk" ({ cls := "StitchDesk", name := "fault", desc := "(I)I" } : MethodName) ({ cls := "StitchDesk", name := "fault", desc := "(I)I" } : MethodName)) ∈ lw_tbl := List.mem_append_right _ (List.mem_of_getElem? (i := 353) (by decide +kernel))
set_option maxRecDepth 20000 in
theorem k_354 : (Cond.code ({ cls := "StitchDesk", name := "fault", desc := "(I)I" } : MethodName) prog_1_method_6_code (2 : Nat) (Option.some ClassFile.FieldType.int)) ∈ lw_tbl := List.mem_append_right _ (List.mem_of_getElem? (i := 354) (by decide +kernel))
set_option maxRecDepth 20000 in
theorem k_355 : (Cond.methodLink "StitchDeskLaw" (86 : Nat) ({ cls := "StitchDesk", name := "count", desc := "(I)I" } : MethodName)) ∈ lw_tbl := List.mem_append_right _ (List.mem_of_getElem? (i := 355) (by decide +kernel))
set_option maxRecDepth 20000 in
theorem k_356 : (Cond.instanceMethod ({ cls := "StitchDesk", name := "count", desc := "(I)I" } : MethodName)) ∈ lw_tbl := List.mem_append_right _ (List.mem_of_getElem? (i := 356) (by decide +kernel))
set_option maxRecDepth 20000 in
theorem k_357 : (Cond.selects "StitchDesk" ({ cls := "StitchDesk", name := "count", desc := "(I)I" } : MethodName) ({ cls := "StitchDesk", name := "count", desc := "(I)I" } : MethodName)) ∈ lw_tbl := List.mem_append_right _ (List.mem_of_getElem? (i := 357) (by decide +kernel))
set_option maxRecDepth 20000 in
theorem k_358 : (Cond.code ({ cls := "StitchDesk", name := "count", desc := "(I)I" } : MethodName) prog_1_method_8_code (2 : Nat) (Option.some ClassFile.FieldType.int)) ∈ lw_tbl := List.mem_append_right _ (List.mem_of_getElem? (i := 358) (by decide +kernel))
set_option maxRecDepth 20000 in
theorem k_359 : (Cond.methodLink "StitchDeskLaw" (90 : Nat) ({ cls := "StitchDesk", name := "stitch", desc := "()I" } : MethodName)) ∈ lw_tbl := List.mem_append_right _ (List.mem_of_getElem? (i := 359) (by decide +kernel))
set_option maxRecDepth 20000 in
theorem k_360 : (Cond.instanceMethod ({ cls := "StitchDesk", name := "stitch", desc := "()I" } : MethodName)) ∈ lw_tbl := List.mem_append_right _ (List.mem_of_getElem? (i := 360) (by decide +kernel))
set_option maxRecDepth 20000 in
theorem k_361 : (Cond.selects "StitchDesk" ({ cls := "StitchDesk", name := "stitch", desc := "()I" } : MethodName) ({ cls := "StitchDesk", name := "stitch", desc := "()I" } : MethodName)) ∈ lw_tbl := List.mem_append_right _ (List.mem_of_getElem? (i := 361) (by decide +kernel))
set_option maxRecDepth 20000 in
theorem k_362 : (Cond.code ({ cls := "StitchDesk", name := "stitch", desc := "()I" } : MethodName) prog_1_method_9_code (3 : Nat) (Option.some ClassFile.FieldType.int)) ∈ lw_tbl := List.mem_append_right _ (List.mem_of_getElem? (i := 362) (by decide +kernel))
set_option maxRecDepth 20000 in
theorem k_363 : (Cond.methodLinkNest "StitchDesk" (189 : Nat) ({ cls := "StitchDesk$PathMaker", name := "restart", desc := "()V" } : MethodName) "StitchDesk") ∈ lw_tbl := List.mem_append_right _ (List.mem_of_getElem? (i := 363) (by decide +kernel))
set_option maxRecDepth 20000 in
theorem k_364 : (Cond.privateMethod ({ cls := "StitchDesk$PathMaker", name := "restart", desc := "()V" } : MethodName)) ∈ lw_tbl := List.mem_append_right _ (List.mem_of_getElem? (i := 364) (by decide +kernel))
set_option maxRecDepth 20000 in
theorem k_365 : (Cond.instanceMethod ({ cls := "StitchDesk$PathMaker", name := "restart", desc := "()V" } : MethodName)) ∈ lw_tbl := List.mem_append_right _ (List.mem_of_getElem? (i := 365) (by decide +kernel))
set_option maxRecDepth 20000 in
theorem k_366 : (Cond.code ({ cls := "StitchDesk$PathMaker", name := "restart", desc := "()V" } : MethodName) prog_5_method_2_code (1 : Nat) (Option.none : Option ClassFile.FieldType)) ∈ lw_tbl := List.mem_append_right _ (List.mem_of_getElem? (i := 366) (by decide +kernel))
set_option maxRecDepth 20000 in
theorem k_367 : (Cond.methodLinkNest "StitchDesk$PathMaker" (18 : Nat) ({ cls := "StitchDesk$Path", name := "clear", desc := "()V" } : MethodName) "StitchDesk") ∈ lw_tbl := List.mem_append_right _ (List.mem_of_getElem? (i := 367) (by decide +kernel))
set_option maxRecDepth 20000 in
theorem k_368 : (Cond.privateMethod ({ cls := "StitchDesk$Path", name := "clear", desc := "()V" } : MethodName)) ∈ lw_tbl := List.mem_append_right _ (List.mem_of_getElem? (i := 368) (by decide +kernel))
set_option maxRecDepth 20000 in
theorem k_369 : (Cond.instanceMethod ({ cls := "StitchDesk$Path", name := "clear", desc := "()V" } : MethodName)) ∈ lw_tbl := List.mem_append_right _ (List.mem_of_getElem? (i := 369) (by decide +kernel))
set_option maxRecDepth 20000 in
theorem k_370 : (Cond.code ({ cls := "StitchDesk$Path", name := "clear", desc := "()V" } : MethodName) prog_4_method_2_code (1 : Nat) (Option.none : Option ClassFile.FieldType)) ∈ lw_tbl := List.mem_append_right _ (List.mem_of_getElem? (i := 370) (by decide +kernel))
set_option maxRecDepth 20000 in
theorem k_371 : (Cond.methodLinkNest "StitchDesk" (195 : Nat) ({ cls := "StitchDesk$PathMaker", name := "enter", desc := "(LStitchDesk$Shape;)V" } : MethodName) "StitchDesk") ∈ lw_tbl := List.mem_append_right _ (List.mem_of_getElem? (i := 371) (by decide +kernel))
set_option maxRecDepth 20000 in
theorem k_372 : (Cond.privateMethod ({ cls := "StitchDesk$PathMaker", name := "enter", desc := "(LStitchDesk$Shape;)V" } : MethodName)) ∈ lw_tbl := List.mem_append_right _ (List.mem_of_getElem? (i := 372) (by decide +kernel))
set_option maxRecDepth 20000 in
theorem k_373 : (Cond.instanceMethod ({ cls := "StitchDesk$PathMaker", name := "enter", desc := "(LStitchDesk$Shape;)V" } : MethodName)) ∈ lw_tbl := List.mem_append_right _ (List.mem_of_getElem? (i := 373) (by decide +kernel))
set_option maxRecDepth 20000 in
theorem k_374 : (Cond.code ({ cls := "StitchDesk$PathMaker", name := "enter", desc := "(LStitchDesk$Shape;)V" } : MethodName) prog_5_method_3_code (2 : Nat) (Option.none : Option ClassFile.FieldType)) ∈ lw_tbl := List.mem_append_right _ (List.mem_of_getElem? (i := 374) (by decide +kernel))
set_option maxRecDepth 20000 in
theorem k_375 : (Cond.methodLinkNest "StitchDesk" (136 : Nat) ({ cls := "StitchDesk$RunTeller", name := "tell", desc := "(LStitchDesk$Shape;LStitchDesk$RunTaker;)V" } : MethodName) "StitchDesk") ∈ lw_tbl := List.mem_append_right _ (List.mem_of_getElem? (i := 375) (by decide +kernel))
set_option maxRecDepth 20000 in
theorem k_376 : (Cond.privateMethod ({ cls := "StitchDesk$RunTeller", name := "tell", desc := "(LStitchDesk$Shape;LStitchDesk$RunTaker;)V" } : MethodName)) ∈ lw_tbl := List.mem_append_right _ (List.mem_of_getElem? (i := 376) (by decide +kernel))
set_option maxRecDepth 20000 in
theorem k_377 : (Cond.instanceMethod ({ cls := "StitchDesk$RunTeller", name := "tell", desc := "(LStitchDesk$Shape;LStitchDesk$RunTaker;)V" } : MethodName)) ∈ lw_tbl := List.mem_append_right _ (List.mem_of_getElem? (i := 377) (by decide +kernel))
set_option maxRecDepth 20000 in
theorem k_378 : (Cond.code ({ cls := "StitchDesk$RunTeller", name := "tell", desc := "(LStitchDesk$Shape;LStitchDesk$RunTaker;)V" } : MethodName) prog_9_method_2_code (3 : Nat) (Option.none : Option ClassFile.FieldType)) ∈ lw_tbl := List.mem_append_right _ (List.mem_of_getElem? (i := 378) (by decide +kernel))
set_option maxRecDepth 20000 in
theorem k_379 : (Cond.methodLink "StitchDesk$RunTeller" (24 : Nat) ({ cls := "StitchDesk$RunTeller", name := "tellHatch", desc := "(LStitchDesk$Shape;LStitchDesk$RunTaker;)V" } : MethodName)) ∈ lw_tbl := List.mem_append_right _ (List.mem_of_getElem? (i := 379) (by decide +kernel))
set_option maxRecDepth 20000 in
theorem k_380 : (Cond.privateMethod ({ cls := "StitchDesk$RunTeller", name := "tellHatch", desc := "(LStitchDesk$Shape;LStitchDesk$RunTaker;)V" } : MethodName)) ∈ lw_tbl := List.mem_append_right _ (List.mem_of_getElem? (i := 380) (by decide +kernel))
set_option maxRecDepth 20000 in
theorem k_381 : (Cond.instanceMethod ({ cls := "StitchDesk$RunTeller", name := "tellHatch", desc := "(LStitchDesk$Shape;LStitchDesk$RunTaker;)V" } : MethodName)) ∈ lw_tbl := List.mem_append_right _ (List.mem_of_getElem? (i := 381) (by decide +kernel))
set_option maxRecDepth 20000 in
theorem k_382 : (Cond.code ({ cls := "StitchDesk$RunTeller", name := "tellHatch", desc := "(LStitchDesk$Shape;LStitchDesk$RunTaker;)V" } : MethodName) prog_9_method_7_code (11 : Nat) (Option.none : Option ClassFile.FieldType)) ∈ lw_tbl := List.mem_append_right _ (List.mem_of_getElem? (i := 382) (by decide +kernel))
set_option maxRecDepth 20000 in
theorem k_383 : (Cond.methodLink "StitchDesk$RunTeller" (90 : Nat) ({ cls := "StitchDesk$RunTeller", name := "leastF", desc := "(LStitchDesk$Shape;)I" } : MethodName)) ∈ lw_tbl := List.mem_append_right _ (List.mem_of_getElem? (i := 383) (by decide +kernel))
set_option maxRecDepth 20000 in
theorem k_384 : (Cond.static ({ cls := "StitchDesk$RunTeller", name := "leastF", desc := "(LStitchDesk$Shape;)I" } : MethodName)) ∈ lw_tbl := List.mem_append_right _ (List.mem_of_getElem? (i := 384) (by decide +kernel))
set_option maxRecDepth 20000 in
theorem k_385 : (Cond.code ({ cls := "StitchDesk$RunTeller", name := "leastF", desc := "(LStitchDesk$Shape;)I" } : MethodName) prog_9_method_8_code (1 : Nat) (Option.some ClassFile.FieldType.int)) ∈ lw_tbl := List.mem_append_right _ (List.mem_of_getElem? (i := 385) (by decide +kernel))
set_option maxRecDepth 20000 in
theorem k_386 : (Cond.methodLink "StitchDesk$RunTeller" (94 : Nat) ({ cls := "java/lang/Math", name := "floorDiv", desc := "(II)I" } : MethodName)) ∈ lw_tbl := List.mem_append_right _ (List.mem_of_getElem? (i := 386) (by decide +kernel))
set_option maxRecDepth 20000 in
theorem k_387 : (Cond.static ({ cls := "java/lang/Math", name := "floorDiv", desc := "(II)I" } : MethodName)) ∈ lw_tbl := List.mem_append_right _ (List.mem_of_getElem? (i := 387) (by decide +kernel))
set_option maxRecDepth 20000 in
theorem k_388 : (Cond.code ({ cls := "java/lang/Math", name := "floorDiv", desc := "(II)I" } : MethodName) prog_19_method_47_code (3 : Nat) (Option.some ClassFile.FieldType.int)) ∈ lw_tbl := List.mem_append_right _ (List.mem_of_getElem? (i := 388) (by decide +kernel))
set_option maxRecDepth 20000 in
theorem k_389 : (Cond.methodLink "StitchDesk$RunTeller" (97 : Nat) ({ cls := "StitchDesk$RunTeller", name := "greatestF", desc := "(LStitchDesk$Shape;)I" } : MethodName)) ∈ lw_tbl := List.mem_append_right _ (List.mem_of_getElem? (i := 389) (by decide +kernel))
set_option maxRecDepth 20000 in
theorem k_390 : (Cond.static ({ cls := "StitchDesk$RunTeller", name := "greatestF", desc := "(LStitchDesk$Shape;)I" } : MethodName)) ∈ lw_tbl := List.mem_append_right _ (List.mem_of_getElem? (i := 390) (by decide +kernel))
set_option maxRecDepth 20000 in
theorem k_391 : (Cond.code ({ cls := "StitchDesk$RunTeller", name := "greatestF", desc := "(LStitchDesk$Shape;)I" } : MethodName) prog_9_method_9_code (1 : Nat) (Option.some ClassFile.FieldType.int)) ∈ lw_tbl := List.mem_append_right _ (List.mem_of_getElem? (i := 391) (by decide +kernel))
set_option maxRecDepth 20000 in
theorem k_392 : (Cond.methodLinkNest "StitchDesk$RunTeller" (100 : Nat) ({ cls := "StitchDesk$HatchLine", name := "lay", desc := "(LStitchDesk$Shape;I)V" } : MethodName) "StitchDesk") ∈ lw_tbl := List.mem_append_right _ (List.mem_of_getElem? (i := 392) (by decide +kernel))
set_option maxRecDepth 20000 in
theorem k_393 : (Cond.privateMethod ({ cls := "StitchDesk$HatchLine", name := "lay", desc := "(LStitchDesk$Shape;I)V" } : MethodName)) ∈ lw_tbl := List.mem_append_right _ (List.mem_of_getElem? (i := 393) (by decide +kernel))
set_option maxRecDepth 20000 in
theorem k_394 : (Cond.instanceMethod ({ cls := "StitchDesk$HatchLine", name := "lay", desc := "(LStitchDesk$Shape;I)V" } : MethodName)) ∈ lw_tbl := List.mem_append_right _ (List.mem_of_getElem? (i := 394) (by decide +kernel))
set_option maxRecDepth 20000 in
theorem k_395 : (Cond.code ({ cls := "StitchDesk$HatchLine", name := "lay", desc := "(LStitchDesk$Shape;I)V" } : MethodName) prog_2_method_4_code (7 : Nat) (Option.none : Option ClassFile.FieldType)) ∈ lw_tbl := List.mem_append_right _ (List.mem_of_getElem? (i := 395) (by decide +kernel))
set_option maxRecDepth 20000 in
theorem k_396 : (Cond.methodLink "StitchDesk$HatchLine" (39 : Nat) ({ cls := "StitchDesk$HatchLine", name := "aim", desc := "(II)V" } : MethodName)) ∈ lw_tbl := List.mem_append_right _ (List.mem_of_getElem? (i := 396) (by decide +kernel))
set_option maxRecDepth 20000 in
theorem k_397 : (Cond.privateMethod ({ cls := "StitchDesk$HatchLine", name := "aim", desc := "(II)V" } : MethodName)) ∈ lw_tbl := List.mem_append_right _ (List.mem_of_getElem? (i := 397) (by decide +kernel))
set_option maxRecDepth 20000 in
theorem k_398 : (Cond.instanceMethod ({ cls := "StitchDesk$HatchLine", name := "aim", desc := "(II)V" } : MethodName)) ∈ lw_tbl := List.mem_append_right _ (List.mem_of_getElem? (i := 398) (by decide +kernel))
set_option maxRecDepth 20000 in
theorem k_399 : (Cond.code ({ cls := "StitchDesk$HatchLine", name := "aim", desc := "(II)V" } : MethodName) prog_2_method_5_code (3 : Nat) (Option.none : Option ClassFile.FieldType)) ∈ lw_tbl := List.mem_append_right _ (List.mem_of_getElem? (i := 399) (by decide +kernel))
set_option maxRecDepth 20000 in
theorem k_400 : (Cond.fieldLink "StitchDesk$HatchLine" (99 : Nat) "StitchDesk$HatchLine" "X_STEPS" "[I") ∈ lw_tbl := List.mem_append_right _ (List.mem_of_getElem? (i := 400) (by decide +kernel))
set_option maxRecDepth 20000 in
theorem k_401 : (Cond.laysStatic "StitchDesk$HatchLine" "X_STEPS" "[I") ∈ lw_tbl := List.mem_append_right _ (List.mem_of_getElem? (i := 401) (by decide +kernel))
set_option maxRecDepth 20000 in
theorem k_402 : (Cond.fieldLink "StitchDesk$HatchLine" (102 : Nat) "StitchDesk$HatchLine" "Y_STEPS" "[I") ∈ lw_tbl := List.mem_append_right _ (List.mem_of_getElem? (i := 402) (by decide +kernel))
set_option maxRecDepth 20000 in
theorem k_403 : (Cond.laysStatic "StitchDesk$HatchLine" "Y_STEPS" "[I") ∈ lw_tbl := List.mem_append_right _ (List.mem_of_getElem? (i := 403) (by decide +kernel))
set_option maxRecDepth 20000 in
theorem k_404 : (Cond.methodLink "StitchDesk$HatchLine" (55 : Nat) ({ cls := "StitchDesk$HatchLine", name := "narrow", desc := "(IIII)V" } : MethodName)) ∈ lw_tbl := List.mem_append_right _ (List.mem_of_getElem? (i := 404) (by decide +kernel))
set_option maxRecDepth 20000 in
theorem k_405 : (Cond.privateMethod ({ cls := "StitchDesk$HatchLine", name := "narrow", desc := "(IIII)V" } : MethodName)) ∈ lw_tbl := List.mem_append_right _ (List.mem_of_getElem? (i := 405) (by decide +kernel))
set_option maxRecDepth 20000 in
theorem k_406 : (Cond.instanceMethod ({ cls := "StitchDesk$HatchLine", name := "narrow", desc := "(IIII)V" } : MethodName)) ∈ lw_tbl := List.mem_append_right _ (List.mem_of_getElem? (i := 406) (by decide +kernel))
set_option maxRecDepth 20000 in
theorem k_407 : (Cond.code ({ cls := "StitchDesk$HatchLine", name := "narrow", desc := "(IIII)V" } : MethodName) prog_2_method_7_code (5 : Nat) (Option.none : Option ClassFile.FieldType)) ∈ lw_tbl := List.mem_append_right _ (List.mem_of_getElem? (i := 407) (by decide +kernel))
set_option maxRecDepth 20000 in
theorem k_408 : (Cond.methodLink "StitchDesk$HatchLine" (123 : Nat) ({ cls := "StitchDesk$HatchLine", name := "empty", desc := "()V" } : MethodName)) ∈ lw_tbl := List.mem_append_right _ (List.mem_of_getElem? (i := 408) (by decide +kernel))
set_option maxRecDepth 20000 in
theorem k_409 : (Cond.privateMethod ({ cls := "StitchDesk$HatchLine", name := "empty", desc := "()V" } : MethodName)) ∈ lw_tbl := List.mem_append_right _ (List.mem_of_getElem? (i := 409) (by decide +kernel))
set_option maxRecDepth 20000 in
theorem k_410 : (Cond.instanceMethod ({ cls := "StitchDesk$HatchLine", name := "empty", desc := "()V" } : MethodName)) ∈ lw_tbl := List.mem_append_right _ (List.mem_of_getElem? (i := 410) (by decide +kernel))
set_option maxRecDepth 20000 in
theorem k_411 : (Cond.code ({ cls := "StitchDesk$HatchLine", name := "empty", desc := "()V" } : MethodName) prog_2_method_10_code (1 : Nat) (Option.none : Option ClassFile.FieldType)) ∈ lw_tbl := List.mem_append_right _ (List.mem_of_getElem? (i := 411) (by decide +kernel))
set_option maxRecDepth 20000 in
theorem k_412 : (Cond.methodLink "StitchDesk$HatchLine" (111 : Nat) ({ cls := "java/lang/Math", name := "max", desc := "(II)I" } : MethodName)) ∈ lw_tbl := List.mem_append_right _ (List.mem_of_getElem? (i := 412) (by decide +kernel))
set_option maxRecDepth 20000 in
theorem k_413 : (Cond.static ({ cls := "java/lang/Math", name := "max", desc := "(II)I" } : MethodName)) ∈ lw_tbl := List.mem_append_right _ (List.mem_of_getElem? (i := 413) (by decide +kernel))
set_option maxRecDepth 20000 in
theorem k_414 : (Cond.code ({ cls := "java/lang/Math", name := "max", desc := "(II)I" } : MethodName) prog_19_method_65_code (2 : Nat) (Option.some ClassFile.FieldType.int)) ∈ lw_tbl := List.mem_append_right _ (List.mem_of_getElem? (i := 414) (by decide +kernel))
set_option maxRecDepth 20000 in
theorem k_415 : (Cond.methodLink "StitchDesk$HatchLine" (105 : Nat) ({ cls := "java/lang/Math", name := "min", desc := "(II)I" } : MethodName)) ∈ lw_tbl := List.mem_append_right _ (List.mem_of_getElem? (i := 415) (by decide +kernel))
set_option maxRecDepth 20000 in
theorem k_416 : (Cond.static ({ cls := "java/lang/Math", name := "min", desc := "(II)I" } : MethodName)) ∈ lw_tbl := List.mem_append_right _ (List.mem_of_getElem? (i := 416) (by decide +kernel))
set_option maxRecDepth 20000 in
theorem k_417 : (Cond.code ({ cls := "java/lang/Math", name := "min", desc := "(II)I" } : MethodName) prog_19_method_69_code (2 : Nat) (Option.some ClassFile.FieldType.int)) ∈ lw_tbl := List.mem_append_right _ (List.mem_of_getElem? (i := 417) (by decide +kernel))
set_option maxRecDepth 20000 in
theorem k_418 : (Cond.methodLinkNest "StitchDesk$HatchLine" (83 : Nat) ({ cls := "StitchDesk$Ring", name := "next", desc := "(I)I" } : MethodName) "StitchDesk") ∈ lw_tbl := List.mem_append_right _ (List.mem_of_getElem? (i := 418) (by decide +kernel))
set_option maxRecDepth 20000 in
theorem k_419 : (Cond.privateMethod ({ cls := "StitchDesk$Ring", name := "next", desc := "(I)I" } : MethodName)) ∈ lw_tbl := List.mem_append_right _ (List.mem_of_getElem? (i := 419) (by decide +kernel))
set_option maxRecDepth 20000 in
theorem k_420 : (Cond.instanceMethod ({ cls := "StitchDesk$Ring", name := "next", desc := "(I)I" } : MethodName)) ∈ lw_tbl := List.mem_append_right _ (List.mem_of_getElem? (i := 420) (by decide +kernel))
set_option maxRecDepth 20000 in
theorem k_421 : (Cond.code ({ cls := "StitchDesk$Ring", name := "next", desc := "(I)I" } : MethodName) prog_7_method_4_code (2 : Nat) (Option.some ClassFile.FieldType.int)) ∈ lw_tbl := List.mem_append_right _ (List.mem_of_getElem? (i := 421) (by decide +kernel))
set_option maxRecDepth 20000 in
theorem k_422 : (Cond.methodLink "StitchDesk$HatchLine" (93 : Nat) ({ cls := "StitchDesk$HatchLine", name := "addEdge", desc := "(IIII)V" } : MethodName)) ∈ lw_tbl := List.mem_append_right _ (List.mem_of_getElem? (i := 422) (by decide +kernel))
set_option maxRecDepth 20000 in
theorem k_423 : (Cond.privateMethod ({ cls := "StitchDesk$HatchLine", name := "addEdge", desc := "(IIII)V" } : MethodName)) ∈ lw_tbl := List.mem_append_right _ (List.mem_of_getElem? (i := 423) (by decide +kernel))
set_option maxRecDepth 20000 in
theorem k_424 : (Cond.instanceMethod ({ cls := "StitchDesk$HatchLine", name := "addEdge", desc := "(IIII)V" } : MethodName)) ∈ lw_tbl := List.mem_append_right _ (List.mem_of_getElem? (i := 424) (by decide +kernel))
set_option maxRecDepth 20000 in
theorem k_425 : (Cond.code ({ cls := "StitchDesk$HatchLine", name := "addEdge", desc := "(IIII)V" } : MethodName) prog_2_method_6_code (9 : Nat) (Option.none : Option ClassFile.FieldType)) ∈ lw_tbl := List.mem_append_right _ (List.mem_of_getElem? (i := 425) (by decide +kernel))
set_option maxRecDepth 20000 in
theorem k_426 : (Cond.methodLink "StitchDesk$HatchLine" (114 : Nat) ({ cls := "StitchDesk$HatchLine", name := "narrowToZero", desc := "(II)V" } : MethodName)) ∈ lw_tbl := List.mem_append_right _ (List.mem_of_getElem? (i := 426) (by decide +kernel))
set_option maxRecDepth 20000 in
theorem k_427 : (Cond.privateMethod ({ cls := "StitchDesk$HatchLine", name := "narrowToZero", desc := "(II)V" } : MethodName)) ∈ lw_tbl := List.mem_append_right _ (List.mem_of_getElem? (i := 427) (by decide +kernel))
set_option maxRecDepth 20000 in
theorem k_428 : (Cond.instanceMethod ({ cls := "StitchDesk$HatchLine", name := "narrowToZero", desc := "(II)V" } : MethodName)) ∈ lw_tbl := List.mem_append_right _ (List.mem_of_getElem? (i := 428) (by decide +kernel))
set_option maxRecDepth 20000 in
theorem k_429 : (Cond.code ({ cls := "StitchDesk$HatchLine", name := "narrowToZero", desc := "(II)V" } : MethodName) prog_2_method_8_code (3 : Nat) (Option.none : Option ClassFile.FieldType)) ∈ lw_tbl := List.mem_append_right _ (List.mem_of_getElem? (i := 429) (by decide +kernel))
set_option maxRecDepth 20000 in
theorem k_430 : (Cond.methodLink "StitchDesk$HatchLine" (117 : Nat) ({ cls := "StitchDesk$HatchLine", name := "addSpan", desc := "(II)V" } : MethodName)) ∈ lw_tbl := List.mem_append_right _ (List.mem_of_getElem? (i := 430) (by decide +kernel))
set_option maxRecDepth 20000 in
theorem k_431 : (Cond.privateMethod ({ cls := "StitchDesk$HatchLine", name := "addSpan", desc := "(II)V" } : MethodName)) ∈ lw_tbl := List.mem_append_right _ (List.mem_of_getElem? (i := 431) (by decide +kernel))
set_option maxRecDepth 20000 in
theorem k_432 : (Cond.instanceMethod ({ cls := "StitchDesk$HatchLine", name := "addSpan", desc := "(II)V" } : MethodName)) ∈ lw_tbl := List.mem_append_right _ (List.mem_of_getElem? (i := 432) (by decide +kernel))
set_option maxRecDepth 20000 in
theorem k_433 : (Cond.code ({ cls := "StitchDesk$HatchLine", name := "addSpan", desc := "(II)V" } : MethodName) prog_2_method_11_code (3 : Nat) (Option.none : Option ClassFile.FieldType)) ∈ lw_tbl := List.mem_append_right _ (List.mem_of_getElem? (i := 433) (by decide +kernel))
set_option maxRecDepth 20000 in
theorem k_434 : (Cond.methodLink "StitchDesk$HatchLine" (129 : Nat) ({ cls := "StitchDesk$HatchLine", name := "insert", desc := "(I)V" } : MethodName)) ∈ lw_tbl := List.mem_append_right _ (List.mem_of_getElem? (i := 434) (by decide +kernel))
set_option maxRecDepth 20000 in
theorem k_435 : (Cond.privateMethod ({ cls := "StitchDesk$HatchLine", name := "insert", desc := "(I)V" } : MethodName)) ∈ lw_tbl := List.mem_append_right _ (List.mem_of_getElem? (i := 435) (by decide +kernel))
set_option maxRecDepth 20000 in
theorem k_436 : (Cond.instanceMethod ({ cls := "StitchDesk$HatchLine", name := "insert", desc := "(I)V" } : MethodName)) ∈ lw_tbl := List.mem_append_right _ (List.mem_of_getElem? (i := 436) (by decide +kernel))
set_option maxRecDepth 20000 in
theorem k_437 : (Cond.code ({ cls := "StitchDesk$HatchLine", name := "insert", desc := "(I)V" } : MethodName) prog_2_method_12_code (3 : Nat) (Option.none : Option ClassFile.FieldType)) ∈ lw_tbl := List.mem_append_right _ (List.mem_of_getElem? (i := 437) (by decide +kernel))
set_option maxRecDepth 20000 in
theorem k_438 : (Cond.methodLink "StitchDesk$HatchLine" (120 : Nat) ({ cls := "StitchDesk$HatchLine", name := "narrowToAboveZero", desc := "(II)V" } : MethodName)) ∈ lw_tbl := List.mem_append_right _ (List.mem_of_getElem? (i := 438) (by decide +kernel))
set_option maxRecDepth 20000 in
theorem k_439 : (Cond.privateMethod ({ cls := "StitchDesk$HatchLine", name := "narrowToAboveZero", desc := "(II)V" } : MethodName)) ∈ lw_tbl := List.mem_append_right _ (List.mem_of_getElem? (i := 439) (by decide +kernel))
set_option maxRecDepth 20000 in
theorem k_440 : (Cond.instanceMethod ({ cls := "StitchDesk$HatchLine", name := "narrowToAboveZero", desc := "(II)V" } : MethodName)) ∈ lw_tbl := List.mem_append_right _ (List.mem_of_getElem? (i := 440) (by decide +kernel))
set_option maxRecDepth 20000 in
theorem k_441 : (Cond.code ({ cls := "StitchDesk$HatchLine", name := "narrowToAboveZero", desc := "(II)V" } : MethodName) prog_2_method_9_code (3 : Nat) (Option.none : Option ClassFile.FieldType)) ∈ lw_tbl := List.mem_append_right _ (List.mem_of_getElem? (i := 441) (by decide +kernel))
set_option maxRecDepth 20000 in
theorem k_442 : (Cond.methodLink "StitchDesk$HatchLine" (126 : Nat) ({ cls := "java/lang/Math", name := "floorDiv", desc := "(II)I" } : MethodName)) ∈ lw_tbl := List.mem_append_right _ (List.mem_of_getElem? (i := 442) (by decide +kernel))
set_option maxRecDepth 20000 in
theorem k_443 : (Cond.methodLink "StitchDesk$HatchLine" (96 : Nat) ({ cls := "StitchDesk$HatchLine", name := "gatherParts", desc := "()V" } : MethodName)) ∈ lw_tbl := List.mem_append_right _ (List.mem_of_getElem? (i := 443) (by decide +kernel))
set_option maxRecDepth 20000 in
theorem k_444 : (Cond.privateMethod ({ cls := "StitchDesk$HatchLine", name := "gatherParts", desc := "()V" } : MethodName)) ∈ lw_tbl := List.mem_append_right _ (List.mem_of_getElem? (i := 444) (by decide +kernel))
set_option maxRecDepth 20000 in
theorem k_445 : (Cond.instanceMethod ({ cls := "StitchDesk$HatchLine", name := "gatherParts", desc := "()V" } : MethodName)) ∈ lw_tbl := List.mem_append_right _ (List.mem_of_getElem? (i := 445) (by decide +kernel))
set_option maxRecDepth 20000 in
theorem k_446 : (Cond.code ({ cls := "StitchDesk$HatchLine", name := "gatherParts", desc := "()V" } : MethodName) prog_2_method_13_code (8 : Nat) (Option.none : Option ClassFile.FieldType)) ∈ lw_tbl := List.mem_append_right _ (List.mem_of_getElem? (i := 446) (by decide +kernel))
set_option maxRecDepth 20000 in
theorem k_447 : (Cond.methodLink "StitchDesk$HatchLine" (136 : Nat) ({ cls := "StitchDesk$HatchLine", name := "addPart", desc := "(II)V" } : MethodName)) ∈ lw_tbl := List.mem_append_right _ (List.mem_of_getElem? (i := 447) (by decide +kernel))
set_option maxRecDepth 20000 in
theorem k_448 : (Cond.privateMethod ({ cls := "StitchDesk$HatchLine", name := "addPart", desc := "(II)V" } : MethodName)) ∈ lw_tbl := List.mem_append_right _ (List.mem_of_getElem? (i := 448) (by decide +kernel))
set_option maxRecDepth 20000 in
theorem k_449 : (Cond.instanceMethod ({ cls := "StitchDesk$HatchLine", name := "addPart", desc := "(II)V" } : MethodName)) ∈ lw_tbl := List.mem_append_right _ (List.mem_of_getElem? (i := 449) (by decide +kernel))
end
section
set_option maxRecDepth 20000 in
theorem k_450 : (Cond.code ({ cls := "StitchDesk$HatchLine", name := "addPart", desc := "(II)V" } : MethodName) prog_2_method_14_code (3 : Nat) (Option.none : Option ClassFile.FieldType)) ∈ lw_tbl := List.mem_append_right _ (List.mem_of_getElem? (i := 450) (by decide +kernel))
set_option maxRecDepth 20000 in
theorem k_451 : (Cond.interfaceEntry "StitchDesk$RunTeller" (43 : Nat)) ∈ lw_tbl := List.mem_append_right _ (List.mem_of_getElem? (i := 451) (by decide +kernel))
set_option maxRecDepth 20000 in
theorem k_452 : (Cond.methodLink "StitchDesk$RunTeller" (43 : Nat) ({ cls := "StitchDesk$RunTaker", name := "beginRun", desc := "()V" } : MethodName)) ∈ lw_tbl := List.mem_append_right _ (List.mem_of_getElem? (i := 452) (by decide +kernel))
set_option maxRecDepth 20000 in
theorem k_453 : (Cond.interfaceMethod "StitchDesk$RunTaker" "StitchDesk$RunTaker" "beginRun" "()V") ∈ lw_tbl := List.mem_append_right _ (List.mem_of_getElem? (i := 453) (by decide +kernel))
set_option maxRecDepth 20000 in
theorem k_454 : (Cond.declares ({ cls := "StitchDesk$RunTaker", name := "beginRun", desc := "()V" } : MethodName)) ∈ lw_tbl := List.mem_append_right _ (List.mem_of_getElem? (i := 454) (by decide +kernel))
set_option maxRecDepth 20000 in
theorem k_455 : (Cond.castable "StitchDesk$PathMaker" "StitchDesk$RunTaker") ∈ lw_tbl := List.mem_append_right _ (List.mem_of_getElem? (i := 455) (by decide +kernel))
set_option maxRecDepth 20000 in
theorem k_456 : (Cond.selects "StitchDesk$PathMaker" ({ cls := "StitchDesk$RunTaker", name := "beginRun", desc := "()V" } : MethodName) ({ cls := "StitchDesk$PathMaker", name := "beginRun", desc := "()V" } : MethodName)) ∈ lw_tbl := List.mem_append_right _ (List.mem_of_getElem? (i := 456) (by decide +kernel))
set_option maxRecDepth 20000 in
theorem k_457 : (Cond.unhidden "StitchDesk$PathMaker" "beginRun" "()V") ∈ lw_tbl := List.mem_append_right _ (List.mem_of_getElem? (i := 457) (by decide +kernel))
set_option maxRecDepth 20000 in
theorem k_458 : (Cond.instanceMethod ({ cls := "StitchDesk$PathMaker", name := "beginRun", desc := "()V" } : MethodName)) ∈ lw_tbl := List.mem_append_right _ (List.mem_of_getElem? (i := 458) (by decide +kernel))
set_option maxRecDepth 20000 in
theorem k_459 : (Cond.publicMethod ({ cls := "StitchDesk$PathMaker", name := "beginRun", desc := "()V" } : MethodName)) ∈ lw_tbl := List.mem_append_right _ (List.mem_of_getElem? (i := 459) (by decide +kernel))
set_option maxRecDepth 20000 in
theorem k_460 : (Cond.code ({ cls := "StitchDesk$PathMaker", name := "beginRun", desc := "()V" } : MethodName) prog_5_method_4_code (1 : Nat) (Option.none : Option ClassFile.FieldType)) ∈ lw_tbl := List.mem_append_right _ (List.mem_of_getElem? (i := 460) (by decide +kernel))
set_option maxRecDepth 20000 in
theorem k_461 : (Cond.castable "StitchDesk$Tally" "StitchDesk$RunTaker") ∈ lw_tbl := List.mem_append_right _ (List.mem_of_getElem? (i := 461) (by decide +kernel))
set_option maxRecDepth 20000 in
theorem k_462 : (Cond.selects "StitchDesk$Tally" ({ cls := "StitchDesk$RunTaker", name := "beginRun", desc := "()V" } : MethodName) ({ cls := "StitchDesk$Tally", name := "beginRun", desc := "()V" } : MethodName)) ∈ lw_tbl := List.mem_append_right _ (List.mem_of_getElem? (i := 462) (by decide +kernel))
set_option maxRecDepth 20000 in
theorem k_463 : (Cond.unhidden "StitchDesk$Tally" "beginRun" "()V") ∈ lw_tbl := List.mem_append_right _ (List.mem_of_getElem? (i := 463) (by decide +kernel))
set_option maxRecDepth 20000 in
theorem k_464 : (Cond.instanceMethod ({ cls := "StitchDesk$Tally", name := "beginRun", desc := "()V" } : MethodName)) ∈ lw_tbl := List.mem_append_right _ (List.mem_of_getElem? (i := 464) (by decide +kernel))
set_option maxRecDepth 20000 in
theorem k_465 : (Cond.publicMethod ({ cls := "StitchDesk$Tally", name := "beginRun", desc := "()V" } : MethodName)) ∈ lw_tbl := List.mem_append_right _ (List.mem_of_getElem? (i := 465) (by decide +kernel))
set_option maxRecDepth 20000 in
theorem k_466 : (Cond.code ({ cls := "StitchDesk$Tally", name := "beginRun", desc := "()V" } : MethodName) prog_11_method_3_code (1 : Nat) (Option.none : Option ClassFile.FieldType)) ∈ lw_tbl := List.mem_append_right _ (List.mem_of_getElem? (i := 466) (by decide +kernel))
set_option maxRecDepth 20000 in
theorem k_467 : (Cond.methodLinkNest "StitchDesk$RunTeller" (113 : Nat) ({ cls := "StitchDesk$HatchLine", name := "xAt", desc := "(I)I" } : MethodName) "StitchDesk") ∈ lw_tbl := List.mem_append_right _ (List.mem_of_getElem? (i := 467) (by decide +kernel))
set_option maxRecDepth 20000 in
theorem k_468 : (Cond.privateMethod ({ cls := "StitchDesk$HatchLine", name := "xAt", desc := "(I)I" } : MethodName)) ∈ lw_tbl := List.mem_append_right _ (List.mem_of_getElem? (i := 468) (by decide +kernel))
set_option maxRecDepth 20000 in
theorem k_469 : (Cond.instanceMethod ({ cls := "StitchDesk$HatchLine", name := "xAt", desc := "(I)I" } : MethodName)) ∈ lw_tbl := List.mem_append_right _ (List.mem_of_getElem? (i := 469) (by decide +kernel))
set_option maxRecDepth 20000 in
theorem k_470 : (Cond.code ({ cls := "StitchDesk$HatchLine", name := "xAt", desc := "(I)I" } : MethodName) prog_2_method_2_code (2 : Nat) (Option.some ClassFile.FieldType.int)) ∈ lw_tbl := List.mem_append_right _ (List.mem_of_getElem? (i := 470) (by decide +kernel))
set_option maxRecDepth 20000 in
theorem k_471 : (Cond.methodLinkNest "StitchDesk$RunTeller" (116 : Nat) ({ cls := "StitchDesk$HatchLine", name := "yAt", desc := "(I)I" } : MethodName) "StitchDesk") ∈ lw_tbl := List.mem_append_right _ (List.mem_of_getElem? (i := 471) (by decide +kernel))
set_option maxRecDepth 20000 in
theorem k_472 : (Cond.privateMethod ({ cls := "StitchDesk$HatchLine", name := "yAt", desc := "(I)I" } : MethodName)) ∈ lw_tbl := List.mem_append_right _ (List.mem_of_getElem? (i := 472) (by decide +kernel))
set_option maxRecDepth 20000 in
theorem k_473 : (Cond.instanceMethod ({ cls := "StitchDesk$HatchLine", name := "yAt", desc := "(I)I" } : MethodName)) ∈ lw_tbl := List.mem_append_right _ (List.mem_of_getElem? (i := 473) (by decide +kernel))
set_option maxRecDepth 20000 in
theorem k_474 : (Cond.code ({ cls := "StitchDesk$HatchLine", name := "yAt", desc := "(I)I" } : MethodName) prog_2_method_3_code (2 : Nat) (Option.some ClassFile.FieldType.int)) ∈ lw_tbl := List.mem_append_right _ (List.mem_of_getElem? (i := 474) (by decide +kernel))
set_option maxRecDepth 20000 in
theorem k_475 : (Cond.interfaceEntry "StitchDesk$RunTeller" (55 : Nat)) ∈ lw_tbl := List.mem_append_right _ (List.mem_of_getElem? (i := 475) (by decide +kernel))
set_option maxRecDepth 20000 in
theorem k_476 : (Cond.methodLink "StitchDesk$RunTeller" (55 : Nat) ({ cls := "StitchDesk$RunTaker", name := "take", desc := "(II)V" } : MethodName)) ∈ lw_tbl := List.mem_append_right _ (List.mem_of_getElem? (i := 476) (by decide +kernel))
set_option maxRecDepth 20000 in
theorem k_477 : (Cond.interfaceMethod "StitchDesk$RunTaker" "StitchDesk$RunTaker" "take" "(II)V") ∈ lw_tbl := List.mem_append_right _ (List.mem_of_getElem? (i := 477) (by decide +kernel))
set_option maxRecDepth 20000 in
theorem k_478 : (Cond.declares ({ cls := "StitchDesk$RunTaker", name := "take", desc := "(II)V" } : MethodName)) ∈ lw_tbl := List.mem_append_right _ (List.mem_of_getElem? (i := 478) (by decide +kernel))
set_option maxRecDepth 20000 in
theorem k_479 : (Cond.selects "StitchDesk$PathMaker" ({ cls := "StitchDesk$RunTaker", name := "take", desc := "(II)V" } : MethodName) ({ cls := "StitchDesk$PathMaker", name := "take", desc := "(II)V" } : MethodName)) ∈ lw_tbl := List.mem_append_right _ (List.mem_of_getElem? (i := 479) (by decide +kernel))
set_option maxRecDepth 20000 in
theorem k_480 : (Cond.unhidden "StitchDesk$PathMaker" "take" "(II)V") ∈ lw_tbl := List.mem_append_right _ (List.mem_of_getElem? (i := 480) (by decide +kernel))
set_option maxRecDepth 20000 in
theorem k_481 : (Cond.instanceMethod ({ cls := "StitchDesk$PathMaker", name := "take", desc := "(II)V" } : MethodName)) ∈ lw_tbl := List.mem_append_right _ (List.mem_of_getElem? (i := 481) (by decide +kernel))
set_option maxRecDepth 20000 in
theorem k_482 : (Cond.publicMethod ({ cls := "StitchDesk$PathMaker", name := "take", desc := "(II)V" } : MethodName)) ∈ lw_tbl := List.mem_append_right _ (List.mem_of_getElem? (i := 482) (by decide +kernel))
set_option maxRecDepth 20000 in
theorem k_483 : (Cond.code ({ cls := "StitchDesk$PathMaker", name := "take", desc := "(II)V" } : MethodName) prog_5_method_5_code (3 : Nat) (Option.none : Option ClassFile.FieldType)) ∈ lw_tbl := List.mem_append_right _ (List.mem_of_getElem? (i := 483) (by decide +kernel))
set_option maxRecDepth 20000 in
theorem k_484 : (Cond.methodLink "StitchDesk$PathMaker" (45 : Nat) ({ cls := "StitchDesk$PathMaker", name := "move", desc := "(III)V" } : MethodName)) ∈ lw_tbl := List.mem_append_right _ (List.mem_of_getElem? (i := 484) (by decide +kernel))
set_option maxRecDepth 20000 in
theorem k_485 : (Cond.privateMethod ({ cls := "StitchDesk$PathMaker", name := "move", desc := "(III)V" } : MethodName)) ∈ lw_tbl := List.mem_append_right _ (List.mem_of_getElem? (i := 485) (by decide +kernel))
set_option maxRecDepth 20000 in
theorem k_486 : (Cond.instanceMethod ({ cls := "StitchDesk$PathMaker", name := "move", desc := "(III)V" } : MethodName)) ∈ lw_tbl := List.mem_append_right _ (List.mem_of_getElem? (i := 486) (by decide +kernel))
set_option maxRecDepth 20000 in
theorem k_487 : (Cond.code ({ cls := "StitchDesk$PathMaker", name := "move", desc := "(III)V" } : MethodName) prog_5_method_8_code (10 : Nat) (Option.none : Option ClassFile.FieldType)) ∈ lw_tbl := List.mem_append_right _ (List.mem_of_getElem? (i := 487) (by decide +kernel))
set_option maxRecDepth 20000 in
theorem k_488 : (Cond.methodLink "StitchDesk$PathMaker" (78 : Nat) ({ cls := "StitchDesk$PathMaker", name := "stepsTo", desc := "(II)I" } : MethodName)) ∈ lw_tbl := List.mem_append_right _ (List.mem_of_getElem? (i := 488) (by decide +kernel))
set_option maxRecDepth 20000 in
theorem k_489 : (Cond.privateMethod ({ cls := "StitchDesk$PathMaker", name := "stepsTo", desc := "(II)I" } : MethodName)) ∈ lw_tbl := List.mem_append_right _ (List.mem_of_getElem? (i := 489) (by decide +kernel))
set_option maxRecDepth 20000 in
theorem k_490 : (Cond.instanceMethod ({ cls := "StitchDesk$PathMaker", name := "stepsTo", desc := "(II)I" } : MethodName)) ∈ lw_tbl := List.mem_append_right _ (List.mem_of_getElem? (i := 490) (by decide +kernel))
set_option maxRecDepth 20000 in
theorem k_491 : (Cond.code ({ cls := "StitchDesk$PathMaker", name := "stepsTo", desc := "(II)I" } : MethodName) prog_5_method_10_code (4 : Nat) (Option.some ClassFile.FieldType.int)) ∈ lw_tbl := List.mem_append_right _ (List.mem_of_getElem? (i := 491) (by decide +kernel))
set_option maxRecDepth 20000 in
theorem k_492 : (Cond.methodLink "StitchDesk$PathMaker" (68 : Nat) ({ cls := "java/lang/Math", name := "abs", desc := "(I)I" } : MethodName)) ∈ lw_tbl := List.mem_append_right _ (List.mem_of_getElem? (i := 492) (by decide +kernel))
set_option maxRecDepth 20000 in
theorem k_493 : (Cond.static ({ cls := "java/lang/Math", name := "abs", desc := "(I)I" } : MethodName)) ∈ lw_tbl := List.mem_append_right _ (List.mem_of_getElem? (i := 493) (by decide +kernel))
set_option maxRecDepth 20000 in
theorem k_494 : (Cond.code ({ cls := "java/lang/Math", name := "abs", desc := "(I)I" } : MethodName) prog_19_method_59_code (1 : Nat) (Option.some ClassFile.FieldType.int)) ∈ lw_tbl := List.mem_append_right _ (List.mem_of_getElem? (i := 494) (by decide +kernel))
set_option maxRecDepth 20000 in
theorem k_495 : (Cond.methodLink "StitchDesk$PathMaker" (74 : Nat) ({ cls := "java/lang/Math", name := "max", desc := "(II)I" } : MethodName)) ∈ lw_tbl := List.mem_append_right _ (List.mem_of_getElem? (i := 495) (by decide +kernel))
set_option maxRecDepth 20000 in
theorem k_496 : (Cond.methodLinkNest "StitchDesk$PathMaker" (81 : Nat) ({ cls := "StitchDesk", name := "along", desc := "(IIII)I" } : MethodName) "StitchDesk") ∈ lw_tbl := List.mem_append_right _ (List.mem_of_getElem? (i := 496) (by decide +kernel))
set_option maxRecDepth 20000 in
theorem k_497 : (Cond.static ({ cls := "StitchDesk", name := "along", desc := "(IIII)I" } : MethodName)) ∈ lw_tbl := List.mem_append_right _ (List.mem_of_getElem? (i := 497) (by decide +kernel))
set_option maxRecDepth 20000 in
theorem k_498 : (Cond.code ({ cls := "StitchDesk", name := "along", desc := "(IIII)I" } : MethodName) prog_1_method_23_code (4 : Nat) (Option.some ClassFile.FieldType.int)) ∈ lw_tbl := List.mem_append_right _ (List.mem_of_getElem? (i := 498) (by decide +kernel))
set_option maxRecDepth 20000 in
theorem k_499 : (Cond.methodLink "StitchDesk" (256 : Nat) ({ cls := "java/lang/Math", name := "floorDiv", desc := "(II)I" } : MethodName)) ∈ lw_tbl := List.mem_append_right _ (List.mem_of_getElem? (i := 499) (by decide +kernel))
set_option maxRecDepth 20000 in
theorem k_500 : (Cond.methodLinkNest "StitchDesk$PathMaker" (65 : Nat) ({ cls := "StitchDesk$Path", name := "add", desc := "(III)V" } : MethodName) "StitchDesk") ∈ lw_tbl := List.mem_append_right _ (List.mem_of_getElem? (i := 500) (by decide +kernel))
set_option maxRecDepth 20000 in
theorem k_501 : (Cond.privateMethod ({ cls := "StitchDesk$Path", name := "add", desc := "(III)V" } : MethodName)) ∈ lw_tbl := List.mem_append_right _ (List.mem_of_getElem? (i := 501) (by decide +kernel))
set_option maxRecDepth 20000 in
theorem k_502 : (Cond.instanceMethod ({ cls := "StitchDesk$Path", name := "add", desc := "(III)V" } : MethodName)) ∈ lw_tbl := List.mem_append_right _ (List.mem_of_getElem? (i := 502) (by decide +kernel))
set_option maxRecDepth 20000 in
theorem k_503 : (Cond.code ({ cls := "StitchDesk$Path", name := "add", desc := "(III)V" } : MethodName) prog_4_method_3_code (4 : Nat) (Option.none : Option ClassFile.FieldType)) ∈ lw_tbl := List.mem_append_right _ (List.mem_of_getElem? (i := 503) (by decide +kernel))
set_option maxRecDepth 20000 in
theorem k_504 : (Cond.methodLink "StitchDesk$PathMaker" (49 : Nat) ({ cls := "StitchDesk$PathMaker", name := "changeThread", desc := "()V" } : MethodName)) ∈ lw_tbl := List.mem_append_right _ (List.mem_of_getElem? (i := 504) (by decide +kernel))
set_option maxRecDepth 20000 in
theorem k_505 : (Cond.privateMethod ({ cls := "StitchDesk$PathMaker", name := "changeThread", desc := "()V" } : MethodName)) ∈ lw_tbl := List.mem_append_right _ (List.mem_of_getElem? (i := 505) (by decide +kernel))
set_option maxRecDepth 20000 in
theorem k_506 : (Cond.instanceMethod ({ cls := "StitchDesk$PathMaker", name := "changeThread", desc := "()V" } : MethodName)) ∈ lw_tbl := List.mem_append_right _ (List.mem_of_getElem? (i := 506) (by decide +kernel))
set_option maxRecDepth 20000 in
theorem k_507 : (Cond.code ({ cls := "StitchDesk$PathMaker", name := "changeThread", desc := "()V" } : MethodName) prog_5_method_6_code (1 : Nat) (Option.none : Option ClassFile.FieldType)) ∈ lw_tbl := List.mem_append_right _ (List.mem_of_getElem? (i := 507) (by decide +kernel))
set_option maxRecDepth 20000 in
theorem k_508 : (Cond.methodLink "StitchDesk$PathMaker" (52 : Nat) ({ cls := "StitchDesk$PathMaker", name := "leap", desc := "(II)V" } : MethodName)) ∈ lw_tbl := List.mem_append_right _ (List.mem_of_getElem? (i := 508) (by decide +kernel))
set_option maxRecDepth 20000 in
theorem k_509 : (Cond.privateMethod ({ cls := "StitchDesk$PathMaker", name := "leap", desc := "(II)V" } : MethodName)) ∈ lw_tbl := List.mem_append_right _ (List.mem_of_getElem? (i := 509) (by decide +kernel))
set_option maxRecDepth 20000 in
theorem k_510 : (Cond.instanceMethod ({ cls := "StitchDesk$PathMaker", name := "leap", desc := "(II)V" } : MethodName)) ∈ lw_tbl := List.mem_append_right _ (List.mem_of_getElem? (i := 510) (by decide +kernel))
set_option maxRecDepth 20000 in
theorem k_511 : (Cond.code ({ cls := "StitchDesk$PathMaker", name := "leap", desc := "(II)V" } : MethodName) prog_5_method_7_code (3 : Nat) (Option.none : Option ClassFile.FieldType)) ∈ lw_tbl := List.mem_append_right _ (List.mem_of_getElem? (i := 511) (by decide +kernel))
set_option maxRecDepth 20000 in
theorem k_512 : (Cond.methodLink "StitchDesk$PathMaker" (56 : Nat) ({ cls := "StitchDesk$PathMaker", name := "staysInShape", desc := "(II)Z" } : MethodName)) ∈ lw_tbl := List.mem_append_right _ (List.mem_of_getElem? (i := 512) (by decide +kernel))
set_option maxRecDepth 20000 in
theorem k_513 : (Cond.privateMethod ({ cls := "StitchDesk$PathMaker", name := "staysInShape", desc := "(II)Z" } : MethodName)) ∈ lw_tbl := List.mem_append_right _ (List.mem_of_getElem? (i := 513) (by decide +kernel))
set_option maxRecDepth 20000 in
theorem k_514 : (Cond.instanceMethod ({ cls := "StitchDesk$PathMaker", name := "staysInShape", desc := "(II)Z" } : MethodName)) ∈ lw_tbl := List.mem_append_right _ (List.mem_of_getElem? (i := 514) (by decide +kernel))
set_option maxRecDepth 20000 in
theorem k_515 : (Cond.code ({ cls := "StitchDesk$PathMaker", name := "staysInShape", desc := "(II)Z" } : MethodName) prog_5_method_9_code (5 : Nat) (Option.some ClassFile.FieldType.boolean)) ∈ lw_tbl := List.mem_append_right _ (List.mem_of_getElem? (i := 515) (by decide +kernel))
set_option maxRecDepth 20000 in
theorem k_516 : (Cond.methodLinkNest "StitchDesk$PathMaker" (85 : Nat) ({ cls := "StitchDesk$Shape", name := "has", desc := "(II)Z" } : MethodName) "StitchDesk") ∈ lw_tbl := List.mem_append_right _ (List.mem_of_getElem? (i := 516) (by decide +kernel))
set_option maxRecDepth 20000 in
theorem k_517 : (Cond.privateMethod ({ cls := "StitchDesk$Shape", name := "has", desc := "(II)Z" } : MethodName)) ∈ lw_tbl := List.mem_append_right _ (List.mem_of_getElem? (i := 517) (by decide +kernel))
set_option maxRecDepth 20000 in
theorem k_518 : (Cond.instanceMethod ({ cls := "StitchDesk$Shape", name := "has", desc := "(II)Z" } : MethodName)) ∈ lw_tbl := List.mem_append_right _ (List.mem_of_getElem? (i := 518) (by decide +kernel))
set_option maxRecDepth 20000 in
theorem k_519 : (Cond.code ({ cls := "StitchDesk$Shape", name := "has", desc := "(II)Z" } : MethodName) prog_10_method_6_code (6 : Nat) (Option.some ClassFile.FieldType.boolean)) ∈ lw_tbl := List.mem_append_right _ (List.mem_of_getElem? (i := 519) (by decide +kernel))
set_option maxRecDepth 20000 in
theorem k_520 : (Cond.methodLinkNest "StitchDesk$Shape" (88 : Nat) ({ cls := "StitchDesk$Ring", name := "sideOf", desc := "(II)I" } : MethodName) "StitchDesk") ∈ lw_tbl := List.mem_append_right _ (List.mem_of_getElem? (i := 520) (by decide +kernel))
set_option maxRecDepth 20000 in
theorem k_521 : (Cond.privateMethod ({ cls := "StitchDesk$Ring", name := "sideOf", desc := "(II)I" } : MethodName)) ∈ lw_tbl := List.mem_append_right _ (List.mem_of_getElem? (i := 521) (by decide +kernel))
set_option maxRecDepth 20000 in
theorem k_522 : (Cond.instanceMethod ({ cls := "StitchDesk$Ring", name := "sideOf", desc := "(II)I" } : MethodName)) ∈ lw_tbl := List.mem_append_right _ (List.mem_of_getElem? (i := 522) (by decide +kernel))
set_option maxRecDepth 20000 in
theorem k_523 : (Cond.code ({ cls := "StitchDesk$Ring", name := "sideOf", desc := "(II)I" } : MethodName) prog_7_method_6_code (12 : Nat) (Option.some ClassFile.FieldType.int)) ∈ lw_tbl := List.mem_append_right _ (List.mem_of_getElem? (i := 523) (by decide +kernel))
set_option maxRecDepth 20000 in
theorem k_524 : (Cond.selects "StitchDesk$Tally" ({ cls := "StitchDesk$RunTaker", name := "take", desc := "(II)V" } : MethodName) ({ cls := "StitchDesk$Tally", name := "take", desc := "(II)V" } : MethodName)) ∈ lw_tbl := List.mem_append_right _ (List.mem_of_getElem? (i := 524) (by decide +kernel))
set_option maxRecDepth 20000 in
theorem k_525 : (Cond.unhidden "StitchDesk$Tally" "take" "(II)V") ∈ lw_tbl := List.mem_append_right _ (List.mem_of_getElem? (i := 525) (by decide +kernel))
set_option maxRecDepth 20000 in
theorem k_526 : (Cond.instanceMethod ({ cls := "StitchDesk$Tally", name := "take", desc := "(II)V" } : MethodName)) ∈ lw_tbl := List.mem_append_right _ (List.mem_of_getElem? (i := 526) (by decide +kernel))
set_option maxRecDepth 20000 in
theorem k_527 : (Cond.publicMethod ({ cls := "StitchDesk$Tally", name := "take", desc := "(II)V" } : MethodName)) ∈ lw_tbl := List.mem_append_right _ (List.mem_of_getElem? (i := 527) (by decide +kernel))
set_option maxRecDepth 20000 in
theorem k_528 : (Cond.code ({ cls := "StitchDesk$Tally", name := "take", desc := "(II)V" } : MethodName) prog_11_method_4_code (3 : Nat) (Option.none : Option ClassFile.FieldType)) ∈ lw_tbl := List.mem_append_right _ (List.mem_of_getElem? (i := 528) (by decide +kernel))
set_option maxRecDepth 20000 in
theorem k_529 : (Cond.methodLink "StitchDesk$RunTeller" (28 : Nat) ({ cls := "StitchDesk$RunTeller", name := "tellSatin", desc := "(LStitchDesk$Shape;LStitchDesk$RunTaker;)V" } : MethodName)) ∈ lw_tbl := List.mem_append_right _ (List.mem_of_getElem? (i := 529) (by decide +kernel))
set_option maxRecDepth 20000 in
theorem k_530 : (Cond.privateMethod ({ cls := "StitchDesk$RunTeller", name := "tellSatin", desc := "(LStitchDesk$Shape;LStitchDesk$RunTaker;)V" } : MethodName)) ∈ lw_tbl := List.mem_append_right _ (List.mem_of_getElem? (i := 530) (by decide +kernel))
set_option maxRecDepth 20000 in
theorem k_531 : (Cond.instanceMethod ({ cls := "StitchDesk$RunTeller", name := "tellSatin", desc := "(LStitchDesk$Shape;LStitchDesk$RunTaker;)V" } : MethodName)) ∈ lw_tbl := List.mem_append_right _ (List.mem_of_getElem? (i := 531) (by decide +kernel))
set_option maxRecDepth 20000 in
theorem k_532 : (Cond.code ({ cls := "StitchDesk$RunTeller", name := "tellSatin", desc := "(LStitchDesk$Shape;LStitchDesk$RunTaker;)V" } : MethodName) prog_9_method_4_code (10 : Nat) (Option.none : Option ClassFile.FieldType)) ∈ lw_tbl := List.mem_append_right _ (List.mem_of_getElem? (i := 532) (by decide +kernel))
set_option maxRecDepth 20000 in
theorem k_533 : (Cond.methodLink "StitchDesk$RunTeller" (62 : Nat) ({ cls := "java/lang/Math", name := "min", desc := "(II)I" } : MethodName)) ∈ lw_tbl := List.mem_append_right _ (List.mem_of_getElem? (i := 533) (by decide +kernel))
set_option maxRecDepth 20000 in
theorem k_534 : (Cond.methodLink "StitchDesk$RunTeller" (68 : Nat) ({ cls := "StitchDesk$RunTeller", name := "reach", desc := "(LStitchDesk$Ring;I)I" } : MethodName)) ∈ lw_tbl := List.mem_append_right _ (List.mem_of_getElem? (i := 534) (by decide +kernel))
set_option maxRecDepth 20000 in
theorem k_535 : (Cond.static ({ cls := "StitchDesk$RunTeller", name := "reach", desc := "(LStitchDesk$Ring;I)I" } : MethodName)) ∈ lw_tbl := List.mem_append_right _ (List.mem_of_getElem? (i := 535) (by decide +kernel))
set_option maxRecDepth 20000 in
theorem k_536 : (Cond.code ({ cls := "StitchDesk$RunTeller", name := "reach", desc := "(LStitchDesk$Ring;I)I" } : MethodName) prog_9_method_5_code (2 : Nat) (Option.some ClassFile.FieldType.int)) ∈ lw_tbl := List.mem_append_right _ (List.mem_of_getElem? (i := 536) (by decide +kernel))
set_option maxRecDepth 20000 in
theorem k_537 : (Cond.methodLink "StitchDesk$RunTeller" (82 : Nat) ({ cls := "java/lang/Math", name := "abs", desc := "(I)I" } : MethodName)) ∈ lw_tbl := List.mem_append_right _ (List.mem_of_getElem? (i := 537) (by decide +kernel))
set_option maxRecDepth 20000 in
theorem k_538 : (Cond.methodLink "StitchDesk$RunTeller" (72 : Nat) ({ cls := "java/lang/Math", name := "max", desc := "(II)I" } : MethodName)) ∈ lw_tbl := List.mem_append_right _ (List.mem_of_getElem? (i := 538) (by decide +kernel))
set_option maxRecDepth 20000 in
theorem k_539 : (Cond.methodLink "StitchDesk$RunTeller" (78 : Nat) ({ cls := "StitchDesk$RunTeller", name := "pointOf", desc := "([IIII)I" } : MethodName)) ∈ lw_tbl := List.mem_append_right _ (List.mem_of_getElem? (i := 539) (by decide +kernel))
set_option maxRecDepth 20000 in
theorem k_540 : (Cond.static ({ cls := "StitchDesk$RunTeller", name := "pointOf", desc := "([IIII)I" } : MethodName)) ∈ lw_tbl := List.mem_append_right _ (List.mem_of_getElem? (i := 540) (by decide +kernel))
set_option maxRecDepth 20000 in
theorem k_541 : (Cond.code ({ cls := "StitchDesk$RunTeller", name := "pointOf", desc := "([IIII)I" } : MethodName) prog_9_method_6_code (4 : Nat) (Option.some ClassFile.FieldType.int)) ∈ lw_tbl := List.mem_append_right _ (List.mem_of_getElem? (i := 541) (by decide +kernel))
set_option maxRecDepth 20000 in
theorem k_542 : (Cond.methodLinkNest "StitchDesk$RunTeller" (86 : Nat) ({ cls := "StitchDesk", name := "along", desc := "(IIII)I" } : MethodName) "StitchDesk") ∈ lw_tbl := List.mem_append_right _ (List.mem_of_getElem? (i := 542) (by decide +kernel))
set_option maxRecDepth 20000 in
theorem k_543 : (Cond.methodLink "StitchDesk$RunTeller" (31 : Nat) ({ cls := "StitchDesk$RunTeller", name := "tellOutline", desc := "(LStitchDesk$Shape;LStitchDesk$RunTaker;)V" } : MethodName)) ∈ lw_tbl := List.mem_append_right _ (List.mem_of_getElem? (i := 543) (by decide +kernel))
set_option maxRecDepth 20000 in
theorem k_544 : (Cond.privateMethod ({ cls := "StitchDesk$RunTeller", name := "tellOutline", desc := "(LStitchDesk$Shape;LStitchDesk$RunTaker;)V" } : MethodName)) ∈ lw_tbl := List.mem_append_right _ (List.mem_of_getElem? (i := 544) (by decide +kernel))
set_option maxRecDepth 20000 in
theorem k_545 : (Cond.instanceMethod ({ cls := "StitchDesk$RunTeller", name := "tellOutline", desc := "(LStitchDesk$Shape;LStitchDesk$RunTaker;)V" } : MethodName)) ∈ lw_tbl := List.mem_append_right _ (List.mem_of_getElem? (i := 545) (by decide +kernel))
set_option maxRecDepth 20000 in
theorem k_546 : (Cond.code ({ cls := "StitchDesk$RunTeller", name := "tellOutline", desc := "(LStitchDesk$Shape;LStitchDesk$RunTaker;)V" } : MethodName) prog_9_method_3_code (6 : Nat) (Option.none : Option ClassFile.FieldType)) ∈ lw_tbl := List.mem_append_right _ (List.mem_of_getElem? (i := 546) (by decide +kernel))
set_option maxRecDepth 20000 in
theorem k_547 : (Cond.methodLinkNest "StitchDesk" (199 : Nat) ({ cls := "StitchDesk$Path", name := "clear", desc := "()V" } : MethodName) "StitchDesk") ∈ lw_tbl := List.mem_append_right _ (List.mem_of_getElem? (i := 547) (by decide +kernel))
set_option maxRecDepth 20000 in
theorem k_548 : (Cond.methodLink "StitchDeskLaw" (104 : Nat) ({ cls := "StitchDesk", name := "decode", desc := "()I" } : MethodName)) ∈ lw_tbl := List.mem_append_right _ (List.mem_of_getElem? (i := 548) (by decide +kernel))
set_option maxRecDepth 20000 in
theorem k_549 : (Cond.instanceMethod ({ cls := "StitchDesk", name := "decode", desc := "()I" } : MethodName)) ∈ lw_tbl := List.mem_append_right _ (List.mem_of_getElem? (i := 549) (by decide +kernel))
set_option maxRecDepth 20000 in
theorem k_550 : (Cond.selects "StitchDesk" ({ cls := "StitchDesk", name := "decode", desc := "()I" } : MethodName) ({ cls := "StitchDesk", name := "decode", desc := "()I" } : MethodName)) ∈ lw_tbl := List.mem_append_right _ (List.mem_of_getElem? (i := 550) (by decide +kernel))
set_option maxRecDepth 20000 in
theorem k_551 : (Cond.code ({ cls := "StitchDesk", name := "decode", desc := "()I" } : MethodName) prog_1_method_13_code (3 : Nat) (Option.some ClassFile.FieldType.int)) ∈ lw_tbl := List.mem_append_right _ (List.mem_of_getElem? (i := 551) (by decide +kernel))
set_option maxRecDepth 20000 in
theorem k_552 : (Cond.methodLink "StitchDesk" (226 : Nat) ({ cls := "StitchDesk", name := "firstWrongGroup", desc := "()I" } : MethodName)) ∈ lw_tbl := List.mem_append_right _ (List.mem_of_getElem? (i := 552) (by decide +kernel))
set_option maxRecDepth 20000 in
theorem k_553 : (Cond.privateMethod ({ cls := "StitchDesk", name := "firstWrongGroup", desc := "()I" } : MethodName)) ∈ lw_tbl := List.mem_append_right _ (List.mem_of_getElem? (i := 553) (by decide +kernel))
set_option maxRecDepth 20000 in
theorem k_554 : (Cond.instanceMethod ({ cls := "StitchDesk", name := "firstWrongGroup", desc := "()I" } : MethodName)) ∈ lw_tbl := List.mem_append_right _ (List.mem_of_getElem? (i := 554) (by decide +kernel))
set_option maxRecDepth 20000 in
theorem k_555 : (Cond.code ({ cls := "StitchDesk", name := "firstWrongGroup", desc := "()I" } : MethodName) prog_1_method_24_code (2 : Nat) (Option.some ClassFile.FieldType.int)) ∈ lw_tbl := List.mem_append_right _ (List.mem_of_getElem? (i := 555) (by decide +kernel))
set_option maxRecDepth 20000 in
theorem k_556 : (Cond.methodLink "StitchDesk" (230 : Nat) ({ cls := "StitchDesk", name := "groupAt", desc := "(I)I" } : MethodName)) ∈ lw_tbl := List.mem_append_right _ (List.mem_of_getElem? (i := 556) (by decide +kernel))
set_option maxRecDepth 20000 in
theorem k_557 : (Cond.privateMethod ({ cls := "StitchDesk", name := "groupAt", desc := "(I)I" } : MethodName)) ∈ lw_tbl := List.mem_append_right _ (List.mem_of_getElem? (i := 557) (by decide +kernel))
set_option maxRecDepth 20000 in
theorem k_558 : (Cond.instanceMethod ({ cls := "StitchDesk", name := "groupAt", desc := "(I)I" } : MethodName)) ∈ lw_tbl := List.mem_append_right _ (List.mem_of_getElem? (i := 558) (by decide +kernel))
set_option maxRecDepth 20000 in
theorem k_559 : (Cond.code ({ cls := "StitchDesk", name := "groupAt", desc := "(I)I" } : MethodName) prog_1_method_25_code (2 : Nat) (Option.some ClassFile.FieldType.int)) ∈ lw_tbl := List.mem_append_right _ (List.mem_of_getElem? (i := 559) (by decide +kernel))
set_option maxRecDepth 20000 in
theorem k_560 : (Cond.methodLinkNest "StitchDesk" (262 : Nat) ({ cls := "StitchDesk$Path", name := "isRecord", desc := "(I)Z" } : MethodName) "StitchDesk") ∈ lw_tbl := List.mem_append_right _ (List.mem_of_getElem? (i := 560) (by decide +kernel))
set_option maxRecDepth 20000 in
theorem k_561 : (Cond.static ({ cls := "StitchDesk$Path", name := "isRecord", desc := "(I)Z" } : MethodName)) ∈ lw_tbl := List.mem_append_right _ (List.mem_of_getElem? (i := 561) (by decide +kernel))
set_option maxRecDepth 20000 in
theorem k_562 : (Cond.code ({ cls := "StitchDesk$Path", name := "isRecord", desc := "(I)Z" } : MethodName) prog_4_method_9_code (2 : Nat) (Option.some ClassFile.FieldType.boolean)) ∈ lw_tbl := List.mem_append_right _ (List.mem_of_getElem? (i := 562) (by decide +kernel))
set_option maxRecDepth 20000 in
theorem k_563 : (Cond.constant "StitchDesk$Path" (43 : Nat) (349525 : Int32)) ∈ lw_tbl := List.mem_append_right _ (List.mem_of_getElem? (i := 563) (by decide +kernel))
set_option maxRecDepth 20000 in
theorem k_564 : (Cond.methodLinkNest "StitchDesk" (233 : Nat) ({ cls := "StitchDesk$Path", name := "addPacked", desc := "(I)V" } : MethodName) "StitchDesk") ∈ lw_tbl := List.mem_append_right _ (List.mem_of_getElem? (i := 564) (by decide +kernel))
set_option maxRecDepth 20000 in
theorem k_565 : (Cond.privateMethod ({ cls := "StitchDesk$Path", name := "addPacked", desc := "(I)V" } : MethodName)) ∈ lw_tbl := List.mem_append_right _ (List.mem_of_getElem? (i := 565) (by decide +kernel))
set_option maxRecDepth 20000 in
theorem k_566 : (Cond.instanceMethod ({ cls := "StitchDesk$Path", name := "addPacked", desc := "(I)V" } : MethodName)) ∈ lw_tbl := List.mem_append_right _ (List.mem_of_getElem? (i := 566) (by decide +kernel))
set_option maxRecDepth 20000 in
theorem k_567 : (Cond.code ({ cls := "StitchDesk$Path", name := "addPacked", desc := "(I)V" } : MethodName) prog_4_method_8_code (2 : Nat) (Option.none : Option ClassFile.FieldType)) ∈ lw_tbl := List.mem_append_right _ (List.mem_of_getElem? (i := 567) (by decide +kernel))
set_option maxRecDepth 20000 in
theorem k_568 : (Cond.methodLink "StitchDesk$Path" (36 : Nat) ({ cls := "StitchDesk$Path", name := "numberOf", desc := "(I)I" } : MethodName)) ∈ lw_tbl := List.mem_append_right _ (List.mem_of_getElem? (i := 568) (by decide +kernel))
set_option maxRecDepth 20000 in
theorem k_569 : (Cond.static ({ cls := "StitchDesk$Path", name := "numberOf", desc := "(I)I" } : MethodName)) ∈ lw_tbl := List.mem_append_right _ (List.mem_of_getElem? (i := 569) (by decide +kernel))
set_option maxRecDepth 20000 in
theorem k_570 : (Cond.code ({ cls := "StitchDesk$Path", name := "numberOf", desc := "(I)I" } : MethodName) prog_4_method_11_code (4 : Nat) (Option.some ClassFile.FieldType.int)) ∈ lw_tbl := List.mem_append_right _ (List.mem_of_getElem? (i := 570) (by decide +kernel))
set_option maxRecDepth 20000 in
theorem k_571 : (Cond.methodLink "StitchDesk$Path" (39 : Nat) ({ cls := "StitchDesk$Path", name := "add", desc := "(III)V" } : MethodName)) ∈ lw_tbl := List.mem_append_right _ (List.mem_of_getElem? (i := 571) (by decide +kernel))
set_option maxRecDepth 20000 in
theorem k_572 : (Cond.methodLink "StitchDeskLaw" (108 : Nat) ({ cls := "StitchDesk", name := "reorder", desc := "()I" } : MethodName)) ∈ lw_tbl := List.mem_append_right _ (List.mem_of_getElem? (i := 572) (by decide +kernel))
set_option maxRecDepth 20000 in
theorem k_573 : (Cond.instanceMethod ({ cls := "StitchDesk", name := "reorder", desc := "()I" } : MethodName)) ∈ lw_tbl := List.mem_append_right _ (List.mem_of_getElem? (i := 573) (by decide +kernel))
set_option maxRecDepth 20000 in
theorem k_574 : (Cond.selects "StitchDesk" ({ cls := "StitchDesk", name := "reorder", desc := "()I" } : MethodName) ({ cls := "StitchDesk", name := "reorder", desc := "()I" } : MethodName)) ∈ lw_tbl := List.mem_append_right _ (List.mem_of_getElem? (i := 574) (by decide +kernel))
set_option maxRecDepth 20000 in
theorem k_575 : (Cond.code ({ cls := "StitchDesk", name := "reorder", desc := "()I" } : MethodName) prog_1_method_14_code (1 : Nat) (Option.some ClassFile.FieldType.int)) ∈ lw_tbl := List.mem_append_right _ (List.mem_of_getElem? (i := 575) (by decide +kernel))
set_option maxRecDepth 20000 in
theorem k_576 : (Cond.methodLinkNest "StitchDesk" (237 : Nat) ({ cls := "StitchDesk$Planner", name := "plan", desc := "([LStitchDesk$Shape;[II)I" } : MethodName) "StitchDesk") ∈ lw_tbl := List.mem_append_right _ (List.mem_of_getElem? (i := 576) (by decide +kernel))
set_option maxRecDepth 20000 in
theorem k_577 : (Cond.privateMethod ({ cls := "StitchDesk$Planner", name := "plan", desc := "([LStitchDesk$Shape;[II)I" } : MethodName)) ∈ lw_tbl := List.mem_append_right _ (List.mem_of_getElem? (i := 577) (by decide +kernel))
set_option maxRecDepth 20000 in
theorem k_578 : (Cond.instanceMethod ({ cls := "StitchDesk$Planner", name := "plan", desc := "([LStitchDesk$Shape;[II)I" } : MethodName)) ∈ lw_tbl := List.mem_append_right _ (List.mem_of_getElem? (i := 578) (by decide +kernel))
set_option maxRecDepth 20000 in
theorem k_579 : (Cond.code ({ cls := "StitchDesk$Planner", name := "plan", desc := "([LStitchDesk$Shape;[II)I" } : MethodName) prog_6_method_2_code (5 : Nat) (Option.some ClassFile.FieldType.int)) ∈ lw_tbl := List.mem_append_right _ (List.mem_of_getElem? (i := 579) (by decide +kernel))
set_option maxRecDepth 20000 in
theorem k_580 : (Cond.methodLink "StitchDesk$Planner" (27 : Nat) ({ cls := "java/lang/Math", name := "min", desc := "(II)I" } : MethodName)) ∈ lw_tbl := List.mem_append_right _ (List.mem_of_getElem? (i := 580) (by decide +kernel))
set_option maxRecDepth 20000 in
theorem k_581 : (Cond.methodLink "StitchDesk$Planner" (37 : Nat) ({ cls := "StitchDesk$Planner", name := "gather", desc := "([LStitchDesk$Shape;[I)V" } : MethodName)) ∈ lw_tbl := List.mem_append_right _ (List.mem_of_getElem? (i := 581) (by decide +kernel))
set_option maxRecDepth 20000 in
theorem k_582 : (Cond.privateMethod ({ cls := "StitchDesk$Planner", name := "gather", desc := "([LStitchDesk$Shape;[I)V" } : MethodName)) ∈ lw_tbl := List.mem_append_right _ (List.mem_of_getElem? (i := 582) (by decide +kernel))
set_option maxRecDepth 20000 in
theorem k_583 : (Cond.instanceMethod ({ cls := "StitchDesk$Planner", name := "gather", desc := "([LStitchDesk$Shape;[I)V" } : MethodName)) ∈ lw_tbl := List.mem_append_right _ (List.mem_of_getElem? (i := 583) (by decide +kernel))
set_option maxRecDepth 20000 in
theorem k_584 : (Cond.code ({ cls := "StitchDesk$Planner", name := "gather", desc := "([LStitchDesk$Shape;[I)V" } : MethodName) prog_6_method_3_code (6 : Nat) (Option.none : Option ClassFile.FieldType)) ∈ lw_tbl := List.mem_append_right _ (List.mem_of_getElem? (i := 584) (by decide +kernel))
set_option maxRecDepth 20000 in
theorem k_585 : (Cond.methodLinkNest "StitchDesk$Planner" (53 : Nat) ({ cls := "StitchDesk$Shape", name := "meets", desc := "(LStitchDesk$Shape;)Z" } : MethodName) "StitchDesk") ∈ lw_tbl := List.mem_append_right _ (List.mem_of_getElem? (i := 585) (by decide +kernel))
set_option maxRecDepth 20000 in
theorem k_586 : (Cond.privateMethod ({ cls := "StitchDesk$Shape", name := "meets", desc := "(LStitchDesk$Shape;)Z" } : MethodName)) ∈ lw_tbl := List.mem_append_right _ (List.mem_of_getElem? (i := 586) (by decide +kernel))
set_option maxRecDepth 20000 in
theorem k_587 : (Cond.instanceMethod ({ cls := "StitchDesk$Shape", name := "meets", desc := "(LStitchDesk$Shape;)Z" } : MethodName)) ∈ lw_tbl := List.mem_append_right _ (List.mem_of_getElem? (i := 587) (by decide +kernel))
set_option maxRecDepth 20000 in
theorem k_588 : (Cond.code ({ cls := "StitchDesk$Shape", name := "meets", desc := "(LStitchDesk$Shape;)Z" } : MethodName) prog_10_method_7_code (2 : Nat) (Option.some ClassFile.FieldType.boolean)) ∈ lw_tbl := List.mem_append_right _ (List.mem_of_getElem? (i := 588) (by decide +kernel))
set_option maxRecDepth 20000 in
theorem k_589 : (Cond.methodLink "StitchDesk$Planner" (41 : Nat) ({ cls := "StitchDesk$Planner", name := "weighSets", desc := "()V" } : MethodName)) ∈ lw_tbl := List.mem_append_right _ (List.mem_of_getElem? (i := 589) (by decide +kernel))
set_option maxRecDepth 20000 in
theorem k_590 : (Cond.privateMethod ({ cls := "StitchDesk$Planner", name := "weighSets", desc := "()V" } : MethodName)) ∈ lw_tbl := List.mem_append_right _ (List.mem_of_getElem? (i := 590) (by decide +kernel))
set_option maxRecDepth 20000 in
theorem k_591 : (Cond.instanceMethod ({ cls := "StitchDesk$Planner", name := "weighSets", desc := "()V" } : MethodName)) ∈ lw_tbl := List.mem_append_right _ (List.mem_of_getElem? (i := 591) (by decide +kernel))
set_option maxRecDepth 20000 in
theorem k_592 : (Cond.code ({ cls := "StitchDesk$Planner", name := "weighSets", desc := "()V" } : MethodName) prog_6_method_4_code (4 : Nat) (Option.none : Option ClassFile.FieldType)) ∈ lw_tbl := List.mem_append_right _ (List.mem_of_getElem? (i := 592) (by decide +kernel))
set_option maxRecDepth 20000 in
theorem k_593 : (Cond.methodLink "StitchDesk$Planner" (57 : Nat) ({ cls := "StitchDesk$Planner", name := "mayFollow", desc := "(II)Z" } : MethodName)) ∈ lw_tbl := List.mem_append_right _ (List.mem_of_getElem? (i := 593) (by decide +kernel))
set_option maxRecDepth 20000 in
theorem k_594 : (Cond.privateMethod ({ cls := "StitchDesk$Planner", name := "mayFollow", desc := "(II)Z" } : MethodName)) ∈ lw_tbl := List.mem_append_right _ (List.mem_of_getElem? (i := 594) (by decide +kernel))
set_option maxRecDepth 20000 in
theorem k_595 : (Cond.instanceMethod ({ cls := "StitchDesk$Planner", name := "mayFollow", desc := "(II)Z" } : MethodName)) ∈ lw_tbl := List.mem_append_right _ (List.mem_of_getElem? (i := 595) (by decide +kernel))
set_option maxRecDepth 20000 in
theorem k_596 : (Cond.code ({ cls := "StitchDesk$Planner", name := "mayFollow", desc := "(II)Z" } : MethodName) prog_6_method_6_code (3 : Nat) (Option.some ClassFile.FieldType.boolean)) ∈ lw_tbl := List.mem_append_right _ (List.mem_of_getElem? (i := 596) (by decide +kernel))
set_option maxRecDepth 20000 in
theorem k_597 : (Cond.methodLink "StitchDesk$Planner" (61 : Nat) ({ cls := "StitchDesk$Planner", name := "changesAfter", desc := "(II)I" } : MethodName)) ∈ lw_tbl := List.mem_append_right _ (List.mem_of_getElem? (i := 597) (by decide +kernel))
set_option maxRecDepth 20000 in
theorem k_598 : (Cond.privateMethod ({ cls := "StitchDesk$Planner", name := "changesAfter", desc := "(II)I" } : MethodName)) ∈ lw_tbl := List.mem_append_right _ (List.mem_of_getElem? (i := 598) (by decide +kernel))
set_option maxRecDepth 20000 in
theorem k_599 : (Cond.instanceMethod ({ cls := "StitchDesk$Planner", name := "changesAfter", desc := "(II)I" } : MethodName)) ∈ lw_tbl := List.mem_append_right _ (List.mem_of_getElem? (i := 599) (by decide +kernel))
set_option maxRecDepth 20000 in
theorem k_600 : (Cond.code ({ cls := "StitchDesk$Planner", name := "changesAfter", desc := "(II)I" } : MethodName) prog_6_method_7_code (3 : Nat) (Option.some ClassFile.FieldType.int)) ∈ lw_tbl := List.mem_append_right _ (List.mem_of_getElem? (i := 600) (by decide +kernel))
set_option maxRecDepth 20000 in
theorem k_601 : (Cond.methodLink "StitchDesk$Planner" (64 : Nat) ({ cls := "StitchDesk$Planner", name := "weigh", desc := "(III)V" } : MethodName)) ∈ lw_tbl := List.mem_append_right _ (List.mem_of_getElem? (i := 601) (by decide +kernel))
set_option maxRecDepth 20000 in
theorem k_602 : (Cond.privateMethod ({ cls := "StitchDesk$Planner", name := "weigh", desc := "(III)V" } : MethodName)) ∈ lw_tbl := List.mem_append_right _ (List.mem_of_getElem? (i := 602) (by decide +kernel))
set_option maxRecDepth 20000 in
theorem k_603 : (Cond.instanceMethod ({ cls := "StitchDesk$Planner", name := "weigh", desc := "(III)V" } : MethodName)) ∈ lw_tbl := List.mem_append_right _ (List.mem_of_getElem? (i := 603) (by decide +kernel))
set_option maxRecDepth 20000 in
theorem k_604 : (Cond.code ({ cls := "StitchDesk$Planner", name := "weigh", desc := "(III)V" } : MethodName) prog_6_method_5_code (4 : Nat) (Option.none : Option ClassFile.FieldType)) ∈ lw_tbl := List.mem_append_right _ (List.mem_of_getElem? (i := 604) (by decide +kernel))
set_option maxRecDepth 20000 in
theorem k_605 : (Cond.methodLink "StitchDesk$Planner" (44 : Nat) ({ cls := "StitchDesk$Planner", name := "choose", desc := "([I)V" } : MethodName)) ∈ lw_tbl := List.mem_append_right _ (List.mem_of_getElem? (i := 605) (by decide +kernel))
set_option maxRecDepth 20000 in
theorem k_606 : (Cond.privateMethod ({ cls := "StitchDesk$Planner", name := "choose", desc := "([I)V" } : MethodName)) ∈ lw_tbl := List.mem_append_right _ (List.mem_of_getElem? (i := 606) (by decide +kernel))
set_option maxRecDepth 20000 in
theorem k_607 : (Cond.instanceMethod ({ cls := "StitchDesk$Planner", name := "choose", desc := "([I)V" } : MethodName)) ∈ lw_tbl := List.mem_append_right _ (List.mem_of_getElem? (i := 607) (by decide +kernel))
set_option maxRecDepth 20000 in
theorem k_608 : (Cond.code ({ cls := "StitchDesk$Planner", name := "choose", desc := "([I)V" } : MethodName) prog_6_method_8_code (8 : Nat) (Option.none : Option ClassFile.FieldType)) ∈ lw_tbl := List.mem_append_right _ (List.mem_of_getElem? (i := 608) (by decide +kernel))
set_option maxRecDepth 20000 in
theorem k_609 : (Cond.methodLink "StitchDeskLaw" (112 : Nat) ({ cls := "StitchDesk", name := "order", desc := "(I)I" } : MethodName)) ∈ lw_tbl := List.mem_append_right _ (List.mem_of_getElem? (i := 609) (by decide +kernel))
set_option maxRecDepth 20000 in
theorem k_610 : (Cond.instanceMethod ({ cls := "StitchDesk", name := "order", desc := "(I)I" } : MethodName)) ∈ lw_tbl := List.mem_append_right _ (List.mem_of_getElem? (i := 610) (by decide +kernel))
set_option maxRecDepth 20000 in
theorem k_611 : (Cond.selects "StitchDesk" ({ cls := "StitchDesk", name := "order", desc := "(I)I" } : MethodName) ({ cls := "StitchDesk", name := "order", desc := "(I)I" } : MethodName)) ∈ lw_tbl := List.mem_append_right _ (List.mem_of_getElem? (i := 611) (by decide +kernel))
set_option maxRecDepth 20000 in
theorem k_612 : (Cond.code ({ cls := "StitchDesk", name := "order", desc := "(I)I" } : MethodName) prog_1_method_15_code (2 : Nat) (Option.some ClassFile.FieldType.int)) ∈ lw_tbl := List.mem_append_right _ (List.mem_of_getElem? (i := 612) (by decide +kernel))
set_option maxRecDepth 20000 in
theorem k_613 : (Cond.methodLink "StitchDesk" (76 : Nat) ({ cls := "StitchDesk", name := "isBelow", desc := "(II)Z" } : MethodName)) ∈ lw_tbl := List.mem_append_right _ (List.mem_of_getElem? (i := 613) (by decide +kernel))
set_option maxRecDepth 20000 in
theorem k_614 : (Cond.static ({ cls := "StitchDesk", name := "isBelow", desc := "(II)Z" } : MethodName)) ∈ lw_tbl := List.mem_append_right _ (List.mem_of_getElem? (i := 614) (by decide +kernel))
set_option maxRecDepth 20000 in
theorem k_615 : (Cond.code ({ cls := "StitchDesk", name := "isBelow", desc := "(II)Z" } : MethodName) prog_1_method_21_code (2 : Nat) (Option.some ClassFile.FieldType.boolean)) ∈ lw_tbl := List.mem_append_right _ (List.mem_of_getElem? (i := 615) (by decide +kernel))
set_option maxRecDepth 20000 in
theorem k_616 : (Cond.methodLink "StitchDeskLaw" (116 : Nat) ({ cls := "StitchDesk", name := "thread", desc := "(I)I" } : MethodName)) ∈ lw_tbl := List.mem_append_right _ (List.mem_of_getElem? (i := 616) (by decide +kernel))
set_option maxRecDepth 20000 in
theorem k_617 : (Cond.instanceMethod ({ cls := "StitchDesk", name := "thread", desc := "(I)I" } : MethodName)) ∈ lw_tbl := List.mem_append_right _ (List.mem_of_getElem? (i := 617) (by decide +kernel))
set_option maxRecDepth 20000 in
theorem k_618 : (Cond.selects "StitchDesk" ({ cls := "StitchDesk", name := "thread", desc := "(I)I" } : MethodName) ({ cls := "StitchDesk", name := "thread", desc := "(I)I" } : MethodName)) ∈ lw_tbl := List.mem_append_right _ (List.mem_of_getElem? (i := 618) (by decide +kernel))
set_option maxRecDepth 20000 in
theorem k_619 : (Cond.code ({ cls := "StitchDesk", name := "thread", desc := "(I)I" } : MethodName) prog_1_method_16_code (2 : Nat) (Option.some ClassFile.FieldType.int)) ∈ lw_tbl := List.mem_append_right _ (List.mem_of_getElem? (i := 619) (by decide +kernel))
set_option maxRecDepth 20000 in
theorem k_620 : (Cond.methodLinkNest "StitchDesk" (241 : Nat) ({ cls := "StitchDesk$Path", name := "threadBehind", desc := "(I)I" } : MethodName) "StitchDesk") ∈ lw_tbl := List.mem_append_right _ (List.mem_of_getElem? (i := 620) (by decide +kernel))
set_option maxRecDepth 20000 in
theorem k_621 : (Cond.privateMethod ({ cls := "StitchDesk$Path", name := "threadBehind", desc := "(I)I" } : MethodName)) ∈ lw_tbl := List.mem_append_right _ (List.mem_of_getElem? (i := 621) (by decide +kernel))
set_option maxRecDepth 20000 in
theorem k_622 : (Cond.instanceMethod ({ cls := "StitchDesk$Path", name := "threadBehind", desc := "(I)I" } : MethodName)) ∈ lw_tbl := List.mem_append_right _ (List.mem_of_getElem? (i := 622) (by decide +kernel))
set_option maxRecDepth 20000 in
theorem k_623 : (Cond.code ({ cls := "StitchDesk$Path", name := "threadBehind", desc := "(I)I" } : MethodName) prog_4_method_12_code (5 : Nat) (Option.some ClassFile.FieldType.int)) ∈ lw_tbl := List.mem_append_right _ (List.mem_of_getElem? (i := 623) (by decide +kernel))
set_option maxRecDepth 20000 in
theorem k_624 : (Cond.methodLink "StitchDesk$Path" (23 : Nat) ({ cls := "StitchDesk$Path", name := "kind", desc := "(I)I" } : MethodName)) ∈ lw_tbl := List.mem_append_right _ (List.mem_of_getElem? (i := 624) (by decide +kernel))
set_option maxRecDepth 20000 in
theorem k_625 : (Cond.privateMethod ({ cls := "StitchDesk$Path", name := "kind", desc := "(I)I" } : MethodName)) ∈ lw_tbl := List.mem_append_right _ (List.mem_of_getElem? (i := 625) (by decide +kernel))
set_option maxRecDepth 20000 in
theorem k_626 : (Cond.instanceMethod ({ cls := "StitchDesk$Path", name := "kind", desc := "(I)I" } : MethodName)) ∈ lw_tbl := List.mem_append_right _ (List.mem_of_getElem? (i := 626) (by decide +kernel))
set_option maxRecDepth 20000 in
theorem k_627 : (Cond.code ({ cls := "StitchDesk$Path", name := "kind", desc := "(I)I" } : MethodName) prog_4_method_6_code (2 : Nat) (Option.some ClassFile.FieldType.int)) ∈ lw_tbl := List.mem_append_right _ (List.mem_of_getElem? (i := 627) (by decide +kernel))
set_option maxRecDepth 20000 in
theorem k_628 : (Cond.methodLink "StitchDesk$Path" (33 : Nat) ({ cls := "StitchDesk$Path", name := "dx", desc := "(I)I" } : MethodName)) ∈ lw_tbl := List.mem_append_right _ (List.mem_of_getElem? (i := 628) (by decide +kernel))
set_option maxRecDepth 20000 in
theorem k_629 : (Cond.privateMethod ({ cls := "StitchDesk$Path", name := "dx", desc := "(I)I" } : MethodName)) ∈ lw_tbl := List.mem_append_right _ (List.mem_of_getElem? (i := 629) (by decide +kernel))
set_option maxRecDepth 20000 in
theorem k_630 : (Cond.instanceMethod ({ cls := "StitchDesk$Path", name := "dx", desc := "(I)I" } : MethodName)) ∈ lw_tbl := List.mem_append_right _ (List.mem_of_getElem? (i := 630) (by decide +kernel))
set_option maxRecDepth 20000 in
theorem k_631 : (Cond.code ({ cls := "StitchDesk$Path", name := "dx", desc := "(I)I" } : MethodName) prog_4_method_4_code (2 : Nat) (Option.some ClassFile.FieldType.int)) ∈ lw_tbl := List.mem_append_right _ (List.mem_of_getElem? (i := 631) (by decide +kernel))
set_option maxRecDepth 20000 in
theorem k_632 : (Cond.methodLink "StitchDesk$Path" (27 : Nat) ({ cls := "StitchDesk$Path", name := "dy", desc := "(I)I" } : MethodName)) ∈ lw_tbl := List.mem_append_right _ (List.mem_of_getElem? (i := 632) (by decide +kernel))
set_option maxRecDepth 20000 in
theorem k_633 : (Cond.privateMethod ({ cls := "StitchDesk$Path", name := "dy", desc := "(I)I" } : MethodName)) ∈ lw_tbl := List.mem_append_right _ (List.mem_of_getElem? (i := 633) (by decide +kernel))
set_option maxRecDepth 20000 in
theorem k_634 : (Cond.instanceMethod ({ cls := "StitchDesk$Path", name := "dy", desc := "(I)I" } : MethodName)) ∈ lw_tbl := List.mem_append_right _ (List.mem_of_getElem? (i := 634) (by decide +kernel))
set_option maxRecDepth 20000 in
theorem k_635 : (Cond.code ({ cls := "StitchDesk$Path", name := "dy", desc := "(I)I" } : MethodName) prog_4_method_5_code (2 : Nat) (Option.some ClassFile.FieldType.int)) ∈ lw_tbl := List.mem_append_right _ (List.mem_of_getElem? (i := 635) (by decide +kernel))
set_option maxRecDepth 20000 in
theorem k_636 : (Cond.methodLink "StitchDesk$Path" (44 : Nat) ({ cls := "StitchDesk$Path", name := "rootUp", desc := "(II)I" } : MethodName)) ∈ lw_tbl := List.mem_append_right _ (List.mem_of_getElem? (i := 636) (by decide +kernel))
set_option maxRecDepth 20000 in
theorem k_637 : (Cond.static ({ cls := "StitchDesk$Path", name := "rootUp", desc := "(II)I" } : MethodName)) ∈ lw_tbl := List.mem_append_right _ (List.mem_of_getElem? (i := 637) (by decide +kernel))
set_option maxRecDepth 20000 in
theorem k_638 : (Cond.code ({ cls := "StitchDesk$Path", name := "rootUp", desc := "(II)I" } : MethodName) prog_4_method_13_code (5 : Nat) (Option.some ClassFile.FieldType.int)) ∈ lw_tbl := List.mem_append_right _ (List.mem_of_getElem? (i := 638) (by decide +kernel))
set_option maxRecDepth 20000 in
theorem k_639 : (Cond.methodLink "StitchDesk$Path" (48 : Nat) ({ cls := "java/lang/Math", name := "abs", desc := "(I)I" } : MethodName)) ∈ lw_tbl := List.mem_append_right _ (List.mem_of_getElem? (i := 639) (by decide +kernel))
set_option maxRecDepth 20000 in
theorem k_640 : (Cond.methodLink "StitchDesk$Path" (53 : Nat) ({ cls := "java/lang/Math", name := "max", desc := "(II)I" } : MethodName)) ∈ lw_tbl := List.mem_append_right _ (List.mem_of_getElem? (i := 640) (by decide +kernel))
set_option maxRecDepth 20000 in
theorem k_641 : (Cond.methodLink "StitchDeskLaw" (126 : Nat) ({ cls := "StitchDesk", name := "hoop", desc := "(II)Z" } : MethodName)) ∈ lw_tbl := List.mem_append_right _ (List.mem_of_getElem? (i := 641) (by decide +kernel))
set_option maxRecDepth 20000 in
theorem k_642 : (Cond.instanceMethod ({ cls := "StitchDesk", name := "hoop", desc := "(II)Z" } : MethodName)) ∈ lw_tbl := List.mem_append_right _ (List.mem_of_getElem? (i := 642) (by decide +kernel))
set_option maxRecDepth 20000 in
theorem k_643 : (Cond.selects "StitchDesk" ({ cls := "StitchDesk", name := "hoop", desc := "(II)Z" } : MethodName) ({ cls := "StitchDesk", name := "hoop", desc := "(II)Z" } : MethodName)) ∈ lw_tbl := List.mem_append_right _ (List.mem_of_getElem? (i := 643) (by decide +kernel))
set_option maxRecDepth 20000 in
theorem k_644 : (Cond.code ({ cls := "StitchDesk", name := "hoop", desc := "(II)Z" } : MethodName) prog_1_method_19_code (3 : Nat) (Option.some ClassFile.FieldType.boolean)) ∈ lw_tbl := List.mem_append_right _ (List.mem_of_getElem? (i := 644) (by decide +kernel))
set_option maxRecDepth 20000 in
theorem k_645 : (Cond.methodLinkNest "StitchDesk" (253 : Nat) ({ cls := "StitchDesk$Path", name := "fits", desc := "(II)Z" } : MethodName) "StitchDesk") ∈ lw_tbl := List.mem_append_right _ (List.mem_of_getElem? (i := 645) (by decide +kernel))
set_option maxRecDepth 20000 in
theorem k_646 : (Cond.privateMethod ({ cls := "StitchDesk$Path", name := "fits", desc := "(II)Z" } : MethodName)) ∈ lw_tbl := List.mem_append_right _ (List.mem_of_getElem? (i := 646) (by decide +kernel))
set_option maxRecDepth 20000 in
theorem k_647 : (Cond.instanceMethod ({ cls := "StitchDesk$Path", name := "fits", desc := "(II)Z" } : MethodName)) ∈ lw_tbl := List.mem_append_right _ (List.mem_of_getElem? (i := 647) (by decide +kernel))
set_option maxRecDepth 20000 in
theorem k_648 : (Cond.code ({ cls := "StitchDesk$Path", name := "fits", desc := "(II)Z" } : MethodName) prog_4_method_14_code (10 : Nat) (Option.some ClassFile.FieldType.boolean)) ∈ lw_tbl := List.mem_append_right _ (List.mem_of_getElem? (i := 648) (by decide +kernel))
set_option maxRecDepth 20000 in
theorem k_649 : (Cond.methodLink "StitchDesk$Path" (56 : Nat) ({ cls := "java/lang/Math", name := "min", desc := "(II)I" } : MethodName)) ∈ lw_tbl := List.mem_append_right _ (List.mem_of_getElem? (i := 649) (by decide +kernel))
set_option maxRecDepth 20000 in
theorem k_650 : (Cond.methodLink "StitchDeskLaw" (131 : Nat) ({ cls := "StitchDesk", name := "stop", desc := "(I)I" } : MethodName)) ∈ lw_tbl := List.mem_append_right _ (List.mem_of_getElem? (i := 650) (by decide +kernel))
set_option maxRecDepth 20000 in
theorem k_651 : (Cond.instanceMethod ({ cls := "StitchDesk", name := "stop", desc := "(I)I" } : MethodName)) ∈ lw_tbl := List.mem_append_right _ (List.mem_of_getElem? (i := 651) (by decide +kernel))
set_option maxRecDepth 20000 in
theorem k_652 : (Cond.selects "StitchDesk" ({ cls := "StitchDesk", name := "stop", desc := "(I)I" } : MethodName) ({ cls := "StitchDesk", name := "stop", desc := "(I)I" } : MethodName)) ∈ lw_tbl := List.mem_append_right _ (List.mem_of_getElem? (i := 652) (by decide +kernel))
set_option maxRecDepth 20000 in
theorem k_653 : (Cond.code ({ cls := "StitchDesk", name := "stop", desc := "(I)I" } : MethodName) prog_1_method_20_code (3 : Nat) (Option.some ClassFile.FieldType.int)) ∈ lw_tbl := List.mem_append_right _ (List.mem_of_getElem? (i := 653) (by decide +kernel))
set_option maxRecDepth 20000 in
theorem k_654 : (Cond.methodLinkNest "StitchDesk" (214 : Nat) ({ cls := "StitchDesk$Path", name := "kind", desc := "(I)I" } : MethodName) "StitchDesk") ∈ lw_tbl := List.mem_append_right _ (List.mem_of_getElem? (i := 654) (by decide +kernel))
set_option maxRecDepth 20000 in
theorem k_655 : (Cond.methodLink "StitchDeskLaw" (58 : Nat) ({ cls := "StitchDeskLaw", name := "begin", desc := "(LStitchDesk;IIII)I" } : MethodName)) ∈ lw_tbl := List.mem_append_right _ (List.mem_of_getElem? (i := 655) (by decide +kernel))
set_option maxRecDepth 20000 in
theorem k_656 : (Cond.static ({ cls := "StitchDeskLaw", name := "begin", desc := "(LStitchDesk;IIII)I" } : MethodName)) ∈ lw_tbl := List.mem_append_right _ (List.mem_of_getElem? (i := 656) (by decide +kernel))
set_option maxRecDepth 20000 in
theorem k_657 : (Cond.codeWith ({ cls := "StitchDeskLaw", name := "begin", desc := "(LStitchDesk;IIII)I" } : MethodName) method_3_code (6 : Nat) (Option.some ClassFile.FieldType.int) [((0 : Nat), (9 : Nat), (12 : Nat), (13 : Nat)), ((0 : Nat), (9 : Nat), (16 : Nat), (15 : Nat)), ((0 : Nat), (9 : Nat), (20 : Nat), (17 : Nat))]) ∈ lw_tbl := List.mem_append_right _ (List.mem_of_getElem? (i := 657) (by decide +kernel))
set_option maxRecDepth 20000 in
theorem k_658 : (Cond.classLink "StitchDeskLaw" (13 : Nat) "java/lang/IllegalStateException") ∈ lw_tbl := List.mem_append_right _ (List.mem_of_getElem? (i := 658) (by decide +kernel))
set_option maxRecDepth 20000 in
theorem k_659 : (Cond.classLink "StitchDeskLaw" (15 : Nat) "java/lang/UnsupportedOperationException") ∈ lw_tbl := List.mem_append_right _ (List.mem_of_getElem? (i := 659) (by decide +kernel))
set_option maxRecDepth 20000 in
theorem k_660 : (Cond.classLink "StitchDeskLaw" (17 : Nat) "java/lang/IllegalArgumentException") ∈ lw_tbl := List.mem_append_right _ (List.mem_of_getElem? (i := 660) (by decide +kernel))
set_option maxRecDepth 20000 in
theorem k_661 : (Cond.methodLink "StitchDeskLaw" (7 : Nat) ({ cls := "StitchDesk", name := "begin", desc := "(IIII)V" } : MethodName)) ∈ lw_tbl := List.mem_append_right _ (List.mem_of_getElem? (i := 661) (by decide +kernel))
set_option maxRecDepth 20000 in
theorem k_662 : (Cond.instanceMethod ({ cls := "StitchDesk", name := "begin", desc := "(IIII)V" } : MethodName)) ∈ lw_tbl := List.mem_append_right _ (List.mem_of_getElem? (i := 662) (by decide +kernel))
set_option maxRecDepth 20000 in
theorem k_663 : (Cond.selects "StitchDesk" ({ cls := "StitchDesk", name := "begin", desc := "(IIII)V" } : MethodName) ({ cls := "StitchDesk", name := "begin", desc := "(IIII)V" } : MethodName)) ∈ lw_tbl := List.mem_append_right _ (List.mem_of_getElem? (i := 663) (by decide +kernel))
set_option maxRecDepth 20000 in
theorem k_664 : (Cond.code ({ cls := "StitchDesk", name := "begin", desc := "(IIII)V" } : MethodName) prog_1_method_2_code (6 : Nat) (Option.none : Option ClassFile.FieldType)) ∈ lw_tbl := List.mem_append_right _ (List.mem_of_getElem? (i := 664) (by decide +kernel))
set_option maxRecDepth 20000 in
theorem k_665 : (Cond.classLink "StitchDesk" (60 : Nat) "java/lang/IllegalStateException") ∈ lw_tbl := List.mem_append_right _ (List.mem_of_getElem? (i := 665) (by decide +kernel))
set_option maxRecDepth 20000 in
theorem k_666 : (Cond.instantiable "java/lang/IllegalStateException" (6 : Nat)) ∈ lw_tbl := List.mem_append_right _ (List.mem_of_getElem? (i := 666) (by decide +kernel))
set_option maxRecDepth 20000 in
theorem k_667 : (Cond.castable "java/lang/IllegalStateException" "java/lang/IllegalStateException") ∈ lw_tbl := List.mem_append_right _ (List.mem_of_getElem? (i := 667) (by decide +kernel))
set_option maxRecDepth 20000 in
theorem k_668 : (Cond.declares ({ cls := "java/lang/RuntimeException", name := "<init>", desc := "()V" } : MethodName)) ∈ lw_tbl := List.mem_append_right _ (List.mem_of_getElem? (i := 668) (by decide +kernel))
set_option maxRecDepth 20000 in
theorem k_669 : (Cond.declares ({ cls := "java/lang/RuntimeException", name := "<init>", desc := "(Ljava/lang/String;)V" } : MethodName)) ∈ lw_tbl := List.mem_append_right _ (List.mem_of_getElem? (i := 669) (by decide +kernel))
set_option maxRecDepth 20000 in
theorem k_670 : (Cond.declares ({ cls := "java/lang/Exception", name := "<init>", desc := "()V" } : MethodName)) ∈ lw_tbl := List.mem_append_right _ (List.mem_of_getElem? (i := 670) (by decide +kernel))
set_option maxRecDepth 20000 in
theorem k_671 : (Cond.declares ({ cls := "java/lang/Exception", name := "<init>", desc := "(Ljava/lang/String;)V" } : MethodName)) ∈ lw_tbl := List.mem_append_right _ (List.mem_of_getElem? (i := 671) (by decide +kernel))
set_option maxRecDepth 20000 in
theorem k_672 : (Cond.declares ({ cls := "java/lang/Throwable", name := "<init>", desc := "()V" } : MethodName)) ∈ lw_tbl := List.mem_append_right _ (List.mem_of_getElem? (i := 672) (by decide +kernel))
set_option maxRecDepth 20000 in
theorem k_673 : (Cond.declares ({ cls := "java/lang/Throwable", name := "<init>", desc := "(Ljava/lang/String;)V" } : MethodName)) ∈ lw_tbl := List.mem_append_right _ (List.mem_of_getElem? (i := 673) (by decide +kernel))
set_option maxRecDepth 20000 in
theorem k_674 : (Cond.selects "java/lang/IllegalStateException" ({ cls := "java/lang/Throwable", name := "fillInStackTrace", desc := "(I)Ljava/lang/Throwable;" } : MethodName) ({ cls := "java/lang/Throwable", name := "fillInStackTrace", desc := "(I)Ljava/lang/Throwable;" } : MethodName)) ∈ lw_tbl := List.mem_append_right _ (List.mem_of_getElem? (i := 674) (by decide +kernel))
set_option maxRecDepth 20000 in
theorem k_675 : (Cond.selects "java/lang/IllegalStateException" ({ cls := "java/lang/Throwable", name := "fillInStackTrace", desc := "()Ljava/lang/Throwable;" } : MethodName) ({ cls := "java/lang/Throwable", name := "fillInStackTrace", desc := "()Ljava/lang/Throwable;" } : MethodName)) ∈ lw_tbl := List.mem_append_right _ (List.mem_of_getElem? (i := 675) (by decide +kernel))
set_option maxRecDepth 20000 in
theorem k_676 : (Cond.lays "java/lang/IllegalStateException" "java/lang/Throwable" "cause" "Ljava/lang/Throwable;") ∈ lw_tbl := List.mem_append_right _ (List.mem_of_getElem? (i := 676) (by decide +kernel))
set_option maxRecDepth 20000 in
theorem k_677 : (Cond.lays "java/lang/Throwable" "java/lang/Throwable" "cause" "Ljava/lang/Throwable;") ∈ lw_tbl := List.mem_append_right _ (List.mem_of_getElem? (i := 677) (by decide +kernel))
set_option maxRecDepth 20000 in
theorem k_678 : (Cond.lays "java/lang/IllegalStateException" "java/lang/Throwable" "stackTrace" "[Ljava/lang/StackTraceElement;") ∈ lw_tbl := List.mem_append_right _ (List.mem_of_getElem? (i := 678) (by decide +kernel))
set_option maxRecDepth 20000 in
theorem k_679 : (Cond.lays "java/lang/Throwable" "java/lang/Throwable" "stackTrace" "[Ljava/lang/StackTraceElement;") ∈ lw_tbl := List.mem_append_right _ (List.mem_of_getElem? (i := 679) (by decide +kernel))
set_option maxRecDepth 20000 in
theorem k_680 : (Cond.lays "java/lang/IllegalStateException" "java/lang/Throwable" "suppressedExceptions" "Ljava/util/List;") ∈ lw_tbl := List.mem_append_right _ (List.mem_of_getElem? (i := 680) (by decide +kernel))
set_option maxRecDepth 20000 in
theorem k_681 : (Cond.lays "java/lang/Throwable" "java/lang/Throwable" "suppressedExceptions" "Ljava/util/List;") ∈ lw_tbl := List.mem_append_right _ (List.mem_of_getElem? (i := 681) (by decide +kernel))
set_option maxRecDepth 20000 in
theorem k_682 : (Cond.lays "java/lang/IllegalStateException" "java/lang/Throwable" "detailMessage" "Ljava/lang/String;") ∈ lw_tbl := List.mem_append_right _ (List.mem_of_getElem? (i := 682) (by decide +kernel))
set_option maxRecDepth 20000 in
theorem k_683 : (Cond.lays "java/lang/Throwable" "java/lang/Throwable" "detailMessage" "Ljava/lang/String;") ∈ lw_tbl := List.mem_append_right _ (List.mem_of_getElem? (i := 683) (by decide +kernel))
set_option maxRecDepth 20000 in
theorem k_684 : (Cond.lays "java/lang/IllegalStateException" "java/lang/Throwable" "backtrace" "Ljava/lang/Object;") ∈ lw_tbl := List.mem_append_right _ (List.mem_of_getElem? (i := 684) (by decide +kernel))
set_option maxRecDepth 20000 in
theorem k_685 : (Cond.lays "java/lang/Throwable" "java/lang/Throwable" "backtrace" "Ljava/lang/Object;") ∈ lw_tbl := List.mem_append_right _ (List.mem_of_getElem? (i := 685) (by decide +kernel))
set_option maxRecDepth 20000 in
theorem k_686 : (Cond.fieldLink "java/lang/Throwable" (198 : Nat) "java/lang/Throwable" "backtrace" "Ljava/lang/Object;") ∈ lw_tbl := List.mem_append_right _ (List.mem_of_getElem? (i := 686) (by decide +kernel))
set_option maxRecDepth 20000 in
theorem k_687 : (Cond.superclass "java/lang/Throwable" "java/lang/Object") ∈ lw_tbl := List.mem_append_right _ (List.mem_of_getElem? (i := 687) (by decide +kernel))
set_option maxRecDepth 20000 in
theorem k_688 : (Cond.instanceMethod ({ cls := "java/lang/Throwable", name := "<init>", desc := "()V" } : MethodName)) ∈ lw_tbl := List.mem_append_right _ (List.mem_of_getElem? (i := 688) (by decide +kernel))
set_option maxRecDepth 20000 in
theorem k_689 : (Cond.code ({ cls := "java/lang/Throwable", name := "<init>", desc := "()V" } : MethodName) prog_22_method_1_code (1 : Nat) (Option.none : Option ClassFile.FieldType)) ∈ lw_tbl := List.mem_append_right _ (List.mem_of_getElem? (i := 689) (by decide +kernel))
set_option maxRecDepth 20000 in
theorem k_690 : (Cond.methodLink "java/lang/Throwable" (1 : Nat) ({ cls := "java/lang/Object", name := "<init>", desc := "()V" } : MethodName)) ∈ lw_tbl := List.mem_append_right _ (List.mem_of_getElem? (i := 690) (by decide +kernel))
set_option maxRecDepth 20000 in
theorem k_691 : (Cond.fieldLink "java/lang/Throwable" (13 : Nat) "java/lang/Throwable" "UNASSIGNED_STACK" "[Ljava/lang/StackTraceElement;") ∈ lw_tbl := List.mem_append_right _ (List.mem_of_getElem? (i := 691) (by decide +kernel))
set_option maxRecDepth 20000 in
theorem k_692 : (Cond.laysStatic "java/lang/Throwable" "UNASSIGNED_STACK" "[Ljava/lang/StackTraceElement;") ∈ lw_tbl := List.mem_append_right _ (List.mem_of_getElem? (i := 692) (by decide +kernel))
set_option maxRecDepth 20000 in
theorem k_693 : (Cond.fieldLink "java/lang/Throwable" (20 : Nat) "java/lang/Throwable" "SUPPRESSED_SENTINEL" "Ljava/util/List;") ∈ lw_tbl := List.mem_append_right _ (List.mem_of_getElem? (i := 693) (by decide +kernel))
set_option maxRecDepth 20000 in
theorem k_694 : (Cond.laysStatic "java/lang/Throwable" "SUPPRESSED_SENTINEL" "Ljava/util/List;") ∈ lw_tbl := List.mem_append_right _ (List.mem_of_getElem? (i := 694) (by decide +kernel))
set_option maxRecDepth 20000 in
theorem k_695 : (Cond.methodLink "java/lang/Throwable" (27 : Nat) ({ cls := "java/lang/Throwable", name := "fillInStackTrace", desc := "()Ljava/lang/Throwable;" } : MethodName)) ∈ lw_tbl := List.mem_append_right _ (List.mem_of_getElem? (i := 695) (by decide +kernel))
set_option maxRecDepth 20000 in
theorem k_696 : (Cond.instanceMethod ({ cls := "java/lang/Throwable", name := "fillInStackTrace", desc := "()Ljava/lang/Throwable;" } : MethodName)) ∈ lw_tbl := List.mem_append_right _ (List.mem_of_getElem? (i := 696) (by decide +kernel))
set_option maxRecDepth 20000 in
theorem k_697 : (Cond.sameMethod "java/lang/Throwable" "java/lang/Throwable" "fillInStackTrace" "()Ljava/lang/Throwable;") ∈ lw_tbl := List.mem_append_right _ (List.mem_of_getElem? (i := 697) (by decide +kernel))
set_option maxRecDepth 20000 in
theorem k_698 : (Cond.selects "java/lang/IllegalArgumentException" ({ cls := "java/lang/Throwable", name := "fillInStackTrace", desc := "()Ljava/lang/Throwable;" } : MethodName) ({ cls := "java/lang/Throwable", name := "fillInStackTrace", desc := "()Ljava/lang/Throwable;" } : MethodName)) ∈ lw_tbl := List.mem_append_right _ (List.mem_of_getElem? (i := 698) (by decide +kernel))
set_option maxRecDepth 20000 in
theorem k_699 : (Cond.selects "java/lang/IndexOutOfBoundsException" ({ cls := "java/lang/Throwable", name := "fillInStackTrace", desc := "()Ljava/lang/Throwable;" } : MethodName) ({ cls := "java/lang/Throwable", name := "fillInStackTrace", desc := "()Ljava/lang/Throwable;" } : MethodName)) ∈ lw_tbl := List.mem_append_right _ (List.mem_of_getElem? (i := 699) (by decide +kernel))
set_option maxRecDepth 20000 in
theorem k_700 : (Cond.selects "java/lang/UnsupportedOperationException" ({ cls := "java/lang/Throwable", name := "fillInStackTrace", desc := "()Ljava/lang/Throwable;" } : MethodName) ({ cls := "java/lang/Throwable", name := "fillInStackTrace", desc := "()Ljava/lang/Throwable;" } : MethodName)) ∈ lw_tbl := List.mem_append_right _ (List.mem_of_getElem? (i := 700) (by decide +kernel))
set_option maxRecDepth 20000 in
theorem k_701 : (Cond.selects "java/util/NoSuchElementException" ({ cls := "java/lang/Throwable", name := "fillInStackTrace", desc := "()Ljava/lang/Throwable;" } : MethodName) ({ cls := "java/lang/Throwable", name := "fillInStackTrace", desc := "()Ljava/lang/Throwable;" } : MethodName)) ∈ lw_tbl := List.mem_append_right _ (List.mem_of_getElem? (i := 701) (by decide +kernel))
set_option maxRecDepth 20000 in
theorem k_702 : (Cond.codeSync ({ cls := "java/lang/Throwable", name := "fillInStackTrace", desc := "()Ljava/lang/Throwable;" } : MethodName) prog_22_method_18_code (1 : Nat) (Option.some (ClassFile.FieldType.object "java/lang/Throwable"))) ∈ lw_tbl := List.mem_append_right _ (List.mem_of_getElem? (i := 702) (by decide +kernel))
set_option maxRecDepth 20000 in
theorem k_703 : (Cond.methodLink "java/lang/Throwable" (202 : Nat) ({ cls := "java/lang/Throwable", name := "fillInStackTrace", desc := "(I)Ljava/lang/Throwable;" } : MethodName)) ∈ lw_tbl := List.mem_append_right _ (List.mem_of_getElem? (i := 703) (by decide +kernel))
set_option maxRecDepth 20000 in
theorem k_704 : (Cond.privateMethod ({ cls := "java/lang/Throwable", name := "fillInStackTrace", desc := "(I)Ljava/lang/Throwable;" } : MethodName)) ∈ lw_tbl := List.mem_append_right _ (List.mem_of_getElem? (i := 704) (by decide +kernel))
set_option maxRecDepth 20000 in
theorem k_705 : (Cond.instanceMethod ({ cls := "java/lang/Throwable", name := "fillInStackTrace", desc := "(I)Ljava/lang/Throwable;" } : MethodName)) ∈ lw_tbl := List.mem_append_right _ (List.mem_of_getElem? (i := 705) (by decide +kernel))
set_option maxRecDepth 20000 in
theorem k_706 : (Cond.instantiable "java/lang/Throwable" (6 : Nat)) ∈ lw_tbl := List.mem_append_right _ (List.mem_of_getElem? (i := 706) (by decide +kernel))
set_option maxRecDepth 20000 in
theorem k_707 : (Cond.native ({ cls := "java/lang/Throwable", name := "fillInStackTrace", desc := "(I)Ljava/lang/Throwable;" } : MethodName)) ∈ lw_tbl := List.mem_append_right _ (List.mem_of_getElem? (i := 707) (by decide +kernel))
set_option maxRecDepth 20000 in
theorem k_708 : (Cond.stringRef "StitchDesk" (62 : Nat) "a shape is open") ∈ lw_tbl := List.mem_append_right _ (List.mem_of_getElem? (i := 708) (by decide +kernel))
set_option maxRecDepth 20000 in
theorem k_709 : (Cond.methodLink "StitchDesk" (64 : Nat) ({ cls := "java/lang/IllegalStateException", name := "<init>", desc := "(Ljava/lang/String;)V" } : MethodName)) ∈ lw_tbl := List.mem_append_right _ (List.mem_of_getElem? (i := 709) (by decide +kernel))
set_option maxRecDepth 20000 in
theorem k_710 : (Cond.instanceMethod ({ cls := "java/lang/IllegalStateException", name := "<init>", desc := "(Ljava/lang/String;)V" } : MethodName)) ∈ lw_tbl := List.mem_append_right _ (List.mem_of_getElem? (i := 710) (by decide +kernel))
set_option maxRecDepth 20000 in
theorem k_711 : (Cond.code ({ cls := "java/lang/IllegalStateException", name := "<init>", desc := "(Ljava/lang/String;)V" } : MethodName) prog_16_method_2_code (2 : Nat) (Option.none : Option ClassFile.FieldType)) ∈ lw_tbl := List.mem_append_right _ (List.mem_of_getElem? (i := 711) (by decide +kernel))
set_option maxRecDepth 20000 in
theorem k_712 : (Cond.methodLink "java/lang/IllegalStateException" (7 : Nat) ({ cls := "java/lang/RuntimeException", name := "<init>", desc := "(Ljava/lang/String;)V" } : MethodName)) ∈ lw_tbl := List.mem_append_right _ (List.mem_of_getElem? (i := 712) (by decide +kernel))
set_option maxRecDepth 20000 in
theorem k_713 : (Cond.instanceMethod ({ cls := "java/lang/RuntimeException", name := "<init>", desc := "(Ljava/lang/String;)V" } : MethodName)) ∈ lw_tbl := List.mem_append_right _ (List.mem_of_getElem? (i := 713) (by decide +kernel))
set_option maxRecDepth 20000 in
theorem k_714 : (Cond.code ({ cls := "java/lang/RuntimeException", name := "<init>", desc := "(Ljava/lang/String;)V" } : MethodName) prog_20_method_2_code (2 : Nat) (Option.none : Option ClassFile.FieldType)) ∈ lw_tbl := List.mem_append_right _ (List.mem_of_getElem? (i := 714) (by decide +kernel))
set_option maxRecDepth 20000 in
theorem k_715 : (Cond.methodLink "java/lang/RuntimeException" (7 : Nat) ({ cls := "java/lang/Exception", name := "<init>", desc := "(Ljava/lang/String;)V" } : MethodName)) ∈ lw_tbl := List.mem_append_right _ (List.mem_of_getElem? (i := 715) (by decide +kernel))
set_option maxRecDepth 20000 in
theorem k_716 : (Cond.instanceMethod ({ cls := "java/lang/Exception", name := "<init>", desc := "(Ljava/lang/String;)V" } : MethodName)) ∈ lw_tbl := List.mem_append_right _ (List.mem_of_getElem? (i := 716) (by decide +kernel))
set_option maxRecDepth 20000 in
theorem k_717 : (Cond.code ({ cls := "java/lang/Exception", name := "<init>", desc := "(Ljava/lang/String;)V" } : MethodName) prog_14_method_2_code (2 : Nat) (Option.none : Option ClassFile.FieldType)) ∈ lw_tbl := List.mem_append_right _ (List.mem_of_getElem? (i := 717) (by decide +kernel))
set_option maxRecDepth 20000 in
theorem k_718 : (Cond.methodLink "java/lang/Exception" (7 : Nat) ({ cls := "java/lang/Throwable", name := "<init>", desc := "(Ljava/lang/String;)V" } : MethodName)) ∈ lw_tbl := List.mem_append_right _ (List.mem_of_getElem? (i := 718) (by decide +kernel))
set_option maxRecDepth 20000 in
theorem k_719 : (Cond.instanceMethod ({ cls := "java/lang/Throwable", name := "<init>", desc := "(Ljava/lang/String;)V" } : MethodName)) ∈ lw_tbl := List.mem_append_right _ (List.mem_of_getElem? (i := 719) (by decide +kernel))
set_option maxRecDepth 20000 in
theorem k_720 : (Cond.code ({ cls := "java/lang/Throwable", name := "<init>", desc := "(Ljava/lang/String;)V" } : MethodName) prog_22_method_2_code (2 : Nat) (Option.none : Option ClassFile.FieldType)) ∈ lw_tbl := List.mem_append_right _ (List.mem_of_getElem? (i := 720) (by decide +kernel))
set_option maxRecDepth 20000 in
theorem k_722 : (Cond.fieldLink "java/lang/Throwable" (31 : Nat) "java/lang/Throwable" "detailMessage" "Ljava/lang/String;") ∈ lw_tbl := List.mem_append_right _ (List.mem_of_getElem? (i := 722) (by decide +kernel))
set_option maxRecDepth 20000 in
theorem k_723 : (Cond.fieldLink "java/lang/Throwable" (7 : Nat) "java/lang/Throwable" "cause" "Ljava/lang/Throwable;") ∈ lw_tbl := List.mem_append_right _ (List.mem_of_getElem? (i := 723) (by decide +kernel))
set_option maxRecDepth 20000 in
theorem k_724 : (Cond.fieldLink "java/lang/Throwable" (17 : Nat) "java/lang/Throwable" "stackTrace" "[Ljava/lang/StackTraceElement;") ∈ lw_tbl := List.mem_append_right _ (List.mem_of_getElem? (i := 724) (by decide +kernel))
set_option maxRecDepth 20000 in
theorem k_725 : (Cond.fieldLink "java/lang/Throwable" (24 : Nat) "java/lang/Throwable" "suppressedExceptions" "Ljava/util/List;") ∈ lw_tbl := List.mem_append_right _ (List.mem_of_getElem? (i := 725) (by decide +kernel))
set_option maxRecDepth 20000 in
theorem k_726 : (Cond.soleField "java/lang/Throwable" "backtrace") ∈ lw_tbl := List.mem_append_right _ (List.mem_of_getElem? (i := 726) (by decide +kernel))
set_option maxRecDepth 20000 in
theorem k_727 : (Cond.soleField "java/lang/Throwable" "detailMessage") ∈ lw_tbl := List.mem_append_right _ (List.mem_of_getElem? (i := 727) (by decide +kernel))
set_option maxRecDepth 20000 in
theorem k_728 : (Cond.soleField "java/lang/Throwable" "cause") ∈ lw_tbl := List.mem_append_right _ (List.mem_of_getElem? (i := 728) (by decide +kernel))
set_option maxRecDepth 20000 in
theorem k_729 : (Cond.soleField "java/lang/Throwable" "stackTrace") ∈ lw_tbl := List.mem_append_right _ (List.mem_of_getElem? (i := 729) (by decide +kernel))
set_option maxRecDepth 20000 in
theorem k_730 : (Cond.lays "java/lang/IllegalStateException" "java/lang/Throwable" "depth" "I") ∈ lw_tbl := List.mem_append_right _ (List.mem_of_getElem? (i := 730) (by decide +kernel))
set_option maxRecDepth 20000 in
theorem k_731 : (Cond.soleField "java/lang/Throwable" "depth") ∈ lw_tbl := List.mem_append_right _ (List.mem_of_getElem? (i := 731) (by decide +kernel))
set_option maxRecDepth 20000 in
theorem k_732 : (Cond.soleField "java/lang/Throwable" "suppressedExceptions") ∈ lw_tbl := List.mem_append_right _ (List.mem_of_getElem? (i := 732) (by decide +kernel))
set_option maxRecDepth 20000 in
theorem k_733 : (Cond.superclass "java/lang/IllegalStateException" "java/lang/RuntimeException") ∈ lw_tbl := List.mem_append_right _ (List.mem_of_getElem? (i := 733) (by decide +kernel))
set_option maxRecDepth 20000 in
theorem k_734 : (Cond.arrayClass ClassFile.FieldType.byte) ∈ lw_tbl := List.mem_append_right _ (List.mem_of_getElem? (i := 734) (by decide +kernel))
set_option maxRecDepth 20000 in
theorem k_735 : (Cond.classLink "StitchDesk" (71 : Nat) "java/lang/UnsupportedOperationException") ∈ lw_tbl := List.mem_append_right _ (List.mem_of_getElem? (i := 735) (by decide +kernel))
set_option maxRecDepth 20000 in
theorem k_736 : (Cond.instantiable "java/lang/UnsupportedOperationException" (6 : Nat)) ∈ lw_tbl := List.mem_append_right _ (List.mem_of_getElem? (i := 736) (by decide +kernel))
set_option maxRecDepth 20000 in
theorem k_737 : (Cond.castable "java/lang/UnsupportedOperationException" "java/lang/UnsupportedOperationException") ∈ lw_tbl := List.mem_append_right _ (List.mem_of_getElem? (i := 737) (by decide +kernel))
set_option maxRecDepth 20000 in
theorem k_738 : (Cond.selects "java/lang/UnsupportedOperationException" ({ cls := "java/lang/Throwable", name := "fillInStackTrace", desc := "(I)Ljava/lang/Throwable;" } : MethodName) ({ cls := "java/lang/Throwable", name := "fillInStackTrace", desc := "(I)Ljava/lang/Throwable;" } : MethodName)) ∈ lw_tbl := List.mem_append_right _ (List.mem_of_getElem? (i := 738) (by decide +kernel))
set_option maxRecDepth 20000 in
theorem k_739 : (Cond.lays "java/lang/UnsupportedOperationException" "java/lang/Throwable" "cause" "Ljava/lang/Throwable;") ∈ lw_tbl := List.mem_append_right _ (List.mem_of_getElem? (i := 739) (by decide +kernel))
set_option maxRecDepth 20000 in
theorem k_740 : (Cond.lays "java/lang/UnsupportedOperationException" "java/lang/Throwable" "stackTrace" "[Ljava/lang/StackTraceElement;") ∈ lw_tbl := List.mem_append_right _ (List.mem_of_getElem? (i := 740) (by decide +kernel))
set_option maxRecDepth 20000 in
theorem k_741 : (Cond.lays "java/lang/UnsupportedOperationException" "java/lang/Throwable" "suppressedExceptions" "Ljava/util/List;") ∈ lw_tbl := List.mem_append_right _ (List.mem_of_getElem? (i := 741) (by decide +kernel))
set_option maxRecDepth 20000 in
theorem k_742 : (Cond.lays "java/lang/UnsupportedOperationException" "java/lang/Throwable" "detailMessage" "Ljava/lang/String;") ∈ lw_tbl := List.mem_append_right _ (List.mem_of_getElem? (i := 742) (by decide +kernel))
set_option maxRecDepth 20000 in
theorem k_743 : (Cond.lays "java/lang/UnsupportedOperationException" "java/lang/Throwable" "backtrace" "Ljava/lang/Object;") ∈ lw_tbl := List.mem_append_right _ (List.mem_of_getElem? (i := 743) (by decide +kernel))
set_option maxRecDepth 20000 in
theorem k_744 : (Cond.stringRef "StitchDesk" (73 : Nat) "there are ten shapes") ∈ lw_tbl := List.mem_append_right _ (List.mem_of_getElem? (i := 744) (by decide +kernel))
set_option maxRecDepth 20000 in
theorem k_745 : (Cond.methodLink "StitchDesk" (75 : Nat) ({ cls := "java/lang/UnsupportedOperationException", name := "<init>", desc := "(Ljava/lang/String;)V" } : MethodName)) ∈ lw_tbl := List.mem_append_right _ (List.mem_of_getElem? (i := 745) (by decide +kernel))
set_option maxRecDepth 20000 in
theorem k_746 : (Cond.instanceMethod ({ cls := "java/lang/UnsupportedOperationException", name := "<init>", desc := "(Ljava/lang/String;)V" } : MethodName)) ∈ lw_tbl := List.mem_append_right _ (List.mem_of_getElem? (i := 746) (by decide +kernel))
set_option maxRecDepth 20000 in
theorem k_747 : (Cond.code ({ cls := "java/lang/UnsupportedOperationException", name := "<init>", desc := "(Ljava/lang/String;)V" } : MethodName) prog_23_method_2_code (2 : Nat) (Option.none : Option ClassFile.FieldType)) ∈ lw_tbl := List.mem_append_right _ (List.mem_of_getElem? (i := 747) (by decide +kernel))
set_option maxRecDepth 20000 in
theorem k_748 : (Cond.methodLink "java/lang/UnsupportedOperationException" (7 : Nat) ({ cls := "java/lang/RuntimeException", name := "<init>", desc := "(Ljava/lang/String;)V" } : MethodName)) ∈ lw_tbl := List.mem_append_right _ (List.mem_of_getElem? (i := 748) (by decide +kernel))
set_option maxRecDepth 20000 in
theorem k_749 : (Cond.lays "java/lang/UnsupportedOperationException" "java/lang/Throwable" "depth" "I") ∈ lw_tbl := List.mem_append_right _ (List.mem_of_getElem? (i := 749) (by decide +kernel))
set_option maxRecDepth 20000 in
theorem k_750 : (Cond.superclass "java/lang/UnsupportedOperationException" "java/lang/RuntimeException") ∈ lw_tbl := List.mem_append_right _ (List.mem_of_getElem? (i := 750) (by decide +kernel))
set_option maxRecDepth 20000 in
theorem k_751 : (Cond.classLink "StitchDesk" (80 : Nat) "java/lang/IllegalArgumentException") ∈ lw_tbl := List.mem_append_right _ (List.mem_of_getElem? (i := 751) (by decide +kernel))
set_option maxRecDepth 20000 in
theorem k_752 : (Cond.instantiable "java/lang/IllegalArgumentException" (6 : Nat)) ∈ lw_tbl := List.mem_append_right _ (List.mem_of_getElem? (i := 752) (by decide +kernel))
set_option maxRecDepth 20000 in
theorem k_753 : (Cond.castable "java/lang/IllegalArgumentException" "java/lang/IllegalArgumentException") ∈ lw_tbl := List.mem_append_right _ (List.mem_of_getElem? (i := 753) (by decide +kernel))
set_option maxRecDepth 20000 in
theorem k_754 : (Cond.selects "java/lang/IllegalArgumentException" ({ cls := "java/lang/Throwable", name := "fillInStackTrace", desc := "(I)Ljava/lang/Throwable;" } : MethodName) ({ cls := "java/lang/Throwable", name := "fillInStackTrace", desc := "(I)Ljava/lang/Throwable;" } : MethodName)) ∈ lw_tbl := List.mem_append_right _ (List.mem_of_getElem? (i := 754) (by decide +kernel))
set_option maxRecDepth 20000 in
theorem k_755 : (Cond.lays "java/lang/IllegalArgumentException" "java/lang/Throwable" "cause" "Ljava/lang/Throwable;") ∈ lw_tbl := List.mem_append_right _ (List.mem_of_getElem? (i := 755) (by decide +kernel))
set_option maxRecDepth 20000 in
theorem k_756 : (Cond.lays "java/lang/IllegalArgumentException" "java/lang/Throwable" "stackTrace" "[Ljava/lang/StackTraceElement;") ∈ lw_tbl := List.mem_append_right _ (List.mem_of_getElem? (i := 756) (by decide +kernel))
set_option maxRecDepth 20000 in
theorem k_757 : (Cond.lays "java/lang/IllegalArgumentException" "java/lang/Throwable" "suppressedExceptions" "Ljava/util/List;") ∈ lw_tbl := List.mem_append_right _ (List.mem_of_getElem? (i := 757) (by decide +kernel))
set_option maxRecDepth 20000 in
theorem k_758 : (Cond.lays "java/lang/IllegalArgumentException" "java/lang/Throwable" "detailMessage" "Ljava/lang/String;") ∈ lw_tbl := List.mem_append_right _ (List.mem_of_getElem? (i := 758) (by decide +kernel))
set_option maxRecDepth 20000 in
theorem k_759 : (Cond.lays "java/lang/IllegalArgumentException" "java/lang/Throwable" "backtrace" "Ljava/lang/Object;") ∈ lw_tbl := List.mem_append_right _ (List.mem_of_getElem? (i := 759) (by decide +kernel))
set_option maxRecDepth 20000 in
theorem k_760 : (Cond.stringRef "StitchDesk" (82 : Nat) "no such shape") ∈ lw_tbl := List.mem_append_right _ (List.mem_of_getElem? (i := 760) (by decide +kernel))
set_option maxRecDepth 20000 in
theorem k_761 : (Cond.methodLink "StitchDesk" (84 : Nat) ({ cls := "java/lang/IllegalArgumentException", name := "<init>", desc := "(Ljava/lang/String;)V" } : MethodName)) ∈ lw_tbl := List.mem_append_right _ (List.mem_of_getElem? (i := 761) (by decide +kernel))
set_option maxRecDepth 20000 in
theorem k_762 : (Cond.instanceMethod ({ cls := "java/lang/IllegalArgumentException", name := "<init>", desc := "(Ljava/lang/String;)V" } : MethodName)) ∈ lw_tbl := List.mem_append_right _ (List.mem_of_getElem? (i := 762) (by decide +kernel))
set_option maxRecDepth 20000 in
theorem k_763 : (Cond.code ({ cls := "java/lang/IllegalArgumentException", name := "<init>", desc := "(Ljava/lang/String;)V" } : MethodName) prog_15_method_2_code (2 : Nat) (Option.none : Option ClassFile.FieldType)) ∈ lw_tbl := List.mem_append_right _ (List.mem_of_getElem? (i := 763) (by decide +kernel))
set_option maxRecDepth 20000 in
theorem k_764 : (Cond.methodLink "java/lang/IllegalArgumentException" (7 : Nat) ({ cls := "java/lang/RuntimeException", name := "<init>", desc := "(Ljava/lang/String;)V" } : MethodName)) ∈ lw_tbl := List.mem_append_right _ (List.mem_of_getElem? (i := 764) (by decide +kernel))
set_option maxRecDepth 20000 in
theorem k_765 : (Cond.lays "java/lang/IllegalArgumentException" "java/lang/Throwable" "depth" "I") ∈ lw_tbl := List.mem_append_right _ (List.mem_of_getElem? (i := 765) (by decide +kernel))
set_option maxRecDepth 20000 in
theorem k_766 : (Cond.superclass "java/lang/IllegalArgumentException" "java/lang/RuntimeException") ∈ lw_tbl := List.mem_append_right _ (List.mem_of_getElem? (i := 766) (by decide +kernel))
set_option maxRecDepth 20000 in
theorem k_767 : (Cond.methodLinkNest "StitchDesk" (85 : Nat) ({ cls := "StitchDesk$Shape", name := "reset", desc := "(IIII)V" } : MethodName) "StitchDesk") ∈ lw_tbl := List.mem_append_right _ (List.mem_of_getElem? (i := 767) (by decide +kernel))
set_option maxRecDepth 20000 in
theorem k_768 : (Cond.privateMethod ({ cls := "StitchDesk$Shape", name := "reset", desc := "(IIII)V" } : MethodName)) ∈ lw_tbl := List.mem_append_right _ (List.mem_of_getElem? (i := 768) (by decide +kernel))
set_option maxRecDepth 20000 in
theorem k_769 : (Cond.instanceMethod ({ cls := "StitchDesk$Shape", name := "reset", desc := "(IIII)V" } : MethodName)) ∈ lw_tbl := List.mem_append_right _ (List.mem_of_getElem? (i := 769) (by decide +kernel))
set_option maxRecDepth 20000 in
theorem k_770 : (Cond.code ({ cls := "StitchDesk$Shape", name := "reset", desc := "(IIII)V" } : MethodName) prog_10_method_2_code (6 : Nat) (Option.none : Option ClassFile.FieldType)) ∈ lw_tbl := List.mem_append_right _ (List.mem_of_getElem? (i := 770) (by decide +kernel))
set_option maxRecDepth 20000 in
theorem k_771 : (Cond.methodLinkNest "StitchDesk$Shape" (43 : Nat) ({ cls := "StitchDesk$Ring", name := "clear", desc := "()V" } : MethodName) "StitchDesk") ∈ lw_tbl := List.mem_append_right _ (List.mem_of_getElem? (i := 771) (by decide +kernel))
set_option maxRecDepth 20000 in
theorem k_772 : (Cond.privateMethod ({ cls := "StitchDesk$Ring", name := "clear", desc := "()V" } : MethodName)) ∈ lw_tbl := List.mem_append_right _ (List.mem_of_getElem? (i := 772) (by decide +kernel))
set_option maxRecDepth 20000 in
theorem k_773 : (Cond.instanceMethod ({ cls := "StitchDesk$Ring", name := "clear", desc := "()V" } : MethodName)) ∈ lw_tbl := List.mem_append_right _ (List.mem_of_getElem? (i := 773) (by decide +kernel))
set_option maxRecDepth 20000 in
theorem k_774 : (Cond.code ({ cls := "StitchDesk$Ring", name := "clear", desc := "()V" } : MethodName) prog_7_method_2_code (1 : Nat) (Option.none : Option ClassFile.FieldType)) ∈ lw_tbl := List.mem_append_right _ (List.mem_of_getElem? (i := 774) (by decide +kernel))
set_option maxRecDepth 20000 in
theorem k_775 : (Cond.methodLinkNest "StitchDesk$Shape" (46 : Nat) ({ cls := "StitchDesk$Tally", name := "clear", desc := "()V" } : MethodName) "StitchDesk") ∈ lw_tbl := List.mem_append_right _ (List.mem_of_getElem? (i := 775) (by decide +kernel))
set_option maxRecDepth 20000 in
theorem k_776 : (Cond.privateMethod ({ cls := "StitchDesk$Tally", name := "clear", desc := "()V" } : MethodName)) ∈ lw_tbl := List.mem_append_right _ (List.mem_of_getElem? (i := 776) (by decide +kernel))
set_option maxRecDepth 20000 in
theorem k_777 : (Cond.instanceMethod ({ cls := "StitchDesk$Tally", name := "clear", desc := "()V" } : MethodName)) ∈ lw_tbl := List.mem_append_right _ (List.mem_of_getElem? (i := 777) (by decide +kernel))
set_option maxRecDepth 20000 in
theorem k_778 : (Cond.code ({ cls := "StitchDesk$Tally", name := "clear", desc := "()V" } : MethodName) prog_11_method_2_code (1 : Nat) (Option.none : Option ClassFile.FieldType)) ∈ lw_tbl := List.mem_append_right _ (List.mem_of_getElem? (i := 778) (by decide +kernel))
set_option maxRecDepth 20000 in
theorem k_779 : (Cond.methodLink "StitchDeskLaw" (67 : Nat) ({ cls := "StitchDeskLaw", name := "corner", desc := "(LStitchDesk;III[J)I" } : MethodName)) ∈ lw_tbl := List.mem_append_right _ (List.mem_of_getElem? (i := 779) (by decide +kernel))
set_option maxRecDepth 20000 in
theorem k_780 : (Cond.static ({ cls := "StitchDeskLaw", name := "corner", desc := "(LStitchDesk;III[J)I" } : MethodName)) ∈ lw_tbl := List.mem_append_right _ (List.mem_of_getElem? (i := 780) (by decide +kernel))
set_option maxRecDepth 20000 in
theorem k_781 : (Cond.codeWith ({ cls := "StitchDeskLaw", name := "corner", desc := "(LStitchDesk;III[J)I" } : MethodName) method_4_code (6 : Nat) (Option.some ClassFile.FieldType.int) [((0 : Nat), (12 : Nat), (15 : Nat), (13 : Nat)), ((0 : Nat), (12 : Nat), (19 : Nat), (17 : Nat)), ((0 : Nat), (12 : Nat), (23 : Nat), (15 : Nat))]) ∈ lw_tbl := List.mem_append_right _ (List.mem_of_getElem? (i := 781) (by decide +kernel))
set_option maxRecDepth 20000 in
theorem k_782 : (Cond.methodLink "StitchDeskLaw" (19 : Nat) ({ cls := "StitchDesk", name := "corner", desc := "(III)I" } : MethodName)) ∈ lw_tbl := List.mem_append_right _ (List.mem_of_getElem? (i := 782) (by decide +kernel))
set_option maxRecDepth 20000 in
theorem k_783 : (Cond.instanceMethod ({ cls := "StitchDesk", name := "corner", desc := "(III)I" } : MethodName)) ∈ lw_tbl := List.mem_append_right _ (List.mem_of_getElem? (i := 783) (by decide +kernel))
set_option maxRecDepth 20000 in
theorem k_784 : (Cond.selects "StitchDesk" ({ cls := "StitchDesk", name := "corner", desc := "(III)I" } : MethodName) ({ cls := "StitchDesk", name := "corner", desc := "(III)I" } : MethodName)) ∈ lw_tbl := List.mem_append_right _ (List.mem_of_getElem? (i := 784) (by decide +kernel))
set_option maxRecDepth 20000 in
theorem k_785 : (Cond.code ({ cls := "StitchDesk", name := "corner", desc := "(III)I" } : MethodName) prog_1_method_3_code (5 : Nat) (Option.some ClassFile.FieldType.int)) ∈ lw_tbl := List.mem_append_right _ (List.mem_of_getElem? (i := 785) (by decide +kernel))
set_option maxRecDepth 20000 in
theorem k_786 : (Cond.stringRef "StitchDesk" (92 : Nat) "no shape with rings is open") ∈ lw_tbl := List.mem_append_right _ (List.mem_of_getElem? (i := 786) (by decide +kernel))
set_option maxRecDepth 20000 in
theorem k_787 : (Cond.methodLink "StitchDesk" (94 : Nat) ({ cls := "StitchDesk", name := "isPlace", desc := "(II)Z" } : MethodName)) ∈ lw_tbl := List.mem_append_right _ (List.mem_of_getElem? (i := 787) (by decide +kernel))
set_option maxRecDepth 20000 in
theorem k_788 : (Cond.static ({ cls := "StitchDesk", name := "isPlace", desc := "(II)Z" } : MethodName)) ∈ lw_tbl := List.mem_append_right _ (List.mem_of_getElem? (i := 788) (by decide +kernel))
set_option maxRecDepth 20000 in
theorem k_789 : (Cond.code ({ cls := "StitchDesk", name := "isPlace", desc := "(II)Z" } : MethodName) prog_1_method_22_code (2 : Nat) (Option.some ClassFile.FieldType.boolean)) ∈ lw_tbl := List.mem_append_right _ (List.mem_of_getElem? (i := 789) (by decide +kernel))
set_option maxRecDepth 20000 in
theorem k_790 : (Cond.stringRef "StitchDesk" (97 : Nat) "no such ring or place") ∈ lw_tbl := List.mem_append_right _ (List.mem_of_getElem? (i := 790) (by decide +kernel))
set_option maxRecDepth 20000 in
theorem k_791 : (Cond.stringRef "StitchDesk" (108 : Nat) "the ring has 24 corners") ∈ lw_tbl := List.mem_append_right _ (List.mem_of_getElem? (i := 791) (by decide +kernel))
set_option maxRecDepth 20000 in
theorem k_792 : (Cond.methodLinkNest "StitchDesk" (110 : Nat) ({ cls := "StitchDesk$Ring", name := "add", desc := "(II)V" } : MethodName) "StitchDesk") ∈ lw_tbl := List.mem_append_right _ (List.mem_of_getElem? (i := 792) (by decide +kernel))
set_option maxRecDepth 20000 in
theorem k_793 : (Cond.privateMethod ({ cls := "StitchDesk$Ring", name := "add", desc := "(II)V" } : MethodName)) ∈ lw_tbl := List.mem_append_right _ (List.mem_of_getElem? (i := 793) (by decide +kernel))
set_option maxRecDepth 20000 in
theorem k_794 : (Cond.instanceMethod ({ cls := "StitchDesk$Ring", name := "add", desc := "(II)V" } : MethodName)) ∈ lw_tbl := List.mem_append_right _ (List.mem_of_getElem? (i := 794) (by decide +kernel))
set_option maxRecDepth 20000 in
theorem k_795 : (Cond.code ({ cls := "StitchDesk$Ring", name := "add", desc := "(II)V" } : MethodName) prog_7_method_3_code (3 : Nat) (Option.none : Option ClassFile.FieldType)) ∈ lw_tbl := List.mem_append_right _ (List.mem_of_getElem? (i := 795) (by decide +kernel))
set_option maxRecDepth 20000 in
theorem k_796 : (Cond.methodLink "StitchDeskLaw" (71 : Nat) ({ cls := "StitchDeskLaw", name := "rail", desc := "(LStitchDesk;III[J)I" } : MethodName)) ∈ lw_tbl := List.mem_append_right _ (List.mem_of_getElem? (i := 796) (by decide +kernel))
set_option maxRecDepth 20000 in
theorem k_797 : (Cond.static ({ cls := "StitchDeskLaw", name := "rail", desc := "(LStitchDesk;III[J)I" } : MethodName)) ∈ lw_tbl := List.mem_append_right _ (List.mem_of_getElem? (i := 797) (by decide +kernel))
set_option maxRecDepth 20000 in
theorem k_798 : (Cond.codeWith ({ cls := "StitchDeskLaw", name := "rail", desc := "(LStitchDesk;III[J)I" } : MethodName) method_5_code (6 : Nat) (Option.some ClassFile.FieldType.int) [((0 : Nat), (12 : Nat), (15 : Nat), (13 : Nat)), ((0 : Nat), (12 : Nat), (19 : Nat), (17 : Nat)), ((0 : Nat), (12 : Nat), (23 : Nat), (15 : Nat))]) ∈ lw_tbl := List.mem_append_right _ (List.mem_of_getElem? (i := 798) (by decide +kernel))
set_option maxRecDepth 20000 in
theorem k_799 : (Cond.methodLink "StitchDeskLaw" (23 : Nat) ({ cls := "StitchDesk", name := "rail", desc := "(III)I" } : MethodName)) ∈ lw_tbl := List.mem_append_right _ (List.mem_of_getElem? (i := 799) (by decide +kernel))
set_option maxRecDepth 20000 in
theorem k_800 : (Cond.instanceMethod ({ cls := "StitchDesk", name := "rail", desc := "(III)I" } : MethodName)) ∈ lw_tbl := List.mem_append_right _ (List.mem_of_getElem? (i := 800) (by decide +kernel))
set_option maxRecDepth 20000 in
theorem k_801 : (Cond.selects "StitchDesk" ({ cls := "StitchDesk", name := "rail", desc := "(III)I" } : MethodName) ({ cls := "StitchDesk", name := "rail", desc := "(III)I" } : MethodName)) ∈ lw_tbl := List.mem_append_right _ (List.mem_of_getElem? (i := 801) (by decide +kernel))
set_option maxRecDepth 20000 in
theorem k_802 : (Cond.code ({ cls := "StitchDesk", name := "rail", desc := "(III)I" } : MethodName) prog_1_method_4_code (5 : Nat) (Option.some ClassFile.FieldType.int)) ∈ lw_tbl := List.mem_append_right _ (List.mem_of_getElem? (i := 802) (by decide +kernel))
set_option maxRecDepth 20000 in
theorem k_803 : (Cond.stringRef "StitchDesk" (114 : Nat) "no shape with rails is open") ∈ lw_tbl := List.mem_append_right _ (List.mem_of_getElem? (i := 803) (by decide +kernel))
set_option maxRecDepth 20000 in
theorem k_804 : (Cond.stringRef "StitchDesk" (116 : Nat) "no such rail or place") ∈ lw_tbl := List.mem_append_right _ (List.mem_of_getElem? (i := 804) (by decide +kernel))
set_option maxRecDepth 20000 in
theorem k_805 : (Cond.stringRef "StitchDesk" (121 : Nat) "the rail has 16 corners") ∈ lw_tbl := List.mem_append_right _ (List.mem_of_getElem? (i := 805) (by decide +kernel))
set_option maxRecDepth 20000 in
theorem k_806 : (Cond.methodLink "StitchDeskLaw" (74 : Nat) ({ cls := "StitchDeskLaw", name := "end", desc := "(LStitchDesk;[J)I" } : MethodName)) ∈ lw_tbl := List.mem_append_right _ (List.mem_of_getElem? (i := 806) (by decide +kernel))
set_option maxRecDepth 20000 in
theorem k_807 : (Cond.static ({ cls := "StitchDeskLaw", name := "end", desc := "(LStitchDesk;[J)I" } : MethodName)) ∈ lw_tbl := List.mem_append_right _ (List.mem_of_getElem? (i := 807) (by decide +kernel))
set_option maxRecDepth 20000 in
theorem k_808 : (Cond.codeWith ({ cls := "StitchDeskLaw", name := "end", desc := "(LStitchDesk;[J)I" } : MethodName) method_6_code (3 : Nat) (Option.some ClassFile.FieldType.int) [((0 : Nat), (8 : Nat), (11 : Nat), (13 : Nat))]) ∈ lw_tbl := List.mem_append_right _ (List.mem_of_getElem? (i := 808) (by decide +kernel))
set_option maxRecDepth 20000 in
theorem k_809 : (Cond.methodLink "StitchDeskLaw" (26 : Nat) ({ cls := "StitchDesk", name := "end", desc := "()I" } : MethodName)) ∈ lw_tbl := List.mem_append_right _ (List.mem_of_getElem? (i := 809) (by decide +kernel))
set_option maxRecDepth 20000 in
theorem k_810 : (Cond.instanceMethod ({ cls := "StitchDesk", name := "end", desc := "()I" } : MethodName)) ∈ lw_tbl := List.mem_append_right _ (List.mem_of_getElem? (i := 810) (by decide +kernel))
set_option maxRecDepth 20000 in
theorem k_811 : (Cond.selects "StitchDesk" ({ cls := "StitchDesk", name := "end", desc := "()I" } : MethodName) ({ cls := "StitchDesk", name := "end", desc := "()I" } : MethodName)) ∈ lw_tbl := List.mem_append_right _ (List.mem_of_getElem? (i := 811) (by decide +kernel))
set_option maxRecDepth 20000 in
theorem k_812 : (Cond.code ({ cls := "StitchDesk", name := "end", desc := "()I" } : MethodName) prog_1_method_5_code (3 : Nat) (Option.some ClassFile.FieldType.int)) ∈ lw_tbl := List.mem_append_right _ (List.mem_of_getElem? (i := 812) (by decide +kernel))
set_option maxRecDepth 20000 in
theorem k_813 : (Cond.stringRef "StitchDesk" (123 : Nat) "no shape is open") ∈ lw_tbl := List.mem_append_right _ (List.mem_of_getElem? (i := 813) (by decide +kernel))
set_option maxRecDepth 20000 in
theorem k_814 : (Cond.methodLinkNest "StitchDesk" (125 : Nat) ({ cls := "StitchDesk$Inspector", name := "inspect", desc := "(LStitchDesk$Shape;)I" } : MethodName) "StitchDesk") ∈ lw_tbl := List.mem_append_right _ (List.mem_of_getElem? (i := 814) (by decide +kernel))
set_option maxRecDepth 20000 in
theorem k_815 : (Cond.privateMethod ({ cls := "StitchDesk$Inspector", name := "inspect", desc := "(LStitchDesk$Shape;)I" } : MethodName)) ∈ lw_tbl := List.mem_append_right _ (List.mem_of_getElem? (i := 815) (by decide +kernel))
set_option maxRecDepth 20000 in
theorem k_816 : (Cond.instanceMethod ({ cls := "StitchDesk$Inspector", name := "inspect", desc := "(LStitchDesk$Shape;)I" } : MethodName)) ∈ lw_tbl := List.mem_append_right _ (List.mem_of_getElem? (i := 816) (by decide +kernel))
set_option maxRecDepth 20000 in
theorem k_817 : (Cond.code ({ cls := "StitchDesk$Inspector", name := "inspect", desc := "(LStitchDesk$Shape;)I" } : MethodName) prog_3_method_2_code (2 : Nat) (Option.some ClassFile.FieldType.int)) ∈ lw_tbl := List.mem_append_right _ (List.mem_of_getElem? (i := 817) (by decide +kernel))
set_option maxRecDepth 20000 in
theorem k_818 : (Cond.methodLink "StitchDesk$Inspector" (39 : Nat) ({ cls := "StitchDesk$Inspector", name := "faultOfRails", desc := "(LStitchDesk$Shape;)I" } : MethodName)) ∈ lw_tbl := List.mem_append_right _ (List.mem_of_getElem? (i := 818) (by decide +kernel))
set_option maxRecDepth 20000 in
theorem k_819 : (Cond.privateMethod ({ cls := "StitchDesk$Inspector", name := "faultOfRails", desc := "(LStitchDesk$Shape;)I" } : MethodName)) ∈ lw_tbl := List.mem_append_right _ (List.mem_of_getElem? (i := 819) (by decide +kernel))
set_option maxRecDepth 20000 in
theorem k_820 : (Cond.instanceMethod ({ cls := "StitchDesk$Inspector", name := "faultOfRails", desc := "(LStitchDesk$Shape;)I" } : MethodName)) ∈ lw_tbl := List.mem_append_right _ (List.mem_of_getElem? (i := 820) (by decide +kernel))
set_option maxRecDepth 20000 in
theorem k_821 : (Cond.code ({ cls := "StitchDesk$Inspector", name := "faultOfRails", desc := "(LStitchDesk$Shape;)I" } : MethodName) prog_3_method_3_code (3 : Nat) (Option.some ClassFile.FieldType.int)) ∈ lw_tbl := List.mem_append_right _ (List.mem_of_getElem? (i := 821) (by decide +kernel))
set_option maxRecDepth 20000 in
theorem k_822 : (Cond.methodLink "StitchDesk$Inspector" (43 : Nat) ({ cls := "StitchDesk$Inspector", name := "faultOfRings", desc := "(LStitchDesk$Shape;)I" } : MethodName)) ∈ lw_tbl := List.mem_append_right _ (List.mem_of_getElem? (i := 822) (by decide +kernel))
set_option maxRecDepth 20000 in
theorem k_823 : (Cond.privateMethod ({ cls := "StitchDesk$Inspector", name := "faultOfRings", desc := "(LStitchDesk$Shape;)I" } : MethodName)) ∈ lw_tbl := List.mem_append_right _ (List.mem_of_getElem? (i := 823) (by decide +kernel))
set_option maxRecDepth 20000 in
theorem k_824 : (Cond.instanceMethod ({ cls := "StitchDesk$Inspector", name := "faultOfRings", desc := "(LStitchDesk$Shape;)I" } : MethodName)) ∈ lw_tbl := List.mem_append_right _ (List.mem_of_getElem? (i := 824) (by decide +kernel))
set_option maxRecDepth 20000 in
theorem k_825 : (Cond.code ({ cls := "StitchDesk$Inspector", name := "faultOfRings", desc := "(LStitchDesk$Shape;)I" } : MethodName) prog_3_method_4_code (2 : Nat) (Option.some ClassFile.FieldType.int)) ∈ lw_tbl := List.mem_append_right _ (List.mem_of_getElem? (i := 825) (by decide +kernel))
set_option maxRecDepth 20000 in
theorem k_826 : (Cond.methodLink "StitchDesk$Inspector" (58 : Nat) ({ cls := "StitchDesk$Inspector", name := "hasFlatRing", desc := "(LStitchDesk$Shape;)Z" } : MethodName)) ∈ lw_tbl := List.mem_append_right _ (List.mem_of_getElem? (i := 826) (by decide +kernel))
set_option maxRecDepth 20000 in
theorem k_827 : (Cond.privateMethod ({ cls := "StitchDesk$Inspector", name := "hasFlatRing", desc := "(LStitchDesk$Shape;)Z" } : MethodName)) ∈ lw_tbl := List.mem_append_right _ (List.mem_of_getElem? (i := 827) (by decide +kernel))
set_option maxRecDepth 20000 in
theorem k_828 : (Cond.instanceMethod ({ cls := "StitchDesk$Inspector", name := "hasFlatRing", desc := "(LStitchDesk$Shape;)Z" } : MethodName)) ∈ lw_tbl := List.mem_append_right _ (List.mem_of_getElem? (i := 828) (by decide +kernel))
set_option maxRecDepth 20000 in
theorem k_829 : (Cond.code ({ cls := "StitchDesk$Inspector", name := "hasFlatRing", desc := "(LStitchDesk$Shape;)Z" } : MethodName) prog_3_method_5_code (5 : Nat) (Option.some ClassFile.FieldType.boolean)) ∈ lw_tbl := List.mem_append_right _ (List.mem_of_getElem? (i := 829) (by decide +kernel))
set_option maxRecDepth 20000 in
theorem k_830 : (Cond.methodLinkNest "StitchDesk$Inspector" (79 : Nat) ({ cls := "StitchDesk$Ring", name := "isFlat", desc := "()Z" } : MethodName) "StitchDesk") ∈ lw_tbl := List.mem_append_right _ (List.mem_of_getElem? (i := 830) (by decide +kernel))
set_option maxRecDepth 20000 in
theorem k_831 : (Cond.privateMethod ({ cls := "StitchDesk$Ring", name := "isFlat", desc := "()Z" } : MethodName)) ∈ lw_tbl := List.mem_append_right _ (List.mem_of_getElem? (i := 831) (by decide +kernel))
set_option maxRecDepth 20000 in
theorem k_832 : (Cond.instanceMethod ({ cls := "StitchDesk$Ring", name := "isFlat", desc := "()Z" } : MethodName)) ∈ lw_tbl := List.mem_append_right _ (List.mem_of_getElem? (i := 832) (by decide +kernel))
set_option maxRecDepth 20000 in
theorem k_833 : (Cond.code ({ cls := "StitchDesk$Ring", name := "isFlat", desc := "()Z" } : MethodName) prog_7_method_5_code (4 : Nat) (Option.some ClassFile.FieldType.boolean)) ∈ lw_tbl := List.mem_append_right _ (List.mem_of_getElem? (i := 833) (by decide +kernel))
set_option maxRecDepth 20000 in
theorem k_834 : (Cond.methodLink "StitchDesk$Inspector" (62 : Nat) ({ cls := "StitchDesk$Inspector", name := "gatherEdges", desc := "(LStitchDesk$Shape;)V" } : MethodName)) ∈ lw_tbl := List.mem_append_right _ (List.mem_of_getElem? (i := 834) (by decide +kernel))
set_option maxRecDepth 20000 in
theorem k_835 : (Cond.privateMethod ({ cls := "StitchDesk$Inspector", name := "gatherEdges", desc := "(LStitchDesk$Shape;)V" } : MethodName)) ∈ lw_tbl := List.mem_append_right _ (List.mem_of_getElem? (i := 835) (by decide +kernel))
set_option maxRecDepth 20000 in
theorem k_836 : (Cond.instanceMethod ({ cls := "StitchDesk$Inspector", name := "gatherEdges", desc := "(LStitchDesk$Shape;)V" } : MethodName)) ∈ lw_tbl := List.mem_append_right _ (List.mem_of_getElem? (i := 836) (by decide +kernel))
set_option maxRecDepth 20000 in
theorem k_837 : (Cond.code ({ cls := "StitchDesk$Inspector", name := "gatherEdges", desc := "(LStitchDesk$Shape;)V" } : MethodName) prog_3_method_6_code (7 : Nat) (Option.none : Option ClassFile.FieldType)) ∈ lw_tbl := List.mem_append_right _ (List.mem_of_getElem? (i := 837) (by decide +kernel))
set_option maxRecDepth 20000 in
theorem k_838 : (Cond.methodLinkNest "StitchDesk$Inspector" (85 : Nat) ({ cls := "StitchDesk$Ring", name := "next", desc := "(I)I" } : MethodName) "StitchDesk") ∈ lw_tbl := List.mem_append_right _ (List.mem_of_getElem? (i := 838) (by decide +kernel))
set_option maxRecDepth 20000 in
theorem k_839 : (Cond.methodLink "StitchDesk$Inspector" (66 : Nat) ({ cls := "StitchDesk$Inspector", name := "findCrossing", desc := "()Z" } : MethodName)) ∈ lw_tbl := List.mem_append_right _ (List.mem_of_getElem? (i := 839) (by decide +kernel))
set_option maxRecDepth 20000 in
theorem k_840 : (Cond.privateMethod ({ cls := "StitchDesk$Inspector", name := "findCrossing", desc := "()Z" } : MethodName)) ∈ lw_tbl := List.mem_append_right _ (List.mem_of_getElem? (i := 840) (by decide +kernel))
set_option maxRecDepth 20000 in
theorem k_841 : (Cond.instanceMethod ({ cls := "StitchDesk$Inspector", name := "findCrossing", desc := "()Z" } : MethodName)) ∈ lw_tbl := List.mem_append_right _ (List.mem_of_getElem? (i := 841) (by decide +kernel))
set_option maxRecDepth 20000 in
theorem k_842 : (Cond.code ({ cls := "StitchDesk$Inspector", name := "findCrossing", desc := "()Z" } : MethodName) prog_3_method_7_code (3 : Nat) (Option.some ClassFile.FieldType.boolean)) ∈ lw_tbl := List.mem_append_right _ (List.mem_of_getElem? (i := 842) (by decide +kernel))
set_option maxRecDepth 20000 in
theorem k_843 : (Cond.methodLink "StitchDesk$Inspector" (95 : Nat) ({ cls := "StitchDesk$Inspector", name := "areCrossed", desc := "(II)Z" } : MethodName)) ∈ lw_tbl := List.mem_append_right _ (List.mem_of_getElem? (i := 843) (by decide +kernel))
set_option maxRecDepth 20000 in
theorem k_844 : (Cond.privateMethod ({ cls := "StitchDesk$Inspector", name := "areCrossed", desc := "(II)Z" } : MethodName)) ∈ lw_tbl := List.mem_append_right _ (List.mem_of_getElem? (i := 844) (by decide +kernel))
set_option maxRecDepth 20000 in
theorem k_845 : (Cond.instanceMethod ({ cls := "StitchDesk$Inspector", name := "areCrossed", desc := "(II)Z" } : MethodName)) ∈ lw_tbl := List.mem_append_right _ (List.mem_of_getElem? (i := 845) (by decide +kernel))
set_option maxRecDepth 20000 in
theorem k_846 : (Cond.code ({ cls := "StitchDesk$Inspector", name := "areCrossed", desc := "(II)Z" } : MethodName) prog_3_method_8_code (3 : Nat) (Option.some ClassFile.FieldType.boolean)) ∈ lw_tbl := List.mem_append_right _ (List.mem_of_getElem? (i := 846) (by decide +kernel))
set_option maxRecDepth 20000 in
theorem k_847 : (Cond.methodLink "StitchDesk$Inspector" (99 : Nat) ({ cls := "StitchDesk$Inspector", name := "turnsBack", desc := "(II)Z" } : MethodName)) ∈ lw_tbl := List.mem_append_right _ (List.mem_of_getElem? (i := 847) (by decide +kernel))
set_option maxRecDepth 20000 in
theorem k_848 : (Cond.privateMethod ({ cls := "StitchDesk$Inspector", name := "turnsBack", desc := "(II)Z" } : MethodName)) ∈ lw_tbl := List.mem_append_right _ (List.mem_of_getElem? (i := 848) (by decide +kernel))
set_option maxRecDepth 20000 in
theorem k_849 : (Cond.instanceMethod ({ cls := "StitchDesk$Inspector", name := "turnsBack", desc := "(II)Z" } : MethodName)) ∈ lw_tbl := List.mem_append_right _ (List.mem_of_getElem? (i := 849) (by decide +kernel))
set_option maxRecDepth 20000 in
theorem k_850 : (Cond.code ({ cls := "StitchDesk$Inspector", name := "turnsBack", desc := "(II)Z" } : MethodName) prog_3_method_9_code (7 : Nat) (Option.some ClassFile.FieldType.boolean)) ∈ lw_tbl := List.mem_append_right _ (List.mem_of_getElem? (i := 850) (by decide +kernel))
set_option maxRecDepth 20000 in
theorem k_851 : (Cond.methodLink "StitchDesk$Inspector" (102 : Nat) ({ cls := "StitchDesk$Inspector", name := "sharePoint", desc := "(II)Z" } : MethodName)) ∈ lw_tbl := List.mem_append_right _ (List.mem_of_getElem? (i := 851) (by decide +kernel))
set_option maxRecDepth 20000 in
theorem k_852 : (Cond.privateMethod ({ cls := "StitchDesk$Inspector", name := "sharePoint", desc := "(II)Z" } : MethodName)) ∈ lw_tbl := List.mem_append_right _ (List.mem_of_getElem? (i := 852) (by decide +kernel))
set_option maxRecDepth 20000 in
theorem k_853 : (Cond.instanceMethod ({ cls := "StitchDesk$Inspector", name := "sharePoint", desc := "(II)Z" } : MethodName)) ∈ lw_tbl := List.mem_append_right _ (List.mem_of_getElem? (i := 853) (by decide +kernel))
set_option maxRecDepth 20000 in
theorem k_854 : (Cond.code ({ cls := "StitchDesk$Inspector", name := "sharePoint", desc := "(II)Z" } : MethodName) prog_3_method_10_code (5 : Nat) (Option.some ClassFile.FieldType.boolean)) ∈ lw_tbl := List.mem_append_right _ (List.mem_of_getElem? (i := 854) (by decide +kernel))
set_option maxRecDepth 20000 in
theorem k_855 : (Cond.methodLink "StitchDesk$Inspector" (105 : Nat) ({ cls := "java/lang/Math", name := "max", desc := "(II)I" } : MethodName)) ∈ lw_tbl := List.mem_append_right _ (List.mem_of_getElem? (i := 855) (by decide +kernel))
set_option maxRecDepth 20000 in
theorem k_856 : (Cond.methodLink "StitchDesk$Inspector" (111 : Nat) ({ cls := "java/lang/Math", name := "min", desc := "(II)I" } : MethodName)) ∈ lw_tbl := List.mem_append_right _ (List.mem_of_getElem? (i := 856) (by decide +kernel))
set_option maxRecDepth 20000 in
theorem k_857 : (Cond.methodLink "StitchDesk$Inspector" (114 : Nat) ({ cls := "StitchDesk$Inspector", name := "turn", desc := "(III)I" } : MethodName)) ∈ lw_tbl := List.mem_append_right _ (List.mem_of_getElem? (i := 857) (by decide +kernel))
set_option maxRecDepth 20000 in
theorem k_858 : (Cond.privateMethod ({ cls := "StitchDesk$Inspector", name := "turn", desc := "(III)I" } : MethodName)) ∈ lw_tbl := List.mem_append_right _ (List.mem_of_getElem? (i := 858) (by decide +kernel))
set_option maxRecDepth 20000 in
theorem k_859 : (Cond.instanceMethod ({ cls := "StitchDesk$Inspector", name := "turn", desc := "(III)I" } : MethodName)) ∈ lw_tbl := List.mem_append_right _ (List.mem_of_getElem? (i := 859) (by decide +kernel))
set_option maxRecDepth 20000 in
theorem k_860 : (Cond.code ({ cls := "StitchDesk$Inspector", name := "turn", desc := "(III)I" } : MethodName) prog_3_method_11_code (4 : Nat) (Option.some ClassFile.FieldType.int)) ∈ lw_tbl := List.mem_append_right _ (List.mem_of_getElem? (i := 860) (by decide +kernel))
set_option maxRecDepth 20000 in
theorem k_861 : (Cond.methodLink "StitchDesk$Inspector" (118 : Nat) ({ cls := "java/lang/Integer", name := "signum", desc := "(I)I" } : MethodName)) ∈ lw_tbl := List.mem_append_right _ (List.mem_of_getElem? (i := 861) (by decide +kernel))
set_option maxRecDepth 20000 in
theorem k_862 : (Cond.static ({ cls := "java/lang/Integer", name := "signum", desc := "(I)I" } : MethodName)) ∈ lw_tbl := List.mem_append_right _ (List.mem_of_getElem? (i := 862) (by decide +kernel))
set_option maxRecDepth 20000 in
theorem k_863 : (Cond.code ({ cls := "java/lang/Integer", name := "signum", desc := "(I)I" } : MethodName) prog_18_method_56_code (1 : Nat) (Option.some ClassFile.FieldType.int)) ∈ lw_tbl := List.mem_append_right _ (List.mem_of_getElem? (i := 863) (by decide +kernel))
set_option maxRecDepth 20000 in
theorem k_864 : (Cond.methodLink "StitchDesk$Inspector" (70 : Nat) ({ cls := "StitchDesk$Inspector", name := "hasHoleOutside", desc := "(LStitchDesk$Shape;)Z" } : MethodName)) ∈ lw_tbl := List.mem_append_right _ (List.mem_of_getElem? (i := 864) (by decide +kernel))
set_option maxRecDepth 20000 in
theorem k_865 : (Cond.privateMethod ({ cls := "StitchDesk$Inspector", name := "hasHoleOutside", desc := "(LStitchDesk$Shape;)Z" } : MethodName)) ∈ lw_tbl := List.mem_append_right _ (List.mem_of_getElem? (i := 865) (by decide +kernel))
set_option maxRecDepth 20000 in
theorem k_866 : (Cond.instanceMethod ({ cls := "StitchDesk$Inspector", name := "hasHoleOutside", desc := "(LStitchDesk$Shape;)Z" } : MethodName)) ∈ lw_tbl := List.mem_append_right _ (List.mem_of_getElem? (i := 866) (by decide +kernel))
set_option maxRecDepth 20000 in
theorem k_867 : (Cond.code ({ cls := "StitchDesk$Inspector", name := "hasHoleOutside", desc := "(LStitchDesk$Shape;)Z" } : MethodName) prog_3_method_12_code (4 : Nat) (Option.some ClassFile.FieldType.boolean)) ∈ lw_tbl := List.mem_append_right _ (List.mem_of_getElem? (i := 867) (by decide +kernel))
set_option maxRecDepth 20000 in
theorem k_868 : (Cond.methodLink "StitchDesk$Inspector" (123 : Nat) ({ cls := "StitchDesk$Inspector", name := "beginsInside", desc := "(LStitchDesk$Ring;LStitchDesk$Ring;)Z" } : MethodName)) ∈ lw_tbl := List.mem_append_right _ (List.mem_of_getElem? (i := 868) (by decide +kernel))
set_option maxRecDepth 20000 in
theorem k_869 : (Cond.static ({ cls := "StitchDesk$Inspector", name := "beginsInside", desc := "(LStitchDesk$Ring;LStitchDesk$Ring;)Z" } : MethodName)) ∈ lw_tbl := List.mem_append_right _ (List.mem_of_getElem? (i := 869) (by decide +kernel))
set_option maxRecDepth 20000 in
theorem k_870 : (Cond.code ({ cls := "StitchDesk$Inspector", name := "beginsInside", desc := "(LStitchDesk$Ring;LStitchDesk$Ring;)Z" } : MethodName) prog_3_method_14_code (2 : Nat) (Option.some ClassFile.FieldType.boolean)) ∈ lw_tbl := List.mem_append_right _ (List.mem_of_getElem? (i := 870) (by decide +kernel))
set_option maxRecDepth 20000 in
theorem k_871 : (Cond.methodLinkNest "StitchDesk$Inspector" (127 : Nat) ({ cls := "StitchDesk$Ring", name := "sideOf", desc := "(II)I" } : MethodName) "StitchDesk") ∈ lw_tbl := List.mem_append_right _ (List.mem_of_getElem? (i := 871) (by decide +kernel))
set_option maxRecDepth 20000 in
theorem k_872 : (Cond.methodLink "StitchDesk$Inspector" (73 : Nat) ({ cls := "StitchDesk$Inspector", name := "hasHoleWithin", desc := "(LStitchDesk$Shape;)Z" } : MethodName)) ∈ lw_tbl := List.mem_append_right _ (List.mem_of_getElem? (i := 872) (by decide +kernel))
set_option maxRecDepth 20000 in
theorem k_873 : (Cond.privateMethod ({ cls := "StitchDesk$Inspector", name := "hasHoleWithin", desc := "(LStitchDesk$Shape;)Z" } : MethodName)) ∈ lw_tbl := List.mem_append_right _ (List.mem_of_getElem? (i := 873) (by decide +kernel))
set_option maxRecDepth 20000 in
theorem k_874 : (Cond.instanceMethod ({ cls := "StitchDesk$Inspector", name := "hasHoleWithin", desc := "(LStitchDesk$Shape;)Z" } : MethodName)) ∈ lw_tbl := List.mem_append_right _ (List.mem_of_getElem? (i := 874) (by decide +kernel))
set_option maxRecDepth 20000 in
theorem k_875 : (Cond.code ({ cls := "StitchDesk$Inspector", name := "hasHoleWithin", desc := "(LStitchDesk$Shape;)Z" } : MethodName) prog_3_method_13_code (5 : Nat) (Option.some ClassFile.FieldType.boolean)) ∈ lw_tbl := List.mem_append_right _ (List.mem_of_getElem? (i := 875) (by decide +kernel))
set_option maxRecDepth 20000 in
theorem k_876 : (Cond.methodLinkNest "StitchDesk" (129 : Nat) ({ cls := "StitchDesk$Shape", name := "finish", desc := "()V" } : MethodName) "StitchDesk") ∈ lw_tbl := List.mem_append_right _ (List.mem_of_getElem? (i := 876) (by decide +kernel))
set_option maxRecDepth 20000 in
theorem k_877 : (Cond.privateMethod ({ cls := "StitchDesk$Shape", name := "finish", desc := "()V" } : MethodName)) ∈ lw_tbl := List.mem_append_right _ (List.mem_of_getElem? (i := 877) (by decide +kernel))
set_option maxRecDepth 20000 in
theorem k_878 : (Cond.instanceMethod ({ cls := "StitchDesk$Shape", name := "finish", desc := "()V" } : MethodName)) ∈ lw_tbl := List.mem_append_right _ (List.mem_of_getElem? (i := 878) (by decide +kernel))
set_option maxRecDepth 20000 in
theorem k_879 : (Cond.code ({ cls := "StitchDesk$Shape", name := "finish", desc := "()V" } : MethodName) prog_10_method_3_code (1 : Nat) (Option.none : Option ClassFile.FieldType)) ∈ lw_tbl := List.mem_append_right _ (List.mem_of_getElem? (i := 879) (by decide +kernel))
set_option maxRecDepth 20000 in
theorem k_880 : (Cond.methodLink "StitchDesk$Shape" (47 : Nat) ({ cls := "StitchDesk$Shape", name := "joinRails", desc := "()V" } : MethodName)) ∈ lw_tbl := List.mem_append_right _ (List.mem_of_getElem? (i := 880) (by decide +kernel))
set_option maxRecDepth 20000 in
theorem k_881 : (Cond.privateMethod ({ cls := "StitchDesk$Shape", name := "joinRails", desc := "()V" } : MethodName)) ∈ lw_tbl := List.mem_append_right _ (List.mem_of_getElem? (i := 881) (by decide +kernel))
set_option maxRecDepth 20000 in
theorem k_882 : (Cond.instanceMethod ({ cls := "StitchDesk$Shape", name := "joinRails", desc := "()V" } : MethodName)) ∈ lw_tbl := List.mem_append_right _ (List.mem_of_getElem? (i := 882) (by decide +kernel))
set_option maxRecDepth 20000 in
theorem k_883 : (Cond.code ({ cls := "StitchDesk$Shape", name := "joinRails", desc := "()V" } : MethodName) prog_10_method_4_code (3 : Nat) (Option.none : Option ClassFile.FieldType)) ∈ lw_tbl := List.mem_append_right _ (List.mem_of_getElem? (i := 883) (by decide +kernel))
set_option maxRecDepth 20000 in
theorem k_884 : (Cond.methodLinkNest "StitchDesk$Shape" (63 : Nat) ({ cls := "StitchDesk$Ring", name := "add", desc := "(II)V" } : MethodName) "StitchDesk") ∈ lw_tbl := List.mem_append_right _ (List.mem_of_getElem? (i := 884) (by decide +kernel))
set_option maxRecDepth 20000 in
theorem k_885 : (Cond.methodLink "StitchDesk$Shape" (50 : Nat) ({ cls := "StitchDesk$Shape", name := "measure", desc := "()V" } : MethodName)) ∈ lw_tbl := List.mem_append_right _ (List.mem_of_getElem? (i := 885) (by decide +kernel))
set_option maxRecDepth 20000 in
theorem k_886 : (Cond.privateMethod ({ cls := "StitchDesk$Shape", name := "measure", desc := "()V" } : MethodName)) ∈ lw_tbl := List.mem_append_right _ (List.mem_of_getElem? (i := 886) (by decide +kernel))
set_option maxRecDepth 20000 in
theorem k_887 : (Cond.instanceMethod ({ cls := "StitchDesk$Shape", name := "measure", desc := "()V" } : MethodName)) ∈ lw_tbl := List.mem_append_right _ (List.mem_of_getElem? (i := 887) (by decide +kernel))
set_option maxRecDepth 20000 in
theorem k_888 : (Cond.code ({ cls := "StitchDesk$Shape", name := "measure", desc := "()V" } : MethodName) prog_10_method_5_code (4 : Nat) (Option.none : Option ClassFile.FieldType)) ∈ lw_tbl := List.mem_append_right _ (List.mem_of_getElem? (i := 888) (by decide +kernel))
set_option maxRecDepth 20000 in
theorem k_889 : (Cond.methodLink "StitchDesk$Shape" (79 : Nat) ({ cls := "java/lang/Math", name := "min", desc := "(II)I" } : MethodName)) ∈ lw_tbl := List.mem_append_right _ (List.mem_of_getElem? (i := 889) (by decide +kernel))
set_option maxRecDepth 20000 in
theorem k_890 : (Cond.methodLink "StitchDesk$Shape" (85 : Nat) ({ cls := "java/lang/Math", name := "max", desc := "(II)I" } : MethodName)) ∈ lw_tbl := List.mem_append_right _ (List.mem_of_getElem? (i := 890) (by decide +kernel))
set_option maxRecDepth 20000 in
theorem k_891 : (Cond.methodLink "StitchDeskLaw" (82 : Nat) ({ cls := "StitchDeskLaw", name := "shape", desc := "(LStitchDesk;II[J)I" } : MethodName)) ∈ lw_tbl := List.mem_append_right _ (List.mem_of_getElem? (i := 891) (by decide +kernel))
set_option maxRecDepth 20000 in
theorem k_892 : (Cond.static ({ cls := "StitchDeskLaw", name := "shape", desc := "(LStitchDesk;II[J)I" } : MethodName)) ∈ lw_tbl := List.mem_append_right _ (List.mem_of_getElem? (i := 892) (by decide +kernel))
set_option maxRecDepth 20000 in
theorem k_893 : (Cond.codeWith ({ cls := "StitchDeskLaw", name := "shape", desc := "(LStitchDesk;II[J)I" } : MethodName) method_7_code (5 : Nat) (Option.some ClassFile.FieldType.int) [((0 : Nat), (10 : Nat), (13 : Nat), (34 : Nat)), ((0 : Nat), (10 : Nat), (17 : Nat), (17 : Nat))]) ∈ lw_tbl := List.mem_append_right _ (List.mem_of_getElem? (i := 893) (by decide +kernel))
set_option maxRecDepth 20000 in
theorem k_894 : (Cond.classLink "StitchDeskLaw" (34 : Nat) "java/util/NoSuchElementException") ∈ lw_tbl := List.mem_append_right _ (List.mem_of_getElem? (i := 894) (by decide +kernel))
set_option maxRecDepth 20000 in
theorem k_895 : (Cond.methodLink "StitchDeskLaw" (30 : Nat) ({ cls := "StitchDesk", name := "shape", desc := "(II)I" } : MethodName)) ∈ lw_tbl := List.mem_append_right _ (List.mem_of_getElem? (i := 895) (by decide +kernel))
set_option maxRecDepth 20000 in
theorem k_896 : (Cond.instanceMethod ({ cls := "StitchDesk", name := "shape", desc := "(II)I" } : MethodName)) ∈ lw_tbl := List.mem_append_right _ (List.mem_of_getElem? (i := 896) (by decide +kernel))
set_option maxRecDepth 20000 in
theorem k_897 : (Cond.selects "StitchDesk" ({ cls := "StitchDesk", name := "shape", desc := "(II)I" } : MethodName) ({ cls := "StitchDesk", name := "shape", desc := "(II)I" } : MethodName)) ∈ lw_tbl := List.mem_append_right _ (List.mem_of_getElem? (i := 897) (by decide +kernel))
set_option maxRecDepth 20000 in
theorem k_898 : (Cond.code ({ cls := "StitchDesk", name := "shape", desc := "(II)I" } : MethodName) prog_1_method_7_code (4 : Nat) (Option.some ClassFile.FieldType.int)) ∈ lw_tbl := List.mem_append_right _ (List.mem_of_getElem? (i := 898) (by decide +kernel))
set_option maxRecDepth 20000 in
theorem k_899 : (Cond.classLink "StitchDesk" (149 : Nat) "java/util/NoSuchElementException") ∈ lw_tbl := List.mem_append_right _ (List.mem_of_getElem? (i := 899) (by decide +kernel))
set_option maxRecDepth 20000 in
theorem k_900 : (Cond.instantiable "java/util/NoSuchElementException" (6 : Nat)) ∈ lw_tbl := List.mem_append_right _ (List.mem_of_getElem? (i := 900) (by decide +kernel))
end
section
set_option maxRecDepth 20000 in
theorem k_901 : (Cond.castable "java/util/NoSuchElementException" "java/util/NoSuchElementException") ∈ lw_tbl := List.mem_append_right _ (List.mem_of_getElem? (i := 901) (by decide +kernel))
set_option maxRecDepth 20000 in
theorem k_902 : (Cond.selects "java/util/NoSuchElementException" ({ cls := "java/lang/Throwable", name := "fillInStackTrace", desc := "(I)Ljava/lang/Throwable;" } : MethodName) ({ cls := "java/lang/Throwable", name := "fillInStackTrace", desc := "(I)Ljava/lang/Throwable;" } : MethodName)) ∈ lw_tbl := List.mem_append_right _ (List.mem_of_getElem? (i := 902) (by decide +kernel))
set_option maxRecDepth 20000 in
theorem k_903 : (Cond.lays "java/util/NoSuchElementException" "java/lang/Throwable" "cause" "Ljava/lang/Throwable;") ∈ lw_tbl := List.mem_append_right _ (List.mem_of_getElem? (i := 903) (by decide +kernel))
set_option maxRecDepth 20000 in
theorem k_904 : (Cond.lays "java/util/NoSuchElementException" "java/lang/Throwable" "stackTrace" "[Ljava/lang/StackTraceElement;") ∈ lw_tbl := List.mem_append_right _ (List.mem_of_getElem? (i := 904) (by decide +kernel))
set_option maxRecDepth 20000 in
theorem k_905 : (Cond.lays "java/util/NoSuchElementException" "java/lang/Throwable" "suppressedExceptions" "Ljava/util/List;") ∈ lw_tbl := List.mem_append_right _ (List.mem_of_getElem? (i := 905) (by decide +kernel))
set_option maxRecDepth 20000 in
theorem k_906 : (Cond.lays "java/util/NoSuchElementException" "java/lang/Throwable" "detailMessage" "Ljava/lang/String;") ∈ lw_tbl := List.mem_append_right _ (List.mem_of_getElem? (i := 906) (by decide +kernel))
set_option maxRecDepth 20000 in
theorem k_907 : (Cond.lays "java/util/NoSuchElementException" "java/lang/Throwable" "backtrace" "Ljava/lang/Object;") ∈ lw_tbl := List.mem_append_right _ (List.mem_of_getElem? (i := 907) (by decide +kernel))
set_option maxRecDepth 20000 in
theorem k_908 : (Cond.methodLink "StitchDesk" (151 : Nat) ({ cls := "java/util/NoSuchElementException", name := "<init>", desc := "(Ljava/lang/String;)V" } : MethodName)) ∈ lw_tbl := List.mem_append_right _ (List.mem_of_getElem? (i := 908) (by decide +kernel))
set_option maxRecDepth 20000 in
theorem k_909 : (Cond.instanceMethod ({ cls := "java/util/NoSuchElementException", name := "<init>", desc := "(Ljava/lang/String;)V" } : MethodName)) ∈ lw_tbl := List.mem_append_right _ (List.mem_of_getElem? (i := 909) (by decide +kernel))
set_option maxRecDepth 20000 in
theorem k_910 : (Cond.code ({ cls := "java/util/NoSuchElementException", name := "<init>", desc := "(Ljava/lang/String;)V" } : MethodName) prog_24_method_4_code (2 : Nat) (Option.none : Option ClassFile.FieldType)) ∈ lw_tbl := List.mem_append_right _ (List.mem_of_getElem? (i := 910) (by decide +kernel))
set_option maxRecDepth 20000 in
theorem k_911 : (Cond.methodLink "java/util/NoSuchElementException" (13 : Nat) ({ cls := "java/lang/RuntimeException", name := "<init>", desc := "(Ljava/lang/String;)V" } : MethodName)) ∈ lw_tbl := List.mem_append_right _ (List.mem_of_getElem? (i := 911) (by decide +kernel))
set_option maxRecDepth 20000 in
theorem k_912 : (Cond.lays "java/util/NoSuchElementException" "java/lang/Throwable" "depth" "I") ∈ lw_tbl := List.mem_append_right _ (List.mem_of_getElem? (i := 912) (by decide +kernel))
set_option maxRecDepth 20000 in
theorem k_913 : (Cond.superclass "java/util/NoSuchElementException" "java/lang/RuntimeException") ∈ lw_tbl := List.mem_append_right _ (List.mem_of_getElem? (i := 913) (by decide +kernel))
set_option maxRecDepth 20000 in
theorem k_914 : (Cond.stringRef "StitchDesk" (181 : Nat) "no such number of a shape") ∈ lw_tbl := List.mem_append_right _ (List.mem_of_getElem? (i := 914) (by decide +kernel))
set_option maxRecDepth 20000 in
theorem k_915 : (Cond.methodLink "StitchDeskLaw" (94 : Nat) ({ cls := "StitchDeskLaw", name := "record", desc := "(LStitchDesk;II[J)I" } : MethodName)) ∈ lw_tbl := List.mem_append_right _ (List.mem_of_getElem? (i := 915) (by decide +kernel))
set_option maxRecDepth 20000 in
theorem k_916 : (Cond.static ({ cls := "StitchDeskLaw", name := "record", desc := "(LStitchDesk;II[J)I" } : MethodName)) ∈ lw_tbl := List.mem_append_right _ (List.mem_of_getElem? (i := 916) (by decide +kernel))
set_option maxRecDepth 20000 in
theorem k_917 : (Cond.codeWith ({ cls := "StitchDeskLaw", name := "record", desc := "(LStitchDesk;II[J)I" } : MethodName) method_8_code (5 : Nat) (Option.some ClassFile.FieldType.int) [((0 : Nat), (10 : Nat), (13 : Nat), (39 : Nat)), ((0 : Nat), (10 : Nat), (17 : Nat), (17 : Nat))]) ∈ lw_tbl := List.mem_append_right _ (List.mem_of_getElem? (i := 917) (by decide +kernel))
set_option maxRecDepth 20000 in
theorem k_918 : (Cond.classLink "StitchDeskLaw" (39 : Nat) "java/lang/IndexOutOfBoundsException") ∈ lw_tbl := List.mem_append_right _ (List.mem_of_getElem? (i := 918) (by decide +kernel))
set_option maxRecDepth 20000 in
theorem k_919 : (Cond.methodLink "StitchDeskLaw" (36 : Nat) ({ cls := "StitchDesk", name := "record", desc := "(II)I" } : MethodName)) ∈ lw_tbl := List.mem_append_right _ (List.mem_of_getElem? (i := 919) (by decide +kernel))
set_option maxRecDepth 20000 in
theorem k_920 : (Cond.instanceMethod ({ cls := "StitchDesk", name := "record", desc := "(II)I" } : MethodName)) ∈ lw_tbl := List.mem_append_right _ (List.mem_of_getElem? (i := 920) (by decide +kernel))
set_option maxRecDepth 20000 in
theorem k_921 : (Cond.selects "StitchDesk" ({ cls := "StitchDesk", name := "record", desc := "(II)I" } : MethodName) ({ cls := "StitchDesk", name := "record", desc := "(II)I" } : MethodName)) ∈ lw_tbl := List.mem_append_right _ (List.mem_of_getElem? (i := 921) (by decide +kernel))
set_option maxRecDepth 20000 in
theorem k_922 : (Cond.code ({ cls := "StitchDesk", name := "record", desc := "(II)I" } : MethodName) prog_1_method_10_code (3 : Nat) (Option.some ClassFile.FieldType.int)) ∈ lw_tbl := List.mem_append_right _ (List.mem_of_getElem? (i := 922) (by decide +kernel))
set_option maxRecDepth 20000 in
theorem k_923 : (Cond.classLink "StitchDesk" (202 : Nat) "java/lang/IndexOutOfBoundsException") ∈ lw_tbl := List.mem_append_right _ (List.mem_of_getElem? (i := 923) (by decide +kernel))
set_option maxRecDepth 20000 in
theorem k_924 : (Cond.instantiable "java/lang/IndexOutOfBoundsException" (6 : Nat)) ∈ lw_tbl := List.mem_append_right _ (List.mem_of_getElem? (i := 924) (by decide +kernel))
set_option maxRecDepth 20000 in
theorem k_925 : (Cond.castable "java/lang/IndexOutOfBoundsException" "java/lang/IndexOutOfBoundsException") ∈ lw_tbl := List.mem_append_right _ (List.mem_of_getElem? (i := 925) (by decide +kernel))
set_option maxRecDepth 20000 in
theorem k_926 : (Cond.selects "java/lang/IndexOutOfBoundsException" ({ cls := "java/lang/Throwable", name := "fillInStackTrace", desc := "(I)Ljava/lang/Throwable;" } : MethodName) ({ cls := "java/lang/Throwable", name := "fillInStackTrace", desc := "(I)Ljava/lang/Throwable;" } : MethodName)) ∈ lw_tbl := List.mem_append_right _ (List.mem_of_getElem? (i := 926) (by decide +kernel))
set_option maxRecDepth 20000 in
theorem k_927 : (Cond.lays "java/lang/IndexOutOfBoundsException" "java/lang/Throwable" "cause" "Ljava/lang/Throwable;") ∈ lw_tbl := List.mem_append_right _ (List.mem_of_getElem? (i := 927) (by decide +kernel))
set_option maxRecDepth 20000 in
theorem k_928 : (Cond.lays "java/lang/IndexOutOfBoundsException" "java/lang/Throwable" "stackTrace" "[Ljava/lang/StackTraceElement;") ∈ lw_tbl := List.mem_append_right _ (List.mem_of_getElem? (i := 928) (by decide +kernel))
set_option maxRecDepth 20000 in
theorem k_929 : (Cond.lays "java/lang/IndexOutOfBoundsException" "java/lang/Throwable" "suppressedExceptions" "Ljava/util/List;") ∈ lw_tbl := List.mem_append_right _ (List.mem_of_getElem? (i := 929) (by decide +kernel))
set_option maxRecDepth 20000 in
theorem k_930 : (Cond.lays "java/lang/IndexOutOfBoundsException" "java/lang/Throwable" "detailMessage" "Ljava/lang/String;") ∈ lw_tbl := List.mem_append_right _ (List.mem_of_getElem? (i := 930) (by decide +kernel))
set_option maxRecDepth 20000 in
theorem k_931 : (Cond.lays "java/lang/IndexOutOfBoundsException" "java/lang/Throwable" "backtrace" "Ljava/lang/Object;") ∈ lw_tbl := List.mem_append_right _ (List.mem_of_getElem? (i := 931) (by decide +kernel))
set_option maxRecDepth 20000 in
theorem k_932 : (Cond.stringRef "StitchDesk" (204 : Nat) "no such record") ∈ lw_tbl := List.mem_append_right _ (List.mem_of_getElem? (i := 932) (by decide +kernel))
set_option maxRecDepth 20000 in
theorem k_933 : (Cond.methodLink "StitchDesk" (206 : Nat) ({ cls := "java/lang/IndexOutOfBoundsException", name := "<init>", desc := "(Ljava/lang/String;)V" } : MethodName)) ∈ lw_tbl := List.mem_append_right _ (List.mem_of_getElem? (i := 933) (by decide +kernel))
set_option maxRecDepth 20000 in
theorem k_934 : (Cond.instanceMethod ({ cls := "java/lang/IndexOutOfBoundsException", name := "<init>", desc := "(Ljava/lang/String;)V" } : MethodName)) ∈ lw_tbl := List.mem_append_right _ (List.mem_of_getElem? (i := 934) (by decide +kernel))
set_option maxRecDepth 20000 in
theorem k_935 : (Cond.code ({ cls := "java/lang/IndexOutOfBoundsException", name := "<init>", desc := "(Ljava/lang/String;)V" } : MethodName) prog_17_method_2_code (2 : Nat) (Option.none : Option ClassFile.FieldType)) ∈ lw_tbl := List.mem_append_right _ (List.mem_of_getElem? (i := 935) (by decide +kernel))
set_option maxRecDepth 20000 in
theorem k_936 : (Cond.methodLink "java/lang/IndexOutOfBoundsException" (7 : Nat) ({ cls := "java/lang/RuntimeException", name := "<init>", desc := "(Ljava/lang/String;)V" } : MethodName)) ∈ lw_tbl := List.mem_append_right _ (List.mem_of_getElem? (i := 936) (by decide +kernel))
set_option maxRecDepth 20000 in
theorem k_937 : (Cond.lays "java/lang/IndexOutOfBoundsException" "java/lang/Throwable" "depth" "I") ∈ lw_tbl := List.mem_append_right _ (List.mem_of_getElem? (i := 937) (by decide +kernel))
set_option maxRecDepth 20000 in
theorem k_938 : (Cond.superclass "java/lang/IndexOutOfBoundsException" "java/lang/RuntimeException") ∈ lw_tbl := List.mem_append_right _ (List.mem_of_getElem? (i := 938) (by decide +kernel))
set_option maxRecDepth 20000 in
theorem k_939 : (Cond.methodLinkNest "StitchDesk" (207 : Nat) ({ cls := "StitchDesk$Path", name := "dx", desc := "(I)I" } : MethodName) "StitchDesk") ∈ lw_tbl := List.mem_append_right _ (List.mem_of_getElem? (i := 939) (by decide +kernel))
set_option maxRecDepth 20000 in
theorem k_940 : (Cond.methodLinkNest "StitchDesk" (211 : Nat) ({ cls := "StitchDesk$Path", name := "dy", desc := "(I)I" } : MethodName) "StitchDesk") ∈ lw_tbl := List.mem_append_right _ (List.mem_of_getElem? (i := 940) (by decide +kernel))
set_option maxRecDepth 20000 in
theorem k_941 : (Cond.stringRef "StitchDesk" (217 : Nat) "no such field of a record") ∈ lw_tbl := List.mem_append_right _ (List.mem_of_getElem? (i := 941) (by decide +kernel))
set_option maxRecDepth 20000 in
theorem k_942 : (Cond.methodLink "StitchDeskLaw" (97 : Nat) ({ cls := "StitchDeskLaw", name := "byteAt", desc := "(LStitchDesk;I[J)I" } : MethodName)) ∈ lw_tbl := List.mem_append_right _ (List.mem_of_getElem? (i := 942) (by decide +kernel))
set_option maxRecDepth 20000 in
theorem k_943 : (Cond.static ({ cls := "StitchDeskLaw", name := "byteAt", desc := "(LStitchDesk;I[J)I" } : MethodName)) ∈ lw_tbl := List.mem_append_right _ (List.mem_of_getElem? (i := 943) (by decide +kernel))
set_option maxRecDepth 20000 in
theorem k_944 : (Cond.codeWith ({ cls := "StitchDeskLaw", name := "byteAt", desc := "(LStitchDesk;I[J)I" } : MethodName) method_9_code (4 : Nat) (Option.some ClassFile.FieldType.int) [((0 : Nat), (9 : Nat), (12 : Nat), (39 : Nat))]) ∈ lw_tbl := List.mem_append_right _ (List.mem_of_getElem? (i := 944) (by decide +kernel))
set_option maxRecDepth 20000 in
theorem k_945 : (Cond.methodLink "StitchDeskLaw" (41 : Nat) ({ cls := "StitchDesk", name := "byteAt", desc := "(I)I" } : MethodName)) ∈ lw_tbl := List.mem_append_right _ (List.mem_of_getElem? (i := 945) (by decide +kernel))
set_option maxRecDepth 20000 in
theorem k_946 : (Cond.instanceMethod ({ cls := "StitchDesk", name := "byteAt", desc := "(I)I" } : MethodName)) ∈ lw_tbl := List.mem_append_right _ (List.mem_of_getElem? (i := 946) (by decide +kernel))
set_option maxRecDepth 20000 in
theorem k_947 : (Cond.selects "StitchDesk" ({ cls := "StitchDesk", name := "byteAt", desc := "(I)I" } : MethodName) ({ cls := "StitchDesk", name := "byteAt", desc := "(I)I" } : MethodName)) ∈ lw_tbl := List.mem_append_right _ (List.mem_of_getElem? (i := 947) (by decide +kernel))
set_option maxRecDepth 20000 in
theorem k_948 : (Cond.code ({ cls := "StitchDesk", name := "byteAt", desc := "(I)I" } : MethodName) prog_1_method_11_code (3 : Nat) (Option.some ClassFile.FieldType.int)) ∈ lw_tbl := List.mem_append_right _ (List.mem_of_getElem? (i := 948) (by decide +kernel))
set_option maxRecDepth 20000 in
theorem k_949 : (Cond.stringRef "StitchDesk" (219 : Nat) "no such byte") ∈ lw_tbl := List.mem_append_right _ (List.mem_of_getElem? (i := 949) (by decide +kernel))
set_option maxRecDepth 20000 in
theorem k_950 : (Cond.methodLinkNest "StitchDesk" (221 : Nat) ({ cls := "StitchDesk$Path", name := "packed", desc := "(I)I" } : MethodName) "StitchDesk") ∈ lw_tbl := List.mem_append_right _ (List.mem_of_getElem? (i := 950) (by decide +kernel))
set_option maxRecDepth 20000 in
theorem k_951 : (Cond.privateMethod ({ cls := "StitchDesk$Path", name := "packed", desc := "(I)I" } : MethodName)) ∈ lw_tbl := List.mem_append_right _ (List.mem_of_getElem? (i := 951) (by decide +kernel))
set_option maxRecDepth 20000 in
theorem k_952 : (Cond.instanceMethod ({ cls := "StitchDesk$Path", name := "packed", desc := "(I)I" } : MethodName)) ∈ lw_tbl := List.mem_append_right _ (List.mem_of_getElem? (i := 952) (by decide +kernel))
set_option maxRecDepth 20000 in
theorem k_953 : (Cond.code ({ cls := "StitchDesk$Path", name := "packed", desc := "(I)I" } : MethodName) prog_4_method_7_code (2 : Nat) (Option.some ClassFile.FieldType.int)) ∈ lw_tbl := List.mem_append_right _ (List.mem_of_getElem? (i := 953) (by decide +kernel))
set_option maxRecDepth 20000 in
theorem k_954 : (Cond.methodLink "StitchDesk$Path" (30 : Nat) ({ cls := "StitchDesk$Path", name := "digitsOf", desc := "(I)I" } : MethodName)) ∈ lw_tbl := List.mem_append_right _ (List.mem_of_getElem? (i := 954) (by decide +kernel))
set_option maxRecDepth 20000 in
theorem k_955 : (Cond.static ({ cls := "StitchDesk$Path", name := "digitsOf", desc := "(I)I" } : MethodName)) ∈ lw_tbl := List.mem_append_right _ (List.mem_of_getElem? (i := 955) (by decide +kernel))
set_option maxRecDepth 20000 in
theorem k_956 : (Cond.code ({ cls := "StitchDesk$Path", name := "digitsOf", desc := "(I)I" } : MethodName) prog_4_method_10_code (5 : Nat) (Option.some ClassFile.FieldType.int)) ∈ lw_tbl := List.mem_append_right _ (List.mem_of_getElem? (i := 956) (by decide +kernel))
set_option maxRecDepth 20000 in
theorem k_957 : (Cond.methodLink "StitchDeskLaw" (101 : Nat) ({ cls := "StitchDeskLaw", name := "load", desc := "(LStitchDesk;II[J)I" } : MethodName)) ∈ lw_tbl := List.mem_append_right _ (List.mem_of_getElem? (i := 957) (by decide +kernel))
set_option maxRecDepth 20000 in
theorem k_958 : (Cond.static ({ cls := "StitchDeskLaw", name := "load", desc := "(LStitchDesk;II[J)I" } : MethodName)) ∈ lw_tbl := List.mem_append_right _ (List.mem_of_getElem? (i := 958) (by decide +kernel))
set_option maxRecDepth 20000 in
theorem k_959 : (Cond.codeWith ({ cls := "StitchDeskLaw", name := "load", desc := "(LStitchDesk;II[J)I" } : MethodName) method_10_code (5 : Nat) (Option.some ClassFile.FieldType.int) [((0 : Nat), (10 : Nat), (13 : Nat), (39 : Nat)), ((0 : Nat), (10 : Nat), (17 : Nat), (17 : Nat))]) ∈ lw_tbl := List.mem_append_right _ (List.mem_of_getElem? (i := 959) (by decide +kernel))
set_option maxRecDepth 20000 in
theorem k_960 : (Cond.methodLink "StitchDeskLaw" (45 : Nat) ({ cls := "StitchDesk", name := "load", desc := "(II)I" } : MethodName)) ∈ lw_tbl := List.mem_append_right _ (List.mem_of_getElem? (i := 960) (by decide +kernel))
set_option maxRecDepth 20000 in
theorem k_961 : (Cond.instanceMethod ({ cls := "StitchDesk", name := "load", desc := "(II)I" } : MethodName)) ∈ lw_tbl := List.mem_append_right _ (List.mem_of_getElem? (i := 961) (by decide +kernel))
set_option maxRecDepth 20000 in
theorem k_962 : (Cond.selects "StitchDesk" ({ cls := "StitchDesk", name := "load", desc := "(II)I" } : MethodName) ({ cls := "StitchDesk", name := "load", desc := "(II)I" } : MethodName)) ∈ lw_tbl := List.mem_append_right _ (List.mem_of_getElem? (i := 962) (by decide +kernel))
set_option maxRecDepth 20000 in
theorem k_963 : (Cond.code ({ cls := "StitchDesk", name := "load", desc := "(II)I" } : MethodName) prog_1_method_12_code (3 : Nat) (Option.some ClassFile.FieldType.int)) ∈ lw_tbl := List.mem_append_right _ (List.mem_of_getElem? (i := 963) (by decide +kernel))
set_option maxRecDepth 20000 in
theorem k_964 : (Cond.stringRef "StitchDesk" (224 : Nat) "no byte") ∈ lw_tbl := List.mem_append_right _ (List.mem_of_getElem? (i := 964) (by decide +kernel))
set_option maxRecDepth 20000 in
theorem k_965 : (Cond.methodLink "StitchDeskLaw" (120 : Nat) ({ cls := "StitchDeskLaw", name := "under", desc := "(LStitchDesk;II[J)I" } : MethodName)) ∈ lw_tbl := List.mem_append_right _ (List.mem_of_getElem? (i := 965) (by decide +kernel))
set_option maxRecDepth 20000 in
theorem k_966 : (Cond.static ({ cls := "StitchDeskLaw", name := "under", desc := "(LStitchDesk;II[J)I" } : MethodName)) ∈ lw_tbl := List.mem_append_right _ (List.mem_of_getElem? (i := 966) (by decide +kernel))
set_option maxRecDepth 20000 in
theorem k_967 : (Cond.codeWith ({ cls := "StitchDeskLaw", name := "under", desc := "(LStitchDesk;II[J)I" } : MethodName) method_11_code (5 : Nat) (Option.some ClassFile.FieldType.int) [((0 : Nat), (10 : Nat), (13 : Nat), (17 : Nat))]) ∈ lw_tbl := List.mem_append_right _ (List.mem_of_getElem? (i := 967) (by decide +kernel))
set_option maxRecDepth 20000 in
theorem k_968 : (Cond.methodLink "StitchDeskLaw" (48 : Nat) ({ cls := "StitchDesk", name := "under", desc := "(II)I" } : MethodName)) ∈ lw_tbl := List.mem_append_right _ (List.mem_of_getElem? (i := 968) (by decide +kernel))
set_option maxRecDepth 20000 in
theorem k_969 : (Cond.instanceMethod ({ cls := "StitchDesk", name := "under", desc := "(II)I" } : MethodName)) ∈ lw_tbl := List.mem_append_right _ (List.mem_of_getElem? (i := 969) (by decide +kernel))
set_option maxRecDepth 20000 in
theorem k_970 : (Cond.selects "StitchDesk" ({ cls := "StitchDesk", name := "under", desc := "(II)I" } : MethodName) ({ cls := "StitchDesk", name := "under", desc := "(II)I" } : MethodName)) ∈ lw_tbl := List.mem_append_right _ (List.mem_of_getElem? (i := 970) (by decide +kernel))
set_option maxRecDepth 20000 in
theorem k_971 : (Cond.code ({ cls := "StitchDesk", name := "under", desc := "(II)I" } : MethodName) prog_1_method_17_code (4 : Nat) (Option.some ClassFile.FieldType.int)) ∈ lw_tbl := List.mem_append_right _ (List.mem_of_getElem? (i := 971) (by decide +kernel))
set_option maxRecDepth 20000 in
theorem k_972 : (Cond.stringRef "StitchDesk" (244 : Nat) "no such place") ∈ lw_tbl := List.mem_append_right _ (List.mem_of_getElem? (i := 972) (by decide +kernel))
set_option maxRecDepth 20000 in
theorem k_973 : (Cond.methodLinkNest "StitchDesk" (246 : Nat) ({ cls := "StitchDesk$Shape", name := "has", desc := "(II)Z" } : MethodName) "StitchDesk") ∈ lw_tbl := List.mem_append_right _ (List.mem_of_getElem? (i := 973) (by decide +kernel))
set_option maxRecDepth 20000 in
theorem k_974 : (Cond.methodLink "StitchDeskLaw" (123 : Nat) ({ cls := "StitchDeskLaw", name := "needle", desc := "(LStitchDesk;II[J)I" } : MethodName)) ∈ lw_tbl := List.mem_append_right _ (List.mem_of_getElem? (i := 974) (by decide +kernel))
set_option maxRecDepth 20000 in
theorem k_975 : (Cond.static ({ cls := "StitchDeskLaw", name := "needle", desc := "(LStitchDesk;II[J)I" } : MethodName)) ∈ lw_tbl := List.mem_append_right _ (List.mem_of_getElem? (i := 975) (by decide +kernel))
set_option maxRecDepth 20000 in
theorem k_976 : (Cond.codeWith ({ cls := "StitchDeskLaw", name := "needle", desc := "(LStitchDesk;II[J)I" } : MethodName) method_12_code (5 : Nat) (Option.some ClassFile.FieldType.int) [((0 : Nat), (10 : Nat), (13 : Nat), (39 : Nat)), ((0 : Nat), (10 : Nat), (17 : Nat), (17 : Nat))]) ∈ lw_tbl := List.mem_append_right _ (List.mem_of_getElem? (i := 976) (by decide +kernel))
set_option maxRecDepth 20000 in
theorem k_977 : (Cond.methodLink "StitchDeskLaw" (51 : Nat) ({ cls := "StitchDesk", name := "needle", desc := "(II)I" } : MethodName)) ∈ lw_tbl := List.mem_append_right _ (List.mem_of_getElem? (i := 977) (by decide +kernel))
set_option maxRecDepth 20000 in
theorem k_978 : (Cond.instanceMethod ({ cls := "StitchDesk", name := "needle", desc := "(II)I" } : MethodName)) ∈ lw_tbl := List.mem_append_right _ (List.mem_of_getElem? (i := 978) (by decide +kernel))
set_option maxRecDepth 20000 in
theorem k_979 : (Cond.selects "StitchDesk" ({ cls := "StitchDesk", name := "needle", desc := "(II)I" } : MethodName) ({ cls := "StitchDesk", name := "needle", desc := "(II)I" } : MethodName)) ∈ lw_tbl := List.mem_append_right _ (List.mem_of_getElem? (i := 979) (by decide +kernel))
set_option maxRecDepth 20000 in
theorem k_980 : (Cond.code ({ cls := "StitchDesk", name := "needle", desc := "(II)I" } : MethodName) prog_1_method_18_code (5 : Nat) (Option.some ClassFile.FieldType.int)) ∈ lw_tbl := List.mem_append_right _ (List.mem_of_getElem? (i := 980) (by decide +kernel))
set_option maxRecDepth 20000 in
theorem k_981 : (Cond.stringRef "StitchDesk" (249 : Nat) "not so many records") ∈ lw_tbl := List.mem_append_right _ (List.mem_of_getElem? (i := 981) (by decide +kernel))
set_option maxRecDepth 20000 in
theorem k_982 : (Cond.stringRef "StitchDesk" (251 : Nat) "no such field of a place") ∈ lw_tbl := List.mem_append_right _ (List.mem_of_getElem? (i := 982) (by decide +kernel))
set_option maxRecDepth 20000 in
theorem k_983 : (Cond.classLink "StitchDeskLaw" (55 : Nat) "StitchDeskModel") ∈ lw_tbl := List.mem_append_right _ (List.mem_of_getElem? (i := 983) (by decide +kernel))
set_option maxRecDepth 20000 in
theorem k_984 : (Cond.instantiable "StitchDeskModel" (34 : Nat)) ∈ lw_tbl := List.mem_append_right _ (List.mem_of_getElem? (i := 984) (by decide +kernel))
set_option maxRecDepth 20000 in
theorem k_985 : (Cond.methodLink "StitchDeskLaw" (57 : Nat) ({ cls := "StitchDeskModel", name := "<init>", desc := "()V" } : MethodName)) ∈ lw_tbl := List.mem_append_right _ (List.mem_of_getElem? (i := 985) (by decide +kernel))
set_option maxRecDepth 20000 in
theorem k_986 : (Cond.instanceMethod ({ cls := "StitchDeskModel", name := "<init>", desc := "()V" } : MethodName)) ∈ lw_tbl := List.mem_append_right _ (List.mem_of_getElem? (i := 986) (by decide +kernel))
set_option maxRecDepth 20000 in
theorem k_987 : (Cond.code ({ cls := "StitchDeskModel", name := "<init>", desc := "()V" } : MethodName) prog_13_method_1_code (1 : Nat) (Option.none : Option ClassFile.FieldType)) ∈ lw_tbl := List.mem_append_right _ (List.mem_of_getElem? (i := 987) (by decide +kernel))
set_option maxRecDepth 20000 in
theorem k_988 : (Cond.methodLink "StitchDeskModel" (1 : Nat) ({ cls := "java/lang/Object", name := "<init>", desc := "()V" } : MethodName)) ∈ lw_tbl := List.mem_append_right _ (List.mem_of_getElem? (i := 988) (by decide +kernel))
set_option maxRecDepth 20000 in
theorem k_989 : (Cond.fieldLink "StitchDeskModel" (7 : Nat) "StitchDeskModel" "thrownCode" "I") ∈ lw_tbl := List.mem_append_right _ (List.mem_of_getElem? (i := 989) (by decide +kernel))
set_option maxRecDepth 20000 in
theorem k_990 : (Cond.fieldLink "StitchDeskModel" (13 : Nat) "StitchDeskModel" "shapes" "I") ∈ lw_tbl := List.mem_append_right _ (List.mem_of_getElem? (i := 990) (by decide +kernel))
set_option maxRecDepth 20000 in
theorem k_991 : (Cond.fieldLink "StitchDeskModel" (16 : Nat) "StitchDeskModel" "open" "Z") ∈ lw_tbl := List.mem_append_right _ (List.mem_of_getElem? (i := 991) (by decide +kernel))
set_option maxRecDepth 20000 in
theorem k_992 : (Cond.fieldLink "StitchDeskModel" (20 : Nat) "StitchDeskModel" "told" "[I") ∈ lw_tbl := List.mem_append_right _ (List.mem_of_getElem? (i := 992) (by decide +kernel))
set_option maxRecDepth 20000 in
theorem k_993 : (Cond.fieldLink "StitchDeskModel" (24 : Nat) "StitchDeskModel" "corners" "[I") ∈ lw_tbl := List.mem_append_right _ (List.mem_of_getElem? (i := 993) (by decide +kernel))
set_option maxRecDepth 20000 in
theorem k_994 : (Cond.fieldLink "StitchDeskModel" (27 : Nat) "StitchDeskModel" "cx" "[I") ∈ lw_tbl := List.mem_append_right _ (List.mem_of_getElem? (i := 994) (by decide +kernel))
set_option maxRecDepth 20000 in
theorem k_995 : (Cond.fieldLink "StitchDeskModel" (30 : Nat) "StitchDeskModel" "cy" "[I") ∈ lw_tbl := List.mem_append_right _ (List.mem_of_getElem? (i := 995) (by decide +kernel))
set_option maxRecDepth 20000 in
theorem k_996 : (Cond.fieldLink "StitchDeskModel" (33 : Nat) "StitchDeskModel" "box" "[I") ∈ lw_tbl := List.mem_append_right _ (List.mem_of_getElem? (i := 996) (by decide +kernel))
set_option maxRecDepth 20000 in
theorem k_997 : (Cond.fieldLink "StitchDeskModel" (36 : Nat) "StitchDeskModel" "order" "[I") ∈ lw_tbl := List.mem_append_right _ (List.mem_of_getElem? (i := 997) (by decide +kernel))
set_option maxRecDepth 20000 in
theorem k_998 : (Cond.fieldLink "StitchDeskModel" (39 : Nat) "StitchDeskModel" "faultNow" "I") ∈ lw_tbl := List.mem_append_right _ (List.mem_of_getElem? (i := 998) (by decide +kernel))
set_option maxRecDepth 20000 in
theorem k_999 : (Cond.fieldLink "StitchDeskModel" (42 : Nat) "StitchDeskModel" "faultOne" "I") ∈ lw_tbl := List.mem_append_right _ (List.mem_of_getElem? (i := 999) (by decide +kernel))
set_option maxRecDepth 20000 in
theorem k_1000 : (Cond.fieldLink "StitchDeskModel" (45 : Nat) "StitchDeskModel" "faultOther" "I") ∈ lw_tbl := List.mem_append_right _ (List.mem_of_getElem? (i := 1000) (by decide +kernel))
set_option maxRecDepth 20000 in
theorem k_1001 : (Cond.fieldLink "StitchDeskModel" (48 : Nat) "StitchDeskModel" "edges" "I") ∈ lw_tbl := List.mem_append_right _ (List.mem_of_getElem? (i := 1001) (by decide +kernel))
set_option maxRecDepth 20000 in
theorem k_1002 : (Cond.fieldLink "StitchDeskModel" (51 : Nat) "StitchDeskModel" "ex" "[I") ∈ lw_tbl := List.mem_append_right _ (List.mem_of_getElem? (i := 1002) (by decide +kernel))
set_option maxRecDepth 20000 in
theorem k_1003 : (Cond.fieldLink "StitchDeskModel" (54 : Nat) "StitchDeskModel" "ey" "[I") ∈ lw_tbl := List.mem_append_right _ (List.mem_of_getElem? (i := 1003) (by decide +kernel))
set_option maxRecDepth 20000 in
theorem k_1004 : (Cond.fieldLink "StitchDeskModel" (57 : Nat) "StitchDeskModel" "fx" "[I") ∈ lw_tbl := List.mem_append_right _ (List.mem_of_getElem? (i := 1004) (by decide +kernel))
set_option maxRecDepth 20000 in
theorem k_1005 : (Cond.fieldLink "StitchDeskModel" (60 : Nat) "StitchDeskModel" "fy" "[I") ∈ lw_tbl := List.mem_append_right _ (List.mem_of_getElem? (i := 1005) (by decide +kernel))
set_option maxRecDepth 20000 in
theorem k_1006 : (Cond.fieldLink "StitchDeskModel" (63 : Nat) "StitchDeskModel" "ring" "[I") ∈ lw_tbl := List.mem_append_right _ (List.mem_of_getElem? (i := 1006) (by decide +kernel))
set_option maxRecDepth 20000 in
theorem k_1007 : (Cond.fieldLink "StitchDeskModel" (66 : Nat) "StitchDeskModel" "place" "[I") ∈ lw_tbl := List.mem_append_right _ (List.mem_of_getElem? (i := 1007) (by decide +kernel))
set_option maxRecDepth 20000 in
theorem k_1008 : (Cond.fieldLink "StitchDeskModel" (69 : Nat) "StitchDeskModel" "odd" "[Z") ∈ lw_tbl := List.mem_append_right _ (List.mem_of_getElem? (i := 1008) (by decide +kernel))
set_option maxRecDepth 20000 in
theorem k_1009 : (Cond.fieldLink "StitchDeskModel" (73 : Nat) "StitchDeskModel" "records" "I") ∈ lw_tbl := List.mem_append_right _ (List.mem_of_getElem? (i := 1009) (by decide +kernel))
set_option maxRecDepth 20000 in
theorem k_1010 : (Cond.fieldLink "StitchDeskModel" (76 : Nat) "StitchDeskModel" "dx" "[I") ∈ lw_tbl := List.mem_append_right _ (List.mem_of_getElem? (i := 1010) (by decide +kernel))
set_option maxRecDepth 20000 in
theorem k_1011 : (Cond.fieldLink "StitchDeskModel" (79 : Nat) "StitchDeskModel" "dy" "[I") ∈ lw_tbl := List.mem_append_right _ (List.mem_of_getElem? (i := 1011) (by decide +kernel))
set_option maxRecDepth 20000 in
theorem k_1012 : (Cond.fieldLink "StitchDeskModel" (82 : Nat) "StitchDeskModel" "kind" "[I") ∈ lw_tbl := List.mem_append_right _ (List.mem_of_getElem? (i := 1012) (by decide +kernel))
set_option maxRecDepth 20000 in
theorem k_1013 : (Cond.fieldLink "StitchDeskModel" (85 : Nat) "StitchDeskModel" "nx" "I") ∈ lw_tbl := List.mem_append_right _ (List.mem_of_getElem? (i := 1013) (by decide +kernel))
set_option maxRecDepth 20000 in
theorem k_1014 : (Cond.fieldLink "StitchDeskModel" (88 : Nat) "StitchDeskModel" "ny" "I") ∈ lw_tbl := List.mem_append_right _ (List.mem_of_getElem? (i := 1014) (by decide +kernel))
set_option maxRecDepth 20000 in
theorem k_1015 : (Cond.fieldLink "StitchDeskModel" (91 : Nat) "StitchDeskModel" "stitching" "Z") ∈ lw_tbl := List.mem_append_right _ (List.mem_of_getElem? (i := 1015) (by decide +kernel))
set_option maxRecDepth 20000 in
theorem k_1016 : (Cond.fieldLink "StitchDeskModel" (94 : Nat) "StitchDeskModel" "runs" "I") ∈ lw_tbl := List.mem_append_right _ (List.mem_of_getElem? (i := 1016) (by decide +kernel))
set_option maxRecDepth 20000 in
theorem k_1017 : (Cond.fieldLink "StitchDeskModel" (97 : Nat) "StitchDeskModel" "places" "I") ∈ lw_tbl := List.mem_append_right _ (List.mem_of_getElem? (i := 1017) (by decide +kernel))
set_option maxRecDepth 20000 in
theorem k_1018 : (Cond.fieldLink "StitchDeskModel" (100 : Nat) "StitchDeskModel" "lastColour" "I") ∈ lw_tbl := List.mem_append_right _ (List.mem_of_getElem? (i := 1018) (by decide +kernel))
set_option maxRecDepth 20000 in
theorem k_1019 : (Cond.fieldLink "StitchDeskModel" (103 : Nat) "StitchDeskModel" "loaded" "I") ∈ lw_tbl := List.mem_append_right _ (List.mem_of_getElem? (i := 1019) (by decide +kernel))
set_option maxRecDepth 20000 in
theorem k_1020 : (Cond.fieldLink "StitchDeskModel" (106 : Nat) "StitchDeskModel" "bytes" "[I") ∈ lw_tbl := List.mem_append_right _ (List.mem_of_getElem? (i := 1020) (by decide +kernel))
set_option maxRecDepth 20000 in
theorem k_1021 : (Cond.fieldLink "StitchDeskModel" (109 : Nat) "StitchDeskModel" "left" "[I") ∈ lw_tbl := List.mem_append_right _ (List.mem_of_getElem? (i := 1021) (by decide +kernel))
set_option maxRecDepth 20000 in
theorem k_1022 : (Cond.fieldLink "StitchDeskModel" (112 : Nat) "StitchDeskModel" "newOrder" "[I") ∈ lw_tbl := List.mem_append_right _ (List.mem_of_getElem? (i := 1022) (by decide +kernel))
set_option maxRecDepth 20000 in
theorem k_1023 : (Cond.lays "StitchDeskModel" "StitchDeskModel" "thrownCode" "I") ∈ lw_tbl := List.mem_append_right _ (List.mem_of_getElem? (i := 1023) (by decide +kernel))
set_option maxRecDepth 20000 in
theorem k_1024 : (Cond.soleField "StitchDeskModel" "thrownCode") ∈ lw_tbl := List.mem_append_right _ (List.mem_of_getElem? (i := 1024) (by decide +kernel))
set_option maxRecDepth 20000 in
theorem k_1025 : (Cond.lays "StitchDeskModel" "StitchDeskModel" "shapes" "I") ∈ lw_tbl := List.mem_append_right _ (List.mem_of_getElem? (i := 1025) (by decide +kernel))
set_option maxRecDepth 20000 in
theorem k_1026 : (Cond.soleField "StitchDeskModel" "shapes") ∈ lw_tbl := List.mem_append_right _ (List.mem_of_getElem? (i := 1026) (by decide +kernel))
set_option maxRecDepth 20000 in
theorem k_1027 : (Cond.lays "StitchDeskModel" "StitchDeskModel" "open" "Z") ∈ lw_tbl := List.mem_append_right _ (List.mem_of_getElem? (i := 1027) (by decide +kernel))
set_option maxRecDepth 20000 in
theorem k_1028 : (Cond.soleField "StitchDeskModel" "open") ∈ lw_tbl := List.mem_append_right _ (List.mem_of_getElem? (i := 1028) (by decide +kernel))
set_option maxRecDepth 20000 in
theorem k_1029 : (Cond.laysFinal "StitchDeskModel" "StitchDeskModel" "told" "[I") ∈ lw_tbl := List.mem_append_right _ (List.mem_of_getElem? (i := 1029) (by decide +kernel))
set_option maxRecDepth 20000 in
theorem k_1030 : (Cond.soleField "StitchDeskModel" "told") ∈ lw_tbl := List.mem_append_right _ (List.mem_of_getElem? (i := 1030) (by decide +kernel))
set_option maxRecDepth 20000 in
theorem k_1031 : (Cond.laysFinal "StitchDeskModel" "StitchDeskModel" "corners" "[I") ∈ lw_tbl := List.mem_append_right _ (List.mem_of_getElem? (i := 1031) (by decide +kernel))
set_option maxRecDepth 20000 in
theorem k_1032 : (Cond.soleField "StitchDeskModel" "corners") ∈ lw_tbl := List.mem_append_right _ (List.mem_of_getElem? (i := 1032) (by decide +kernel))
set_option maxRecDepth 20000 in
theorem k_1033 : (Cond.laysFinal "StitchDeskModel" "StitchDeskModel" "cx" "[I") ∈ lw_tbl := List.mem_append_right _ (List.mem_of_getElem? (i := 1033) (by decide +kernel))
set_option maxRecDepth 20000 in
theorem k_1034 : (Cond.soleField "StitchDeskModel" "cx") ∈ lw_tbl := List.mem_append_right _ (List.mem_of_getElem? (i := 1034) (by decide +kernel))
set_option maxRecDepth 20000 in
theorem k_1035 : (Cond.laysFinal "StitchDeskModel" "StitchDeskModel" "cy" "[I") ∈ lw_tbl := List.mem_append_right _ (List.mem_of_getElem? (i := 1035) (by decide +kernel))
set_option maxRecDepth 20000 in
theorem k_1036 : (Cond.soleField "StitchDeskModel" "cy") ∈ lw_tbl := List.mem_append_right _ (List.mem_of_getElem? (i := 1036) (by decide +kernel))
set_option maxRecDepth 20000 in
theorem k_1037 : (Cond.laysFinal "StitchDeskModel" "StitchDeskModel" "box" "[I") ∈ lw_tbl := List.mem_append_right _ (List.mem_of_getElem? (i := 1037) (by decide +kernel))
set_option maxRecDepth 20000 in
theorem k_1038 : (Cond.soleField "StitchDeskModel" "box") ∈ lw_tbl := List.mem_append_right _ (List.mem_of_getElem? (i := 1038) (by decide +kernel))
set_option maxRecDepth 20000 in
theorem k_1039 : (Cond.laysFinal "StitchDeskModel" "StitchDeskModel" "order" "[I") ∈ lw_tbl := List.mem_append_right _ (List.mem_of_getElem? (i := 1039) (by decide +kernel))
set_option maxRecDepth 20000 in
theorem k_1040 : (Cond.soleField "StitchDeskModel" "order") ∈ lw_tbl := List.mem_append_right _ (List.mem_of_getElem? (i := 1040) (by decide +kernel))
set_option maxRecDepth 20000 in
theorem k_1041 : (Cond.lays "StitchDeskModel" "StitchDeskModel" "faultNow" "I") ∈ lw_tbl := List.mem_append_right _ (List.mem_of_getElem? (i := 1041) (by decide +kernel))
set_option maxRecDepth 20000 in
theorem k_1042 : (Cond.soleField "StitchDeskModel" "faultNow") ∈ lw_tbl := List.mem_append_right _ (List.mem_of_getElem? (i := 1042) (by decide +kernel))
set_option maxRecDepth 20000 in
theorem k_1043 : (Cond.lays "StitchDeskModel" "StitchDeskModel" "faultOne" "I") ∈ lw_tbl := List.mem_append_right _ (List.mem_of_getElem? (i := 1043) (by decide +kernel))
set_option maxRecDepth 20000 in
theorem k_1044 : (Cond.soleField "StitchDeskModel" "faultOne") ∈ lw_tbl := List.mem_append_right _ (List.mem_of_getElem? (i := 1044) (by decide +kernel))
set_option maxRecDepth 20000 in
theorem k_1045 : (Cond.lays "StitchDeskModel" "StitchDeskModel" "faultOther" "I") ∈ lw_tbl := List.mem_append_right _ (List.mem_of_getElem? (i := 1045) (by decide +kernel))
set_option maxRecDepth 20000 in
theorem k_1046 : (Cond.soleField "StitchDeskModel" "faultOther") ∈ lw_tbl := List.mem_append_right _ (List.mem_of_getElem? (i := 1046) (by decide +kernel))
set_option maxRecDepth 20000 in
theorem k_1047 : (Cond.lays "StitchDeskModel" "StitchDeskModel" "edges" "I") ∈ lw_tbl := List.mem_append_right _ (List.mem_of_getElem? (i := 1047) (by decide +kernel))
set_option maxRecDepth 20000 in
theorem k_1048 : (Cond.soleField "StitchDeskModel" "edges") ∈ lw_tbl := List.mem_append_right _ (List.mem_of_getElem? (i := 1048) (by decide +kernel))
set_option maxRecDepth 20000 in
theorem k_1049 : (Cond.laysFinal "StitchDeskModel" "StitchDeskModel" "ex" "[I") ∈ lw_tbl := List.mem_append_right _ (List.mem_of_getElem? (i := 1049) (by decide +kernel))
set_option maxRecDepth 20000 in
theorem k_1050 : (Cond.soleField "StitchDeskModel" "ex") ∈ lw_tbl := List.mem_append_right _ (List.mem_of_getElem? (i := 1050) (by decide +kernel))
set_option maxRecDepth 20000 in
theorem k_1051 : (Cond.laysFinal "StitchDeskModel" "StitchDeskModel" "ey" "[I") ∈ lw_tbl := List.mem_append_right _ (List.mem_of_getElem? (i := 1051) (by decide +kernel))
set_option maxRecDepth 20000 in
theorem k_1052 : (Cond.soleField "StitchDeskModel" "ey") ∈ lw_tbl := List.mem_append_right _ (List.mem_of_getElem? (i := 1052) (by decide +kernel))
set_option maxRecDepth 20000 in
theorem k_1053 : (Cond.laysFinal "StitchDeskModel" "StitchDeskModel" "fx" "[I") ∈ lw_tbl := List.mem_append_right _ (List.mem_of_getElem? (i := 1053) (by decide +kernel))
set_option maxRecDepth 20000 in
theorem k_1054 : (Cond.soleField "StitchDeskModel" "fx") ∈ lw_tbl := List.mem_append_right _ (List.mem_of_getElem? (i := 1054) (by decide +kernel))
set_option maxRecDepth 20000 in
theorem k_1055 : (Cond.laysFinal "StitchDeskModel" "StitchDeskModel" "fy" "[I") ∈ lw_tbl := List.mem_append_right _ (List.mem_of_getElem? (i := 1055) (by decide +kernel))
set_option maxRecDepth 20000 in
theorem k_1056 : (Cond.soleField "StitchDeskModel" "fy") ∈ lw_tbl := List.mem_append_right _ (List.mem_of_getElem? (i := 1056) (by decide +kernel))
set_option maxRecDepth 20000 in
theorem k_1057 : (Cond.laysFinal "StitchDeskModel" "StitchDeskModel" "ring" "[I") ∈ lw_tbl := List.mem_append_right _ (List.mem_of_getElem? (i := 1057) (by decide +kernel))
set_option maxRecDepth 20000 in
theorem k_1058 : (Cond.soleField "StitchDeskModel" "ring") ∈ lw_tbl := List.mem_append_right _ (List.mem_of_getElem? (i := 1058) (by decide +kernel))
set_option maxRecDepth 20000 in
theorem k_1059 : (Cond.laysFinal "StitchDeskModel" "StitchDeskModel" "place" "[I") ∈ lw_tbl := List.mem_append_right _ (List.mem_of_getElem? (i := 1059) (by decide +kernel))
set_option maxRecDepth 20000 in
theorem k_1060 : (Cond.soleField "StitchDeskModel" "place") ∈ lw_tbl := List.mem_append_right _ (List.mem_of_getElem? (i := 1060) (by decide +kernel))
set_option maxRecDepth 20000 in
theorem k_1061 : (Cond.laysFinal "StitchDeskModel" "StitchDeskModel" "odd" "[Z") ∈ lw_tbl := List.mem_append_right _ (List.mem_of_getElem? (i := 1061) (by decide +kernel))
set_option maxRecDepth 20000 in
theorem k_1062 : (Cond.soleField "StitchDeskModel" "odd") ∈ lw_tbl := List.mem_append_right _ (List.mem_of_getElem? (i := 1062) (by decide +kernel))
set_option maxRecDepth 20000 in
theorem k_1063 : (Cond.lays "StitchDeskModel" "StitchDeskModel" "records" "I") ∈ lw_tbl := List.mem_append_right _ (List.mem_of_getElem? (i := 1063) (by decide +kernel))
set_option maxRecDepth 20000 in
theorem k_1064 : (Cond.soleField "StitchDeskModel" "records") ∈ lw_tbl := List.mem_append_right _ (List.mem_of_getElem? (i := 1064) (by decide +kernel))
set_option maxRecDepth 20000 in
theorem k_1065 : (Cond.laysFinal "StitchDeskModel" "StitchDeskModel" "dx" "[I") ∈ lw_tbl := List.mem_append_right _ (List.mem_of_getElem? (i := 1065) (by decide +kernel))
set_option maxRecDepth 20000 in
theorem k_1066 : (Cond.soleField "StitchDeskModel" "dx") ∈ lw_tbl := List.mem_append_right _ (List.mem_of_getElem? (i := 1066) (by decide +kernel))
set_option maxRecDepth 20000 in
theorem k_1067 : (Cond.laysFinal "StitchDeskModel" "StitchDeskModel" "dy" "[I") ∈ lw_tbl := List.mem_append_right _ (List.mem_of_getElem? (i := 1067) (by decide +kernel))
set_option maxRecDepth 20000 in
theorem k_1068 : (Cond.soleField "StitchDeskModel" "dy") ∈ lw_tbl := List.mem_append_right _ (List.mem_of_getElem? (i := 1068) (by decide +kernel))
set_option maxRecDepth 20000 in
theorem k_1069 : (Cond.laysFinal "StitchDeskModel" "StitchDeskModel" "kind" "[I") ∈ lw_tbl := List.mem_append_right _ (List.mem_of_getElem? (i := 1069) (by decide +kernel))
set_option maxRecDepth 20000 in
theorem k_1070 : (Cond.soleField "StitchDeskModel" "kind") ∈ lw_tbl := List.mem_append_right _ (List.mem_of_getElem? (i := 1070) (by decide +kernel))
set_option maxRecDepth 20000 in
theorem k_1071 : (Cond.lays "StitchDeskModel" "StitchDeskModel" "nx" "I") ∈ lw_tbl := List.mem_append_right _ (List.mem_of_getElem? (i := 1071) (by decide +kernel))
set_option maxRecDepth 20000 in
theorem k_1072 : (Cond.soleField "StitchDeskModel" "nx") ∈ lw_tbl := List.mem_append_right _ (List.mem_of_getElem? (i := 1072) (by decide +kernel))
set_option maxRecDepth 20000 in
theorem k_1073 : (Cond.lays "StitchDeskModel" "StitchDeskModel" "ny" "I") ∈ lw_tbl := List.mem_append_right _ (List.mem_of_getElem? (i := 1073) (by decide +kernel))
set_option maxRecDepth 20000 in
theorem k_1074 : (Cond.soleField "StitchDeskModel" "ny") ∈ lw_tbl := List.mem_append_right _ (List.mem_of_getElem? (i := 1074) (by decide +kernel))
set_option maxRecDepth 20000 in
theorem k_1075 : (Cond.lays "StitchDeskModel" "StitchDeskModel" "stitching" "Z") ∈ lw_tbl := List.mem_append_right _ (List.mem_of_getElem? (i := 1075) (by decide +kernel))
set_option maxRecDepth 20000 in
theorem k_1076 : (Cond.soleField "StitchDeskModel" "stitching") ∈ lw_tbl := List.mem_append_right _ (List.mem_of_getElem? (i := 1076) (by decide +kernel))
set_option maxRecDepth 20000 in
theorem k_1077 : (Cond.lays "StitchDeskModel" "StitchDeskModel" "runs" "I") ∈ lw_tbl := List.mem_append_right _ (List.mem_of_getElem? (i := 1077) (by decide +kernel))
set_option maxRecDepth 20000 in
theorem k_1078 : (Cond.soleField "StitchDeskModel" "runs") ∈ lw_tbl := List.mem_append_right _ (List.mem_of_getElem? (i := 1078) (by decide +kernel))
set_option maxRecDepth 20000 in
theorem k_1079 : (Cond.lays "StitchDeskModel" "StitchDeskModel" "places" "I") ∈ lw_tbl := List.mem_append_right _ (List.mem_of_getElem? (i := 1079) (by decide +kernel))
set_option maxRecDepth 20000 in
theorem k_1080 : (Cond.soleField "StitchDeskModel" "places") ∈ lw_tbl := List.mem_append_right _ (List.mem_of_getElem? (i := 1080) (by decide +kernel))
set_option maxRecDepth 20000 in
theorem k_1081 : (Cond.lays "StitchDeskModel" "StitchDeskModel" "lastColour" "I") ∈ lw_tbl := List.mem_append_right _ (List.mem_of_getElem? (i := 1081) (by decide +kernel))
set_option maxRecDepth 20000 in
theorem k_1082 : (Cond.soleField "StitchDeskModel" "lastColour") ∈ lw_tbl := List.mem_append_right _ (List.mem_of_getElem? (i := 1082) (by decide +kernel))
set_option maxRecDepth 20000 in
theorem k_1083 : (Cond.lays "StitchDeskModel" "StitchDeskModel" "loaded" "I") ∈ lw_tbl := List.mem_append_right _ (List.mem_of_getElem? (i := 1083) (by decide +kernel))
set_option maxRecDepth 20000 in
theorem k_1084 : (Cond.soleField "StitchDeskModel" "loaded") ∈ lw_tbl := List.mem_append_right _ (List.mem_of_getElem? (i := 1084) (by decide +kernel))
set_option maxRecDepth 20000 in
theorem k_1085 : (Cond.laysFinal "StitchDeskModel" "StitchDeskModel" "bytes" "[I") ∈ lw_tbl := List.mem_append_right _ (List.mem_of_getElem? (i := 1085) (by decide +kernel))
set_option maxRecDepth 20000 in
theorem k_1086 : (Cond.soleField "StitchDeskModel" "bytes") ∈ lw_tbl := List.mem_append_right _ (List.mem_of_getElem? (i := 1086) (by decide +kernel))
set_option maxRecDepth 20000 in
theorem k_1087 : (Cond.laysFinal "StitchDeskModel" "StitchDeskModel" "left" "[I") ∈ lw_tbl := List.mem_append_right _ (List.mem_of_getElem? (i := 1087) (by decide +kernel))
set_option maxRecDepth 20000 in
theorem k_1088 : (Cond.soleField "StitchDeskModel" "left") ∈ lw_tbl := List.mem_append_right _ (List.mem_of_getElem? (i := 1088) (by decide +kernel))
set_option maxRecDepth 20000 in
theorem k_1089 : (Cond.laysFinal "StitchDeskModel" "StitchDeskModel" "newOrder" "[I") ∈ lw_tbl := List.mem_append_right _ (List.mem_of_getElem? (i := 1089) (by decide +kernel))
set_option maxRecDepth 20000 in
theorem k_1090 : (Cond.soleField "StitchDeskModel" "newOrder") ∈ lw_tbl := List.mem_append_right _ (List.mem_of_getElem? (i := 1090) (by decide +kernel))
set_option maxRecDepth 20000 in
theorem k_1091 : (Cond.superclass "StitchDeskModel" "java/lang/Object") ∈ lw_tbl := List.mem_append_right _ (List.mem_of_getElem? (i := 1091) (by decide +kernel))
set_option maxRecDepth 20000 in
theorem k_1092 : (Cond.arrayClass ClassFile.FieldType.boolean) ∈ lw_tbl := List.mem_append_right _ (List.mem_of_getElem? (i := 1092) (by decide +kernel))
set_option maxRecDepth 20000 in
theorem k_1093 : (Cond.methodLink "StitchDeskLaw" (64 : Nat) ({ cls := "StitchDeskModel", name := "thrown", desc := "()I" } : MethodName)) ∈ lw_tbl := List.mem_append_right _ (List.mem_of_getElem? (i := 1093) (by decide +kernel))
set_option maxRecDepth 20000 in
theorem k_1094 : (Cond.instanceMethod ({ cls := "StitchDeskModel", name := "thrown", desc := "()I" } : MethodName)) ∈ lw_tbl := List.mem_append_right _ (List.mem_of_getElem? (i := 1094) (by decide +kernel))
set_option maxRecDepth 20000 in
theorem k_1095 : (Cond.selects "StitchDeskModel" ({ cls := "StitchDeskModel", name := "thrown", desc := "()I" } : MethodName) ({ cls := "StitchDeskModel", name := "thrown", desc := "()I" } : MethodName)) ∈ lw_tbl := List.mem_append_right _ (List.mem_of_getElem? (i := 1095) (by decide +kernel))
set_option maxRecDepth 20000 in
theorem k_1096 : (Cond.code ({ cls := "StitchDeskModel", name := "thrown", desc := "()I" } : MethodName) prog_13_method_39_code (1 : Nat) (Option.some ClassFile.FieldType.int)) ∈ lw_tbl := List.mem_append_right _ (List.mem_of_getElem? (i := 1096) (by decide +kernel))
set_option maxRecDepth 20000 in
theorem k_1097 : (Cond.methodLink "StitchDeskLaw" (63 : Nat) ({ cls := "StitchDeskModel", name := "begin", desc := "(IIII)V" } : MethodName)) ∈ lw_tbl := List.mem_append_right _ (List.mem_of_getElem? (i := 1097) (by decide +kernel))
set_option maxRecDepth 20000 in
theorem k_1098 : (Cond.instanceMethod ({ cls := "StitchDeskModel", name := "begin", desc := "(IIII)V" } : MethodName)) ∈ lw_tbl := List.mem_append_right _ (List.mem_of_getElem? (i := 1098) (by decide +kernel))
set_option maxRecDepth 20000 in
theorem k_1099 : (Cond.selects "StitchDeskModel" ({ cls := "StitchDeskModel", name := "begin", desc := "(IIII)V" } : MethodName) ({ cls := "StitchDeskModel", name := "begin", desc := "(IIII)V" } : MethodName)) ∈ lw_tbl := List.mem_append_right _ (List.mem_of_getElem? (i := 1099) (by decide +kernel))
set_option maxRecDepth 20000 in
theorem k_1100 : (Cond.code ({ cls := "StitchDeskModel", name := "begin", desc := "(IIII)V" } : MethodName) prog_13_method_40_code (7 : Nat) (Option.none : Option ClassFile.FieldType)) ∈ lw_tbl := List.mem_append_right _ (List.mem_of_getElem? (i := 1100) (by decide +kernel))
set_option maxRecDepth 20000 in
theorem k_1101 : (Cond.methodLink "StitchDeskLaw" (70 : Nat) ({ cls := "StitchDeskModel", name := "corner", desc := "(III)I" } : MethodName)) ∈ lw_tbl := List.mem_append_right _ (List.mem_of_getElem? (i := 1101) (by decide +kernel))
set_option maxRecDepth 20000 in
theorem k_1102 : (Cond.instanceMethod ({ cls := "StitchDeskModel", name := "corner", desc := "(III)I" } : MethodName)) ∈ lw_tbl := List.mem_append_right _ (List.mem_of_getElem? (i := 1102) (by decide +kernel))
set_option maxRecDepth 20000 in
theorem k_1103 : (Cond.selects "StitchDeskModel" ({ cls := "StitchDeskModel", name := "corner", desc := "(III)I" } : MethodName) ({ cls := "StitchDeskModel", name := "corner", desc := "(III)I" } : MethodName)) ∈ lw_tbl := List.mem_append_right _ (List.mem_of_getElem? (i := 1103) (by decide +kernel))
set_option maxRecDepth 20000 in
theorem k_1104 : (Cond.code ({ cls := "StitchDeskModel", name := "corner", desc := "(III)I" } : MethodName) prog_13_method_42_code (4 : Nat) (Option.some ClassFile.FieldType.int)) ∈ lw_tbl := List.mem_append_right _ (List.mem_of_getElem? (i := 1104) (by decide +kernel))
set_option maxRecDepth 20000 in
theorem k_1105 : (Cond.methodLink "StitchDeskModel" (202 : Nat) ({ cls := "StitchDeskModel", name := "isPlace", desc := "(II)Z" } : MethodName)) ∈ lw_tbl := List.mem_append_right _ (List.mem_of_getElem? (i := 1105) (by decide +kernel))
set_option maxRecDepth 20000 in
theorem k_1106 : (Cond.static ({ cls := "StitchDeskModel", name := "isPlace", desc := "(II)Z" } : MethodName)) ∈ lw_tbl := List.mem_append_right _ (List.mem_of_getElem? (i := 1106) (by decide +kernel))
set_option maxRecDepth 20000 in
theorem k_1107 : (Cond.code ({ cls := "StitchDeskModel", name := "isPlace", desc := "(II)Z" } : MethodName) prog_13_method_5_code (2 : Nat) (Option.some ClassFile.FieldType.boolean)) ∈ lw_tbl := List.mem_append_right _ (List.mem_of_getElem? (i := 1107) (by decide +kernel))
set_option maxRecDepth 20000 in
theorem k_1108 : (Cond.methodLink "StitchDeskModel" (223 : Nat) ({ cls := "StitchDeskModel", name := "oneMore", desc := "(III)I" } : MethodName)) ∈ lw_tbl := List.mem_append_right _ (List.mem_of_getElem? (i := 1108) (by decide +kernel))
set_option maxRecDepth 20000 in
theorem k_1109 : (Cond.privateMethod ({ cls := "StitchDeskModel", name := "oneMore", desc := "(III)I" } : MethodName)) ∈ lw_tbl := List.mem_append_right _ (List.mem_of_getElem? (i := 1109) (by decide +kernel))
set_option maxRecDepth 20000 in
theorem k_1110 : (Cond.instanceMethod ({ cls := "StitchDeskModel", name := "oneMore", desc := "(III)I" } : MethodName)) ∈ lw_tbl := List.mem_append_right _ (List.mem_of_getElem? (i := 1110) (by decide +kernel))
set_option maxRecDepth 20000 in
theorem k_1111 : (Cond.code ({ cls := "StitchDeskModel", name := "oneMore", desc := "(III)I" } : MethodName) prog_13_method_41_code (5 : Nat) (Option.some ClassFile.FieldType.int)) ∈ lw_tbl := List.mem_append_right _ (List.mem_of_getElem? (i := 1111) (by decide +kernel))
set_option maxRecDepth 20000 in
theorem k_1112 : (Cond.methodLink "StitchDeskLaw" (73 : Nat) ({ cls := "StitchDeskModel", name := "rail", desc := "(III)I" } : MethodName)) ∈ lw_tbl := List.mem_append_right _ (List.mem_of_getElem? (i := 1112) (by decide +kernel))
set_option maxRecDepth 20000 in
theorem k_1113 : (Cond.instanceMethod ({ cls := "StitchDeskModel", name := "rail", desc := "(III)I" } : MethodName)) ∈ lw_tbl := List.mem_append_right _ (List.mem_of_getElem? (i := 1113) (by decide +kernel))
set_option maxRecDepth 20000 in
theorem k_1114 : (Cond.selects "StitchDeskModel" ({ cls := "StitchDeskModel", name := "rail", desc := "(III)I" } : MethodName) ({ cls := "StitchDeskModel", name := "rail", desc := "(III)I" } : MethodName)) ∈ lw_tbl := List.mem_append_right _ (List.mem_of_getElem? (i := 1114) (by decide +kernel))
set_option maxRecDepth 20000 in
theorem k_1115 : (Cond.code ({ cls := "StitchDeskModel", name := "rail", desc := "(III)I" } : MethodName) prog_13_method_43_code (4 : Nat) (Option.some ClassFile.FieldType.int)) ∈ lw_tbl := List.mem_append_right _ (List.mem_of_getElem? (i := 1115) (by decide +kernel))
set_option maxRecDepth 20000 in
theorem k_1116 : (Cond.methodLink "StitchDeskLaw" (77 : Nat) ({ cls := "StitchDeskModel", name := "end", desc := "()I" } : MethodName)) ∈ lw_tbl := List.mem_append_right _ (List.mem_of_getElem? (i := 1116) (by decide +kernel))
set_option maxRecDepth 20000 in
theorem k_1117 : (Cond.instanceMethod ({ cls := "StitchDeskModel", name := "end", desc := "()I" } : MethodName)) ∈ lw_tbl := List.mem_append_right _ (List.mem_of_getElem? (i := 1117) (by decide +kernel))
set_option maxRecDepth 20000 in
theorem k_1118 : (Cond.selects "StitchDeskModel" ({ cls := "StitchDeskModel", name := "end", desc := "()I" } : MethodName) ({ cls := "StitchDeskModel", name := "end", desc := "()I" } : MethodName)) ∈ lw_tbl := List.mem_append_right _ (List.mem_of_getElem? (i := 1118) (by decide +kernel))
set_option maxRecDepth 20000 in
theorem k_1119 : (Cond.code ({ cls := "StitchDeskModel", name := "end", desc := "()I" } : MethodName) prog_13_method_44_code (6 : Nat) (Option.some ClassFile.FieldType.int)) ∈ lw_tbl := List.mem_append_right _ (List.mem_of_getElem? (i := 1119) (by decide +kernel))
set_option maxRecDepth 20000 in
theorem k_1120 : (Cond.methodLink "StitchDeskModel" (226 : Nat) ({ cls := "StitchDeskModel", name := "findFault", desc := "()I" } : MethodName)) ∈ lw_tbl := List.mem_append_right _ (List.mem_of_getElem? (i := 1120) (by decide +kernel))
set_option maxRecDepth 20000 in
theorem k_1121 : (Cond.privateMethod ({ cls := "StitchDeskModel", name := "findFault", desc := "()I" } : MethodName)) ∈ lw_tbl := List.mem_append_right _ (List.mem_of_getElem? (i := 1121) (by decide +kernel))
set_option maxRecDepth 20000 in
theorem k_1122 : (Cond.instanceMethod ({ cls := "StitchDeskModel", name := "findFault", desc := "()I" } : MethodName)) ∈ lw_tbl := List.mem_append_right _ (List.mem_of_getElem? (i := 1122) (by decide +kernel))
set_option maxRecDepth 20000 in
theorem k_1123 : (Cond.code ({ cls := "StitchDeskModel", name := "findFault", desc := "()I" } : MethodName) prog_13_method_19_code (3 : Nat) (Option.some ClassFile.FieldType.int)) ∈ lw_tbl := List.mem_append_right _ (List.mem_of_getElem? (i := 1123) (by decide +kernel))
set_option maxRecDepth 20000 in
theorem k_1124 : (Cond.methodLink "StitchDeskModel" (148 : Nat) ({ cls := "StitchDeskModel", name := "flat", desc := "()Z" } : MethodName)) ∈ lw_tbl := List.mem_append_right _ (List.mem_of_getElem? (i := 1124) (by decide +kernel))
set_option maxRecDepth 20000 in
theorem k_1125 : (Cond.privateMethod ({ cls := "StitchDeskModel", name := "flat", desc := "()Z" } : MethodName)) ∈ lw_tbl := List.mem_append_right _ (List.mem_of_getElem? (i := 1125) (by decide +kernel))
set_option maxRecDepth 20000 in
theorem k_1126 : (Cond.instanceMethod ({ cls := "StitchDeskModel", name := "flat", desc := "()Z" } : MethodName)) ∈ lw_tbl := List.mem_append_right _ (List.mem_of_getElem? (i := 1126) (by decide +kernel))
set_option maxRecDepth 20000 in
theorem k_1127 : (Cond.code ({ cls := "StitchDeskModel", name := "flat", desc := "()Z" } : MethodName) prog_13_method_14_code (7 : Nat) (Option.some ClassFile.FieldType.boolean)) ∈ lw_tbl := List.mem_append_right _ (List.mem_of_getElem? (i := 1127) (by decide +kernel))
set_option maxRecDepth 20000 in
theorem k_1128 : (Cond.methodLink "StitchDeskModel" (123 : Nat) ({ cls := "StitchDeskModel", name := "turn", desc := "(IIIIII)I" } : MethodName)) ∈ lw_tbl := List.mem_append_right _ (List.mem_of_getElem? (i := 1128) (by decide +kernel))
set_option maxRecDepth 20000 in
theorem k_1129 : (Cond.static ({ cls := "StitchDeskModel", name := "turn", desc := "(IIIIII)I" } : MethodName)) ∈ lw_tbl := List.mem_append_right _ (List.mem_of_getElem? (i := 1129) (by decide +kernel))
set_option maxRecDepth 20000 in
theorem k_1130 : (Cond.code ({ cls := "StitchDeskModel", name := "turn", desc := "(IIIIII)I" } : MethodName) prog_13_method_9_code (6 : Nat) (Option.some ClassFile.FieldType.int)) ∈ lw_tbl := List.mem_append_right _ (List.mem_of_getElem? (i := 1130) (by decide +kernel))
set_option maxRecDepth 20000 in
theorem k_1131 : (Cond.methodLink "StitchDeskModel" (152 : Nat) ({ cls := "StitchDeskModel", name := "edgesOf", desc := "(I)V" } : MethodName)) ∈ lw_tbl := List.mem_append_right _ (List.mem_of_getElem? (i := 1131) (by decide +kernel))
set_option maxRecDepth 20000 in
theorem k_1132 : (Cond.privateMethod ({ cls := "StitchDeskModel", name := "edgesOf", desc := "(I)V" } : MethodName)) ∈ lw_tbl := List.mem_append_right _ (List.mem_of_getElem? (i := 1132) (by decide +kernel))
set_option maxRecDepth 20000 in
theorem k_1133 : (Cond.instanceMethod ({ cls := "StitchDeskModel", name := "edgesOf", desc := "(I)V" } : MethodName)) ∈ lw_tbl := List.mem_append_right _ (List.mem_of_getElem? (i := 1133) (by decide +kernel))
set_option maxRecDepth 20000 in
theorem k_1134 : (Cond.code ({ cls := "StitchDeskModel", name := "edgesOf", desc := "(I)V" } : MethodName) prog_13_method_7_code (7 : Nat) (Option.none : Option ClassFile.FieldType)) ∈ lw_tbl := List.mem_append_right _ (List.mem_of_getElem? (i := 1134) (by decide +kernel))
set_option maxRecDepth 20000 in
theorem k_1135 : (Cond.methodLink "StitchDeskModel" (115 : Nat) ({ cls := "StitchDeskModel", name := "railCorner", desc := "(II)I" } : MethodName)) ∈ lw_tbl := List.mem_append_right _ (List.mem_of_getElem? (i := 1135) (by decide +kernel))
set_option maxRecDepth 20000 in
theorem k_1136 : (Cond.privateMethod ({ cls := "StitchDeskModel", name := "railCorner", desc := "(II)I" } : MethodName)) ∈ lw_tbl := List.mem_append_right _ (List.mem_of_getElem? (i := 1136) (by decide +kernel))
set_option maxRecDepth 20000 in
theorem k_1137 : (Cond.instanceMethod ({ cls := "StitchDeskModel", name := "railCorner", desc := "(II)I" } : MethodName)) ∈ lw_tbl := List.mem_append_right _ (List.mem_of_getElem? (i := 1137) (by decide +kernel))
set_option maxRecDepth 20000 in
theorem k_1138 : (Cond.code ({ cls := "StitchDeskModel", name := "railCorner", desc := "(II)I" } : MethodName) prog_13_method_8_code (4 : Nat) (Option.some ClassFile.FieldType.int)) ∈ lw_tbl := List.mem_append_right _ (List.mem_of_getElem? (i := 1138) (by decide +kernel))
set_option maxRecDepth 20000 in
theorem k_1139 : (Cond.methodLink "StitchDeskModel" (119 : Nat) ({ cls := "StitchDeskModel", name := "edge", desc := "(IIIIII)V" } : MethodName)) ∈ lw_tbl := List.mem_append_right _ (List.mem_of_getElem? (i := 1139) (by decide +kernel))
set_option maxRecDepth 20000 in
theorem k_1140 : (Cond.privateMethod ({ cls := "StitchDeskModel", name := "edge", desc := "(IIIIII)V" } : MethodName)) ∈ lw_tbl := List.mem_append_right _ (List.mem_of_getElem? (i := 1140) (by decide +kernel))
set_option maxRecDepth 20000 in
theorem k_1141 : (Cond.instanceMethod ({ cls := "StitchDeskModel", name := "edge", desc := "(IIIIII)V" } : MethodName)) ∈ lw_tbl := List.mem_append_right _ (List.mem_of_getElem? (i := 1141) (by decide +kernel))
set_option maxRecDepth 20000 in
theorem k_1142 : (Cond.code ({ cls := "StitchDeskModel", name := "edge", desc := "(IIIIII)V" } : MethodName) prog_13_method_6_code (7 : Nat) (Option.none : Option ClassFile.FieldType)) ∈ lw_tbl := List.mem_append_right _ (List.mem_of_getElem? (i := 1142) (by decide +kernel))
set_option maxRecDepth 20000 in
theorem k_1143 : (Cond.methodLink "StitchDeskModel" (156 : Nat) ({ cls := "StitchDeskModel", name := "crossed", desc := "(II)Z" } : MethodName)) ∈ lw_tbl := List.mem_append_right _ (List.mem_of_getElem? (i := 1143) (by decide +kernel))
set_option maxRecDepth 20000 in
theorem k_1144 : (Cond.privateMethod ({ cls := "StitchDeskModel", name := "crossed", desc := "(II)Z" } : MethodName)) ∈ lw_tbl := List.mem_append_right _ (List.mem_of_getElem? (i := 1144) (by decide +kernel))
set_option maxRecDepth 20000 in
theorem k_1145 : (Cond.instanceMethod ({ cls := "StitchDeskModel", name := "crossed", desc := "(II)Z" } : MethodName)) ∈ lw_tbl := List.mem_append_right _ (List.mem_of_getElem? (i := 1145) (by decide +kernel))
set_option maxRecDepth 20000 in
theorem k_1146 : (Cond.code ({ cls := "StitchDeskModel", name := "crossed", desc := "(II)Z" } : MethodName) prog_13_method_18_code (4 : Nat) (Option.some ClassFile.FieldType.boolean)) ∈ lw_tbl := List.mem_append_right _ (List.mem_of_getElem? (i := 1146) (by decide +kernel))
set_option maxRecDepth 20000 in
theorem k_1147 : (Cond.methodLink "StitchDeskModel" (141 : Nat) ({ cls := "StitchDeskModel", name := "touch", desc := "(II)Z" } : MethodName)) ∈ lw_tbl := List.mem_append_right _ (List.mem_of_getElem? (i := 1147) (by decide +kernel))
set_option maxRecDepth 20000 in
theorem k_1148 : (Cond.privateMethod ({ cls := "StitchDeskModel", name := "touch", desc := "(II)Z" } : MethodName)) ∈ lw_tbl := List.mem_append_right _ (List.mem_of_getElem? (i := 1148) (by decide +kernel))
set_option maxRecDepth 20000 in
theorem k_1149 : (Cond.instanceMethod ({ cls := "StitchDeskModel", name := "touch", desc := "(II)Z" } : MethodName)) ∈ lw_tbl := List.mem_append_right _ (List.mem_of_getElem? (i := 1149) (by decide +kernel))
set_option maxRecDepth 20000 in
theorem k_1150 : (Cond.code ({ cls := "StitchDeskModel", name := "touch", desc := "(II)Z" } : MethodName) prog_13_method_16_code (7 : Nat) (Option.some ClassFile.FieldType.boolean)) ∈ lw_tbl := List.mem_append_right _ (List.mem_of_getElem? (i := 1150) (by decide +kernel))
set_option maxRecDepth 20000 in
theorem k_1151 : (Cond.methodLink "StitchDeskModel" (131 : Nat) ({ cls := "StitchDeskModel", name := "onEdge", desc := "(III)Z" } : MethodName)) ∈ lw_tbl := List.mem_append_right _ (List.mem_of_getElem? (i := 1151) (by decide +kernel))
set_option maxRecDepth 20000 in
theorem k_1152 : (Cond.privateMethod ({ cls := "StitchDeskModel", name := "onEdge", desc := "(III)Z" } : MethodName)) ∈ lw_tbl := List.mem_append_right _ (List.mem_of_getElem? (i := 1152) (by decide +kernel))
set_option maxRecDepth 20000 in
theorem k_1153 : (Cond.instanceMethod ({ cls := "StitchDeskModel", name := "onEdge", desc := "(III)Z" } : MethodName)) ∈ lw_tbl := List.mem_append_right _ (List.mem_of_getElem? (i := 1153) (by decide +kernel))
set_option maxRecDepth 20000 in
theorem k_1154 : (Cond.code ({ cls := "StitchDeskModel", name := "onEdge", desc := "(III)Z" } : MethodName) prog_13_method_10_code (4 : Nat) (Option.some ClassFile.FieldType.boolean)) ∈ lw_tbl := List.mem_append_right _ (List.mem_of_getElem? (i := 1154) (by decide +kernel))
set_option maxRecDepth 20000 in
theorem k_1155 : (Cond.methodLink "StitchDeskModel" (127 : Nat) ({ cls := "StitchDeskModel", name := "size", desc := "(I)I" } : MethodName)) ∈ lw_tbl := List.mem_append_right _ (List.mem_of_getElem? (i := 1155) (by decide +kernel))
set_option maxRecDepth 20000 in
theorem k_1156 : (Cond.static ({ cls := "StitchDeskModel", name := "size", desc := "(I)I" } : MethodName)) ∈ lw_tbl := List.mem_append_right _ (List.mem_of_getElem? (i := 1156) (by decide +kernel))
set_option maxRecDepth 20000 in
theorem k_1157 : (Cond.code ({ cls := "StitchDeskModel", name := "size", desc := "(I)I" } : MethodName) prog_13_method_3_code (1 : Nat) (Option.some ClassFile.FieldType.int)) ∈ lw_tbl := List.mem_append_right _ (List.mem_of_getElem? (i := 1157) (by decide +kernel))
set_option maxRecDepth 20000 in
theorem k_1158 : (Cond.methodLink "StitchDeskModel" (138 : Nat) ({ cls := "StitchDeskModel", name := "sign", desc := "(I)I" } : MethodName)) ∈ lw_tbl := List.mem_append_right _ (List.mem_of_getElem? (i := 1158) (by decide +kernel))
set_option maxRecDepth 20000 in
theorem k_1159 : (Cond.static ({ cls := "StitchDeskModel", name := "sign", desc := "(I)I" } : MethodName)) ∈ lw_tbl := List.mem_append_right _ (List.mem_of_getElem? (i := 1159) (by decide +kernel))
set_option maxRecDepth 20000 in
theorem k_1160 : (Cond.code ({ cls := "StitchDeskModel", name := "sign", desc := "(I)I" } : MethodName) prog_13_method_15_code (1 : Nat) (Option.some ClassFile.FieldType.int)) ∈ lw_tbl := List.mem_append_right _ (List.mem_of_getElem? (i := 1160) (by decide +kernel))
set_option maxRecDepth 20000 in
theorem k_1161 : (Cond.methodLink "StitchDeskModel" (145 : Nat) ({ cls := "StitchDeskModel", name := "folded", desc := "(II)Z" } : MethodName)) ∈ lw_tbl := List.mem_append_right _ (List.mem_of_getElem? (i := 1161) (by decide +kernel))
set_option maxRecDepth 20000 in
theorem k_1162 : (Cond.privateMethod ({ cls := "StitchDeskModel", name := "folded", desc := "(II)Z" } : MethodName)) ∈ lw_tbl := List.mem_append_right _ (List.mem_of_getElem? (i := 1162) (by decide +kernel))
set_option maxRecDepth 20000 in
theorem k_1163 : (Cond.instanceMethod ({ cls := "StitchDeskModel", name := "folded", desc := "(II)Z" } : MethodName)) ∈ lw_tbl := List.mem_append_right _ (List.mem_of_getElem? (i := 1163) (by decide +kernel))
set_option maxRecDepth 20000 in
theorem k_1164 : (Cond.code ({ cls := "StitchDeskModel", name := "folded", desc := "(II)Z" } : MethodName) prog_13_method_17_code (7 : Nat) (Option.some ClassFile.FieldType.boolean)) ∈ lw_tbl := List.mem_append_right _ (List.mem_of_getElem? (i := 1164) (by decide +kernel))
set_option maxRecDepth 20000 in
theorem k_1165 : (Cond.methodLink "StitchDeskModel" (159 : Nat) ({ cls := "StitchDeskModel", name := "inside", desc := "(III)Z" } : MethodName)) ∈ lw_tbl := List.mem_append_right _ (List.mem_of_getElem? (i := 1165) (by decide +kernel))
set_option maxRecDepth 20000 in
theorem k_1166 : (Cond.privateMethod ({ cls := "StitchDeskModel", name := "inside", desc := "(III)Z" } : MethodName)) ∈ lw_tbl := List.mem_append_right _ (List.mem_of_getElem? (i := 1166) (by decide +kernel))
set_option maxRecDepth 20000 in
theorem k_1167 : (Cond.instanceMethod ({ cls := "StitchDeskModel", name := "inside", desc := "(III)Z" } : MethodName)) ∈ lw_tbl := List.mem_append_right _ (List.mem_of_getElem? (i := 1167) (by decide +kernel))
set_option maxRecDepth 20000 in
theorem k_1168 : (Cond.code ({ cls := "StitchDeskModel", name := "inside", desc := "(III)Z" } : MethodName) prog_13_method_12_code (6 : Nat) (Option.some ClassFile.FieldType.boolean)) ∈ lw_tbl := List.mem_append_right _ (List.mem_of_getElem? (i := 1168) (by decide +kernel))
set_option maxRecDepth 20000 in
theorem k_1169 : (Cond.methodLink "StitchDeskModel" (135 : Nat) ({ cls := "StitchDeskModel", name := "passes", desc := "(III)Z" } : MethodName)) ∈ lw_tbl := List.mem_append_right _ (List.mem_of_getElem? (i := 1169) (by decide +kernel))
set_option maxRecDepth 20000 in
theorem k_1170 : (Cond.privateMethod ({ cls := "StitchDeskModel", name := "passes", desc := "(III)Z" } : MethodName)) ∈ lw_tbl := List.mem_append_right _ (List.mem_of_getElem? (i := 1170) (by decide +kernel))
set_option maxRecDepth 20000 in
theorem k_1171 : (Cond.instanceMethod ({ cls := "StitchDeskModel", name := "passes", desc := "(III)Z" } : MethodName)) ∈ lw_tbl := List.mem_append_right _ (List.mem_of_getElem? (i := 1171) (by decide +kernel))
set_option maxRecDepth 20000 in
theorem k_1172 : (Cond.code ({ cls := "StitchDeskModel", name := "passes", desc := "(III)Z" } : MethodName) prog_13_method_11_code (5 : Nat) (Option.some ClassFile.FieldType.boolean)) ∈ lw_tbl := List.mem_append_right _ (List.mem_of_getElem? (i := 1172) (by decide +kernel))
set_option maxRecDepth 20000 in
theorem k_1173 : (Cond.methodLink "StitchDeskLaw" (81 : Nat) ({ cls := "StitchDeskModel", name := "fault", desc := "(I)I" } : MethodName)) ∈ lw_tbl := List.mem_append_right _ (List.mem_of_getElem? (i := 1173) (by decide +kernel))
set_option maxRecDepth 20000 in
theorem k_1174 : (Cond.instanceMethod ({ cls := "StitchDeskModel", name := "fault", desc := "(I)I" } : MethodName)) ∈ lw_tbl := List.mem_append_right _ (List.mem_of_getElem? (i := 1174) (by decide +kernel))
set_option maxRecDepth 20000 in
theorem k_1175 : (Cond.selects "StitchDeskModel" ({ cls := "StitchDeskModel", name := "fault", desc := "(I)I" } : MethodName) ({ cls := "StitchDeskModel", name := "fault", desc := "(I)I" } : MethodName)) ∈ lw_tbl := List.mem_append_right _ (List.mem_of_getElem? (i := 1175) (by decide +kernel))
set_option maxRecDepth 20000 in
theorem k_1176 : (Cond.code ({ cls := "StitchDeskModel", name := "fault", desc := "(I)I" } : MethodName) prog_13_method_45_code (2 : Nat) (Option.some ClassFile.FieldType.int)) ∈ lw_tbl := List.mem_append_right _ (List.mem_of_getElem? (i := 1176) (by decide +kernel))
set_option maxRecDepth 20000 in
theorem k_1177 : (Cond.methodLink "StitchDeskLaw" (85 : Nat) ({ cls := "StitchDeskModel", name := "shape", desc := "(II)I" } : MethodName)) ∈ lw_tbl := List.mem_append_right _ (List.mem_of_getElem? (i := 1177) (by decide +kernel))
set_option maxRecDepth 20000 in
theorem k_1178 : (Cond.instanceMethod ({ cls := "StitchDeskModel", name := "shape", desc := "(II)I" } : MethodName)) ∈ lw_tbl := List.mem_append_right _ (List.mem_of_getElem? (i := 1178) (by decide +kernel))
set_option maxRecDepth 20000 in
theorem k_1179 : (Cond.selects "StitchDeskModel" ({ cls := "StitchDeskModel", name := "shape", desc := "(II)I" } : MethodName) ({ cls := "StitchDeskModel", name := "shape", desc := "(II)I" } : MethodName)) ∈ lw_tbl := List.mem_append_right _ (List.mem_of_getElem? (i := 1179) (by decide +kernel))
set_option maxRecDepth 20000 in
theorem k_1180 : (Cond.code ({ cls := "StitchDeskModel", name := "shape", desc := "(II)I" } : MethodName) prog_13_method_46_code (3 : Nat) (Option.some ClassFile.FieldType.int)) ∈ lw_tbl := List.mem_append_right _ (List.mem_of_getElem? (i := 1180) (by decide +kernel))
set_option maxRecDepth 20000 in
theorem k_1181 : (Cond.methodLink "StitchDeskModel" (230 : Nat) ({ cls := "StitchDeskModel", name := "runsOf", desc := "(IZ)V" } : MethodName)) ∈ lw_tbl := List.mem_append_right _ (List.mem_of_getElem? (i := 1181) (by decide +kernel))
set_option maxRecDepth 20000 in
theorem k_1182 : (Cond.privateMethod ({ cls := "StitchDeskModel", name := "runsOf", desc := "(IZ)V" } : MethodName)) ∈ lw_tbl := List.mem_append_right _ (List.mem_of_getElem? (i := 1182) (by decide +kernel))
set_option maxRecDepth 20000 in
theorem k_1183 : (Cond.instanceMethod ({ cls := "StitchDeskModel", name := "runsOf", desc := "(IZ)V" } : MethodName)) ∈ lw_tbl := List.mem_append_right _ (List.mem_of_getElem? (i := 1183) (by decide +kernel))
set_option maxRecDepth 20000 in
theorem k_1184 : (Cond.code ({ cls := "StitchDeskModel", name := "runsOf", desc := "(IZ)V" } : MethodName) prog_13_method_32_code (3 : Nat) (Option.none : Option ClassFile.FieldType)) ∈ lw_tbl := List.mem_append_right _ (List.mem_of_getElem? (i := 1184) (by decide +kernel))
set_option maxRecDepth 20000 in
theorem k_1185 : (Cond.methodLink "StitchDeskModel" (205 : Nat) ({ cls := "StitchDeskModel", name := "hatch", desc := "(I)V" } : MethodName)) ∈ lw_tbl := List.mem_append_right _ (List.mem_of_getElem? (i := 1185) (by decide +kernel))
set_option maxRecDepth 20000 in
theorem k_1186 : (Cond.privateMethod ({ cls := "StitchDeskModel", name := "hatch", desc := "(I)V" } : MethodName)) ∈ lw_tbl := List.mem_append_right _ (List.mem_of_getElem? (i := 1186) (by decide +kernel))
set_option maxRecDepth 20000 in
theorem k_1187 : (Cond.instanceMethod ({ cls := "StitchDeskModel", name := "hatch", desc := "(I)V" } : MethodName)) ∈ lw_tbl := List.mem_append_right _ (List.mem_of_getElem? (i := 1187) (by decide +kernel))
set_option maxRecDepth 20000 in
theorem k_1188 : (Cond.code ({ cls := "StitchDeskModel", name := "hatch", desc := "(I)V" } : MethodName) prog_13_method_30_code (7 : Nat) (Option.none : Option ClassFile.FieldType)) ∈ lw_tbl := List.mem_append_right _ (List.mem_of_getElem? (i := 1188) (by decide +kernel))
set_option maxRecDepth 20000 in
theorem k_1189 : (Cond.methodLink "StitchDeskModel" (168 : Nat) ({ cls := "StitchDeskModel", name := "down", desc := "(II)I" } : MethodName)) ∈ lw_tbl := List.mem_append_right _ (List.mem_of_getElem? (i := 1189) (by decide +kernel))
set_option maxRecDepth 20000 in
theorem k_1190 : (Cond.static ({ cls := "StitchDeskModel", name := "down", desc := "(II)I" } : MethodName)) ∈ lw_tbl := List.mem_append_right _ (List.mem_of_getElem? (i := 1190) (by decide +kernel))
set_option maxRecDepth 20000 in
theorem k_1191 : (Cond.code ({ cls := "StitchDeskModel", name := "down", desc := "(II)I" } : MethodName) prog_13_method_2_code (3 : Nat) (Option.some ClassFile.FieldType.int)) ∈ lw_tbl := List.mem_append_right _ (List.mem_of_getElem? (i := 1191) (by decide +kernel))
set_option maxRecDepth 20000 in
theorem k_1192 : (Cond.methodLink "StitchDeskModel" (192 : Nat) ({ cls := "StitchDeskModel", name := "line", desc := "(IIIZ)V" } : MethodName)) ∈ lw_tbl := List.mem_append_right _ (List.mem_of_getElem? (i := 1192) (by decide +kernel))
set_option maxRecDepth 20000 in
theorem k_1193 : (Cond.privateMethod ({ cls := "StitchDeskModel", name := "line", desc := "(IIIZ)V" } : MethodName)) ∈ lw_tbl := List.mem_append_right _ (List.mem_of_getElem? (i := 1193) (by decide +kernel))
set_option maxRecDepth 20000 in
theorem k_1194 : (Cond.instanceMethod ({ cls := "StitchDeskModel", name := "line", desc := "(IIIZ)V" } : MethodName)) ∈ lw_tbl := List.mem_append_right _ (List.mem_of_getElem? (i := 1194) (by decide +kernel))
set_option maxRecDepth 20000 in
theorem k_1195 : (Cond.code ({ cls := "StitchDeskModel", name := "line", desc := "(IIIZ)V" } : MethodName) prog_13_method_31_code (12 : Nat) (Option.none : Option ClassFile.FieldType)) ∈ lw_tbl := List.mem_append_right _ (List.mem_of_getElem? (i := 1195) (by decide +kernel))
set_option maxRecDepth 20000 in
theorem k_1196 : (Cond.methodLink "StitchDeskModel" (195 : Nat) ({ cls := "StitchDeskModel", name := "xOf", desc := "(III)I" } : MethodName)) ∈ lw_tbl := List.mem_append_right _ (List.mem_of_getElem? (i := 1196) (by decide +kernel))
set_option maxRecDepth 20000 in
theorem k_1197 : (Cond.static ({ cls := "StitchDeskModel", name := "xOf", desc := "(III)I" } : MethodName)) ∈ lw_tbl := List.mem_append_right _ (List.mem_of_getElem? (i := 1197) (by decide +kernel))
set_option maxRecDepth 20000 in
theorem k_1198 : (Cond.code ({ cls := "StitchDeskModel", name := "xOf", desc := "(III)I" } : MethodName) prog_13_method_28_code (3 : Nat) (Option.some ClassFile.FieldType.int)) ∈ lw_tbl := List.mem_append_right _ (List.mem_of_getElem? (i := 1198) (by decide +kernel))
set_option maxRecDepth 20000 in
theorem k_1199 : (Cond.methodLink "StitchDeskModel" (199 : Nat) ({ cls := "StitchDeskModel", name := "yOf", desc := "(III)I" } : MethodName)) ∈ lw_tbl := List.mem_append_right _ (List.mem_of_getElem? (i := 1199) (by decide +kernel))
set_option maxRecDepth 20000 in
theorem k_1200 : (Cond.static ({ cls := "StitchDeskModel", name := "yOf", desc := "(III)I" } : MethodName)) ∈ lw_tbl := List.mem_append_right _ (List.mem_of_getElem? (i := 1200) (by decide +kernel))
set_option maxRecDepth 20000 in
theorem k_1201 : (Cond.code ({ cls := "StitchDeskModel", name := "yOf", desc := "(III)I" } : MethodName) prog_13_method_29_code (3 : Nat) (Option.some ClassFile.FieldType.int)) ∈ lw_tbl := List.mem_append_right _ (List.mem_of_getElem? (i := 1201) (by decide +kernel))
set_option maxRecDepth 20000 in
theorem k_1202 : (Cond.methodLink "StitchDeskModel" (178 : Nat) ({ cls := "StitchDeskModel", name := "in", desc := "(II)Z" } : MethodName)) ∈ lw_tbl := List.mem_append_right _ (List.mem_of_getElem? (i := 1202) (by decide +kernel))
set_option maxRecDepth 20000 in
theorem k_1203 : (Cond.privateMethod ({ cls := "StitchDeskModel", name := "in", desc := "(II)Z" } : MethodName)) ∈ lw_tbl := List.mem_append_right _ (List.mem_of_getElem? (i := 1203) (by decide +kernel))
set_option maxRecDepth 20000 in
theorem k_1204 : (Cond.instanceMethod ({ cls := "StitchDeskModel", name := "in", desc := "(II)Z" } : MethodName)) ∈ lw_tbl := List.mem_append_right _ (List.mem_of_getElem? (i := 1204) (by decide +kernel))
set_option maxRecDepth 20000 in
theorem k_1205 : (Cond.code ({ cls := "StitchDeskModel", name := "in", desc := "(II)Z" } : MethodName) prog_13_method_13_code (4 : Nat) (Option.some ClassFile.FieldType.boolean)) ∈ lw_tbl := List.mem_append_right _ (List.mem_of_getElem? (i := 1205) (by decide +kernel))
set_option maxRecDepth 20000 in
theorem k_1206 : (Cond.methodLink "StitchDeskModel" (188 : Nat) ({ cls := "StitchDeskModel", name := "comes", desc := "(IIIZ)V" } : MethodName)) ∈ lw_tbl := List.mem_append_right _ (List.mem_of_getElem? (i := 1206) (by decide +kernel))
set_option maxRecDepth 20000 in
theorem k_1207 : (Cond.privateMethod ({ cls := "StitchDeskModel", name := "comes", desc := "(IIIZ)V" } : MethodName)) ∈ lw_tbl := List.mem_append_right _ (List.mem_of_getElem? (i := 1207) (by decide +kernel))
set_option maxRecDepth 20000 in
theorem k_1208 : (Cond.instanceMethod ({ cls := "StitchDeskModel", name := "comes", desc := "(IIIZ)V" } : MethodName)) ∈ lw_tbl := List.mem_append_right _ (List.mem_of_getElem? (i := 1208) (by decide +kernel))
set_option maxRecDepth 20000 in
theorem k_1209 : (Cond.code ({ cls := "StitchDeskModel", name := "comes", desc := "(IIIZ)V" } : MethodName) prog_13_method_25_code (5 : Nat) (Option.none : Option ClassFile.FieldType)) ∈ lw_tbl := List.mem_append_right _ (List.mem_of_getElem? (i := 1209) (by decide +kernel))
set_option maxRecDepth 20000 in
theorem k_1210 : (Cond.methodLink "StitchDeskModel" (175 : Nat) ({ cls := "StitchDeskModel", name := "move", desc := "(III)V" } : MethodName)) ∈ lw_tbl := List.mem_append_right _ (List.mem_of_getElem? (i := 1210) (by decide +kernel))
set_option maxRecDepth 20000 in
theorem k_1211 : (Cond.privateMethod ({ cls := "StitchDeskModel", name := "move", desc := "(III)V" } : MethodName)) ∈ lw_tbl := List.mem_append_right _ (List.mem_of_getElem? (i := 1211) (by decide +kernel))
set_option maxRecDepth 20000 in
theorem k_1212 : (Cond.instanceMethod ({ cls := "StitchDeskModel", name := "move", desc := "(III)V" } : MethodName)) ∈ lw_tbl := List.mem_append_right _ (List.mem_of_getElem? (i := 1212) (by decide +kernel))
set_option maxRecDepth 20000 in
theorem k_1213 : (Cond.code ({ cls := "StitchDeskModel", name := "move", desc := "(III)V" } : MethodName) prog_13_method_22_code (8 : Nat) (Option.none : Option ClassFile.FieldType)) ∈ lw_tbl := List.mem_append_right _ (List.mem_of_getElem? (i := 1213) (by decide +kernel))
set_option maxRecDepth 20000 in
theorem k_1214 : (Cond.methodLink "StitchDeskModel" (165 : Nat) ({ cls := "StitchDeskModel", name := "stepsTo", desc := "(II)I" } : MethodName)) ∈ lw_tbl := List.mem_append_right _ (List.mem_of_getElem? (i := 1214) (by decide +kernel))
set_option maxRecDepth 20000 in
theorem k_1215 : (Cond.privateMethod ({ cls := "StitchDeskModel", name := "stepsTo", desc := "(II)I" } : MethodName)) ∈ lw_tbl := List.mem_append_right _ (List.mem_of_getElem? (i := 1215) (by decide +kernel))
set_option maxRecDepth 20000 in
theorem k_1216 : (Cond.instanceMethod ({ cls := "StitchDeskModel", name := "stepsTo", desc := "(II)I" } : MethodName)) ∈ lw_tbl := List.mem_append_right _ (List.mem_of_getElem? (i := 1216) (by decide +kernel))
set_option maxRecDepth 20000 in
theorem k_1217 : (Cond.code ({ cls := "StitchDeskModel", name := "stepsTo", desc := "(II)I" } : MethodName) prog_13_method_21_code (3 : Nat) (Option.some ClassFile.FieldType.int)) ∈ lw_tbl := List.mem_append_right _ (List.mem_of_getElem? (i := 1217) (by decide +kernel))
set_option maxRecDepth 20000 in
theorem k_1218 : (Cond.methodLink "StitchDeskModel" (162 : Nat) ({ cls := "StitchDeskModel", name := "greater", desc := "(II)I" } : MethodName)) ∈ lw_tbl := List.mem_append_right _ (List.mem_of_getElem? (i := 1218) (by decide +kernel))
set_option maxRecDepth 20000 in
theorem k_1219 : (Cond.static ({ cls := "StitchDeskModel", name := "greater", desc := "(II)I" } : MethodName)) ∈ lw_tbl := List.mem_append_right _ (List.mem_of_getElem? (i := 1219) (by decide +kernel))
set_option maxRecDepth 20000 in
theorem k_1220 : (Cond.code ({ cls := "StitchDeskModel", name := "greater", desc := "(II)I" } : MethodName) prog_13_method_4_code (2 : Nat) (Option.some ClassFile.FieldType.int)) ∈ lw_tbl := List.mem_append_right _ (List.mem_of_getElem? (i := 1220) (by decide +kernel))
set_option maxRecDepth 20000 in
theorem k_1221 : (Cond.methodLink "StitchDeskModel" (171 : Nat) ({ cls := "StitchDeskModel", name := "step", desc := "(III)V" } : MethodName)) ∈ lw_tbl := List.mem_append_right _ (List.mem_of_getElem? (i := 1221) (by decide +kernel))
set_option maxRecDepth 20000 in
theorem k_1222 : (Cond.privateMethod ({ cls := "StitchDeskModel", name := "step", desc := "(III)V" } : MethodName)) ∈ lw_tbl := List.mem_append_right _ (List.mem_of_getElem? (i := 1222) (by decide +kernel))
set_option maxRecDepth 20000 in
theorem k_1223 : (Cond.instanceMethod ({ cls := "StitchDeskModel", name := "step", desc := "(III)V" } : MethodName)) ∈ lw_tbl := List.mem_append_right _ (List.mem_of_getElem? (i := 1223) (by decide +kernel))
set_option maxRecDepth 20000 in
theorem k_1224 : (Cond.code ({ cls := "StitchDeskModel", name := "step", desc := "(III)V" } : MethodName) prog_13_method_20_code (4 : Nat) (Option.none : Option ClassFile.FieldType)) ∈ lw_tbl := List.mem_append_right _ (List.mem_of_getElem? (i := 1224) (by decide +kernel))
set_option maxRecDepth 20000 in
theorem k_1225 : (Cond.methodLink "StitchDeskModel" (181 : Nat) ({ cls := "StitchDeskModel", name := "leap", desc := "(II)V" } : MethodName)) ∈ lw_tbl := List.mem_append_right _ (List.mem_of_getElem? (i := 1225) (by decide +kernel))
set_option maxRecDepth 20000 in
theorem k_1226 : (Cond.privateMethod ({ cls := "StitchDeskModel", name := "leap", desc := "(II)V" } : MethodName)) ∈ lw_tbl := List.mem_append_right _ (List.mem_of_getElem? (i := 1226) (by decide +kernel))
set_option maxRecDepth 20000 in
theorem k_1227 : (Cond.instanceMethod ({ cls := "StitchDeskModel", name := "leap", desc := "(II)V" } : MethodName)) ∈ lw_tbl := List.mem_append_right _ (List.mem_of_getElem? (i := 1227) (by decide +kernel))
set_option maxRecDepth 20000 in
theorem k_1228 : (Cond.code ({ cls := "StitchDeskModel", name := "leap", desc := "(II)V" } : MethodName) prog_13_method_23_code (3 : Nat) (Option.none : Option ClassFile.FieldType)) ∈ lw_tbl := List.mem_append_right _ (List.mem_of_getElem? (i := 1228) (by decide +kernel))
set_option maxRecDepth 20000 in
theorem k_1229 : (Cond.methodLink "StitchDeskModel" (185 : Nat) ({ cls := "StitchDeskModel", name := "stepsIn", desc := "(II)Z" } : MethodName)) ∈ lw_tbl := List.mem_append_right _ (List.mem_of_getElem? (i := 1229) (by decide +kernel))
set_option maxRecDepth 20000 in
theorem k_1230 : (Cond.privateMethod ({ cls := "StitchDeskModel", name := "stepsIn", desc := "(II)Z" } : MethodName)) ∈ lw_tbl := List.mem_append_right _ (List.mem_of_getElem? (i := 1230) (by decide +kernel))
set_option maxRecDepth 20000 in
theorem k_1231 : (Cond.instanceMethod ({ cls := "StitchDeskModel", name := "stepsIn", desc := "(II)Z" } : MethodName)) ∈ lw_tbl := List.mem_append_right _ (List.mem_of_getElem? (i := 1231) (by decide +kernel))
set_option maxRecDepth 20000 in
theorem k_1232 : (Cond.code ({ cls := "StitchDeskModel", name := "stepsIn", desc := "(II)Z" } : MethodName) prog_13_method_24_code (5 : Nat) (Option.some ClassFile.FieldType.boolean)) ∈ lw_tbl := List.mem_append_right _ (List.mem_of_getElem? (i := 1232) (by decide +kernel))
set_option maxRecDepth 20000 in
theorem k_1233 : (Cond.methodLink "StitchDeskModel" (208 : Nat) ({ cls := "StitchDeskModel", name := "satin", desc := "(I)V" } : MethodName)) ∈ lw_tbl := List.mem_append_right _ (List.mem_of_getElem? (i := 1233) (by decide +kernel))
set_option maxRecDepth 20000 in
theorem k_1234 : (Cond.privateMethod ({ cls := "StitchDeskModel", name := "satin", desc := "(I)V" } : MethodName)) ∈ lw_tbl := List.mem_append_right _ (List.mem_of_getElem? (i := 1234) (by decide +kernel))
set_option maxRecDepth 20000 in
theorem k_1235 : (Cond.instanceMethod ({ cls := "StitchDeskModel", name := "satin", desc := "(I)V" } : MethodName)) ∈ lw_tbl := List.mem_append_right _ (List.mem_of_getElem? (i := 1235) (by decide +kernel))
set_option maxRecDepth 20000 in
theorem k_1236 : (Cond.code ({ cls := "StitchDeskModel", name := "satin", desc := "(I)V" } : MethodName) prog_13_method_27_code (13 : Nat) (Option.none : Option ClassFile.FieldType)) ∈ lw_tbl := List.mem_append_right _ (List.mem_of_getElem? (i := 1236) (by decide +kernel))
set_option maxRecDepth 20000 in
theorem k_1237 : (Cond.methodLink "StitchDeskModel" (211 : Nat) ({ cls := "StitchDeskModel", name := "outline", desc := "(I)V" } : MethodName)) ∈ lw_tbl := List.mem_append_right _ (List.mem_of_getElem? (i := 1237) (by decide +kernel))
set_option maxRecDepth 20000 in
theorem k_1238 : (Cond.privateMethod ({ cls := "StitchDeskModel", name := "outline", desc := "(I)V" } : MethodName)) ∈ lw_tbl := List.mem_append_right _ (List.mem_of_getElem? (i := 1238) (by decide +kernel))
set_option maxRecDepth 20000 in
theorem k_1239 : (Cond.instanceMethod ({ cls := "StitchDeskModel", name := "outline", desc := "(I)V" } : MethodName)) ∈ lw_tbl := List.mem_append_right _ (List.mem_of_getElem? (i := 1239) (by decide +kernel))
set_option maxRecDepth 20000 in
theorem k_1240 : (Cond.code ({ cls := "StitchDeskModel", name := "outline", desc := "(I)V" } : MethodName) prog_13_method_26_code (6 : Nat) (Option.none : Option ClassFile.FieldType)) ∈ lw_tbl := List.mem_append_right _ (List.mem_of_getElem? (i := 1240) (by decide +kernel))
set_option maxRecDepth 20000 in
theorem k_1241 : (Cond.methodLink "StitchDeskLaw" (89 : Nat) ({ cls := "StitchDeskModel", name := "count", desc := "(I)I" } : MethodName)) ∈ lw_tbl := List.mem_append_right _ (List.mem_of_getElem? (i := 1241) (by decide +kernel))
set_option maxRecDepth 20000 in
theorem k_1242 : (Cond.instanceMethod ({ cls := "StitchDeskModel", name := "count", desc := "(I)I" } : MethodName)) ∈ lw_tbl := List.mem_append_right _ (List.mem_of_getElem? (i := 1242) (by decide +kernel))
set_option maxRecDepth 20000 in
theorem k_1243 : (Cond.selects "StitchDeskModel" ({ cls := "StitchDeskModel", name := "count", desc := "(I)I" } : MethodName) ({ cls := "StitchDeskModel", name := "count", desc := "(I)I" } : MethodName)) ∈ lw_tbl := List.mem_append_right _ (List.mem_of_getElem? (i := 1243) (by decide +kernel))
set_option maxRecDepth 20000 in
theorem k_1244 : (Cond.code ({ cls := "StitchDeskModel", name := "count", desc := "(I)I" } : MethodName) prog_13_method_47_code (2 : Nat) (Option.some ClassFile.FieldType.int)) ∈ lw_tbl := List.mem_append_right _ (List.mem_of_getElem? (i := 1244) (by decide +kernel))
set_option maxRecDepth 20000 in
theorem k_1245 : (Cond.methodLink "StitchDeskLaw" (93 : Nat) ({ cls := "StitchDeskModel", name := "stitch", desc := "()I" } : MethodName)) ∈ lw_tbl := List.mem_append_right _ (List.mem_of_getElem? (i := 1245) (by decide +kernel))
set_option maxRecDepth 20000 in
theorem k_1246 : (Cond.instanceMethod ({ cls := "StitchDeskModel", name := "stitch", desc := "()I" } : MethodName)) ∈ lw_tbl := List.mem_append_right _ (List.mem_of_getElem? (i := 1246) (by decide +kernel))
set_option maxRecDepth 20000 in
theorem k_1247 : (Cond.selects "StitchDeskModel" ({ cls := "StitchDeskModel", name := "stitch", desc := "()I" } : MethodName) ({ cls := "StitchDeskModel", name := "stitch", desc := "()I" } : MethodName)) ∈ lw_tbl := List.mem_append_right _ (List.mem_of_getElem? (i := 1247) (by decide +kernel))
set_option maxRecDepth 20000 in
theorem k_1248 : (Cond.code ({ cls := "StitchDeskModel", name := "stitch", desc := "()I" } : MethodName) prog_13_method_48_code (2 : Nat) (Option.some ClassFile.FieldType.int)) ∈ lw_tbl := List.mem_append_right _ (List.mem_of_getElem? (i := 1248) (by decide +kernel))
set_option maxRecDepth 20000 in
theorem k_1249 : (Cond.methodLink "StitchDeskLaw" (96 : Nat) ({ cls := "StitchDeskModel", name := "record", desc := "(II)I" } : MethodName)) ∈ lw_tbl := List.mem_append_right _ (List.mem_of_getElem? (i := 1249) (by decide +kernel))
set_option maxRecDepth 20000 in
theorem k_1250 : (Cond.instanceMethod ({ cls := "StitchDeskModel", name := "record", desc := "(II)I" } : MethodName)) ∈ lw_tbl := List.mem_append_right _ (List.mem_of_getElem? (i := 1250) (by decide +kernel))
set_option maxRecDepth 20000 in
theorem k_1251 : (Cond.selects "StitchDeskModel" ({ cls := "StitchDeskModel", name := "record", desc := "(II)I" } : MethodName) ({ cls := "StitchDeskModel", name := "record", desc := "(II)I" } : MethodName)) ∈ lw_tbl := List.mem_append_right _ (List.mem_of_getElem? (i := 1251) (by decide +kernel))
set_option maxRecDepth 20000 in
theorem k_1252 : (Cond.code ({ cls := "StitchDeskModel", name := "record", desc := "(II)I" } : MethodName) prog_13_method_49_code (3 : Nat) (Option.some ClassFile.FieldType.int)) ∈ lw_tbl := List.mem_append_right _ (List.mem_of_getElem? (i := 1252) (by decide +kernel))
set_option maxRecDepth 20000 in
theorem k_1253 : (Cond.methodLink "StitchDeskLaw" (100 : Nat) ({ cls := "StitchDeskModel", name := "byteAt", desc := "(I)I" } : MethodName)) ∈ lw_tbl := List.mem_append_right _ (List.mem_of_getElem? (i := 1253) (by decide +kernel))
set_option maxRecDepth 20000 in
theorem k_1254 : (Cond.instanceMethod ({ cls := "StitchDeskModel", name := "byteAt", desc := "(I)I" } : MethodName)) ∈ lw_tbl := List.mem_append_right _ (List.mem_of_getElem? (i := 1254) (by decide +kernel))
set_option maxRecDepth 20000 in
theorem k_1255 : (Cond.selects "StitchDeskModel" ({ cls := "StitchDeskModel", name := "byteAt", desc := "(I)I" } : MethodName) ({ cls := "StitchDeskModel", name := "byteAt", desc := "(I)I" } : MethodName)) ∈ lw_tbl := List.mem_append_right _ (List.mem_of_getElem? (i := 1255) (by decide +kernel))
set_option maxRecDepth 20000 in
theorem k_1256 : (Cond.code ({ cls := "StitchDeskModel", name := "byteAt", desc := "(I)I" } : MethodName) prog_13_method_50_code (4 : Nat) (Option.some ClassFile.FieldType.int)) ∈ lw_tbl := List.mem_append_right _ (List.mem_of_getElem? (i := 1256) (by decide +kernel))
set_option maxRecDepth 20000 in
theorem k_1257 : (Cond.methodLink "StitchDeskModel" (234 : Nat) ({ cls := "StitchDeskModel", name := "digits", desc := "(I)I" } : MethodName)) ∈ lw_tbl := List.mem_append_right _ (List.mem_of_getElem? (i := 1257) (by decide +kernel))
set_option maxRecDepth 20000 in
theorem k_1258 : (Cond.static ({ cls := "StitchDeskModel", name := "digits", desc := "(I)I" } : MethodName)) ∈ lw_tbl := List.mem_append_right _ (List.mem_of_getElem? (i := 1258) (by decide +kernel))
set_option maxRecDepth 20000 in
theorem k_1259 : (Cond.code ({ cls := "StitchDeskModel", name := "digits", desc := "(I)I" } : MethodName) prog_13_method_33_code (5 : Nat) (Option.some ClassFile.FieldType.int)) ∈ lw_tbl := List.mem_append_right _ (List.mem_of_getElem? (i := 1259) (by decide +kernel))
set_option maxRecDepth 20000 in
theorem k_1260 : (Cond.methodLink "StitchDeskLaw" (103 : Nat) ({ cls := "StitchDeskModel", name := "load", desc := "(II)I" } : MethodName)) ∈ lw_tbl := List.mem_append_right _ (List.mem_of_getElem? (i := 1260) (by decide +kernel))
set_option maxRecDepth 20000 in
theorem k_1261 : (Cond.instanceMethod ({ cls := "StitchDeskModel", name := "load", desc := "(II)I" } : MethodName)) ∈ lw_tbl := List.mem_append_right _ (List.mem_of_getElem? (i := 1261) (by decide +kernel))
set_option maxRecDepth 20000 in
theorem k_1262 : (Cond.selects "StitchDeskModel" ({ cls := "StitchDeskModel", name := "load", desc := "(II)I" } : MethodName) ({ cls := "StitchDeskModel", name := "load", desc := "(II)I" } : MethodName)) ∈ lw_tbl := List.mem_append_right _ (List.mem_of_getElem? (i := 1262) (by decide +kernel))
set_option maxRecDepth 20000 in
theorem k_1263 : (Cond.code ({ cls := "StitchDeskModel", name := "load", desc := "(II)I" } : MethodName) prog_13_method_51_code (3 : Nat) (Option.some ClassFile.FieldType.int)) ∈ lw_tbl := List.mem_append_right _ (List.mem_of_getElem? (i := 1263) (by decide +kernel))
set_option maxRecDepth 20000 in
theorem k_1264 : (Cond.methodLink "StitchDeskLaw" (107 : Nat) ({ cls := "StitchDeskModel", name := "decode", desc := "()I" } : MethodName)) ∈ lw_tbl := List.mem_append_right _ (List.mem_of_getElem? (i := 1264) (by decide +kernel))
set_option maxRecDepth 20000 in
theorem k_1265 : (Cond.instanceMethod ({ cls := "StitchDeskModel", name := "decode", desc := "()I" } : MethodName)) ∈ lw_tbl := List.mem_append_right _ (List.mem_of_getElem? (i := 1265) (by decide +kernel))
set_option maxRecDepth 20000 in
theorem k_1266 : (Cond.selects "StitchDeskModel" ({ cls := "StitchDeskModel", name := "decode", desc := "()I" } : MethodName) ({ cls := "StitchDeskModel", name := "decode", desc := "()I" } : MethodName)) ∈ lw_tbl := List.mem_append_right _ (List.mem_of_getElem? (i := 1266) (by decide +kernel))
set_option maxRecDepth 20000 in
theorem k_1267 : (Cond.code ({ cls := "StitchDeskModel", name := "decode", desc := "()I" } : MethodName) prog_13_method_53_code (3 : Nat) (Option.some ClassFile.FieldType.int)) ∈ lw_tbl := List.mem_append_right _ (List.mem_of_getElem? (i := 1267) (by decide +kernel))
set_option maxRecDepth 20000 in
theorem k_1268 : (Cond.methodLink "StitchDeskModel" (237 : Nat) ({ cls := "StitchDeskModel", name := "group", desc := "(I)I" } : MethodName)) ∈ lw_tbl := List.mem_append_right _ (List.mem_of_getElem? (i := 1268) (by decide +kernel))
set_option maxRecDepth 20000 in
theorem k_1269 : (Cond.privateMethod ({ cls := "StitchDeskModel", name := "group", desc := "(I)I" } : MethodName)) ∈ lw_tbl := List.mem_append_right _ (List.mem_of_getElem? (i := 1269) (by decide +kernel))
set_option maxRecDepth 20000 in
theorem k_1270 : (Cond.instanceMethod ({ cls := "StitchDeskModel", name := "group", desc := "(I)I" } : MethodName)) ∈ lw_tbl := List.mem_append_right _ (List.mem_of_getElem? (i := 1270) (by decide +kernel))
set_option maxRecDepth 20000 in
theorem k_1271 : (Cond.code ({ cls := "StitchDeskModel", name := "group", desc := "(I)I" } : MethodName) prog_13_method_52_code (2 : Nat) (Option.some ClassFile.FieldType.int)) ∈ lw_tbl := List.mem_append_right _ (List.mem_of_getElem? (i := 1271) (by decide +kernel))
set_option maxRecDepth 20000 in
theorem k_1272 : (Cond.methodLink "StitchDeskModel" (240 : Nat) ({ cls := "StitchDeskModel", name := "number", desc := "(I)I" } : MethodName)) ∈ lw_tbl := List.mem_append_right _ (List.mem_of_getElem? (i := 1272) (by decide +kernel))
set_option maxRecDepth 20000 in
theorem k_1273 : (Cond.static ({ cls := "StitchDeskModel", name := "number", desc := "(I)I" } : MethodName)) ∈ lw_tbl := List.mem_append_right _ (List.mem_of_getElem? (i := 1273) (by decide +kernel))
set_option maxRecDepth 20000 in
theorem k_1274 : (Cond.code ({ cls := "StitchDeskModel", name := "number", desc := "(I)I" } : MethodName) prog_13_method_34_code (5 : Nat) (Option.some ClassFile.FieldType.int)) ∈ lw_tbl := List.mem_append_right _ (List.mem_of_getElem? (i := 1274) (by decide +kernel))
set_option maxRecDepth 20000 in
theorem k_1275 : (Cond.methodLink "StitchDeskLaw" (111 : Nat) ({ cls := "StitchDeskModel", name := "reorder", desc := "()I" } : MethodName)) ∈ lw_tbl := List.mem_append_right _ (List.mem_of_getElem? (i := 1275) (by decide +kernel))
set_option maxRecDepth 20000 in
theorem k_1276 : (Cond.instanceMethod ({ cls := "StitchDeskModel", name := "reorder", desc := "()I" } : MethodName)) ∈ lw_tbl := List.mem_append_right _ (List.mem_of_getElem? (i := 1276) (by decide +kernel))
set_option maxRecDepth 20000 in
theorem k_1277 : (Cond.selects "StitchDeskModel" ({ cls := "StitchDeskModel", name := "reorder", desc := "()I" } : MethodName) ({ cls := "StitchDeskModel", name := "reorder", desc := "()I" } : MethodName)) ∈ lw_tbl := List.mem_append_right _ (List.mem_of_getElem? (i := 1277) (by decide +kernel))
set_option maxRecDepth 20000 in
theorem k_1278 : (Cond.code ({ cls := "StitchDeskModel", name := "reorder", desc := "()I" } : MethodName) prog_13_method_54_code (6 : Nat) (Option.some ClassFile.FieldType.int)) ∈ lw_tbl := List.mem_append_right _ (List.mem_of_getElem? (i := 1278) (by decide +kernel))
set_option maxRecDepth 20000 in
theorem k_1279 : (Cond.methodLink "StitchDeskModel" (243 : Nat) ({ cls := "StitchDeskModel", name := "findLeft", desc := "()V" } : MethodName)) ∈ lw_tbl := List.mem_append_right _ (List.mem_of_getElem? (i := 1279) (by decide +kernel))
set_option maxRecDepth 20000 in
theorem k_1280 : (Cond.privateMethod ({ cls := "StitchDeskModel", name := "findLeft", desc := "()V" } : MethodName)) ∈ lw_tbl := List.mem_append_right _ (List.mem_of_getElem? (i := 1280) (by decide +kernel))
set_option maxRecDepth 20000 in
theorem k_1281 : (Cond.instanceMethod ({ cls := "StitchDeskModel", name := "findLeft", desc := "()V" } : MethodName)) ∈ lw_tbl := List.mem_append_right _ (List.mem_of_getElem? (i := 1281) (by decide +kernel))
set_option maxRecDepth 20000 in
theorem k_1282 : (Cond.code ({ cls := "StitchDeskModel", name := "findLeft", desc := "()V" } : MethodName) prog_13_method_38_code (6 : Nat) (Option.none : Option ClassFile.FieldType)) ∈ lw_tbl := List.mem_append_right _ (List.mem_of_getElem? (i := 1282) (by decide +kernel))
set_option maxRecDepth 20000 in
theorem k_1283 : (Cond.methodLink "StitchDeskModel" (217 : Nat) ({ cls := "StitchDeskModel", name := "mayCome", desc := "(II)Z" } : MethodName)) ∈ lw_tbl := List.mem_append_right _ (List.mem_of_getElem? (i := 1283) (by decide +kernel))
set_option maxRecDepth 20000 in
theorem k_1284 : (Cond.privateMethod ({ cls := "StitchDeskModel", name := "mayCome", desc := "(II)Z" } : MethodName)) ∈ lw_tbl := List.mem_append_right _ (List.mem_of_getElem? (i := 1284) (by decide +kernel))
set_option maxRecDepth 20000 in
theorem k_1285 : (Cond.instanceMethod ({ cls := "StitchDeskModel", name := "mayCome", desc := "(II)Z" } : MethodName)) ∈ lw_tbl := List.mem_append_right _ (List.mem_of_getElem? (i := 1285) (by decide +kernel))
set_option maxRecDepth 20000 in
theorem k_1286 : (Cond.code ({ cls := "StitchDeskModel", name := "mayCome", desc := "(II)Z" } : MethodName) prog_13_method_36_code (4 : Nat) (Option.some ClassFile.FieldType.boolean)) ∈ lw_tbl := List.mem_append_right _ (List.mem_of_getElem? (i := 1286) (by decide +kernel))
set_option maxRecDepth 20000 in
theorem k_1287 : (Cond.methodLink "StitchDeskModel" (214 : Nat) ({ cls := "StitchDeskModel", name := "meetBoxes", desc := "(II)Z" } : MethodName)) ∈ lw_tbl := List.mem_append_right _ (List.mem_of_getElem? (i := 1287) (by decide +kernel))
set_option maxRecDepth 20000 in
theorem k_1288 : (Cond.privateMethod ({ cls := "StitchDeskModel", name := "meetBoxes", desc := "(II)Z" } : MethodName)) ∈ lw_tbl := List.mem_append_right _ (List.mem_of_getElem? (i := 1288) (by decide +kernel))
set_option maxRecDepth 20000 in
theorem k_1289 : (Cond.instanceMethod ({ cls := "StitchDeskModel", name := "meetBoxes", desc := "(II)Z" } : MethodName)) ∈ lw_tbl := List.mem_append_right _ (List.mem_of_getElem? (i := 1289) (by decide +kernel))
set_option maxRecDepth 20000 in
theorem k_1290 : (Cond.code ({ cls := "StitchDeskModel", name := "meetBoxes", desc := "(II)Z" } : MethodName) prog_13_method_35_code (3 : Nat) (Option.some ClassFile.FieldType.boolean)) ∈ lw_tbl := List.mem_append_right _ (List.mem_of_getElem? (i := 1290) (by decide +kernel))
set_option maxRecDepth 20000 in
theorem k_1291 : (Cond.methodLink "StitchDeskModel" (220 : Nat) ({ cls := "StitchDeskModel", name := "costOf", desc := "(III)I" } : MethodName)) ∈ lw_tbl := List.mem_append_right _ (List.mem_of_getElem? (i := 1291) (by decide +kernel))
set_option maxRecDepth 20000 in
theorem k_1292 : (Cond.privateMethod ({ cls := "StitchDeskModel", name := "costOf", desc := "(III)I" } : MethodName)) ∈ lw_tbl := List.mem_append_right _ (List.mem_of_getElem? (i := 1292) (by decide +kernel))
set_option maxRecDepth 20000 in
theorem k_1293 : (Cond.instanceMethod ({ cls := "StitchDeskModel", name := "costOf", desc := "(III)I" } : MethodName)) ∈ lw_tbl := List.mem_append_right _ (List.mem_of_getElem? (i := 1293) (by decide +kernel))
set_option maxRecDepth 20000 in
theorem k_1294 : (Cond.code ({ cls := "StitchDeskModel", name := "costOf", desc := "(III)I" } : MethodName) prog_13_method_37_code (5 : Nat) (Option.some ClassFile.FieldType.int)) ∈ lw_tbl := List.mem_append_right _ (List.mem_of_getElem? (i := 1294) (by decide +kernel))
set_option maxRecDepth 20000 in
theorem k_1295 : (Cond.methodLink "StitchDeskLaw" (115 : Nat) ({ cls := "StitchDeskModel", name := "order", desc := "(I)I" } : MethodName)) ∈ lw_tbl := List.mem_append_right _ (List.mem_of_getElem? (i := 1295) (by decide +kernel))
set_option maxRecDepth 20000 in
theorem k_1296 : (Cond.instanceMethod ({ cls := "StitchDeskModel", name := "order", desc := "(I)I" } : MethodName)) ∈ lw_tbl := List.mem_append_right _ (List.mem_of_getElem? (i := 1296) (by decide +kernel))
set_option maxRecDepth 20000 in
theorem k_1297 : (Cond.selects "StitchDeskModel" ({ cls := "StitchDeskModel", name := "order", desc := "(I)I" } : MethodName) ({ cls := "StitchDeskModel", name := "order", desc := "(I)I" } : MethodName)) ∈ lw_tbl := List.mem_append_right _ (List.mem_of_getElem? (i := 1297) (by decide +kernel))
set_option maxRecDepth 20000 in
theorem k_1298 : (Cond.code ({ cls := "StitchDeskModel", name := "order", desc := "(I)I" } : MethodName) prog_13_method_55_code (2 : Nat) (Option.some ClassFile.FieldType.int)) ∈ lw_tbl := List.mem_append_right _ (List.mem_of_getElem? (i := 1298) (by decide +kernel))
set_option maxRecDepth 20000 in
theorem k_1299 : (Cond.methodLink "StitchDeskLaw" (119 : Nat) ({ cls := "StitchDeskModel", name := "thread", desc := "(I)I" } : MethodName)) ∈ lw_tbl := List.mem_append_right _ (List.mem_of_getElem? (i := 1299) (by decide +kernel))
set_option maxRecDepth 20000 in
theorem k_1300 : (Cond.instanceMethod ({ cls := "StitchDeskModel", name := "thread", desc := "(I)I" } : MethodName)) ∈ lw_tbl := List.mem_append_right _ (List.mem_of_getElem? (i := 1300) (by decide +kernel))
set_option maxRecDepth 20000 in
theorem k_1301 : (Cond.selects "StitchDeskModel" ({ cls := "StitchDeskModel", name := "thread", desc := "(I)I" } : MethodName) ({ cls := "StitchDeskModel", name := "thread", desc := "(I)I" } : MethodName)) ∈ lw_tbl := List.mem_append_right _ (List.mem_of_getElem? (i := 1301) (by decide +kernel))
set_option maxRecDepth 20000 in
theorem k_1302 : (Cond.code ({ cls := "StitchDeskModel", name := "thread", desc := "(I)I" } : MethodName) prog_13_method_57_code (5 : Nat) (Option.some ClassFile.FieldType.int)) ∈ lw_tbl := List.mem_append_right _ (List.mem_of_getElem? (i := 1302) (by decide +kernel))
set_option maxRecDepth 20000 in
theorem k_1303 : (Cond.methodLink "StitchDeskModel" (246 : Nat) ({ cls := "StitchDeskModel", name := "rootUp", desc := "(I)I" } : MethodName)) ∈ lw_tbl := List.mem_append_right _ (List.mem_of_getElem? (i := 1303) (by decide +kernel))
set_option maxRecDepth 20000 in
theorem k_1304 : (Cond.static ({ cls := "StitchDeskModel", name := "rootUp", desc := "(I)I" } : MethodName)) ∈ lw_tbl := List.mem_append_right _ (List.mem_of_getElem? (i := 1304) (by decide +kernel))
set_option maxRecDepth 20000 in
theorem k_1305 : (Cond.code ({ cls := "StitchDeskModel", name := "rootUp", desc := "(I)I" } : MethodName) prog_13_method_56_code (2 : Nat) (Option.some ClassFile.FieldType.int)) ∈ lw_tbl := List.mem_append_right _ (List.mem_of_getElem? (i := 1305) (by decide +kernel))
set_option maxRecDepth 20000 in
theorem k_1306 : (Cond.methodLink "StitchDeskLaw" (122 : Nat) ({ cls := "StitchDeskModel", name := "under", desc := "(II)I" } : MethodName)) ∈ lw_tbl := List.mem_append_right _ (List.mem_of_getElem? (i := 1306) (by decide +kernel))
set_option maxRecDepth 20000 in
theorem k_1307 : (Cond.instanceMethod ({ cls := "StitchDeskModel", name := "under", desc := "(II)I" } : MethodName)) ∈ lw_tbl := List.mem_append_right _ (List.mem_of_getElem? (i := 1307) (by decide +kernel))
set_option maxRecDepth 20000 in
theorem k_1308 : (Cond.selects "StitchDeskModel" ({ cls := "StitchDeskModel", name := "under", desc := "(II)I" } : MethodName) ({ cls := "StitchDeskModel", name := "under", desc := "(II)I" } : MethodName)) ∈ lw_tbl := List.mem_append_right _ (List.mem_of_getElem? (i := 1308) (by decide +kernel))
set_option maxRecDepth 20000 in
theorem k_1309 : (Cond.code ({ cls := "StitchDeskModel", name := "under", desc := "(II)I" } : MethodName) prog_13_method_58_code (4 : Nat) (Option.some ClassFile.FieldType.int)) ∈ lw_tbl := List.mem_append_right _ (List.mem_of_getElem? (i := 1309) (by decide +kernel))
set_option maxRecDepth 20000 in
theorem k_1310 : (Cond.methodLink "StitchDeskLaw" (125 : Nat) ({ cls := "StitchDeskModel", name := "needle", desc := "(II)I" } : MethodName)) ∈ lw_tbl := List.mem_append_right _ (List.mem_of_getElem? (i := 1310) (by decide +kernel))
set_option maxRecDepth 20000 in
theorem k_1311 : (Cond.instanceMethod ({ cls := "StitchDeskModel", name := "needle", desc := "(II)I" } : MethodName)) ∈ lw_tbl := List.mem_append_right _ (List.mem_of_getElem? (i := 1311) (by decide +kernel))
set_option maxRecDepth 20000 in
theorem k_1312 : (Cond.selects "StitchDeskModel" ({ cls := "StitchDeskModel", name := "needle", desc := "(II)I" } : MethodName) ({ cls := "StitchDeskModel", name := "needle", desc := "(II)I" } : MethodName)) ∈ lw_tbl := List.mem_append_right _ (List.mem_of_getElem? (i := 1312) (by decide +kernel))
set_option maxRecDepth 20000 in
theorem k_1313 : (Cond.code ({ cls := "StitchDeskModel", name := "needle", desc := "(II)I" } : MethodName) prog_13_method_59_code (5 : Nat) (Option.some ClassFile.FieldType.int)) ∈ lw_tbl := List.mem_append_right _ (List.mem_of_getElem? (i := 1313) (by decide +kernel))
set_option maxRecDepth 20000 in
theorem k_1314 : (Cond.methodLink "StitchDeskLaw" (130 : Nat) ({ cls := "StitchDeskModel", name := "hoop", desc := "(II)Z" } : MethodName)) ∈ lw_tbl := List.mem_append_right _ (List.mem_of_getElem? (i := 1314) (by decide +kernel))
set_option maxRecDepth 20000 in
theorem k_1315 : (Cond.instanceMethod ({ cls := "StitchDeskModel", name := "hoop", desc := "(II)Z" } : MethodName)) ∈ lw_tbl := List.mem_append_right _ (List.mem_of_getElem? (i := 1315) (by decide +kernel))
set_option maxRecDepth 20000 in
theorem k_1316 : (Cond.selects "StitchDeskModel" ({ cls := "StitchDeskModel", name := "hoop", desc := "(II)Z" } : MethodName) ({ cls := "StitchDeskModel", name := "hoop", desc := "(II)Z" } : MethodName)) ∈ lw_tbl := List.mem_append_right _ (List.mem_of_getElem? (i := 1316) (by decide +kernel))
set_option maxRecDepth 20000 in
theorem k_1317 : (Cond.code ({ cls := "StitchDeskModel", name := "hoop", desc := "(II)Z" } : MethodName) prog_13_method_60_code (10 : Nat) (Option.some ClassFile.FieldType.boolean)) ∈ lw_tbl := List.mem_append_right _ (List.mem_of_getElem? (i := 1317) (by decide +kernel))
set_option maxRecDepth 20000 in
theorem k_1318 : (Cond.methodLink "StitchDeskLaw" (134 : Nat) ({ cls := "StitchDeskModel", name := "stop", desc := "(I)I" } : MethodName)) ∈ lw_tbl := List.mem_append_right _ (List.mem_of_getElem? (i := 1318) (by decide +kernel))
set_option maxRecDepth 20000 in
theorem k_1319 : (Cond.instanceMethod ({ cls := "StitchDeskModel", name := "stop", desc := "(I)I" } : MethodName)) ∈ lw_tbl := List.mem_append_right _ (List.mem_of_getElem? (i := 1319) (by decide +kernel))
set_option maxRecDepth 20000 in
theorem k_1320 : (Cond.selects "StitchDeskModel" ({ cls := "StitchDeskModel", name := "stop", desc := "(I)I" } : MethodName) ({ cls := "StitchDeskModel", name := "stop", desc := "(I)I" } : MethodName)) ∈ lw_tbl := List.mem_append_right _ (List.mem_of_getElem? (i := 1320) (by decide +kernel))
set_option maxRecDepth 20000 in
theorem k_1321 : (Cond.code ({ cls := "StitchDeskModel", name := "stop", desc := "(I)I" } : MethodName) prog_13_method_61_code (3 : Nat) (Option.some ClassFile.FieldType.int)) ∈ lw_tbl := List.mem_append_right _ (List.mem_of_getElem? (i := 1321) (by decide +kernel))
set_option maxRecDepth 20000 in
theorem k_1322 : (Cond.arrayClass ClassFile.FieldType.long) ∈ lw_tbl := List.mem_append_right _ (List.mem_of_getElem? (i := 1322) (by decide +kernel))
set_option maxRecDepth 20000 in
theorem k_1323 : (Cond.sameMethod "java/lang/Throwable" "java/lang/Throwable" "fillInStackTrace" "(I)Ljava/lang/Throwable;") ∈ lw_tbl := List.mem_append_right _ (List.mem_of_getElem? (i := 1323) (by decide +kernel))
end
section
/-! BASE: a judgement gW for the walk of one method over a world by PLACES (place k lies at ad k and holds ce k), with everything of the machine that stays fixed packed into gOk; contracts gI (an int comes back), gV (nothing comes back); one row an instruction, over the kit's rows. Numbers are iI z, z an Int. -/
-- ints by their numbers
def iI (z : Int) : Int32 := Int32.ofInt z
theorem iI_toInt {z : Int} (h : -2147483648 ≤ z ∧ z < 2147483648) : (iI z).toInt = z := Int32.toInt_ofInt_of_le (by omega) (by omega)
theorem iI_of (x : Int32) : x = iI x.toInt := (Int32.ofInt_toInt x).symm
theorem iI_rng (x : Int32) : -2147483648 ≤ x.toInt ∧ x.toInt < 2147483648 := ⟨by have := Int32.le_toInt x; omega, by have := Int32.toInt_lt x; omega⟩
theorem iI_ex (x : Int32) : ∃ z : Int, (-2147483648 ≤ z ∧ z < 2147483648) ∧ x = iI z := ⟨x.toInt, iI_rng x, iI_of x⟩
theorem iI_add (a b : Int) : iI a + iI b = iI (a + b) := (Int32.ofInt_add a b).symm
theorem iI_sub (a b : Int) : iI a - iI b = iI (a - b) := (Int32.ofInt_sub a b).symm
theorem iI_mul (a b : Int) : iI a * iI b = iI (a * b) := (Int32.ofInt_mul a b).symm
theorem iI_neg (a : Int) : -iI a = iI (-a) := (Int32.ofInt_neg a).symm
theorem iI_lt {a b : Int} (ha : -2147483648 ≤ a ∧ a < 2147483648) (hb : -2147483648 ≤ b ∧ b < 2147483648) : iI a < iI b ↔ a < b := by
  rw [Int32.lt_iff_toInt_lt, iI_toInt ha, iI_toInt hb]
theorem iI_le {a b : Int} (ha : -2147483648 ≤ a ∧ a < 2147483648) (hb : -2147483648 ≤ b ∧ b < 2147483648) : iI a ≤ iI b ↔ a ≤ b := by
  rw [Int32.le_iff_toInt_le, iI_toInt ha, iI_toInt hb]
theorem iI_eq {a b : Int} (ha : -2147483648 ≤ a ∧ a < 2147483648) (hb : -2147483648 ≤ b ∧ b < 2147483648) : iI a = iI b ↔ a = b := by
  rw [← Int32.toInt_inj, iI_toInt ha, iI_toInt hb]
theorem iI_zero : (0 : Int32) = iI 0 := by decide
theorem iI_nat (k : Nat) : Int32.ofNat k = iI (k : Int) := by
  unfold iI
  rw [Int32.ofInt_eq_ofNat]
theorem iI_in {z : Int} {k : Nat} (hk : k < 2147483648) (h : 0 ≤ z ∧ z < k) : vp_in (iI z) k := by
  rw [vp_in_iff, iI_toInt (by omega)]
  exact h
theorem iI_clamp {z : Int} (h : 0 ≤ z ∧ z < 2147483648) : (iI z).toNatClampNeg = z.toNat := by
  show (iI z).toInt.toNat = z.toNat
  rw [iI_toInt (by omega)]
/-- an array of ints by its numbers, a function of the place -/
def zU (f : Int → Int) (i v : Int) : Int → Int := fun j => if j = i then v else f j
theorem zU_self (f : Int → Int) (i v : Int) : zU f i v i = v := by simp [zU]
theorem zU_ne (f : Int → Int) {i j : Int} (v : Int) (h : j ≠ i) : zU f i v j = f j := by simp [zU, h]
def zA (f : Int → Int) : Nat → Int32 := fun j => iI (f (j : Int))
theorem zA_at {f : Int → Int} {z : Int} (h : 0 ≤ z ∧ z < 2147483648) : zA f (iI z).toNatClampNeg = iI (f z) := by
  rw [iI_clamp h]
  unfold zA
  rw [Int.toNat_of_nonneg h.1]
theorem zA_up {f : Int → Int} {z v : Int} (h : 0 ≤ z ∧ z < 2147483648) : upd (zA f) (iI z).toNatClampNeg (iI v) = zA (zU f z v) := by
  rw [iI_clamp h]
  funext j
  unfold upd zA zU
  by_cases hj : j = z.toNat
  · have : (j : Int) = z := by omega
    rw [if_pos hj, if_pos this]
  · have : ¬ (j : Int) = z := by omega
    rw [if_neg hj, if_neg this]
-- the world by places
def wW (ad : Nat → Nat) (n : Nat) (ce : Nat → va_E) : va_W := (List.range n).map (fun k => (ad k, ce k))
theorem wW_get {ad : Nat → Nat} {n : Nat} {ce : Nat → va_E} {k : Nat} (h : k < n) : (wW ad n ce)[k]? = some (ad k, ce k) := by
  simp [wW, h]
theorem wW_of {ad : Nat → Nat} {n : Nat} {ce : Nat → va_E} {k : Nat} {q : Nat × va_E} (h : (wW ad n ce)[k]? = some q) : k < n ∧ q = (ad k, ce k) := by
  have hk : k < n := by
    have := (List.getElem?_eq_some_iff.mp h).1
    simpa [wW] using this
  rw [wW_get hk] at h
  exact ⟨hk, (Option.some.inj h).symm⟩
theorem wW_ext {w : va_W} {ad : Nat → Nat} {n : Nat} {ce : Nat → va_E} (hl : w.length = n) (h : ∀ k, k < n → w[k]? = some (ad k, ce k)) : w = wW ad n ce := by
  apply List.ext_getElem?
  intro k
  by_cases hk : k < n
  · rw [h k hk, wW_get hk]
  · rw [List.getElem?_eq_none (by omega), List.getElem?_eq_none (by simp [wW]; omega)]
theorem wW_set {ad : Nat → Nat} {n : Nat} {ce : Nat → va_E} {k : Nat} {e : va_E} : (wW ad n ce).set k (ad k, e) = wW ad n (va_up ce k e) := by
  refine wW_ext (by simp [wW]) (fun j hj => ?_)
  rw [List.getElem?_set]
  by_cases h : k = j
  · subst h
    rw [if_pos rfl, if_pos (by simpa [wW] using hj), va_up_self]
  · rw [if_neg h, wW_get hj, va_up_ne _ _ (Ne.symm h)]
theorem wW_push {ad : Nat → Nat} {n : Nat} {ce : Nat → va_E} {q : Nat} {e : va_E} : wW ad n ce ++ [(q, e)] = wW (va_up ad n q) (n + 1) (va_up ce n e) := by
  refine wW_ext (by simp [wW]) (fun j hj => ?_)
  by_cases h : j < n
  · rw [List.getElem?_append_left (by simpa [wW] using h), wW_get h, va_up_ne _ _ (by omega), va_up_ne _ _ (by omega)]
  · have hj : j = n := by omega
    subst hj
    rw [List.getElem?_append_right (by simp [wW]), va_up_self, va_up_self]
    simp [wW]
theorem wW_cong {ad ad' : Nat → Nat} {n : Nat} {ce ce' : Nat → va_E} (h1 : ∀ k, k < n → ad k = ad' k) (h2 : ∀ k, k < n → ce k = ce' k) : wW ad n ce = wW ad' n ce' := by
  refine wW_ext (by simp [wW]) (fun k hk => ?_)
  rw [wW_get hk, h1 k hk, h2 k hk]
/-- an array of ints -/
def zC (t : Nat → ClassId) (N : Nat) (f : Int → Int) : va_E := .inl (t 0, N, .inl (zA f))
end
section
-- words: all good words of the tables hold wherever the law's start is warmed
def gTb : List Cond := lw_tbl.filter goodWord
def gG (s0 : State) (a0 : Array Value) (D : va_G) (t : Nat → ClassId) : Prop := (∀ w ∈ lw_tbl, w.before a0 s0 = true) ∧ va_K D vwCl (gTl t) s0
/-- the law's own start lies below: nobody writes it -/
def gO (s0 s : State) (A : Nat → Prop) : Prop := s0.heap.size ≤ s.heap.size ∧ (∀ q : Nat, q < s0.heap.size → s.heap[q]? = s0.heap[q]?) ∧ ∀ q : Nat, A q → s0.heap.size ≤ q
/-- what stays fixed in the walk of one method -/
def gOk (s0 : State) (a0 : Array Value) (D : va_G) (t : Nat → ClassId) (p : Program) (R : Room) (s : State) (m : MethodId) (meth : Method) (c : Code) (A : Nat → Prop) (own : String) (cc : ByteArray) (nL : Nat) (ret : Option FieldType) (mn : String) (fr lo mc ms : Nat) : Prop :=
  p.tables.exec = Jvm.exec ∧ c.code = cc ∧ c.maxLocals = nL ∧ s.vm.findClass own = some m.cls ∧ s0.WarmedH s.vm ∧ gG s0 a0 D t ∧ (∀ q : Nat, s.heap.size ≤ q → A q) ∧ gO s0 s A ∧ (fr ≤ R.frames ∧ lo ≤ R.locals ∧ mc ≤ R.cells ∧ ms ≤ R.slots) ∧ meth.locks = false ∧ meth.sig.returnType = ret ∧ meth.name = mn
/-- nothing is known of heap and writes but what the world says; and: nothing has been written yet -/
def gZ : Heap → List Loc → Prop := fun _ _ => True
def gZ0 (s : State) : Heap → List Loc → Prop := fun H locs => H = s.heap ∧ locs = []
/-- the walk goes on at pc, with these locals and this stack, in any heap that holds the world -/
def gW (p : Program) (l : Launch) (e : Env) (R : Room) (s : State) (m : MethodId) (args : Array Value) (below : List Frame) (meth : Method) (c : Code) (Q : State → Prop) (D : va_G) (A : Nat → Prop) (nL : Nat) (Z : Heap → List Loc → Prop) (cells slots : Nat) (ad : Nat → Nat) (n : Nat) (ce : Nat → va_E) (pc : Nat) (lv : List (Nat × Value)) (st : List Value) : Prop :=
  ∀ (H : Heap) (locs : List Loc) (ls : Array Slot), Z H locs → va_P D vwCl (wW ad n ce) H → va_D A (wW ad n ce) → va_S A s.heap H locs → lv_has ls nL lv → W p l e R s m args below meth c H locs cells slots Q (F0 m pc ls st)
section GR
variable {s0 : State} {a0 : Array Value} {D : va_G} {t : Nat → ClassId} {p : Program} {l : Launch} {e : Env} {R : Room} {s : State} {m : MethodId} {args : Array Value} {below : List Frame} {meth : Method} {c : Code} {Q : State → Prop} {Z : Heap → List Loc → Prop} {A : Nat → Prop} {own : String} {cc : ByteArray} {nL : Nat} {ret : Option FieldType} {mn : String} {fr lo mc ms : Nat} {cells slots : Nat} {ad : Nat → Nat} {n : Nat} {ce : Nat → va_E} {pc : Nat} {lv lv' : List (Nat × Value)} {st : List Value}
theorem gOk.x (h : gOk s0 a0 D t p R s m meth c A own cc nL ret mn fr lo mc ms) : p.tables.exec = Jvm.exec := h.1
theorem gOk.b (h : gOk s0 a0 D t p R s m meth c A own cc nL ret mn fr lo mc ms) : c.code = cc := h.2.1
theorem gOk.ml (h : gOk s0 a0 D t p R s m meth c A own cc nL ret mn fr lo mc ms) : c.maxLocals = nL := h.2.2.1
theorem gOk.wn (h : gOk s0 a0 D t p R s m meth c A own cc nL ret mn fr lo mc ms) : s.vm.findClass own = some m.cls := h.2.2.2.1
theorem gOk.warm (h : gOk s0 a0 D t p R s m meth c A own cc nL ret mn fr lo mc ms) : s0.WarmedH s.vm := h.2.2.2.2.1
theorem gOk.g (h : gOk s0 a0 D t p R s m meth c A own cc nL ret mn fr lo mc ms) : gG s0 a0 D t := h.2.2.2.2.2.1
theorem gOk.a (h : gOk s0 a0 D t p R s m meth c A own cc nL ret mn fr lo mc ms) : ∀ q : Nat, s.heap.size ≤ q → A q := h.2.2.2.2.2.2.1
theorem gOk.o (h : gOk s0 a0 D t p R s m meth c A own cc nL ret mn fr lo mc ms) : gO s0 s A := h.2.2.2.2.2.2.2.1
theorem gOk.r (h : gOk s0 a0 D t p R s m meth c A own cc nL ret mn fr lo mc ms) : fr ≤ R.frames ∧ lo ≤ R.locals ∧ mc ≤ R.cells ∧ ms ≤ R.slots := h.2.2.2.2.2.2.2.2.1
theorem gOk.lk (h : gOk s0 a0 D t p R s m meth c A own cc nL ret mn fr lo mc ms) : meth.locks = false := h.2.2.2.2.2.2.2.2.2.1
theorem gOk.rt (h : gOk s0 a0 D t p R s m meth c A own cc nL ret mn fr lo mc ms) : meth.sig.returnType = ret := h.2.2.2.2.2.2.2.2.2.2.1
theorem gOk.nm (h : gOk s0 a0 D t p R s m meth c A own cc nL ret mn fr lo mc ms) : meth.name = mn := h.2.2.2.2.2.2.2.2.2.2.2
theorem gOk.w (h : gOk s0 a0 D t p R s m meth c A own cc nL ret mn fr lo mc ms) {w : Cond} (hw : w ∈ lw_tbl) (hg : goodWord w = true) : w.before args s = true := word_at h.warm (good_of_word hg) (h.g.1 w hw)
theorem gOk.ts (h : gOk s0 a0 D t p R s m meth c A own cc nL ret mn fr lo mc ms) : ∀ w ∈ gTb, w.before args s = true := fun w hw => h.w (List.mem_filter.mp hw).1 (List.mem_filter.mp hw).2
theorem gOk.k (h : gOk s0 a0 D t p R s m meth c A own cc nL ret mn fr lo mc ms) : va_K D vwCl (gTl t) s := va_K.moved h.warm.alike h.g.2
theorem gOk.fN (h : gOk s0 a0 D t p R s m meth c A own cc nL ret mn fr lo mc ms) {a : String} {i : Nat} {b n d ho : String} (hw : Cond.fieldLinkNest a i b n d ho ∈ lw_tbl) : (Cond.fieldLinkNest a i b n d ho).before args s = true := va_Nw.use rfl (va_Nw.warmF h.warm (va_Nw.of rfl (h.g.1 _ hw)))
theorem gOk.mN (h : gOk s0 a0 D t p R s m meth c A own cc nL ret mn fr lo mc ms) {a : String} {i : Nat} {x : MethodName} {ho : String} (hw : Cond.methodLinkNest a i x ho ∈ lw_tbl) : va_Nw (.methodLinkNest a i x ho) s := va_Nw.warmM h.warm (va_Nw.of rfl (h.g.1 _ hw))
-- locals, constants, stack
theorem g_iconst (ok : gOk s0 a0 D t p R s m meth c A own cc nL ret mn fr lo mc ms) {z : Int} (hd : decode cc pc = .ok (.iconst z, 1)) (kk : gW p l e R s m args below meth c Q D A nL Z cells slots ad n ce (pc + 1) lv (.int (iI z) :: st)) : gW p l e R s m args below meth c Q D A nL Z cells slots ad n ce pc lv st :=
  fun H locs ls hZ hP hD hS hl => lv_iconst ok.x ok.b hd rfl (kk H locs ls hZ hP hD hS hl)
theorem g_bipush (ok : gOk s0 a0 D t p R s m meth c A own cc nL ret mn fr lo mc ms) {z : Int} (hz : (Int8.ofInt z).toInt32 = iI z) (hd : decode cc pc = .ok (.bipush z, 2)) (kk : gW p l e R s m args below meth c Q D A nL Z cells slots ad n ce (pc + 2) lv (.int (iI z) :: st)) : gW p l e R s m args below meth c Q D A nL Z cells slots ad n ce pc lv st :=
  fun H locs ls hZ hP hD hS hl => lv_bipush ok.x ok.b hd hz (kk H locs ls hZ hP hD hS hl)
theorem g_sipush (ok : gOk s0 a0 D t p R s m meth c A own cc nL ret mn fr lo mc ms) {z : Int} (hz : (Int16.ofInt z).toInt32 = iI z) (hd : decode cc pc = .ok (.sipush z, 3)) (kk : gW p l e R s m args below meth c Q D A nL Z cells slots ad n ce (pc + 3) lv (.int (iI z) :: st)) : gW p l e R s m args below meth c Q D A nL Z cells slots ad n ce pc lv st :=
  fun H locs ls hZ hP hD hS hl => lv_sipush ok.x ok.b hd hz (kk H locs ls hZ hP hD hS hl)
theorem g_ldc (ok : gOk s0 a0 D t p R s m meth c A own cc nL ret mn fr lo mc ms) {i : Nat} {z : Int} (hw : Cond.constant own i (iI z) ∈ lw_tbl) (hd : decode cc pc = .ok (.ldc i, 2)) (kk : gW p l e R s m args below meth c Q D A nL Z cells slots ad n ce (pc + 2) lv (.int (iI z) :: st)) : gW p l e R s m args below meth c Q D A nL Z cells slots ad n ce pc lv st :=
  fun H locs ls hZ hP hD hS hl => lv_ldc ok.x ok.b ok.wn (ok.w hw rfl) hd (kk H locs ls hZ hP hD hS hl)
theorem g_iload_n (ok : gOk s0 a0 D t p R s m meth c A own cc nL ret mn fr lo mc ms) {k : Fin 4} {i : Nat} {x : Int32} (hd : decode cc pc = .ok (.iload_n k, 1)) (hi : (k : Nat) = i) (j : Nat) (hj : lv[j]? = some (i, .int x)) (kk : gW p l e R s m args below meth c Q D A nL Z cells slots ad n ce (pc + 1) lv (.int x :: st)) : gW p l e R s m args below meth c Q D A nL Z cells slots ad n ce pc lv st :=
  fun H locs ls hZ hP hD hS hl => lv_iload_n ok.x ok.b hd hi (lv_at hl j hj) (kk H locs ls hZ hP hD hS hl)
theorem g_iload (ok : gOk s0 a0 D t p R s m meth c A own cc nL ret mn fr lo mc ms) {i : Nat} {x : Int32} (hd : decode cc pc = .ok (.iload i, 2)) (j : Nat) (hj : lv[j]? = some (i, .int x)) (kk : gW p l e R s m args below meth c Q D A nL Z cells slots ad n ce (pc + 2) lv (.int x :: st)) : gW p l e R s m args below meth c Q D A nL Z cells slots ad n ce pc lv st :=
  fun H locs ls hZ hP hD hS hl => lv_iload ok.x ok.b hd (lv_at hl j hj) (kk H locs ls hZ hP hD hS hl)
theorem g_aload_n (ok : gOk s0 a0 D t p R s m meth c A own cc nL ret mn fr lo mc ms) {k : Fin 4} {i : Nat} {x : Nat} (hd : decode cc pc = .ok (.aload_n k, 1)) (hi : (k : Nat) = i) (j : Nat) (hj : lv[j]? = some (i, .ref x)) (kk : gW p l e R s m args below meth c Q D A nL Z cells slots ad n ce (pc + 1) lv (.ref x :: st)) : gW p l e R s m args below meth c Q D A nL Z cells slots ad n ce pc lv st :=
  fun H locs ls hZ hP hD hS hl => lv_aload_n ok.x ok.b hd hi (lv_at hl j hj) (kk H locs ls hZ hP hD hS hl)
theorem g_aload (ok : gOk s0 a0 D t p R s m meth c A own cc nL ret mn fr lo mc ms) {i : Nat} {x : Nat} (hd : decode cc pc = .ok (.aload i, 2)) (j : Nat) (hj : lv[j]? = some (i, .ref x)) (kk : gW p l e R s m args below meth c Q D A nL Z cells slots ad n ce (pc + 2) lv (.ref x :: st)) : gW p l e R s m args below meth c Q D A nL Z cells slots ad n ce pc lv st :=
  fun H locs ls hZ hP hD hS hl => lv_aload ok.x ok.b hd (lv_at hl j hj) (kk H locs ls hZ hP hD hS hl)
theorem g_istore_n (ok : gOk s0 a0 D t p R s m meth c A own cc nL ret mn fr lo mc ms) {k : Fin 4} {i : Nat} {x : Int32} (hd : decode cc pc = .ok (.istore_n k, 1)) (hi : (k : Nat) = i) (hn : i < nL) (hl' : (i, Value.int x) :: lv.filter (fun q => !(q.1 == i) && !(q.1 + 1 == i && q.2.category == 2)) = lv') (kk : gW p l e R s m args below meth c Q D A nL Z cells slots ad n ce (pc + 1) lv' st) : gW p l e R s m args below meth c Q D A nL Z cells slots ad n ce pc lv (.int x :: st) :=
  fun H locs ls hZ hP hD hS hl => lv_istore_n ok.x ok.b hd hi hl hn hl' (fun ls' h' => kk H locs ls' hZ hP hD hS h')
theorem g_istore (ok : gOk s0 a0 D t p R s m meth c A own cc nL ret mn fr lo mc ms) {i : Nat} {x : Int32} (hd : decode cc pc = .ok (.istore i, 2)) (hn : i < nL) (hl' : (i, Value.int x) :: lv.filter (fun q => !(q.1 == i) && !(q.1 + 1 == i && q.2.category == 2)) = lv') (kk : gW p l e R s m args below meth c Q D A nL Z cells slots ad n ce (pc + 2) lv' st) : gW p l e R s m args below meth c Q D A nL Z cells slots ad n ce pc lv (.int x :: st) :=
  fun H locs ls hZ hP hD hS hl => lv_istore ok.x ok.b hd hl hn hl' (fun ls' h' => kk H locs ls' hZ hP hD hS h')
theorem g_astore_n (ok : gOk s0 a0 D t p R s m meth c A own cc nL ret mn fr lo mc ms) {k : Fin 4} {i : Nat} {x : Nat} (hd : decode cc pc = .ok (.astore_n k, 1)) (hi : (k : Nat) = i) (hn : i < nL) (hl' : (i, Value.ref x) :: lv.filter (fun q => !(q.1 == i) && !(q.1 + 1 == i && q.2.category == 2)) = lv') (kk : gW p l e R s m args below meth c Q D A nL Z cells slots ad n ce (pc + 1) lv' st) : gW p l e R s m args below meth c Q D A nL Z cells slots ad n ce pc lv (.ref x :: st) :=
  fun H locs ls hZ hP hD hS hl => lv_astore_n ok.x ok.b hd hi hl hn hl' (fun ls' h' => kk H locs ls' hZ hP hD hS h')
theorem g_astore (ok : gOk s0 a0 D t p R s m meth c A own cc nL ret mn fr lo mc ms) {i : Nat} {x : Nat} (hd : decode cc pc = .ok (.astore i, 2)) (hn : i < nL) (hl' : (i, Value.ref x) :: lv.filter (fun q => !(q.1 == i) && !(q.1 + 1 == i && q.2.category == 2)) = lv') (kk : gW p l e R s m args below meth c Q D A nL Z cells slots ad n ce (pc + 2) lv' st) : gW p l e R s m args below meth c Q D A nL Z cells slots ad n ce pc lv (.ref x :: st) :=
  fun H locs ls hZ hP hD hS hl => lv_astore ok.x ok.b hd hl hn hl' (fun ls' h' => kk H locs ls' hZ hP hD hS h')
theorem g_iinc (ok : gOk s0 a0 D t p R s m meth c A own cc nL ret mn fr lo mc ms) {i : Nat} {z x : Int} (hd : decode cc pc = .ok (.iinc i z, 3)) (j : Nat) (hj : lv[j]? = some (i, .int (iI x))) (hn : i < nL) (hl' : (i, Value.int (iI (x + z))) :: lv.filter (fun q => !(q.1 == i) && !(q.1 + 1 == i && q.2.category == 2)) = lv') (kk : gW p l e R s m args below meth c Q D A nL Z cells slots ad n ce (pc + 3) lv' st) : gW p l e R s m args below meth c Q D A nL Z cells slots ad n ce pc lv st :=
  fun H locs ls hZ hP hD hS hl => lv_iinc ok.x ok.b hd hl hj (iI_add x z) hn hl' (fun ls' h' => kk H locs ls' hZ hP hD hS h')
theorem g_lv (ks : List Nat) (hl' : lv_pick lv ks = lv') (kk : gW p l e R s m args below meth c Q D A nL Z cells slots ad n ce pc lv' st) : gW p l e R s m args below meth c Q D A nL Z cells slots ad n ce pc lv st :=
  fun H locs ls hZ hP hD hS hl => kk H locs ls hZ hP hD hS (lv_sub hl ks hl')
theorem g_dup (ok : gOk s0 a0 D t p R s m meth c A own cc nL ret mn fr lo mc ms) {v : Value} (hd : decode cc pc = .ok (.dup, 1)) (hv : v.category = 1) (kk : gW p l e R s m args below meth c Q D A nL Z cells slots ad n ce (pc + 1) lv (v :: v :: st)) : gW p l e R s m args below meth c Q D A nL Z cells slots ad n ce pc lv (v :: st) :=
  fun H locs ls hZ hP hD hS hl => lv_dup ok.x ok.b hd hv (kk H locs ls hZ hP hD hS hl)
theorem g_pop (ok : gOk s0 a0 D t p R s m meth c A own cc nL ret mn fr lo mc ms) {v : Value} (hd : decode cc pc = .ok (.pop, 1)) (hv : v.category = 1) (kk : gW p l e R s m args below meth c Q D A nL Z cells slots ad n ce (pc + 1) lv st) : gW p l e R s m args below meth c Q D A nL Z cells slots ad n ce pc lv (v :: st) :=
  fun H locs ls hZ hP hD hS hl => lv_pop ok.x ok.b hd hv (kk H locs ls hZ hP hD hS hl)
theorem g_dup_x1 (ok : gOk s0 a0 D t p R s m meth c A own cc nL ret mn fr lo mc ms) {v w : Value} (hd : decode cc pc = .ok (.dup_x1, 1)) (hv : v.category = 1) (hw : w.category = 1) (kk : gW p l e R s m args below meth c Q D A nL Z cells slots ad n ce (pc + 1) lv (v :: w :: v :: st)) : gW p l e R s m args below meth c Q D A nL Z cells slots ad n ce pc lv (v :: w :: st) :=
  fun H locs ls hZ hP hD hS hl => lv_dup_x1 ok.x ok.b hd hv hw (kk H locs ls hZ hP hD hS hl)
theorem g_dup_x2 (ok : gOk s0 a0 D t p R s m meth c A own cc nL ret mn fr lo mc ms) {v w x : Value} (hd : decode cc pc = .ok (.dup_x2, 1)) (hv : v.category = 1) (hw : w.category = 1) (hx : x.category = 1) (kk : gW p l e R s m args below meth c Q D A nL Z cells slots ad n ce (pc + 1) lv (v :: w :: x :: v :: st)) : gW p l e R s m args below meth c Q D A nL Z cells slots ad n ce pc lv (v :: w :: x :: st) :=
  fun H locs ls hZ hP hD hS hl => lv_dup_x2 ok.x ok.b hd hv hw hx (kk H locs ls hZ hP hD hS hl)
theorem g_dup2 (ok : gOk s0 a0 D t p R s m meth c A own cc nL ret mn fr lo mc ms) {v w : Value} (hd : decode cc pc = .ok (.dup2, 1)) (hv : v.category = 1) (hw : w.category = 1) (kk : gW p l e R s m args below meth c Q D A nL Z cells slots ad n ce (pc + 1) lv (v :: w :: v :: w :: st)) : gW p l e R s m args below meth c Q D A nL Z cells slots ad n ce pc lv (v :: w :: st) :=
  fun H locs ls hZ hP hD hS hl => lv_dup2_11 ok.x ok.b hd hv hw (kk H locs ls hZ hP hD hS hl)
-- arithmetic
theorem g_iadd (ok : gOk s0 a0 D t p R s m meth c A own cc nL ret mn fr lo mc ms) {x y : Int} (hd : decode cc pc = .ok (.iadd, 1)) (kk : gW p l e R s m args below meth c Q D A nL Z cells slots ad n ce (pc + 1) lv (.int (iI (x + y)) :: st)) : gW p l e R s m args below meth c Q D A nL Z cells slots ad n ce pc lv (.int (iI y) :: .int (iI x) :: st) :=
  fun H locs ls hZ hP hD hS hl => lv_iadd ok.x ok.b hd (by rw [iI_add]; exact kk H locs ls hZ hP hD hS hl)
theorem g_isub (ok : gOk s0 a0 D t p R s m meth c A own cc nL ret mn fr lo mc ms) {x y : Int} (hd : decode cc pc = .ok (.isub, 1)) (kk : gW p l e R s m args below meth c Q D A nL Z cells slots ad n ce (pc + 1) lv (.int (iI (x - y)) :: st)) : gW p l e R s m args below meth c Q D A nL Z cells slots ad n ce pc lv (.int (iI y) :: .int (iI x) :: st) :=
  fun H locs ls hZ hP hD hS hl => lv_isub ok.x ok.b hd (by rw [iI_sub]; exact kk H locs ls hZ hP hD hS hl)
theorem g_imul (ok : gOk s0 a0 D t p R s m meth c A own cc nL ret mn fr lo mc ms) {x y : Int} (hd : decode cc pc = .ok (.imul, 1)) (kk : gW p l e R s m args below meth c Q D A nL Z cells slots ad n ce (pc + 1) lv (.int (iI (x * y)) :: st)) : gW p l e R s m args below meth c Q D A nL Z cells slots ad n ce pc lv (.int (iI y) :: .int (iI x) :: st) :=
  fun H locs ls hZ hP hD hS hl => lv_imul ok.x ok.b hd (by rw [iI_mul]; exact kk H locs ls hZ hP hD hS hl)
theorem g_ineg (ok : gOk s0 a0 D t p R s m meth c A own cc nL ret mn fr lo mc ms) {x : Int} (hd : decode cc pc = .ok (.ineg, 1)) (kk : gW p l e R s m args below meth c Q D A nL Z cells slots ad n ce (pc + 1) lv (.int (iI (-x)) :: st)) : gW p l e R s m args below meth c Q D A nL Z cells slots ad n ce pc lv (.int (iI x) :: st) :=
  fun H locs ls hZ hP hD hS hl => lv_ineg ok.x ok.b hd (by rw [iI_neg]; exact kk H locs ls hZ hP hD hS hl)
/-- any op whose answer is given as an Int32 that equals iI z -/
theorem g_iand (ok : gOk s0 a0 D t p R s m meth c A own cc nL ret mn fr lo mc ms) {x y z : Int} (hz : iI x &&& iI y = iI z) (hd : decode cc pc = .ok (.iand, 1)) (kk : gW p l e R s m args below meth c Q D A nL Z cells slots ad n ce (pc + 1) lv (.int (iI z) :: st)) : gW p l e R s m args below meth c Q D A nL Z cells slots ad n ce pc lv (.int (iI y) :: .int (iI x) :: st) :=
  fun H locs ls hZ hP hD hS hl => lv_iand ok.x ok.b hd (by rw [hz]; exact kk H locs ls hZ hP hD hS hl)
theorem g_ior (ok : gOk s0 a0 D t p R s m meth c A own cc nL ret mn fr lo mc ms) {x y z : Int} (hz : iI x ||| iI y = iI z) (hd : decode cc pc = .ok (.ior, 1)) (kk : gW p l e R s m args below meth c Q D A nL Z cells slots ad n ce (pc + 1) lv (.int (iI z) :: st)) : gW p l e R s m args below meth c Q D A nL Z cells slots ad n ce pc lv (.int (iI y) :: .int (iI x) :: st) :=
  fun H locs ls hZ hP hD hS hl => lv_ior ok.x ok.b hd (by rw [hz]; exact kk H locs ls hZ hP hD hS hl)
theorem g_ixor (ok : gOk s0 a0 D t p R s m meth c A own cc nL ret mn fr lo mc ms) {x y z : Int} (hz : iI x ^^^ iI y = iI z) (hd : decode cc pc = .ok (.ixor, 1)) (kk : gW p l e R s m args below meth c Q D A nL Z cells slots ad n ce (pc + 1) lv (.int (iI z) :: st)) : gW p l e R s m args below meth c Q D A nL Z cells slots ad n ce pc lv (.int (iI y) :: .int (iI x) :: st) :=
  fun H locs ls hZ hP hD hS hl => lv_ixor ok.x ok.b hd (by rw [hz]; exact kk H locs ls hZ hP hD hS hl)
theorem g_ishl (ok : gOk s0 a0 D t p R s m meth c A own cc nL ret mn fr lo mc ms) {x y z : Int} (hz : iI x <<< (iI y &&& 31) = iI z) (hd : decode cc pc = .ok (.ishl, 1)) (kk : gW p l e R s m args below meth c Q D A nL Z cells slots ad n ce (pc + 1) lv (.int (iI z) :: st)) : gW p l e R s m args below meth c Q D A nL Z cells slots ad n ce pc lv (.int (iI y) :: .int (iI x) :: st) :=
  fun H locs ls hZ hP hD hS hl => lv_ishl ok.x ok.b hd (by rw [hz]; exact kk H locs ls hZ hP hD hS hl)
theorem g_ishr (ok : gOk s0 a0 D t p R s m meth c A own cc nL ret mn fr lo mc ms) {x y z : Int} (hz : iI x >>> (iI y &&& 31) = iI z) (hd : decode cc pc = .ok (.ishr, 1)) (kk : gW p l e R s m args below meth c Q D A nL Z cells slots ad n ce (pc + 1) lv (.int (iI z) :: st)) : gW p l e R s m args below meth c Q D A nL Z cells slots ad n ce pc lv (.int (iI y) :: .int (iI x) :: st) :=
  fun H locs ls hZ hP hD hS hl => lv_ishr ok.x ok.b hd (by rw [hz]; exact kk H locs ls hZ hP hD hS hl)
theorem g_idiv (ok : gOk s0 a0 D t p R s m meth c A own cc nL ret mn fr lo mc ms) {x y z : Int} (hy : ¬ iI y = 0) (hz : iI x / iI y = iI z) (hd : decode cc pc = .ok (.idiv, 1)) (kk : gW p l e R s m args below meth c Q D A nL Z cells slots ad n ce (pc + 1) lv (.int (iI z) :: st)) : gW p l e R s m args below meth c Q D A nL Z cells slots ad n ce pc lv (.int (iI y) :: .int (iI x) :: st) :=
  fun H locs ls hZ hP hD hS hl => lv_idiv ok.x ok.b hd hy (by rw [hz]; exact kk H locs ls hZ hP hD hS hl)
theorem g_irem (ok : gOk s0 a0 D t p R s m meth c A own cc nL ret mn fr lo mc ms) {x y z : Int} (hy : ¬ iI y = 0) (hz : iI x - iI x / iI y * iI y = iI z) (hd : decode cc pc = .ok (.irem, 1)) (kk : gW p l e R s m args below meth c Q D A nL Z cells slots ad n ce (pc + 1) lv (.int (iI z) :: st)) : gW p l e R s m args below meth c Q D A nL Z cells slots ad n ce pc lv (.int (iI y) :: .int (iI x) :: st) :=
  fun H locs ls hZ hP hD hS hl => lv_irem ok.x ok.b hd hy (by rw [hz]; exact kk H locs ls hZ hP hD hS hl)
/-- the top gets another name -/
theorem g_top {x y : Int} (h : x = y) (kk : gW p l e R s m args below meth c Q D A nL Z cells slots ad n ce pc lv (.int (iI y) :: st)) : gW p l e R s m args below meth c Q D A nL Z cells slots ad n ce pc lv (.int (iI x) :: st) := h ▸ kk
-- branches
theorem g_if_eq (ok : gOk s0 a0 D t p R s m meth c A own cc nL ret mn fr lo mc ms) {x : Int} {off : Int} (tgt : Nat) (hd : decode cc pc = .ok (.ifCond .eq off, 3)) (ht : (pc : Int) + off = (tgt : Int)) (hx : -2147483648 ≤ x ∧ x < 2147483648) (kt : x = 0 → gW p l e R s m args below meth c Q D A nL Z cells slots ad n ce tgt lv st) (kf : ¬ (x = 0) → gW p l e R s m args below meth c Q D A nL Z cells slots ad n ce (pc + 3) lv st) : gW p l e R s m args below meth c Q D A nL Z cells slots ad n ce pc lv (.int (iI x) :: st) := by
  have z0 : (-2147483648 : Int) ≤ 0 ∧ (0 : Int) < 2147483648 := by omega
  have hq := iI_eq hx z0
  rw [← iI_zero] at hq
  exact fun H locs ls hZ hP hD hS hl => lv_if_eq ok.x ok.b hd ht (fun q => kt (hq.mp q) H locs ls hZ hP hD hS hl) (fun q => kf (fun r => q (hq.mpr r)) H locs ls hZ hP hD hS hl)
theorem g_icmp_eq (ok : gOk s0 a0 D t p R s m meth c A own cc nL ret mn fr lo mc ms) {x y : Int} {off : Int} (tgt : Nat) (hd : decode cc pc = .ok (.if_icmp .eq off, 3)) (ht : (pc : Int) + off = (tgt : Int)) (hx : -2147483648 ≤ x ∧ x < 2147483648) (hy : -2147483648 ≤ y ∧ y < 2147483648) (kt : x = y → gW p l e R s m args below meth c Q D A nL Z cells slots ad n ce tgt lv st) (kf : ¬ (x = y) → gW p l e R s m args below meth c Q D A nL Z cells slots ad n ce (pc + 3) lv st) : gW p l e R s m args below meth c Q D A nL Z cells slots ad n ce pc lv (.int (iI y) :: .int (iI x) :: st) := by
  have hq := iI_eq hx hy
  exact fun H locs ls hZ hP hD hS hl => lv_icmp_eq ok.x ok.b hd ht (fun q => kt (hq.mp q) H locs ls hZ hP hD hS hl) (fun q => kf (fun r => q (hq.mpr r)) H locs ls hZ hP hD hS hl)
theorem g_if_ne (ok : gOk s0 a0 D t p R s m meth c A own cc nL ret mn fr lo mc ms) {x : Int} {off : Int} (tgt : Nat) (hd : decode cc pc = .ok (.ifCond .ne off, 3)) (ht : (pc : Int) + off = (tgt : Int)) (hx : -2147483648 ≤ x ∧ x < 2147483648) (kt : ¬ x = 0 → gW p l e R s m args below meth c Q D A nL Z cells slots ad n ce tgt lv st) (kf : x = 0 → gW p l e R s m args below meth c Q D A nL Z cells slots ad n ce (pc + 3) lv st) : gW p l e R s m args below meth c Q D A nL Z cells slots ad n ce pc lv (.int (iI x) :: st) := by
  have z0 : (-2147483648 : Int) ≤ 0 ∧ (0 : Int) < 2147483648 := by omega
  have hq := iI_eq hx z0
  rw [← iI_zero] at hq
  exact fun H locs ls hZ hP hD hS hl => lv_if_ne ok.x ok.b hd ht (fun q => kt (fun r => q (hq.mpr r)) H locs ls hZ hP hD hS hl) (fun q => kf (hq.mp q) H locs ls hZ hP hD hS hl)
theorem g_icmp_ne (ok : gOk s0 a0 D t p R s m meth c A own cc nL ret mn fr lo mc ms) {x y : Int} {off : Int} (tgt : Nat) (hd : decode cc pc = .ok (.if_icmp .ne off, 3)) (ht : (pc : Int) + off = (tgt : Int)) (hx : -2147483648 ≤ x ∧ x < 2147483648) (hy : -2147483648 ≤ y ∧ y < 2147483648) (kt : ¬ x = y → gW p l e R s m args below meth c Q D A nL Z cells slots ad n ce tgt lv st) (kf : x = y → gW p l e R s m args below meth c Q D A nL Z cells slots ad n ce (pc + 3) lv st) : gW p l e R s m args below meth c Q D A nL Z cells slots ad n ce pc lv (.int (iI y) :: .int (iI x) :: st) := by
  have hq := iI_eq hx hy
  exact fun H locs ls hZ hP hD hS hl => lv_icmp_ne ok.x ok.b hd ht (fun q => kt (fun r => q (hq.mpr r)) H locs ls hZ hP hD hS hl) (fun q => kf (hq.mp q) H locs ls hZ hP hD hS hl)
theorem g_if_lt (ok : gOk s0 a0 D t p R s m meth c A own cc nL ret mn fr lo mc ms) {x : Int} {off : Int} (tgt : Nat) (hd : decode cc pc = .ok (.ifCond .lt off, 3)) (ht : (pc : Int) + off = (tgt : Int)) (hx : -2147483648 ≤ x ∧ x < 2147483648) (kt : x < 0 → gW p l e R s m args below meth c Q D A nL Z cells slots ad n ce tgt lv st) (kf : ¬ (x < 0) → gW p l e R s m args below meth c Q D A nL Z cells slots ad n ce (pc + 3) lv st) : gW p l e R s m args below meth c Q D A nL Z cells slots ad n ce pc lv (.int (iI x) :: st) := by
  have z0 : (-2147483648 : Int) ≤ 0 ∧ (0 : Int) < 2147483648 := by omega
  have hq := iI_lt hx z0
  rw [← iI_zero] at hq
  exact fun H locs ls hZ hP hD hS hl => lv_if_lt ok.x ok.b hd ht (fun q => kt (hq.mp q) H locs ls hZ hP hD hS hl) (fun q => kf (fun r => q (hq.mpr r)) H locs ls hZ hP hD hS hl)
theorem g_icmp_lt (ok : gOk s0 a0 D t p R s m meth c A own cc nL ret mn fr lo mc ms) {x y : Int} {off : Int} (tgt : Nat) (hd : decode cc pc = .ok (.if_icmp .lt off, 3)) (ht : (pc : Int) + off = (tgt : Int)) (hx : -2147483648 ≤ x ∧ x < 2147483648) (hy : -2147483648 ≤ y ∧ y < 2147483648) (kt : x < y → gW p l e R s m args below meth c Q D A nL Z cells slots ad n ce tgt lv st) (kf : ¬ (x < y) → gW p l e R s m args below meth c Q D A nL Z cells slots ad n ce (pc + 3) lv st) : gW p l e R s m args below meth c Q D A nL Z cells slots ad n ce pc lv (.int (iI y) :: .int (iI x) :: st) := by
  have hq := iI_lt hx hy
  exact fun H locs ls hZ hP hD hS hl => lv_icmp_lt ok.x ok.b hd ht (fun q => kt (hq.mp q) H locs ls hZ hP hD hS hl) (fun q => kf (fun r => q (hq.mpr r)) H locs ls hZ hP hD hS hl)
theorem g_if_ge (ok : gOk s0 a0 D t p R s m meth c A own cc nL ret mn fr lo mc ms) {x : Int} {off : Int} (tgt : Nat) (hd : decode cc pc = .ok (.ifCond .ge off, 3)) (ht : (pc : Int) + off = (tgt : Int)) (hx : -2147483648 ≤ x ∧ x < 2147483648) (kt : 0 ≤ x → gW p l e R s m args below meth c Q D A nL Z cells slots ad n ce tgt lv st) (kf : ¬ (0 ≤ x) → gW p l e R s m args below meth c Q D A nL Z cells slots ad n ce (pc + 3) lv st) : gW p l e R s m args below meth c Q D A nL Z cells slots ad n ce pc lv (.int (iI x) :: st) := by
  have z0 : (-2147483648 : Int) ≤ 0 ∧ (0 : Int) < 2147483648 := by omega
  have hq := iI_le z0 hx
  rw [← iI_zero] at hq
  exact fun H locs ls hZ hP hD hS hl => lv_if_ge ok.x ok.b hd ht (fun q => kt (hq.mp q) H locs ls hZ hP hD hS hl) (fun q => kf (fun r => q (hq.mpr r)) H locs ls hZ hP hD hS hl)
theorem g_icmp_ge (ok : gOk s0 a0 D t p R s m meth c A own cc nL ret mn fr lo mc ms) {x y : Int} {off : Int} (tgt : Nat) (hd : decode cc pc = .ok (.if_icmp .ge off, 3)) (ht : (pc : Int) + off = (tgt : Int)) (hx : -2147483648 ≤ x ∧ x < 2147483648) (hy : -2147483648 ≤ y ∧ y < 2147483648) (kt : y ≤ x → gW p l e R s m args below meth c Q D A nL Z cells slots ad n ce tgt lv st) (kf : ¬ (y ≤ x) → gW p l e R s m args below meth c Q D A nL Z cells slots ad n ce (pc + 3) lv st) : gW p l e R s m args below meth c Q D A nL Z cells slots ad n ce pc lv (.int (iI y) :: .int (iI x) :: st) := by
  have hq := iI_le hy hx
  exact fun H locs ls hZ hP hD hS hl => lv_icmp_ge ok.x ok.b hd ht (fun q => kt (hq.mp q) H locs ls hZ hP hD hS hl) (fun q => kf (fun r => q (hq.mpr r)) H locs ls hZ hP hD hS hl)
theorem g_if_gt (ok : gOk s0 a0 D t p R s m meth c A own cc nL ret mn fr lo mc ms) {x : Int} {off : Int} (tgt : Nat) (hd : decode cc pc = .ok (.ifCond .gt off, 3)) (ht : (pc : Int) + off = (tgt : Int)) (hx : -2147483648 ≤ x ∧ x < 2147483648) (kt : 0 < x → gW p l e R s m args below meth c Q D A nL Z cells slots ad n ce tgt lv st) (kf : ¬ (0 < x) → gW p l e R s m args below meth c Q D A nL Z cells slots ad n ce (pc + 3) lv st) : gW p l e R s m args below meth c Q D A nL Z cells slots ad n ce pc lv (.int (iI x) :: st) := by
  have z0 : (-2147483648 : Int) ≤ 0 ∧ (0 : Int) < 2147483648 := by omega
  have hq := iI_lt z0 hx
  rw [← iI_zero] at hq
  exact fun H locs ls hZ hP hD hS hl => lv_if_gt ok.x ok.b hd ht (fun q => kt (hq.mp q) H locs ls hZ hP hD hS hl) (fun q => kf (fun r => q (hq.mpr r)) H locs ls hZ hP hD hS hl)
theorem g_icmp_gt (ok : gOk s0 a0 D t p R s m meth c A own cc nL ret mn fr lo mc ms) {x y : Int} {off : Int} (tgt : Nat) (hd : decode cc pc = .ok (.if_icmp .gt off, 3)) (ht : (pc : Int) + off = (tgt : Int)) (hx : -2147483648 ≤ x ∧ x < 2147483648) (hy : -2147483648 ≤ y ∧ y < 2147483648) (kt : y < x → gW p l e R s m args below meth c Q D A nL Z cells slots ad n ce tgt lv st) (kf : ¬ (y < x) → gW p l e R s m args below meth c Q D A nL Z cells slots ad n ce (pc + 3) lv st) : gW p l e R s m args below meth c Q D A nL Z cells slots ad n ce pc lv (.int (iI y) :: .int (iI x) :: st) := by
  have hq := iI_lt hy hx
  exact fun H locs ls hZ hP hD hS hl => lv_icmp_gt ok.x ok.b hd ht (fun q => kt (hq.mp q) H locs ls hZ hP hD hS hl) (fun q => kf (fun r => q (hq.mpr r)) H locs ls hZ hP hD hS hl)
theorem g_if_le (ok : gOk s0 a0 D t p R s m meth c A own cc nL ret mn fr lo mc ms) {x : Int} {off : Int} (tgt : Nat) (hd : decode cc pc = .ok (.ifCond .le off, 3)) (ht : (pc : Int) + off = (tgt : Int)) (hx : -2147483648 ≤ x ∧ x < 2147483648) (kt : x ≤ 0 → gW p l e R s m args below meth c Q D A nL Z cells slots ad n ce tgt lv st) (kf : ¬ (x ≤ 0) → gW p l e R s m args below meth c Q D A nL Z cells slots ad n ce (pc + 3) lv st) : gW p l e R s m args below meth c Q D A nL Z cells slots ad n ce pc lv (.int (iI x) :: st) := by
  have z0 : (-2147483648 : Int) ≤ 0 ∧ (0 : Int) < 2147483648 := by omega
  have hq := iI_le hx z0
  rw [← iI_zero] at hq
  exact fun H locs ls hZ hP hD hS hl => lv_if_le ok.x ok.b hd ht (fun q => kt (hq.mp q) H locs ls hZ hP hD hS hl) (fun q => kf (fun r => q (hq.mpr r)) H locs ls hZ hP hD hS hl)
theorem g_icmp_le (ok : gOk s0 a0 D t p R s m meth c A own cc nL ret mn fr lo mc ms) {x y : Int} {off : Int} (tgt : Nat) (hd : decode cc pc = .ok (.if_icmp .le off, 3)) (ht : (pc : Int) + off = (tgt : Int)) (hx : -2147483648 ≤ x ∧ x < 2147483648) (hy : -2147483648 ≤ y ∧ y < 2147483648) (kt : x ≤ y → gW p l e R s m args below meth c Q D A nL Z cells slots ad n ce tgt lv st) (kf : ¬ (x ≤ y) → gW p l e R s m args below meth c Q D A nL Z cells slots ad n ce (pc + 3) lv st) : gW p l e R s m args below meth c Q D A nL Z cells slots ad n ce pc lv (.int (iI y) :: .int (iI x) :: st) := by
  have hq := iI_le hx hy
  exact fun H locs ls hZ hP hD hS hl => lv_icmp_le ok.x ok.b hd ht (fun q => kt (hq.mp q) H locs ls hZ hP hD hS hl) (fun q => kf (fun r => q (hq.mpr r)) H locs ls hZ hP hD hS hl)
theorem g_goto (ok : gOk s0 a0 D t p R s m meth c A own cc nL ret mn fr lo mc ms) {off : Int} (tgt : Nat) (hd : decode cc pc = .ok (.goto off, 3)) (ht : (pc : Int) + off = (tgt : Int)) (kk : gW p l e R s m args below meth c Q D A nL Z cells slots ad n ce tgt lv st) : gW p l e R s m args below meth c Q D A nL Z cells slots ad n ce pc lv st :=
  fun H locs ls hZ hP hD hS hl => lv_goto ok.x ok.b hd ht (kk H locs ls hZ hP hD hS hl)
theorem g_ifnull (ok : gOk s0 a0 D t p R s m meth c A own cc nL ret mn fr lo mc ms) {x : Nat} {off : Int} (hd : decode cc pc = .ok (.ifnull off, 3)) (kk : gW p l e R s m args below meth c Q D A nL Z cells slots ad n ce (pc + 3) lv st) : gW p l e R s m args below meth c Q D A nL Z cells slots ad n ce pc lv (.ref x :: st) :=
  fun H locs ls hZ hP hD hS hl => lv_ifnull ok.x ok.b hd (kk H locs ls hZ hP hD hS hl)
theorem g_ifnonnull (ok : gOk s0 a0 D t p R s m meth c A own cc nL ret mn fr lo mc ms) {x : Nat} {off : Int} (tgt : Nat) (hd : decode cc pc = .ok (.ifnonnull off, 3)) (ht : (pc : Int) + off = (tgt : Int)) (kk : gW p l e R s m args below meth c Q D A nL Z cells slots ad n ce tgt lv st) : gW p l e R s m args below meth c Q D A nL Z cells slots ad n ce pc lv (.ref x :: st) :=
  fun H locs ls hZ hP hD hS hl => lv_ifnonnull ok.x ok.b hd ht (kk H locs ls hZ hP hD hS hl)
-- fields
theorem g_get (ok : gOk s0 a0 D t p R s m meth c A own cc nL ret mn fr lo mc ms) {C ref : String} {T : u_T} {N ci index : Nat} (hin : ∀ w ∈ u_ws C T N, w ∈ gTb) (hc : vwCl[ci]? = some (C, T, N)) (k : Nat) (hk : k < n) {fs : List Value} (he : ce k = .inr (ci, fs)) (j : Nat) (hj : j < N) (hr : (T j).1 = ref) (hl0 : Cond.fieldLink own index ref (T j).2.1 (T j).2.2.1 ∈ lw_tbl) {v : Value} (hv : fs[j]? = some v) (hd : decode cc pc = .ok (.getfield index, 3)) (kk : gW p l e R s m args below meth c Q D A nL Z cells slots ad n ce (pc + 3) lv (v :: st)) : gW p l e R s m args below meth c Q D A nL Z cells slots ad n ce pc lv (.ref (ad k) :: st) :=
  fun H locs ls hZ hP hD hS hl => va_get ok.x ok.b ok.ts hin ok.wn ok.k hP k ((wW_get hk).trans (by rw [he])) hc j hj (ok.w hl0 rfl) (fun _ h9 => hr ▸ h9) hv hd (kk H locs ls hZ hP hD hS hl)
theorem g_getN (ok : gOk s0 a0 D t p R s m meth c A own cc nL ret mn fr lo mc ms) {C ref : String} {T : u_T} {N ci index : Nat} (hin : ∀ w ∈ u_ws C T N, w ∈ gTb) (hc : vwCl[ci]? = some (C, T, N)) (k : Nat) (hk : k < n) {fs : List Value} (he : ce k = .inr (ci, fs)) (j : Nat) (hj : j < N) {host : String} (hr : (T j).1 = ref) (hl0 : Cond.fieldLinkNest own index ref (T j).2.1 (T j).2.2.1 host ∈ lw_tbl) {v : Value} (hv : fs[j]? = some v) (hd : decode cc pc = .ok (.getfield index, 3)) (kk : gW p l e R s m args below meth c Q D A nL Z cells slots ad n ce (pc + 3) lv (v :: st)) : gW p l e R s m args below meth c Q D A nL Z cells slots ad n ce pc lv (.ref (ad k) :: st) :=
  fun H locs ls hZ hP hD hS hl => va_getN ok.x ok.b ok.ts hin ok.wn ok.k hP k ((wW_get hk).trans (by rw [he])) hc j hj (ok.fN hl0) (fun _ h9 => hr ▸ h9) hv hd (kk H locs ls hZ hP hD hS hl)
theorem g_put (ok : gOk s0 a0 D t p R s m meth c A own cc nL ret mn fr lo mc ms) {C ref : String} {T : u_T} {N ci index : Nat} (hin : ∀ w ∈ u_ws C T N, w ∈ gTb) (hc : vwCl[ci]? = some (C, T, N)) (k : Nat) (hk : k < n) {fs : List Value} (he : ce k = .inr (ci, fs)) (j : Nat) (hj : j < N) (ty0 : Nat → FieldType) (hty : ∀ k, k < N → parseFieldDescriptor (T k).2.2.1 = some (ty0 k)) (hnm : ∀ a, a < N → ∀ b, b < N → a ≠ b → (T a).2.1 ≠ (T b).2.1) (hr : (T j).1 = ref) (hl0 : Cond.fieldLink own index ref (T j).2.1 (T j).2.2.1 ∈ lw_tbl) (hfin : (T j).2.2.2 = false) {v : Value} (hn : narrow (ty0 j) v = v) (hfit : fits (ty0 j) v = true) (hlen : j < fs.length) (hd : decode cc pc = .ok (.putfield index, 3)) (kk : gW p l e R s m args below meth c Q D A nL gZ cells slots ad n (va_up ce k (.inr (ci, fs.set j v))) (pc + 3) lv st) : gW p l e R s m args below meth c Q D A nL Z cells slots ad n ce pc lv (v :: .ref (ad k) :: st) := by
  intro H locs ls hZ hP hD hS hl
  refine va_put ok.x ok.b ok.ts hin ty0 hty hnm ok.wn ok.k hP hD hS k ((wW_get hk).trans (by rw [he])) hc j hj (ok.w hl0 rfl) (fun _ h9 => hr ▸ h9) hfin (hty j hj) hn hfit hlen hd (fun H1 locs1 hP1 hD1 hS1 => ?_)
  rw [wW_set] at hP1 hD1
  exact kk H1 locs1 ls trivial hP1 hD1 hS1 hl
theorem g_putN (ok : gOk s0 a0 D t p R s m meth c A own cc nL ret mn fr lo mc ms) {C ref : String} {T : u_T} {N ci index : Nat} (hin : ∀ w ∈ u_ws C T N, w ∈ gTb) (hc : vwCl[ci]? = some (C, T, N)) (k : Nat) (hk : k < n) {fs : List Value} (he : ce k = .inr (ci, fs)) (j : Nat) (hj : j < N) (ty0 : Nat → FieldType) (hty : ∀ k, k < N → parseFieldDescriptor (T k).2.2.1 = some (ty0 k)) (hnm : ∀ a, a < N → ∀ b, b < N → a ≠ b → (T a).2.1 ≠ (T b).2.1) {host : String} (hr : (T j).1 = ref) (hl0 : Cond.fieldLinkNest own index ref (T j).2.1 (T j).2.2.1 host ∈ lw_tbl) (hfin : (T j).2.2.2 = false) {v : Value} (hn : narrow (ty0 j) v = v) (hfit : fits (ty0 j) v = true) (hlen : j < fs.length) (hd : decode cc pc = .ok (.putfield index, 3)) (kk : gW p l e R s m args below meth c Q D A nL gZ cells slots ad n (va_up ce k (.inr (ci, fs.set j v))) (pc + 3) lv st) : gW p l e R s m args below meth c Q D A nL Z cells slots ad n ce pc lv (v :: .ref (ad k) :: st) := by
  intro H locs ls hZ hP hD hS hl
  refine va_putN ok.x ok.b ok.ts hin ty0 hty hnm ok.wn ok.k hP hD hS k ((wW_get hk).trans (by rw [he])) hc j hj (ok.fN hl0) (fun _ h9 => hr ▸ h9) hfin (hty j hj) hn hfit hlen hd (fun H1 locs1 hP1 hD1 hS1 => ?_)
  rw [wW_set] at hP1 hD1
  exact kk H1 locs1 ls trivial hP1 hD1 hS1 hl
theorem g_putF (ok : gOk s0 a0 D t p R s m meth c A own cc nL ret mn fr lo mc ms) {C ref : String} {T : u_T} {N ci index : Nat} (hin : ∀ w ∈ u_ws C T N, w ∈ gTb) (hc : vwCl[ci]? = some (C, T, N)) (k : Nat) (hk : k < n) {fs : List Value} (he : ce k = .inr (ci, fs)) (j : Nat) (hj : j < N) (ty0 : Nat → FieldType) (hty : ∀ k, k < N → parseFieldDescriptor (T k).2.2.1 = some (ty0 k)) (hnm : ∀ a, a < N → ∀ b, b < N → a ≠ b → (T a).2.1 ≠ (T b).2.1) (hr : (T j).1 = ref) (hl0 : Cond.fieldLink own index ref (T j).2.1 (T j).2.2.1 ∈ lw_tbl) (hfin : (T j).2.2.2 = true) (hmn : mn = "<init>") (hdecl : (T j).1 = own) {v : Value} (hn : narrow (ty0 j) v = v) (hfit : fits (ty0 j) v = true) (hlen : j < fs.length) (hd : decode cc pc = .ok (.putfield index, 3)) (kk : gW p l e R s m args below meth c Q D A nL gZ cells slots ad n (va_up ce k (.inr (ci, fs.set j v))) (pc + 3) lv st) : gW p l e R s m args below meth c Q D A nL Z cells slots ad n ce pc lv (v :: .ref (ad k) :: st) := by
  intro H locs ls hZ hP hD hS hl
  refine va_putF ok.x ok.b ok.ts hin ty0 hty hnm ok.wn ok.k hP hD hS k ((wW_get hk).trans (by rw [he])) hc j hj (ok.w hl0 rfl) (fun _ h9 => hr ▸ h9) hfin (ok.nm.trans hmn) hdecl (hty j hj) hn hfit hlen hd (fun H1 locs1 hP1 hD1 hS1 => ?_)
  rw [wW_set] at hP1 hD1
  exact kk H1 locs1 ls trivial hP1 hD1 hS1 hl
-- arrays of ints: the cell is zC t N f
theorem g_iald (ok : gOk s0 a0 D t p R s m meth c A own cc nL ret mn fr lo mc ms) (k : Nat) (hk : k < n) {N : Nat} {f : Int → Int} (he : ce k = zC t N f) {z : Int} (hN : N < 2147483648) (hz : 0 ≤ z ∧ z < N) (hd : decode cc pc = .ok (.iaload, 1)) (kk : gW p l e R s m args below meth c Q D A nL Z cells slots ad n ce (pc + 1) lv (.int (iI (f z)) :: st)) : gW p l e R s m args below meth c Q D A nL Z cells slots ad n ce pc lv (.int (iI z) :: .ref (ad k) :: st) := by
  intro H locs ls hZ hP hD hS hl
  refine va_iald ok.x ok.b ok.k hP k 0 ((wW_get hk).trans (by rw [he]; rfl)) rfl (iI_in hN hz) hd ?_
  rw [zA_at (by omega)]
  exact kk H locs ls hZ hP hD hS hl
theorem g_iast (ok : gOk s0 a0 D t p R s m meth c A own cc nL ret mn fr lo mc ms) (k : Nat) (hk : k < n) {N : Nat} {f : Int → Int} (he : ce k = zC t N f) {z v : Int} (hN : N < 2147483648) (hz : 0 ≤ z ∧ z < N) (hd : decode cc pc = .ok (.iastore, 1)) (kk : gW p l e R s m args below meth c Q D A nL gZ cells slots ad n (va_up ce k (zC t N (zU f z v))) (pc + 1) lv st) : gW p l e R s m args below meth c Q D A nL Z cells slots ad n ce pc lv (.int (iI v) :: .int (iI z) :: .ref (ad k) :: st) := by
  intro H locs ls hZ hP hD hS hl
  refine va_iast ok.x ok.b ok.k hP hD hS k 0 ((wW_get hk).trans (by rw [he]; rfl)) rfl (iI_in hN hz) hd (fun H1 locs1 hP1 hD1 hS1 => ?_)
  rw [zA_up (by omega), wW_set] at hP1 hD1
  exact kk H1 locs1 ls trivial hP1 hD1 hS1 hl
theorem g_alen (ok : gOk s0 a0 D t p R s m meth c A own cc nL ret mn fr lo mc ms) (k : Nat) (hk : k < n) {N : Nat} {f : Int → Int} (he : ce k = zC t N f) (hd : decode cc pc = .ok (.arraylength, 1)) (kk : gW p l e R s m args below meth c Q D A nL Z cells slots ad n ce (pc + 1) lv (.int (iI (N : Int)) :: st)) : gW p l e R s m args below meth c Q D A nL Z cells slots ad n ce pc lv (.ref (ad k) :: st) := by
  intro H locs ls hZ hP hD hS hl
  exact va_alen ok.x ok.b ok.k hP k 0 (x := (N, .inl (zA f))) ((wW_get hk).trans (by rw [he]; rfl)) (ty := .int) rfl (iI_nat N) hd (kk H locs ls hZ hP hD hS hl)
-- contracts
def gPc (s0 : State) (D : va_G) (ad : Nat → Nat) (n : Nat) (ce : Nat → va_E) (sz : Nat) : State → Prop := fun U => U.heap.size = sz ∧ s0.WarmedH U.vm ∧ (s0.heap.size ≤ sz ∧ (∀ q : Nat, q < s0.heap.size → U.heap[q]? = s0.heap[q]?) ∧ ∀ k : Nat, k < n → s0.heap.size ≤ ad k) ∧ va_P D vwCl (wW ad n ce) U.heap ∧ va_D (fun _ => True) (wW ad n ce)
def gB (D : va_G) (A : Nat → Prop) (ad : Nat → Nat) (n : Nat) (ce : Nat → va_E) (u : State) : Prop := va_P D vwCl (wW ad n ce) u.heap ∧ va_D A (wW ad n ce)
/-- an int comes back, no cell is made -/
def gQi (D : va_G) (A : Nat → Prop) (ad : Nat → Nat) (n : Nat) (post : Int → (Nat → va_E) → Prop) : Array Value → State → Outcome → State → Prop := va_Qi (fun (r : Int32) (ce' : Nat → va_E) => ∃ z : Int, r = iI z ∧ post z ce') (fun ce' => gB D A ad n ce') A
def gQv (D : va_G) (A : Nat → Prop) (ad : Nat → Nat) (n : Nat) (post : (Nat → va_E) → Prop) : Array Value → State → Outcome → State → Prop := va_Qv (fun (ce' : Nat → va_E) => post ce') (fun ce' => gB D A ad n ce') A
/-- nothing comes back, cells are made: n' of them are there then -/
def gQn (D : va_G) (A : Nat → Prop) (n' : Nat) (post : (Nat → Nat) → (Nat → va_E) → Prop) : Array Value → State → Outcome → State → Prop := va_Qv (fun (u : (Nat → Nat) × (Nat → va_E)) => post u.1 u.2) (fun u => gB D A u.1 n' u.2) A
def gRm (fr lo mc ms : Nat) : Room := { frames := fr, cells := mc, slots := ms, locals := lo }
def gI (s0 : State) (a0 : Array Value) (D : va_G) (t : Nat → ClassId) (y : MethodName) (cc : ByteArray) (mL : Nat) (ret : Option FieldType) (fr lo : Nat) (ad : Nat → Nat) (n : Nat) (ce : Nat → va_E) (av : List Value) (post : Int → (Nat → va_E) → Prop) : Prop :=
  gG s0 a0 D t → ∀ (l : Launch) (sz : Nat), Met l y [.code y cc mL ret] (gRm fr lo 0 0) (va_Pc av (gPc s0 D ad n ce sz)) (gQi D (va_A (wW ad n ce) sz) ad n post) 0 0 (va_A (wW ad n ce) sz)
def gV (s0 : State) (a0 : Array Value) (D : va_G) (t : Nat → ClassId) (y : MethodName) (cc : ByteArray) (mL : Nat) (ret : Option FieldType) (fr lo : Nat) (ad : Nat → Nat) (n : Nat) (ce : Nat → va_E) (av : List Value) (post : (Nat → va_E) → Prop) : Prop :=
  gG s0 a0 D t → ∀ (l : Launch) (sz : Nat), Met l y [.code y cc mL ret] (gRm fr lo 0 0) (va_Pc av (gPc s0 D ad n ce sz)) (gQv D (va_A (wW ad n ce) sz) ad n post) 0 0 (va_A (wW ad n ce) sz)
def gN (s0 : State) (a0 : Array Value) (D : va_G) (t : Nat → ClassId) (y : MethodName) (cc : ByteArray) (mL : Nat) (ret : Option FieldType) (fr lo mc ms : Nat) (ad : Nat → Nat) (n : Nat) (ce : Nat → va_E) (av : List Value) (n' : Nat) (post : (Nat → Nat) → (Nat → va_E) → Prop) : Prop :=
  gG s0 a0 D t → ∀ (l : Launch) (sz : Nat), Met l y [.code y cc mL ret] (gRm fr lo mc ms) (va_Pc av (gPc s0 D ad n ce sz)) (gQn D (va_A (wW ad n ce) sz) n' post) mc ms (va_A (wW ad n ce) sz)
theorem gPc_blind {av : List Value} {sz : Nat} : FrameBlind (va_Pc av (gPc s0 D ad n ce sz)) := fun _ _ _ _ q => ⟨q.1, q.2.1, q.2.2.1, q.2.2.2.1, q.2.2.2.2.1, q.2.2.2.2.2⟩
/-- the entry of a method without handlers -/
theorem g_entry {y : MethodName} {cy : ByteArray} {mL : Nat} {rt : Option FieldType} {fr lo mc ms : Nat} {av : List Value} {sz : Nat} {Qc : Array Value → State → Outcome → State → Prop} {free : Addr → Prop} {l : Launch} (hG : gG s0 a0 D t) (hy : plainName y.cls = true) (hav : (lg_sl av).length ≤ mL)
    (body : ∀ (p : Program) (e : Env) (s : State) (m : MethodId) (below : List Frame) (meth : Method) (c : Code) (A : Nat → Prop), s.heap.size = sz → A = va_A (wW ad n ce) sz → gOk s0 a0 D t p (gRm fr lo mc ms) s m meth c A y.cls cy mL rt y.name fr lo mc ms →
      gW p l e (gRm fr lo mc ms) s m av.toArray below meth c (MQ below Qc av.toArray s mc ms free) D A mL (gZ0 s) 0 0 ad n ce 0 (lv_args 0 av) []) :
    Met l y [.code y cy mL rt] (gRm fr lo mc ms) (va_Pc av (gPc s0 D ad n ce sz)) Qc mc ms free := by
  refine Met.ofW (cc := cy) (maxL := mL) (ret := rt) hy rfl ?_
  intro p e s m args below meth c s₁ B hml hv
  obtain ⟨rfl, hsz, hw, ⟨ho1, ho2, ho3⟩, hP, hD⟩ := hv
  have hl := lv_entry av (n := mL) hav
  rw [lg_entry_eq]
  refine body p e s m below meth c (va_A (wW ad n ce) sz) hsz rfl ⟨B.exec, B.bytes, hml, findClass_of_methodNamed B.named, hw, hG, fun q h => Or.inr (by rw [← hsz]; exact h), ⟨by rw [hsz]; exact ho1, ho2, fun q h => ?_⟩, ⟨Nat.le_refl _, Nat.le_refl _, Nat.le_refl _, Nat.le_refl _⟩, B.notSynchronized, B.returns, (name_of_methodNamed B.named B.method).1⟩ s.heap [] _ ⟨rfl, rfl⟩ hP hD.self va_S.rf hl
  rcases h with ⟨k, x, h⟩ | h
  · obtain ⟨h1, h2⟩ := wW_of h
    cases h2
    exact ho3 k h1
  · exact Nat.le_trans ho1 h

theorem g_startI {y : MethodName} {cy : ByteArray} {mL : Nat} {rt : Option FieldType} {fr lo : Nat} {av : List Value} {post : Int → (Nat → va_E) → Prop} (hy : plainName y.cls = true) (hav : (lg_sl av).length ≤ mL)
    (body : ∀ (p : Program) (l : Launch) (e : Env) (R : Room) (s : State) (m : MethodId) (args : Array Value) (below : List Frame) (meth : Method) (c : Code) (A : Nat → Prop), gOk s0 a0 D t p R s m meth c A y.cls cy mL rt y.name fr lo 0 0 →
      gW p l e R s m args below meth c (MQ below (gQi D A ad n post) args s 0 0 A) D A mL (gZ0 s) 0 0 ad n ce 0 (lv_args 0 av) []) : gI s0 a0 D t y cy mL rt fr lo ad n ce av post := by
  intro hG l sz
  refine g_entry hG hy hav ?_
  intro p e s m below meth c A hsz hA ok
  subst hA
  exact body p l e _ s m _ below meth c _ ok

theorem g_startV {y : MethodName} {cy : ByteArray} {mL : Nat} {rt : Option FieldType} {fr lo : Nat} {av : List Value} {post : (Nat → va_E) → Prop} (hy : plainName y.cls = true) (hav : (lg_sl av).length ≤ mL)
    (body : ∀ (p : Program) (l : Launch) (e : Env) (R : Room) (s : State) (m : MethodId) (args : Array Value) (below : List Frame) (meth : Method) (c : Code) (A : Nat → Prop), gOk s0 a0 D t p R s m meth c A y.cls cy mL rt y.name fr lo 0 0 →
      gW p l e R s m args below meth c (MQ below (gQv D A ad n post) args s 0 0 A) D A mL (gZ0 s) 0 0 ad n ce 0 (lv_args 0 av) []) : gV s0 a0 D t y cy mL rt fr lo ad n ce av post := by
  intro hG l sz
  refine g_entry hG hy hav ?_
  intro p e s m below meth c A hsz hA ok
  subst hA
  exact body p l e _ s m _ below meth c _ ok

theorem g_startN {y : MethodName} {cy : ByteArray} {mL : Nat} {rt : Option FieldType} {fr lo mc ms n' : Nat} {av : List Value} {post : (Nat → Nat) → (Nat → va_E) → Prop} (hy : plainName y.cls = true) (hav : (lg_sl av).length ≤ mL)
    (body : ∀ (p : Program) (l : Launch) (e : Env) (R : Room) (s : State) (m : MethodId) (args : Array Value) (below : List Frame) (meth : Method) (c : Code) (A : Nat → Prop), gOk s0 a0 D t p R s m meth c A y.cls cy mL rt y.name fr lo mc ms →
      gW p l e R s m args below meth c (MQ below (gQn D A n' post) args s mc ms A) D A mL (gZ0 s) 0 0 ad n ce 0 (lv_args 0 av) []) : gN s0 a0 D t y cy mL rt fr lo mc ms ad n ce av n' post := by
  intro hG l sz
  refine g_entry hG hy hav ?_
  intro p e s m below meth c A hsz hA ok
  subst hA
  exact body p l e _ s m _ below meth c _ ok

-- returns
theorem g_iret {post : Int → (Nat → va_E) → Prop} (ok : gOk s0 a0 D t p R s m meth c A own cc nL (some .int) mn fr lo mc ms) (hd : decode cc pc = .ok (.ireturn, 1)) {z : Int} (h : post z ce) : gW p l e R s m args below meth c (MQ below (gQi D A ad n post) args s cells slots A) D A nL Z cells slots ad n ce pc lv [.int (iI z)] :=
  fun H locs ls hZ hP hD hS hl => W.iret ok.x ok.b ok.rt (fun u hu hW => ⟨⟨iI z, ce, rfl, ⟨z, rfl, h⟩, by rw [hu]; exact hP, hD⟩, hS.F hu⟩) hS.2.2 hd ok.lk
theorem narrow_bool {z : Int} (hz : z = 0 ∨ z = 1) : narrow .boolean (.int (iI z)) = .int (iI z) := by
  rcases hz with rfl | rfl <;> rfl
theorem g_zret {post : Int → (Nat → va_E) → Prop} (ok : gOk s0 a0 D t p R s m meth c A own cc nL (some .boolean) mn fr lo mc ms) (hd : decode cc pc = .ok (.ireturn, 1)) {z : Int} (hz : z = 0 ∨ z = 1) (h : post z ce) : gW p l e R s m args below meth c (MQ below (gQi D A ad n post) args s cells slots A) D A nL Z cells slots ad n ce pc lv [.int (iI z)] :=
  fun H locs ls hZ hP hD hS hl => W.zret ok.x ok.b ok.rt (narrow_bool hz) (fun u hu hW => ⟨⟨iI z, ce, rfl, ⟨z, rfl, h⟩, by rw [hu]; exact hP, hD⟩, hS.F hu⟩) hS.2.2 hd ok.lk
theorem g_vret {post : (Nat → va_E) → Prop} (ok : gOk s0 a0 D t p R s m meth c A own cc nL none mn fr lo mc ms) (hd : decode cc pc = .ok (.return_, 1)) (h : post ce) : gW p l e R s m args below meth c (MQ below (gQv D A ad n post) args s cells slots A) D A nL Z cells slots ad n ce pc lv [] :=
  fun H locs ls hZ hP hD hS hl => W.vret ok.x ok.b ok.rt (fun u hu hW => ⟨⟨ce, rfl, h, by rw [hu]; exact hP, hD⟩, hS.F hu⟩) hS.2.2 hd ok.lk
theorem g_nret {post : (Nat → Nat) → (Nat → va_E) → Prop} (ok : gOk s0 a0 D t p R s m meth c A own cc nL none mn fr lo mc ms) (hd : decode cc pc = .ok (.return_, 1)) (h : post ad ce) : gW p l e R s m args below meth c (MQ below (gQn D A n post) args s cells slots A) D A nL Z cells slots ad n ce pc lv [] :=
  fun H locs ls hZ hP hD hS hl => W.vret ok.x ok.b ok.rt (fun u hu hW => ⟨⟨(ad, ce), rfl, h, by rw [hu]; exact hP, hD⟩, hS.F hu⟩) hS.2.2 hd ok.lk
theorem g_widen {k j : Nat} (h1 : cells ≤ k) (h2 : slots ≤ j) (kk : gW p l e R s m args below meth c Q D A nL Z k j ad n ce pc lv st) : gW p l e R s m args below meth c Q D A nL Z cells slots ad n ce pc lv st :=
  fun H locs ls hZ hP hD hS hl => W.widen h1 h2 (kk H locs ls hZ hP hD hS hl)
-- calls
theorem g_free (ok : gOk s0 a0 D t p R s m meth c A own cc nL ret mn fr lo mc ms) {H : Heap} {locs : List Loc} (hD : va_D A (wW ad n ce)) (hS : va_S A s.heap H locs) : ∀ q, va_A (wW ad n ce) H.size q → A q := by
  intro q h
  rcases h with ⟨k, e, h⟩ | h
  · exact hD.2 k _ h
  · exact ok.a q (Nat.le_trans hS.1 h)
theorem g_cb (ok : gOk s0 a0 D t p R s m meth c A own cc nL ret mn fr lo mc ms) {y : MethodName} {cy : ByteArray} {mL : Nat} {rt : Option FieldType} {fr' lo' mc' ms' index k : Nat} (hcode : Cond.code y cy mL rt ∈ lw_tbl) (hini : Cond.initialized y.cls ∈ lw_tbl) (hlink : Cond.methodLink own index y ∈ lw_tbl)
    (hd : y.cls ≠ "java/lang/invoke/MethodHandle" ∧ y.cls ≠ "java/lang/invoke/VarHandle" ∧ (parseMethodDescriptor y.desc).map (fun d => d.parameters.length) = some k) (hR : fr' + 1 ≤ fr ∧ 8 + (mL + 11) + lo' ≤ lo) : CallB R s args own index y cy mL rt [.code y cy mL rt] (gRm fr' lo' mc' ms') mc' ms' k := by
  refine ⟨rfl, rfl, Nat.le_trans hR.1 ok.r.1, Nat.le_trans hR.2 ok.r.2.1, fun w hw a' U hW => ?_, List.mem_singleton.mpr rfl, ok.w hcode rfl, ok.w hini rfl, ⟨hd.1, hd.2.1⟩, fun sig h => ?_, ok.w hlink rfl⟩
  · rw [List.mem_singleton.mp hw]
    exact word_at hW (Or.inl rfl) (ok.w (args := args) hcode rfl)
  · have h2 := hd.2.2
    rw [h] at h2
    exact (Option.some.inj h2).symm
theorem g_cn (ok : gOk s0 a0 D t p R s m meth c A own cc nL ret mn fr lo mc ms) {y : MethodName} {cy : ByteArray} {mL : Nat} {rt : Option FieldType} {host : String} {fr' lo' mc' ms' index k : Nat} (hcode : Cond.code y cy mL rt ∈ lw_tbl) (hini : Cond.initialized y.cls ∈ lw_tbl) (hlink : Cond.methodLinkNest own index y host ∈ lw_tbl)
    (hd : y.cls ≠ "java/lang/invoke/MethodHandle" ∧ y.cls ≠ "java/lang/invoke/VarHandle" ∧ (parseMethodDescriptor y.desc).map (fun d => d.parameters.length) = some k) (hR : fr' + 1 ≤ fr ∧ 8 + (mL + 11) + lo' ≤ lo) : va_CN R s args own index y host cy mL rt [.code y cy mL rt] (gRm fr' lo' mc' ms') mc' ms' k := by
  refine ⟨⟨rfl, rfl, Nat.le_trans hR.1 ok.r.1, Nat.le_trans hR.2 ok.r.2.1, fun w hw a' U hW => ?_, List.mem_singleton.mpr rfl⟩, ok.w hcode rfl, ok.w hini rfl, ⟨hd.1, hd.2.1⟩, fun sig h => ?_, va_Nw.use rfl (ok.mN hlink)⟩
  · rw [List.mem_singleton.mp hw]
    exact word_at hW (Or.inl rfl) (ok.w (args := args) hcode rfl)
  · have h2 := hd.2.2
    rw [h] at h2
    exact (Option.some.inj h2).symm
theorem g_pre (ok : gOk s0 a0 D t p R s m meth c A own cc nL ret mn fr lo mc ms) {av : List Value} {H : Heap} {locs : List Loc} (hP : va_P D vwCl (wW ad n ce) H) (hD : va_D A (wW ad n ce)) (hS : va_S A s.heap H locs) : ∀ U : State, U.heap = H → s.WarmedH U.vm → va_Pc av (gPc s0 D ad n ce H.size) av.toArray U := by
  intro U hU hW
  refine ⟨rfl, by rw [hU], State.WarmedH.trans ok.warm hW, ⟨Nat.le_trans ok.o.1 hS.1, fun q h => ?_, fun k h => ok.o.2.2 _ (hD.2 k _ (wW_get h))⟩, by rw [hU]; exact hP, hD.weaken (fun _ _ _ _ => trivial)⟩
  rw [hU, hS.2.1 q (Nat.lt_of_lt_of_le h ok.o.1) (fun z => absurd (ok.o.2.2 q z) (by omega))]
  exact ok.o.2.1 q h

theorem g_callIS (ok : gOk s0 a0 D t p R s m meth c A own cc nL ret mn fr lo mc ms) {y : MethodName} {cy : ByteArray} {mL : Nat} {rt : Option FieldType} {fr' lo' index : Nat} {As : List Value} {post : Int → (Nat → va_E) → Prop} (hM : gI s0 a0 D t y cy mL rt fr' lo' ad n ce (As) post) (hcode : Cond.code y cy mL rt ∈ lw_tbl) (hini : Cond.initialized y.cls ∈ lw_tbl) (hlink : Cond.methodLink own index y ∈ lw_tbl) (hk : Cond.static y ∈ lw_tbl) (hq : y.cls ≠ "java/lang/invoke/MethodHandle" ∧ y.cls ≠ "java/lang/invoke/VarHandle" ∧ (parseMethodDescriptor y.desc).map (fun d => d.parameters.length) = some As.length) (hR : fr' + 1 ≤ fr ∧ 8 + (mL + 11) + lo' ≤ lo) (hst : (st.map fun v => v.category).sum ≤ 8) (hroom : cells ≤ mc ∧ slots ≤ ms) (hd : decode cc pc = .ok (.invokestatic index, 3)) (kk : ∀ (z : Int) (ce' : Nat → va_E), post z ce' → gW p l e R s m args below meth c Q D A nL gZ cells slots ad n ce' (pc + 3) lv (.int (iI z) :: st)) : gW p l e R s m args below meth c Q D A nL Z cells slots ad n ce pc lv (As.reverse ++ st) := by
  intro H locs ls hZ hP hD hS hl
  refine va_calli (va_runS (As := As) (rest := st) ⟨ok.x, ok.b, ok.ml, ok.wn, ok.ts (args := args)⟩ (hM ok.g l H.size) ⟨g_cb ok hcode hini hlink hq hR, ok.w hk rfl⟩ ⟨gPc_blind, g_pre ok hP hD hS⟩ rfl rfl hl.1 rfl (lv_room hst) hd ⟨Nat.le_trans hroom.1 ok.r.2.2.1, Nat.le_trans hroom.2 ok.r.2.2.2⟩) hS (fun q _ h => g_free ok hD hS q h) (g_free ok hD hS) (fun r u x H1 locs1 hx1 hvm hw hB hz1 hk1 hS1 => ?_)
  obtain ⟨z, rfl, hz⟩ := hw
  exact kk z u hz H1 locs1 ls trivial (by rw [← hx1]; exact hB.1) (hB.2.weaken (fun _ q _ h => g_free ok hD hS q.1 h)) hS1 hl
theorem g_callISN (ok : gOk s0 a0 D t p R s m meth c A own cc nL ret mn fr lo mc ms) {y : MethodName} {cy : ByteArray} {mL : Nat} {rt : Option FieldType} {fr' lo' index : Nat} {As : List Value} {host : String} {post : Int → (Nat → va_E) → Prop} (hM : gI s0 a0 D t y cy mL rt fr' lo' ad n ce (As) post) (hcode : Cond.code y cy mL rt ∈ lw_tbl) (hini : Cond.initialized y.cls ∈ lw_tbl) (hlink : Cond.methodLinkNest own index y host ∈ lw_tbl) (hk : Cond.static y ∈ lw_tbl) (hq : y.cls ≠ "java/lang/invoke/MethodHandle" ∧ y.cls ≠ "java/lang/invoke/VarHandle" ∧ (parseMethodDescriptor y.desc).map (fun d => d.parameters.length) = some As.length) (hR : fr' + 1 ≤ fr ∧ 8 + (mL + 11) + lo' ≤ lo) (hst : (st.map fun v => v.category).sum ≤ 8) (hroom : cells ≤ mc ∧ slots ≤ ms) (hd : decode cc pc = .ok (.invokestatic index, 3)) (kk : ∀ (z : Int) (ce' : Nat → va_E), post z ce' → gW p l e R s m args below meth c Q D A nL gZ cells slots ad n ce' (pc + 3) lv (.int (iI z) :: st)) : gW p l e R s m args below meth c Q D A nL Z cells slots ad n ce pc lv (As.reverse ++ st) := by
  intro H locs ls hZ hP hD hS hl
  refine va_calli (va_runSN (As := As) (rest := st) ⟨ok.x, ok.b, ok.ml, ok.wn, ok.ts (args := args)⟩ (hM ok.g l H.size) ⟨g_cn ok hcode hini hlink hq hR, ok.w hk rfl, trivial⟩ ⟨gPc_blind, g_pre ok hP hD hS⟩ rfl rfl hl.1 rfl (lv_room hst) hd ⟨Nat.le_trans hroom.1 ok.r.2.2.1, Nat.le_trans hroom.2 ok.r.2.2.2⟩) hS (fun q _ h => g_free ok hD hS q h) (g_free ok hD hS) (fun r u x H1 locs1 hx1 hvm hw hB hz1 hk1 hS1 => ?_)
  obtain ⟨z, rfl, hz⟩ := hw
  exact kk z u hz H1 locs1 ls trivial (by rw [← hx1]; exact hB.1) (hB.2.weaken (fun _ q _ h => g_free ok hD hS q.1 h)) hS1 hl
theorem g_callIV (ok : gOk s0 a0 D t p R s m meth c A own cc nL ret mn fr lo mc ms) (k : Nat) {y : MethodName} {cy : ByteArray} {mL : Nat} {rt : Option FieldType} {fr' lo' index : Nat} {As : List Value} {post : Int → (Nat → va_E) → Prop} (hM : gI s0 a0 D t y cy mL rt fr' lo' ad n ce (.ref (ad k) :: As) post) (hcode : Cond.code y cy mL rt ∈ lw_tbl) (hini : Cond.initialized y.cls ∈ lw_tbl) (hlink : Cond.methodLink own index y ∈ lw_tbl) {ci : Nat} {q0 : vw_C} {fs : List Value} (hc : vwCl[ci]? = some q0) (hkn : k < n) (he : ce k = .inr (ci, fs)) (hk : Cond.instanceMethod y ∈ lw_tbl) (hsel : Cond.selects q0.1 y y ∈ lw_tbl) (hq : y.cls ≠ "java/lang/invoke/MethodHandle" ∧ y.cls ≠ "java/lang/invoke/VarHandle" ∧ (parseMethodDescriptor y.desc).map (fun d => d.parameters.length) = some As.length) (hR : fr' + 1 ≤ fr ∧ 8 + (mL + 11) + lo' ≤ lo) (hst : (st.map fun v => v.category).sum ≤ 8) (hroom : cells ≤ mc ∧ slots ≤ ms) (hd : decode cc pc = .ok (.invokevirtual index, 3)) (kk : ∀ (z : Int) (ce' : Nat → va_E), post z ce' → gW p l e R s m args below meth c Q D A nL gZ cells slots ad n ce' (pc + 3) lv (.int (iI z) :: st)) : gW p l e R s m args below meth c Q D A nL Z cells slots ad n ce pc lv (As.reverse ++ .ref (ad k) :: st) := by
  intro H locs ls hZ hP hD hS hl
  refine va_calli (va_runV (As := As) (rest := st) (b := ad k) ⟨ok.x, ok.b, ok.ml, ok.wn, ok.ts (args := args)⟩ (hM ok.g l H.size) ⟨g_cb ok hcode hini hlink hq hR, ok.w hk rfl, ok.w hsel rfl⟩ ⟨gPc_blind, va_recv ok.k hP hc ((wW_get hkn).trans (by rw [he])), g_pre ok hP hD hS⟩ rfl rfl hl.1 rfl (lv_room hst) hd ⟨Nat.le_trans hroom.1 ok.r.2.2.1, Nat.le_trans hroom.2 ok.r.2.2.2⟩) hS (fun q _ h => g_free ok hD hS q h) (g_free ok hD hS) (fun r u x H1 locs1 hx1 hvm hw hB hz1 hk1 hS1 => ?_)
  obtain ⟨z, rfl, hz⟩ := hw
  exact kk z u hz H1 locs1 ls trivial (by rw [← hx1]; exact hB.1) (hB.2.weaken (fun _ q _ h => g_free ok hD hS q.1 h)) hS1 hl
theorem g_callIVN (ok : gOk s0 a0 D t p R s m meth c A own cc nL ret mn fr lo mc ms) (k : Nat) {y : MethodName} {cy : ByteArray} {mL : Nat} {rt : Option FieldType} {fr' lo' index : Nat} {As : List Value} {host : String} {post : Int → (Nat → va_E) → Prop} (hM : gI s0 a0 D t y cy mL rt fr' lo' ad n ce (.ref (ad k) :: As) post) (hcode : Cond.code y cy mL rt ∈ lw_tbl) (hini : Cond.initialized y.cls ∈ lw_tbl) (hlink : Cond.methodLinkNest own index y host ∈ lw_tbl) {ci : Nat} {q0 : vw_C} {fs : List Value} (hc : vwCl[ci]? = some q0) (hkn : k < n) (he : ce k = .inr (ci, fs)) (hk : Cond.instanceMethod y ∈ lw_tbl) (hsel : Cond.selects q0.1 y y ∈ lw_tbl) (hq : y.cls ≠ "java/lang/invoke/MethodHandle" ∧ y.cls ≠ "java/lang/invoke/VarHandle" ∧ (parseMethodDescriptor y.desc).map (fun d => d.parameters.length) = some As.length) (hR : fr' + 1 ≤ fr ∧ 8 + (mL + 11) + lo' ≤ lo) (hst : (st.map fun v => v.category).sum ≤ 8) (hroom : cells ≤ mc ∧ slots ≤ ms) (hd : decode cc pc = .ok (.invokevirtual index, 3)) (kk : ∀ (z : Int) (ce' : Nat → va_E), post z ce' → gW p l e R s m args below meth c Q D A nL gZ cells slots ad n ce' (pc + 3) lv (.int (iI z) :: st)) : gW p l e R s m args below meth c Q D A nL Z cells slots ad n ce pc lv (As.reverse ++ .ref (ad k) :: st) := by
  intro H locs ls hZ hP hD hS hl
  refine va_calli (va_runVN (As := As) (rest := st) (b := ad k) ⟨ok.x, ok.b, ok.ml, ok.wn, ok.ts (args := args)⟩ (hM ok.g l H.size) ⟨g_cn ok hcode hini hlink hq hR, ok.w hk rfl, ok.w hsel rfl⟩ ⟨gPc_blind, va_recv ok.k hP hc ((wW_get hkn).trans (by rw [he])), g_pre ok hP hD hS⟩ rfl rfl hl.1 rfl (lv_room hst) hd ⟨Nat.le_trans hroom.1 ok.r.2.2.1, Nat.le_trans hroom.2 ok.r.2.2.2⟩) hS (fun q _ h => g_free ok hD hS q h) (g_free ok hD hS) (fun r u x H1 locs1 hx1 hvm hw hB hz1 hk1 hS1 => ?_)
  obtain ⟨z, rfl, hz⟩ := hw
  exact kk z u hz H1 locs1 ls trivial (by rw [← hx1]; exact hB.1) (hB.2.weaken (fun _ q _ h => g_free ok hD hS q.1 h)) hS1 hl
theorem g_callVS (ok : gOk s0 a0 D t p R s m meth c A own cc nL ret mn fr lo mc ms) {y : MethodName} {cy : ByteArray} {mL : Nat} {rt : Option FieldType} {fr' lo' index : Nat} {As : List Value} {post : (Nat → va_E) → Prop} (hM : gV s0 a0 D t y cy mL rt fr' lo' ad n ce (As) post) (hcode : Cond.code y cy mL rt ∈ lw_tbl) (hini : Cond.initialized y.cls ∈ lw_tbl) (hlink : Cond.methodLink own index y ∈ lw_tbl) (hk : Cond.static y ∈ lw_tbl) (hq : y.cls ≠ "java/lang/invoke/MethodHandle" ∧ y.cls ≠ "java/lang/invoke/VarHandle" ∧ (parseMethodDescriptor y.desc).map (fun d => d.parameters.length) = some As.length) (hR : fr' + 1 ≤ fr ∧ 8 + (mL + 11) + lo' ≤ lo) (hst : (st.map fun v => v.category).sum ≤ 8) (hroom : cells ≤ mc ∧ slots ≤ ms) (hd : decode cc pc = .ok (.invokestatic index, 3)) (kk : ∀ (ce' : Nat → va_E), post ce' → gW p l e R s m args below meth c Q D A nL gZ cells slots ad n ce' (pc + 3) lv st) : gW p l e R s m args below meth c Q D A nL Z cells slots ad n ce pc lv (As.reverse ++ st) := by
  intro H locs ls hZ hP hD hS hl
  refine va_callv (va_runS (As := As) (rest := st) ⟨ok.x, ok.b, ok.ml, ok.wn, ok.ts (args := args)⟩ (hM ok.g l H.size) ⟨g_cb ok hcode hini hlink hq hR, ok.w hk rfl⟩ ⟨gPc_blind, g_pre ok hP hD hS⟩ rfl rfl hl.1 rfl (lv_room hst) hd ⟨Nat.le_trans hroom.1 ok.r.2.2.1, Nat.le_trans hroom.2 ok.r.2.2.2⟩) hS (fun q _ h => g_free ok hD hS q h) (g_free ok hD hS) (fun u x H1 locs1 hx1 hvm hw hB hz1 hk1 hS1 => ?_)
  exact kk u hw H1 locs1 ls trivial (by rw [← hx1]; exact hB.1) (hB.2.weaken (fun _ q _ h => g_free ok hD hS q.1 h)) hS1 hl
theorem g_callVSN (ok : gOk s0 a0 D t p R s m meth c A own cc nL ret mn fr lo mc ms) {y : MethodName} {cy : ByteArray} {mL : Nat} {rt : Option FieldType} {fr' lo' index : Nat} {As : List Value} {host : String} {post : (Nat → va_E) → Prop} (hM : gV s0 a0 D t y cy mL rt fr' lo' ad n ce (As) post) (hcode : Cond.code y cy mL rt ∈ lw_tbl) (hini : Cond.initialized y.cls ∈ lw_tbl) (hlink : Cond.methodLinkNest own index y host ∈ lw_tbl) (hk : Cond.static y ∈ lw_tbl) (hq : y.cls ≠ "java/lang/invoke/MethodHandle" ∧ y.cls ≠ "java/lang/invoke/VarHandle" ∧ (parseMethodDescriptor y.desc).map (fun d => d.parameters.length) = some As.length) (hR : fr' + 1 ≤ fr ∧ 8 + (mL + 11) + lo' ≤ lo) (hst : (st.map fun v => v.category).sum ≤ 8) (hroom : cells ≤ mc ∧ slots ≤ ms) (hd : decode cc pc = .ok (.invokestatic index, 3)) (kk : ∀ (ce' : Nat → va_E), post ce' → gW p l e R s m args below meth c Q D A nL gZ cells slots ad n ce' (pc + 3) lv st) : gW p l e R s m args below meth c Q D A nL Z cells slots ad n ce pc lv (As.reverse ++ st) := by
  intro H locs ls hZ hP hD hS hl
  refine va_callv (va_runSN (As := As) (rest := st) ⟨ok.x, ok.b, ok.ml, ok.wn, ok.ts (args := args)⟩ (hM ok.g l H.size) ⟨g_cn ok hcode hini hlink hq hR, ok.w hk rfl, trivial⟩ ⟨gPc_blind, g_pre ok hP hD hS⟩ rfl rfl hl.1 rfl (lv_room hst) hd ⟨Nat.le_trans hroom.1 ok.r.2.2.1, Nat.le_trans hroom.2 ok.r.2.2.2⟩) hS (fun q _ h => g_free ok hD hS q h) (g_free ok hD hS) (fun u x H1 locs1 hx1 hvm hw hB hz1 hk1 hS1 => ?_)
  exact kk u hw H1 locs1 ls trivial (by rw [← hx1]; exact hB.1) (hB.2.weaken (fun _ q _ h => g_free ok hD hS q.1 h)) hS1 hl
theorem g_callVV (ok : gOk s0 a0 D t p R s m meth c A own cc nL ret mn fr lo mc ms) (k : Nat) {y : MethodName} {cy : ByteArray} {mL : Nat} {rt : Option FieldType} {fr' lo' index : Nat} {As : List Value} {post : (Nat → va_E) → Prop} (hM : gV s0 a0 D t y cy mL rt fr' lo' ad n ce (.ref (ad k) :: As) post) (hcode : Cond.code y cy mL rt ∈ lw_tbl) (hini : Cond.initialized y.cls ∈ lw_tbl) (hlink : Cond.methodLink own index y ∈ lw_tbl) {ci : Nat} {q0 : vw_C} {fs : List Value} (hc : vwCl[ci]? = some q0) (hkn : k < n) (he : ce k = .inr (ci, fs)) (hk : Cond.instanceMethod y ∈ lw_tbl) (hsel : Cond.selects q0.1 y y ∈ lw_tbl) (hq : y.cls ≠ "java/lang/invoke/MethodHandle" ∧ y.cls ≠ "java/lang/invoke/VarHandle" ∧ (parseMethodDescriptor y.desc).map (fun d => d.parameters.length) = some As.length) (hR : fr' + 1 ≤ fr ∧ 8 + (mL + 11) + lo' ≤ lo) (hst : (st.map fun v => v.category).sum ≤ 8) (hroom : cells ≤ mc ∧ slots ≤ ms) (hd : decode cc pc = .ok (.invokevirtual index, 3)) (kk : ∀ (ce' : Nat → va_E), post ce' → gW p l e R s m args below meth c Q D A nL gZ cells slots ad n ce' (pc + 3) lv st) : gW p l e R s m args below meth c Q D A nL Z cells slots ad n ce pc lv (As.reverse ++ .ref (ad k) :: st) := by
  intro H locs ls hZ hP hD hS hl
  refine va_callv (va_runV (As := As) (rest := st) (b := ad k) ⟨ok.x, ok.b, ok.ml, ok.wn, ok.ts (args := args)⟩ (hM ok.g l H.size) ⟨g_cb ok hcode hini hlink hq hR, ok.w hk rfl, ok.w hsel rfl⟩ ⟨gPc_blind, va_recv ok.k hP hc ((wW_get hkn).trans (by rw [he])), g_pre ok hP hD hS⟩ rfl rfl hl.1 rfl (lv_room hst) hd ⟨Nat.le_trans hroom.1 ok.r.2.2.1, Nat.le_trans hroom.2 ok.r.2.2.2⟩) hS (fun q _ h => g_free ok hD hS q h) (g_free ok hD hS) (fun u x H1 locs1 hx1 hvm hw hB hz1 hk1 hS1 => ?_)
  exact kk u hw H1 locs1 ls trivial (by rw [← hx1]; exact hB.1) (hB.2.weaken (fun _ q _ h => g_free ok hD hS q.1 h)) hS1 hl
theorem g_callVVN (ok : gOk s0 a0 D t p R s m meth c A own cc nL ret mn fr lo mc ms) (k : Nat) {y : MethodName} {cy : ByteArray} {mL : Nat} {rt : Option FieldType} {fr' lo' index : Nat} {As : List Value} {host : String} {post : (Nat → va_E) → Prop} (hM : gV s0 a0 D t y cy mL rt fr' lo' ad n ce (.ref (ad k) :: As) post) (hcode : Cond.code y cy mL rt ∈ lw_tbl) (hini : Cond.initialized y.cls ∈ lw_tbl) (hlink : Cond.methodLinkNest own index y host ∈ lw_tbl) {ci : Nat} {q0 : vw_C} {fs : List Value} (hc : vwCl[ci]? = some q0) (hkn : k < n) (he : ce k = .inr (ci, fs)) (hk : Cond.instanceMethod y ∈ lw_tbl) (hsel : Cond.selects q0.1 y y ∈ lw_tbl) (hq : y.cls ≠ "java/lang/invoke/MethodHandle" ∧ y.cls ≠ "java/lang/invoke/VarHandle" ∧ (parseMethodDescriptor y.desc).map (fun d => d.parameters.length) = some As.length) (hR : fr' + 1 ≤ fr ∧ 8 + (mL + 11) + lo' ≤ lo) (hst : (st.map fun v => v.category).sum ≤ 8) (hroom : cells ≤ mc ∧ slots ≤ ms) (hd : decode cc pc = .ok (.invokevirtual index, 3)) (kk : ∀ (ce' : Nat → va_E), post ce' → gW p l e R s m args below meth c Q D A nL gZ cells slots ad n ce' (pc + 3) lv st) : gW p l e R s m args below meth c Q D A nL Z cells slots ad n ce pc lv (As.reverse ++ .ref (ad k) :: st) := by
  intro H locs ls hZ hP hD hS hl
  refine va_callv (va_runVN (As := As) (rest := st) (b := ad k) ⟨ok.x, ok.b, ok.ml, ok.wn, ok.ts (args := args)⟩ (hM ok.g l H.size) ⟨g_cn ok hcode hini hlink hq hR, ok.w hk rfl, ok.w hsel rfl⟩ ⟨gPc_blind, va_recv ok.k hP hc ((wW_get hkn).trans (by rw [he])), g_pre ok hP hD hS⟩ rfl rfl hl.1 rfl (lv_room hst) hd ⟨Nat.le_trans hroom.1 ok.r.2.2.1, Nat.le_trans hroom.2 ok.r.2.2.2⟩) hS (fun q _ h => g_free ok hD hS q h) (g_free ok hD hS) (fun u x H1 locs1 hx1 hvm hw hB hz1 hk1 hS1 => ?_)
  exact kk u hw H1 locs1 ls trivial (by rw [← hx1]; exact hB.1) (hB.2.weaken (fun _ q _ h => g_free ok hD hS q.1 h)) hS1 hl
theorem g_callVJ (ok : gOk s0 a0 D t p R s m meth c A own cc nL ret mn fr lo mc ms) (k : Nat) {y : MethodName} {cy : ByteArray} {mL : Nat} {fr' lo' index : Nat} {As : List Value} {post : (Nat → va_E) → Prop} (hM : gV s0 a0 D t y cy mL none fr' lo' ad n ce (.ref (ad k) :: As) post) (hcode : Cond.code y cy mL none ∈ lw_tbl) (hini : Cond.initialized y.cls ∈ lw_tbl) (hlink : Cond.methodLink own index y ∈ lw_tbl) (hk : Cond.instanceMethod y ∈ lw_tbl) (hnm : y.name = "<init>") (hq : y.cls ≠ "java/lang/invoke/MethodHandle" ∧ y.cls ≠ "java/lang/invoke/VarHandle" ∧ (parseMethodDescriptor y.desc).map (fun d => d.parameters.length) = some As.length) (hR : fr' + 1 ≤ fr ∧ 8 + (mL + 11) + lo' ≤ lo) (hst : (st.map fun v => v.category).sum ≤ 8) (hroom : cells ≤ mc ∧ slots ≤ ms) (hd : decode cc pc = .ok (.invokespecial index, 3)) (kk : ∀ (ce' : Nat → va_E), post ce' → gW p l e R s m args below meth c Q D A nL gZ cells slots ad n ce' (pc + 3) lv st) : gW p l e R s m args below meth c Q D A nL Z cells slots ad n ce pc lv (As.reverse ++ .ref (ad k) :: st) := by
  intro H locs ls hZ hP hD hS hl
  refine va_callv (va_runI (As := As) (rest := st) (b := ad k) ⟨ok.x, ok.b, ok.ml, ok.wn, ok.ts (args := args)⟩ (hM ok.g l H.size) ⟨g_cb ok hcode hini hlink hq hR, hnm, ok.w hk rfl⟩ ⟨gPc_blind, g_pre ok hP hD hS⟩ rfl rfl hl.1 rfl (lv_room hst) hd ⟨Nat.le_trans hroom.1 ok.r.2.2.1, Nat.le_trans hroom.2 ok.r.2.2.2⟩) hS (fun q _ h => g_free ok hD hS q h) (g_free ok hD hS) (fun u x H1 locs1 hx1 hvm hw hB hz1 hk1 hS1 => ?_)
  exact kk u hw H1 locs1 ls trivial (by rw [← hx1]; exact hB.1) (hB.2.weaken (fun _ q _ h => g_free ok hD hS q.1 h)) hS1 hl
theorem g_callVJN (ok : gOk s0 a0 D t p R s m meth c A own cc nL ret mn fr lo mc ms) (k : Nat) {y : MethodName} {cy : ByteArray} {mL : Nat} {fr' lo' index : Nat} {As : List Value} {host : String} {post : (Nat → va_E) → Prop} (hM : gV s0 a0 D t y cy mL none fr' lo' ad n ce (.ref (ad k) :: As) post) (hcode : Cond.code y cy mL none ∈ lw_tbl) (hini : Cond.initialized y.cls ∈ lw_tbl) (hlink : Cond.methodLinkNest own index y host ∈ lw_tbl) (hk : Cond.instanceMethod y ∈ lw_tbl) (hnm : y.name = "<init>") (hq : y.cls ≠ "java/lang/invoke/MethodHandle" ∧ y.cls ≠ "java/lang/invoke/VarHandle" ∧ (parseMethodDescriptor y.desc).map (fun d => d.parameters.length) = some As.length) (hR : fr' + 1 ≤ fr ∧ 8 + (mL + 11) + lo' ≤ lo) (hst : (st.map fun v => v.category).sum ≤ 8) (hroom : cells ≤ mc ∧ slots ≤ ms) (hd : decode cc pc = .ok (.invokespecial index, 3)) (kk : ∀ (ce' : Nat → va_E), post ce' → gW p l e R s m args below meth c Q D A nL gZ cells slots ad n ce' (pc + 3) lv st) : gW p l e R s m args below meth c Q D A nL Z cells slots ad n ce pc lv (As.reverse ++ .ref (ad k) :: st) := by
  intro H locs ls hZ hP hD hS hl
  refine va_callv (va_runIN (As := As) (rest := st) (b := ad k) ⟨ok.x, ok.b, ok.ml, ok.wn, ok.ts (args := args)⟩ (hM ok.g l H.size) ⟨g_cn ok hcode hini hlink hq hR, hnm, ok.w hk rfl⟩ ⟨gPc_blind, g_pre ok hP hD hS⟩ rfl rfl hl.1 rfl (lv_room hst) hd ⟨Nat.le_trans hroom.1 ok.r.2.2.1, Nat.le_trans hroom.2 ok.r.2.2.2⟩) hS (fun q _ h => g_free ok hD hS q h) (g_free ok hD hS) (fun u x H1 locs1 hx1 hvm hw hB hz1 hk1 hS1 => ?_)
  exact kk u hw H1 locs1 ls trivial (by rw [← hx1]; exact hB.1) (hB.2.weaken (fun _ q _ h => g_free ok hD hS q.1 h)) hS1 hl
theorem g_callNS (ok : gOk s0 a0 D t p R s m meth c A own cc nL ret mn fr lo mc ms) {y : MethodName} {cy : ByteArray} {mL : Nat} {rt : Option FieldType} {fr' lo' index : Nat} {As : List Value} {mc' ms' n' : Nat} {post : (Nat → Nat) → (Nat → va_E) → Prop} (hM : gN s0 a0 D t y cy mL rt fr' lo' mc' ms' ad n ce (As) n' post) (hcode : Cond.code y cy mL rt ∈ lw_tbl) (hini : Cond.initialized y.cls ∈ lw_tbl) (hlink : Cond.methodLink own index y ∈ lw_tbl) (hk : Cond.static y ∈ lw_tbl) (hq : y.cls ≠ "java/lang/invoke/MethodHandle" ∧ y.cls ≠ "java/lang/invoke/VarHandle" ∧ (parseMethodDescriptor y.desc).map (fun d => d.parameters.length) = some As.length) (hR : fr' + 1 ≤ fr ∧ 8 + (mL + 11) + lo' ≤ lo) (hst : (st.map fun v => v.category).sum ≤ 8) (hroom : cells + mc' ≤ mc ∧ slots + ms' ≤ ms) (hd : decode cc pc = .ok (.invokestatic index, 3)) (kk : ∀ (ad' : Nat → Nat) (ce' : Nat → va_E), post ad' ce' → gW p l e R s m args below meth c Q D A nL gZ (cells + mc') (slots + ms') ad' n' ce' (pc + 3) lv st) : gW p l e R s m args below meth c Q D A nL Z cells slots ad n ce pc lv (As.reverse ++ st) := by
  intro H locs ls hZ hP hD hS hl
  refine va_callv (va_runS (As := As) (rest := st) ⟨ok.x, ok.b, ok.ml, ok.wn, ok.ts (args := args)⟩ (hM ok.g l H.size) ⟨g_cb ok hcode hini hlink hq hR, ok.w hk rfl⟩ ⟨gPc_blind, g_pre ok hP hD hS⟩ rfl rfl hl.1 rfl (lv_room hst) hd ⟨Nat.le_trans hroom.1 ok.r.2.2.1, Nat.le_trans hroom.2 ok.r.2.2.2⟩) hS (fun q _ h => g_free ok hD hS q h) (g_free ok hD hS) (fun u x H1 locs1 hx1 hvm hw hB hz1 hk1 hS1 => ?_)
  exact kk u.1 u.2 hw H1 locs1 ls trivial (by rw [← hx1]; exact hB.1) (hB.2.weaken (fun _ q _ h => g_free ok hD hS q.1 h)) hS1 hl
theorem g_callNSN (ok : gOk s0 a0 D t p R s m meth c A own cc nL ret mn fr lo mc ms) {y : MethodName} {cy : ByteArray} {mL : Nat} {rt : Option FieldType} {fr' lo' index : Nat} {As : List Value} {mc' ms' n' : Nat} {host : String} {post : (Nat → Nat) → (Nat → va_E) → Prop} (hM : gN s0 a0 D t y cy mL rt fr' lo' mc' ms' ad n ce (As) n' post) (hcode : Cond.code y cy mL rt ∈ lw_tbl) (hini : Cond.initialized y.cls ∈ lw_tbl) (hlink : Cond.methodLinkNest own index y host ∈ lw_tbl) (hk : Cond.static y ∈ lw_tbl) (hq : y.cls ≠ "java/lang/invoke/MethodHandle" ∧ y.cls ≠ "java/lang/invoke/VarHandle" ∧ (parseMethodDescriptor y.desc).map (fun d => d.parameters.length) = some As.length) (hR : fr' + 1 ≤ fr ∧ 8 + (mL + 11) + lo' ≤ lo) (hst : (st.map fun v => v.category).sum ≤ 8) (hroom : cells + mc' ≤ mc ∧ slots + ms' ≤ ms) (hd : decode cc pc = .ok (.invokestatic index, 3)) (kk : ∀ (ad' : Nat → Nat) (ce' : Nat → va_E), post ad' ce' → gW p l e R s m args below meth c Q D A nL gZ (cells + mc') (slots + ms') ad' n' ce' (pc + 3) lv st) : gW p l e R s m args below meth c Q D A nL Z cells slots ad n ce pc lv (As.reverse ++ st) := by
  intro H locs ls hZ hP hD hS hl
  refine va_callv (va_runSN (As := As) (rest := st) ⟨ok.x, ok.b, ok.ml, ok.wn, ok.ts (args := args)⟩ (hM ok.g l H.size) ⟨g_cn ok hcode hini hlink hq hR, ok.w hk rfl, trivial⟩ ⟨gPc_blind, g_pre ok hP hD hS⟩ rfl rfl hl.1 rfl (lv_room hst) hd ⟨Nat.le_trans hroom.1 ok.r.2.2.1, Nat.le_trans hroom.2 ok.r.2.2.2⟩) hS (fun q _ h => g_free ok hD hS q h) (g_free ok hD hS) (fun u x H1 locs1 hx1 hvm hw hB hz1 hk1 hS1 => ?_)
  exact kk u.1 u.2 hw H1 locs1 ls trivial (by rw [← hx1]; exact hB.1) (hB.2.weaken (fun _ q _ h => g_free ok hD hS q.1 h)) hS1 hl
theorem g_callNV (ok : gOk s0 a0 D t p R s m meth c A own cc nL ret mn fr lo mc ms) (k : Nat) {y : MethodName} {cy : ByteArray} {mL : Nat} {rt : Option FieldType} {fr' lo' index : Nat} {As : List Value} {mc' ms' n' : Nat} {post : (Nat → Nat) → (Nat → va_E) → Prop} (hM : gN s0 a0 D t y cy mL rt fr' lo' mc' ms' ad n ce (.ref (ad k) :: As) n' post) (hcode : Cond.code y cy mL rt ∈ lw_tbl) (hini : Cond.initialized y.cls ∈ lw_tbl) (hlink : Cond.methodLink own index y ∈ lw_tbl) {ci : Nat} {q0 : vw_C} {fs : List Value} (hc : vwCl[ci]? = some q0) (hkn : k < n) (he : ce k = .inr (ci, fs)) (hk : Cond.instanceMethod y ∈ lw_tbl) (hsel : Cond.selects q0.1 y y ∈ lw_tbl) (hq : y.cls ≠ "java/lang/invoke/MethodHandle" ∧ y.cls ≠ "java/lang/invoke/VarHandle" ∧ (parseMethodDescriptor y.desc).map (fun d => d.parameters.length) = some As.length) (hR : fr' + 1 ≤ fr ∧ 8 + (mL + 11) + lo' ≤ lo) (hst : (st.map fun v => v.category).sum ≤ 8) (hroom : cells + mc' ≤ mc ∧ slots + ms' ≤ ms) (hd : decode cc pc = .ok (.invokevirtual index, 3)) (kk : ∀ (ad' : Nat → Nat) (ce' : Nat → va_E), post ad' ce' → gW p l e R s m args below meth c Q D A nL gZ (cells + mc') (slots + ms') ad' n' ce' (pc + 3) lv st) : gW p l e R s m args below meth c Q D A nL Z cells slots ad n ce pc lv (As.reverse ++ .ref (ad k) :: st) := by
  intro H locs ls hZ hP hD hS hl
  refine va_callv (va_runV (As := As) (rest := st) (b := ad k) ⟨ok.x, ok.b, ok.ml, ok.wn, ok.ts (args := args)⟩ (hM ok.g l H.size) ⟨g_cb ok hcode hini hlink hq hR, ok.w hk rfl, ok.w hsel rfl⟩ ⟨gPc_blind, va_recv ok.k hP hc ((wW_get hkn).trans (by rw [he])), g_pre ok hP hD hS⟩ rfl rfl hl.1 rfl (lv_room hst) hd ⟨Nat.le_trans hroom.1 ok.r.2.2.1, Nat.le_trans hroom.2 ok.r.2.2.2⟩) hS (fun q _ h => g_free ok hD hS q h) (g_free ok hD hS) (fun u x H1 locs1 hx1 hvm hw hB hz1 hk1 hS1 => ?_)
  exact kk u.1 u.2 hw H1 locs1 ls trivial (by rw [← hx1]; exact hB.1) (hB.2.weaken (fun _ q _ h => g_free ok hD hS q.1 h)) hS1 hl
theorem g_callNVN (ok : gOk s0 a0 D t p R s m meth c A own cc nL ret mn fr lo mc ms) (k : Nat) {y : MethodName} {cy : ByteArray} {mL : Nat} {rt : Option FieldType} {fr' lo' index : Nat} {As : List Value} {mc' ms' n' : Nat} {host : String} {post : (Nat → Nat) → (Nat → va_E) → Prop} (hM : gN s0 a0 D t y cy mL rt fr' lo' mc' ms' ad n ce (.ref (ad k) :: As) n' post) (hcode : Cond.code y cy mL rt ∈ lw_tbl) (hini : Cond.initialized y.cls ∈ lw_tbl) (hlink : Cond.methodLinkNest own index y host ∈ lw_tbl) {ci : Nat} {q0 : vw_C} {fs : List Value} (hc : vwCl[ci]? = some q0) (hkn : k < n) (he : ce k = .inr (ci, fs)) (hk : Cond.instanceMethod y ∈ lw_tbl) (hsel : Cond.selects q0.1 y y ∈ lw_tbl) (hq : y.cls ≠ "java/lang/invoke/MethodHandle" ∧ y.cls ≠ "java/lang/invoke/VarHandle" ∧ (parseMethodDescriptor y.desc).map (fun d => d.parameters.length) = some As.length) (hR : fr' + 1 ≤ fr ∧ 8 + (mL + 11) + lo' ≤ lo) (hst : (st.map fun v => v.category).sum ≤ 8) (hroom : cells + mc' ≤ mc ∧ slots + ms' ≤ ms) (hd : decode cc pc = .ok (.invokevirtual index, 3)) (kk : ∀ (ad' : Nat → Nat) (ce' : Nat → va_E), post ad' ce' → gW p l e R s m args below meth c Q D A nL gZ (cells + mc') (slots + ms') ad' n' ce' (pc + 3) lv st) : gW p l e R s m args below meth c Q D A nL Z cells slots ad n ce pc lv (As.reverse ++ .ref (ad k) :: st) := by
  intro H locs ls hZ hP hD hS hl
  refine va_callv (va_runVN (As := As) (rest := st) (b := ad k) ⟨ok.x, ok.b, ok.ml, ok.wn, ok.ts (args := args)⟩ (hM ok.g l H.size) ⟨g_cn ok hcode hini hlink hq hR, ok.w hk rfl, ok.w hsel rfl⟩ ⟨gPc_blind, va_recv ok.k hP hc ((wW_get hkn).trans (by rw [he])), g_pre ok hP hD hS⟩ rfl rfl hl.1 rfl (lv_room hst) hd ⟨Nat.le_trans hroom.1 ok.r.2.2.1, Nat.le_trans hroom.2 ok.r.2.2.2⟩) hS (fun q _ h => g_free ok hD hS q h) (g_free ok hD hS) (fun u x H1 locs1 hx1 hvm hw hB hz1 hk1 hS1 => ?_)
  exact kk u.1 u.2 hw H1 locs1 ls trivial (by rw [← hx1]; exact hB.1) (hB.2.weaken (fun _ q _ h => g_free ok hD hS q.1 h)) hS1 hl
theorem g_callNJ (ok : gOk s0 a0 D t p R s m meth c A own cc nL ret mn fr lo mc ms) (k : Nat) {y : MethodName} {cy : ByteArray} {mL : Nat} {fr' lo' index : Nat} {As : List Value} {mc' ms' n' : Nat} {post : (Nat → Nat) → (Nat → va_E) → Prop} (hM : gN s0 a0 D t y cy mL none fr' lo' mc' ms' ad n ce (.ref (ad k) :: As) n' post) (hcode : Cond.code y cy mL none ∈ lw_tbl) (hini : Cond.initialized y.cls ∈ lw_tbl) (hlink : Cond.methodLink own index y ∈ lw_tbl) (hk : Cond.instanceMethod y ∈ lw_tbl) (hnm : y.name = "<init>") (hq : y.cls ≠ "java/lang/invoke/MethodHandle" ∧ y.cls ≠ "java/lang/invoke/VarHandle" ∧ (parseMethodDescriptor y.desc).map (fun d => d.parameters.length) = some As.length) (hR : fr' + 1 ≤ fr ∧ 8 + (mL + 11) + lo' ≤ lo) (hst : (st.map fun v => v.category).sum ≤ 8) (hroom : cells + mc' ≤ mc ∧ slots + ms' ≤ ms) (hd : decode cc pc = .ok (.invokespecial index, 3)) (kk : ∀ (ad' : Nat → Nat) (ce' : Nat → va_E), post ad' ce' → gW p l e R s m args below meth c Q D A nL gZ (cells + mc') (slots + ms') ad' n' ce' (pc + 3) lv st) : gW p l e R s m args below meth c Q D A nL Z cells slots ad n ce pc lv (As.reverse ++ .ref (ad k) :: st) := by
  intro H locs ls hZ hP hD hS hl
  refine va_callv (va_runI (As := As) (rest := st) (b := ad k) ⟨ok.x, ok.b, ok.ml, ok.wn, ok.ts (args := args)⟩ (hM ok.g l H.size) ⟨g_cb ok hcode hini hlink hq hR, hnm, ok.w hk rfl⟩ ⟨gPc_blind, g_pre ok hP hD hS⟩ rfl rfl hl.1 rfl (lv_room hst) hd ⟨Nat.le_trans hroom.1 ok.r.2.2.1, Nat.le_trans hroom.2 ok.r.2.2.2⟩) hS (fun q _ h => g_free ok hD hS q h) (g_free ok hD hS) (fun u x H1 locs1 hx1 hvm hw hB hz1 hk1 hS1 => ?_)
  exact kk u.1 u.2 hw H1 locs1 ls trivial (by rw [← hx1]; exact hB.1) (hB.2.weaken (fun _ q _ h => g_free ok hD hS q.1 h)) hS1 hl
theorem g_callNJN (ok : gOk s0 a0 D t p R s m meth c A own cc nL ret mn fr lo mc ms) (k : Nat) {y : MethodName} {cy : ByteArray} {mL : Nat} {fr' lo' index : Nat} {As : List Value} {mc' ms' n' : Nat} {host : String} {post : (Nat → Nat) → (Nat → va_E) → Prop} (hM : gN s0 a0 D t y cy mL none fr' lo' mc' ms' ad n ce (.ref (ad k) :: As) n' post) (hcode : Cond.code y cy mL none ∈ lw_tbl) (hini : Cond.initialized y.cls ∈ lw_tbl) (hlink : Cond.methodLinkNest own index y host ∈ lw_tbl) (hk : Cond.instanceMethod y ∈ lw_tbl) (hnm : y.name = "<init>") (hq : y.cls ≠ "java/lang/invoke/MethodHandle" ∧ y.cls ≠ "java/lang/invoke/VarHandle" ∧ (parseMethodDescriptor y.desc).map (fun d => d.parameters.length) = some As.length) (hR : fr' + 1 ≤ fr ∧ 8 + (mL + 11) + lo' ≤ lo) (hst : (st.map fun v => v.category).sum ≤ 8) (hroom : cells + mc' ≤ mc ∧ slots + ms' ≤ ms) (hd : decode cc pc = .ok (.invokespecial index, 3)) (kk : ∀ (ad' : Nat → Nat) (ce' : Nat → va_E), post ad' ce' → gW p l e R s m args below meth c Q D A nL gZ (cells + mc') (slots + ms') ad' n' ce' (pc + 3) lv st) : gW p l e R s m args below meth c Q D A nL Z cells slots ad n ce pc lv (As.reverse ++ .ref (ad k) :: st) := by
  intro H locs ls hZ hP hD hS hl
  refine va_callv (va_runIN (As := As) (rest := st) (b := ad k) ⟨ok.x, ok.b, ok.ml, ok.wn, ok.ts (args := args)⟩ (hM ok.g l H.size) ⟨g_cn ok hcode hini hlink hq hR, hnm, ok.w hk rfl⟩ ⟨gPc_blind, g_pre ok hP hD hS⟩ rfl rfl hl.1 rfl (lv_room hst) hd ⟨Nat.le_trans hroom.1 ok.r.2.2.1, Nat.le_trans hroom.2 ok.r.2.2.2⟩) hS (fun q _ h => g_free ok hD hS q h) (g_free ok hD hS) (fun u x H1 locs1 hx1 hvm hw hB hz1 hk1 hS1 => ?_)
  exact kk u.1 u.2 hw H1 locs1 ls trivial (by rw [← hx1]; exact hB.1) (hB.2.weaken (fun _ q _ h => g_free ok hD hS q.1 h)) hS1 hl
end GR
end
section
/-! methods that only read: the heap comes back as it was -/
section GP
variable {s0 : State} {a0 : Array Value} {D : va_G} {t : Nat → ClassId} {p : Program} {l : Launch} {e : Env} {R : Room} {s : State} {m : MethodId} {args : Array Value} {below : List Frame} {meth : Method} {c : Code} {Q : State → Prop} {Z : Heap → List Loc → Prop} {A : Nat → Prop} {own : String} {cc : ByteArray} {nL : Nat} {ret : Option FieldType} {mn : String} {fr lo mc ms : Nat} {cells slots : Nat} {ad : Nat → Nat} {n : Nat} {ce : Nat → va_E} {pc : Nat} {lv lv' : List (Nat × Value)} {st : List Value}
theorem g_z (kk : gW p l e R s m args below meth c Q D A nL gZ cells slots ad n ce pc lv st) : gW p l e R s m args below meth c Q D A nL Z cells slots ad n ce pc lv st :=
  fun H locs ls _ hP hD hS hl => kk H locs ls trivial hP hD hS hl
def gQp (post : Int → Prop) : Array Value → State → Outcome → State → Prop := fun _ st oc u => ∃ z : Int, oc = .returned (some (.int (iI z))) ∧ post z ∧ u.heap = st.heap
def gP (s0 : State) (a0 : Array Value) (D : va_G) (t : Nat → ClassId) (y : MethodName) (cc : ByteArray) (mL : Nat) (ret : Option FieldType) (fr lo : Nat) (ad : Nat → Nat) (n : Nat) (ce : Nat → va_E) (av : List Value) (post : Int → Prop) : Prop :=
  gG s0 a0 D t → ∀ (l : Launch) (sz : Nat), Met l y [.code y cc mL ret] (gRm fr lo 0 0) (va_Pc av (gPc s0 D ad n ce sz)) (gQp post) 0 0 (fun _ => False)
theorem g_startP {y : MethodName} {cy : ByteArray} {mL : Nat} {rt : Option FieldType} {fr lo : Nat} {av : List Value} {post : Int → Prop} (hy : plainName y.cls = true) (hav : (lg_sl av).length ≤ mL)
    (body : ∀ (p : Program) (l : Launch) (e : Env) (R : Room) (s : State) (m : MethodId) (args : Array Value) (below : List Frame) (meth : Method) (c : Code) (A : Nat → Prop), gOk s0 a0 D t p R s m meth c A y.cls cy mL rt y.name fr lo 0 0 →
      gW p l e R s m args below meth c (MQ below (gQp post) args s 0 0 (fun _ => False)) D A mL (gZ0 s) 0 0 ad n ce 0 (lv_args 0 av) []) : gP s0 a0 D t y cy mL rt fr lo ad n ce av post := by
  intro hG l sz
  refine g_entry hG hy hav ?_
  intro p e s m below meth c A hsz hA ok
  exact body p l e _ s m _ below meth c _ ok
theorem g_ipret {post : Int → Prop} (ok : gOk s0 a0 D t p R s m meth c A own cc nL (some .int) mn fr lo mc ms) (hd : decode cc pc = .ok (.ireturn, 1)) {z : Int} (h : post z) : gW p l e R s m args below meth c (MQ below (gQp post) args s cells slots (fun _ => False)) D A nL (gZ0 s) cells slots ad n ce pc lv [.int (iI z)] :=
  fun H locs ls hZ hP hD hS hl => W.iret ok.x ok.b ok.rt (fun u hu hW => ⟨z, rfl, h, by rw [hu, hZ.1]⟩) (fun q hq => by rw [hZ.2] at hq; cases hq) hd ok.lk
theorem g_zpret {post : Int → Prop} (ok : gOk s0 a0 D t p R s m meth c A own cc nL (some .boolean) mn fr lo mc ms) (hd : decode cc pc = .ok (.ireturn, 1)) {z : Int} (hz : z = 0 ∨ z = 1) (h : post z) : gW p l e R s m args below meth c (MQ below (gQp post) args s cells slots (fun _ => False)) D A nL (gZ0 s) cells slots ad n ce pc lv [.int (iI z)] :=
  fun H locs ls hZ hP hD hS hl => W.zret ok.x ok.b ok.rt (narrow_bool hz) (fun u hu hW => ⟨z, rfl, h, by rw [hu, hZ.1]⟩) (fun q hq => by rw [hZ.2] at hq; cases hq) hd ok.lk
theorem g_runp {st0 : List Value} {a : Array Value} {post : Int → Prop} (hr : ∀ (H : Heap) (locs : List Loc) (ls : Array Slot), va_P D vwCl (wW ad n ce) H → va_D A (wW ad n ce) → va_S A s.heap H locs → lv_has ls nL lv → va_Run p l e R s m args below meth c H locs cells slots 0 0 (F0 m pc ls st0) st (gQp post a) (fun _ => False))
    (kk : ∀ z : Int, post z → gW p l e R s m args below meth c Q D A nL Z cells slots ad n ce (pc + 3) lv (.int (iI z) :: st)) : gW p l e R s m args below meth c Q D A nL Z cells slots ad n ce pc lv st0 := by
  intro H locs ls hZ hP hD hS hl T hT X
  obtain ⟨v, st₀, u, T', L, h0, X', hL, e1, e2, ⟨z, hv, hp, hh⟩, go⟩ := hr H locs ls hP hD hS hl T hT X
  cases hv
  obtain ⟨t2, a1, b1⟩ := kk z hp H locs ls hZ hP hD hS hl T' (by rw [e1, hh, h0]) (Stand.forget X' (fun q h => (hL q h).elim))
  exact ⟨t2, go t2 a1, b1⟩
theorem g_callPS (ok : gOk s0 a0 D t p R s m meth c A own cc nL ret mn fr lo mc ms) {y : MethodName} {cy : ByteArray} {mL : Nat} {rt : Option FieldType} {fr' lo' index : Nat} {As : List Value} {post : Int → Prop} (hM : gP s0 a0 D t y cy mL rt fr' lo' ad n ce (As) post) (hcode : Cond.code y cy mL rt ∈ lw_tbl) (hini : Cond.initialized y.cls ∈ lw_tbl) (hlink : Cond.methodLink own index y ∈ lw_tbl) (hk : Cond.static y ∈ lw_tbl) (hq : y.cls ≠ "java/lang/invoke/MethodHandle" ∧ y.cls ≠ "java/lang/invoke/VarHandle" ∧ (parseMethodDescriptor y.desc).map (fun d => d.parameters.length) = some As.length) (hR : fr' + 1 ≤ fr ∧ 8 + (mL + 11) + lo' ≤ lo) (hst : (st.map fun v => v.category).sum ≤ 8) (hroom : cells ≤ mc ∧ slots ≤ ms) (hd : decode cc pc = .ok (.invokestatic index, 3)) (kk : ∀ z : Int, post z → gW p l e R s m args below meth c Q D A nL Z cells slots ad n ce (pc + 3) lv (.int (iI z) :: st)) : gW p l e R s m args below meth c Q D A nL Z cells slots ad n ce pc lv (As.reverse ++ st) :=
  g_runp (fun H locs ls hP hD hS hl => va_runS (As := As) (rest := st) ⟨ok.x, ok.b, ok.ml, ok.wn, ok.ts (args := args)⟩ (hM ok.g l H.size) ⟨g_cb ok hcode hini hlink hq hR, ok.w hk rfl⟩ ⟨gPc_blind, g_pre ok hP hD hS⟩ rfl rfl hl.1 rfl (lv_room hst) hd ⟨Nat.le_trans hroom.1 ok.r.2.2.1, Nat.le_trans hroom.2 ok.r.2.2.2⟩) kk
theorem g_callPSN (ok : gOk s0 a0 D t p R s m meth c A own cc nL ret mn fr lo mc ms) {y : MethodName} {cy : ByteArray} {mL : Nat} {rt : Option FieldType} {fr' lo' index : Nat} {As : List Value} {host : String} {post : Int → Prop} (hM : gP s0 a0 D t y cy mL rt fr' lo' ad n ce (As) post) (hcode : Cond.code y cy mL rt ∈ lw_tbl) (hini : Cond.initialized y.cls ∈ lw_tbl) (hlink : Cond.methodLinkNest own index y host ∈ lw_tbl) (hk : Cond.static y ∈ lw_tbl) (hq : y.cls ≠ "java/lang/invoke/MethodHandle" ∧ y.cls ≠ "java/lang/invoke/VarHandle" ∧ (parseMethodDescriptor y.desc).map (fun d => d.parameters.length) = some As.length) (hR : fr' + 1 ≤ fr ∧ 8 + (mL + 11) + lo' ≤ lo) (hst : (st.map fun v => v.category).sum ≤ 8) (hroom : cells ≤ mc ∧ slots ≤ ms) (hd : decode cc pc = .ok (.invokestatic index, 3)) (kk : ∀ z : Int, post z → gW p l e R s m args below meth c Q D A nL Z cells slots ad n ce (pc + 3) lv (.int (iI z) :: st)) : gW p l e R s m args below meth c Q D A nL Z cells slots ad n ce pc lv (As.reverse ++ st) :=
  g_runp (fun H locs ls hP hD hS hl => va_runSN (As := As) (rest := st) ⟨ok.x, ok.b, ok.ml, ok.wn, ok.ts (args := args)⟩ (hM ok.g l H.size) ⟨g_cn ok hcode hini hlink hq hR, ok.w hk rfl, trivial⟩ ⟨gPc_blind, g_pre ok hP hD hS⟩ rfl rfl hl.1 rfl (lv_room hst) hd ⟨Nat.le_trans hroom.1 ok.r.2.2.1, Nat.le_trans hroom.2 ok.r.2.2.2⟩) kk
theorem g_callPV (ok : gOk s0 a0 D t p R s m meth c A own cc nL ret mn fr lo mc ms) (k : Nat) {y : MethodName} {cy : ByteArray} {mL : Nat} {rt : Option FieldType} {fr' lo' index : Nat} {As : List Value} {post : Int → Prop} (hM : gP s0 a0 D t y cy mL rt fr' lo' ad n ce (.ref (ad k) :: As) post) (hcode : Cond.code y cy mL rt ∈ lw_tbl) (hini : Cond.initialized y.cls ∈ lw_tbl) (hlink : Cond.methodLink own index y ∈ lw_tbl) {ci : Nat} {q0 : vw_C} {fs : List Value} (hc : vwCl[ci]? = some q0) (hkn : k < n) (he : ce k = .inr (ci, fs)) (hk : Cond.instanceMethod y ∈ lw_tbl) (hsel : Cond.selects q0.1 y y ∈ lw_tbl) (hq : y.cls ≠ "java/lang/invoke/MethodHandle" ∧ y.cls ≠ "java/lang/invoke/VarHandle" ∧ (parseMethodDescriptor y.desc).map (fun d => d.parameters.length) = some As.length) (hR : fr' + 1 ≤ fr ∧ 8 + (mL + 11) + lo' ≤ lo) (hst : (st.map fun v => v.category).sum ≤ 8) (hroom : cells ≤ mc ∧ slots ≤ ms) (hd : decode cc pc = .ok (.invokevirtual index, 3)) (kk : ∀ z : Int, post z → gW p l e R s m args below meth c Q D A nL Z cells slots ad n ce (pc + 3) lv (.int (iI z) :: st)) : gW p l e R s m args below meth c Q D A nL Z cells slots ad n ce pc lv (As.reverse ++ .ref (ad k) :: st) :=
  g_runp (fun H locs ls hP hD hS hl => va_runV (As := As) (rest := st) (b := ad k) ⟨ok.x, ok.b, ok.ml, ok.wn, ok.ts (args := args)⟩ (hM ok.g l H.size) ⟨g_cb ok hcode hini hlink hq hR, ok.w hk rfl, ok.w hsel rfl⟩ ⟨gPc_blind, va_recv ok.k hP hc ((wW_get hkn).trans (by rw [he])), g_pre ok hP hD hS⟩ rfl rfl hl.1 rfl (lv_room hst) hd ⟨Nat.le_trans hroom.1 ok.r.2.2.1, Nat.le_trans hroom.2 ok.r.2.2.2⟩) kk
theorem g_callPVN (ok : gOk s0 a0 D t p R s m meth c A own cc nL ret mn fr lo mc ms) (k : Nat) {y : MethodName} {cy : ByteArray} {mL : Nat} {rt : Option FieldType} {fr' lo' index : Nat} {As : List Value} {host : String} {post : Int → Prop} (hM : gP s0 a0 D t y cy mL rt fr' lo' ad n ce (.ref (ad k) :: As) post) (hcode : Cond.code y cy mL rt ∈ lw_tbl) (hini : Cond.initialized y.cls ∈ lw_tbl) (hlink : Cond.methodLinkNest own index y host ∈ lw_tbl) {ci : Nat} {q0 : vw_C} {fs : List Value} (hc : vwCl[ci]? = some q0) (hkn : k < n) (he : ce k = .inr (ci, fs)) (hk : Cond.instanceMethod y ∈ lw_tbl) (hsel : Cond.selects q0.1 y y ∈ lw_tbl) (hq : y.cls ≠ "java/lang/invoke/MethodHandle" ∧ y.cls ≠ "java/lang/invoke/VarHandle" ∧ (parseMethodDescriptor y.desc).map (fun d => d.parameters.length) = some As.length) (hR : fr' + 1 ≤ fr ∧ 8 + (mL + 11) + lo' ≤ lo) (hst : (st.map fun v => v.category).sum ≤ 8) (hroom : cells ≤ mc ∧ slots ≤ ms) (hd : decode cc pc = .ok (.invokevirtual index, 3)) (kk : ∀ z : Int, post z → gW p l e R s m args below meth c Q D A nL Z cells slots ad n ce (pc + 3) lv (.int (iI z) :: st)) : gW p l e R s m args below meth c Q D A nL Z cells slots ad n ce pc lv (As.reverse ++ .ref (ad k) :: st) :=
  g_runp (fun H locs ls hP hD hS hl => va_runVN (As := As) (rest := st) (b := ad k) ⟨ok.x, ok.b, ok.ml, ok.wn, ok.ts (args := args)⟩ (hM ok.g l H.size) ⟨g_cn ok hcode hini hlink hq hR, ok.w hk rfl, ok.w hsel rfl⟩ ⟨gPc_blind, va_recv ok.k hP hc ((wW_get hkn).trans (by rw [he])), g_pre ok hP hD hS⟩ rfl rfl hl.1 rfl (lv_room hst) hd ⟨Nat.le_trans hroom.1 ok.r.2.2.1, Nat.le_trans hroom.2 ok.r.2.2.2⟩) kk
end GP
end
section
theorem gTb_in {w : Cond} (h : w ∈ lw_tbl) (hg : goodWord w = true) : w ∈ gTb := List.mem_filter.mpr ⟨h, hg⟩
theorem in_Dk : ∀ w ∈ u_ws R_Dk T_Dk 11, w ∈ gTb := List.forall_mem_cons.mpr ⟨gTb_in k_328 rfl, List.forall_mem_cons.mpr ⟨gTb_in k_330 rfl, List.forall_mem_cons.mpr ⟨gTb_in k_332 rfl, List.forall_mem_cons.mpr ⟨gTb_in k_334 rfl, List.forall_mem_cons.mpr ⟨gTb_in k_336 rfl, List.forall_mem_cons.mpr ⟨gTb_in k_338 rfl, List.forall_mem_cons.mpr ⟨gTb_in k_340 rfl, List.forall_mem_cons.mpr ⟨gTb_in k_342 rfl, List.forall_mem_cons.mpr ⟨gTb_in k_344 rfl, List.forall_mem_cons.mpr ⟨gTb_in k_346 rfl, List.forall_mem_cons.mpr ⟨gTb_in k_348 rfl, fun _ h => absurd h List.not_mem_nil⟩⟩⟩⟩⟩⟩⟩⟩⟩⟩⟩
theorem in_Sh : ∀ w ∈ u_ws R_Sh T_Sh 11, w ∈ gTb := List.forall_mem_cons.mpr ⟨gTb_in k_125 rfl, List.forall_mem_cons.mpr ⟨gTb_in k_127 rfl, List.forall_mem_cons.mpr ⟨gTb_in k_129 rfl, List.forall_mem_cons.mpr ⟨gTb_in k_131 rfl, List.forall_mem_cons.mpr ⟨gTb_in k_133 rfl, List.forall_mem_cons.mpr ⟨gTb_in k_135 rfl, List.forall_mem_cons.mpr ⟨gTb_in k_137 rfl, List.forall_mem_cons.mpr ⟨gTb_in k_139 rfl, List.forall_mem_cons.mpr ⟨gTb_in k_141 rfl, List.forall_mem_cons.mpr ⟨gTb_in k_143 rfl, List.forall_mem_cons.mpr ⟨gTb_in k_145 rfl, fun _ h => absurd h List.not_mem_nil⟩⟩⟩⟩⟩⟩⟩⟩⟩⟩⟩
theorem in_Rg : ∀ w ∈ u_ws R_Rg T_Rg 3, w ∈ gTb := List.forall_mem_cons.mpr ⟨gTb_in k_60 rfl, List.forall_mem_cons.mpr ⟨gTb_in k_62 rfl, List.forall_mem_cons.mpr ⟨gTb_in k_64 rfl, fun _ h => absurd h List.not_mem_nil⟩⟩⟩
theorem in_Ty : ∀ w ∈ u_ws R_Ty T_Ty 2, w ∈ gTb := List.forall_mem_cons.mpr ⟨gTb_in k_78 rfl, List.forall_mem_cons.mpr ⟨gTb_in k_80 rfl, fun _ h => absurd h List.not_mem_nil⟩⟩
theorem in_In : ∀ w ∈ u_ws R_In T_In 9, w ∈ gTb := List.forall_mem_cons.mpr ⟨gTb_in k_166 rfl, List.forall_mem_cons.mpr ⟨gTb_in k_168 rfl, List.forall_mem_cons.mpr ⟨gTb_in k_170 rfl, List.forall_mem_cons.mpr ⟨gTb_in k_172 rfl, List.forall_mem_cons.mpr ⟨gTb_in k_174 rfl, List.forall_mem_cons.mpr ⟨gTb_in k_176 rfl, List.forall_mem_cons.mpr ⟨gTb_in k_178 rfl, List.forall_mem_cons.mpr ⟨gTb_in k_180 rfl, List.forall_mem_cons.mpr ⟨gTb_in k_182 rfl, fun _ h => absurd h List.not_mem_nil⟩⟩⟩⟩⟩⟩⟩⟩⟩
theorem in_Rt : ∀ w ∈ u_ws R_Rt T_Rt 1, w ∈ gTb := List.forall_mem_cons.mpr ⟨gTb_in k_241 rfl, fun _ h => absurd h List.not_mem_nil⟩
theorem in_Hl : ∀ w ∈ u_ws R_Hl T_Hl 13, w ∈ gTb := List.forall_mem_cons.mpr ⟨gTb_in k_213 rfl, List.forall_mem_cons.mpr ⟨gTb_in k_215 rfl, List.forall_mem_cons.mpr ⟨gTb_in k_217 rfl, List.forall_mem_cons.mpr ⟨gTb_in k_219 rfl, List.forall_mem_cons.mpr ⟨gTb_in k_221 rfl, List.forall_mem_cons.mpr ⟨gTb_in k_223 rfl, List.forall_mem_cons.mpr ⟨gTb_in k_225 rfl, List.forall_mem_cons.mpr ⟨gTb_in k_227 rfl, List.forall_mem_cons.mpr ⟨gTb_in k_229 rfl, List.forall_mem_cons.mpr ⟨gTb_in k_231 rfl, List.forall_mem_cons.mpr ⟨gTb_in k_233 rfl, List.forall_mem_cons.mpr ⟨gTb_in k_235 rfl, List.forall_mem_cons.mpr ⟨gTb_in k_237 rfl, fun _ h => absurd h List.not_mem_nil⟩⟩⟩⟩⟩⟩⟩⟩⟩⟩⟩⟩⟩
theorem in_Pm : ∀ w ∈ u_ws R_Pm T_Pm 7, w ∈ gTb := List.forall_mem_cons.mpr ⟨gTb_in k_277 rfl, List.forall_mem_cons.mpr ⟨gTb_in k_279 rfl, List.forall_mem_cons.mpr ⟨gTb_in k_281 rfl, List.forall_mem_cons.mpr ⟨gTb_in k_283 rfl, List.forall_mem_cons.mpr ⟨gTb_in k_285 rfl, List.forall_mem_cons.mpr ⟨gTb_in k_287 rfl, List.forall_mem_cons.mpr ⟨gTb_in k_289 rfl, fun _ h => absurd h List.not_mem_nil⟩⟩⟩⟩⟩⟩⟩
theorem in_Pa : ∀ w ∈ u_ws R_Pa T_Pa 3, w ∈ gTb := List.forall_mem_cons.mpr ⟨gTb_in k_262 rfl, List.forall_mem_cons.mpr ⟨gTb_in k_264 rfl, List.forall_mem_cons.mpr ⟨gTb_in k_266 rfl, fun _ h => absurd h List.not_mem_nil⟩⟩⟩
theorem in_Pl : ∀ w ∈ u_ws R_Pl T_Pl 6, w ∈ gTb := List.forall_mem_cons.mpr ⟨gTb_in k_304 rfl, List.forall_mem_cons.mpr ⟨gTb_in k_306 rfl, List.forall_mem_cons.mpr ⟨gTb_in k_308 rfl, List.forall_mem_cons.mpr ⟨gTb_in k_310 rfl, List.forall_mem_cons.mpr ⟨gTb_in k_312 rfl, List.forall_mem_cons.mpr ⟨gTb_in k_314 rfl, fun _ h => absurd h List.not_mem_nil⟩⟩⟩⟩⟩⟩
theorem in_Mo : ∀ w ∈ u_ws R_Mo T_Mo 34, w ∈ gTb := List.forall_mem_cons.mpr ⟨gTb_in k_1023 rfl, List.forall_mem_cons.mpr ⟨gTb_in k_1025 rfl, List.forall_mem_cons.mpr ⟨gTb_in k_1027 rfl, List.forall_mem_cons.mpr ⟨gTb_in k_1029 rfl, List.forall_mem_cons.mpr ⟨gTb_in k_1031 rfl, List.forall_mem_cons.mpr ⟨gTb_in k_1033 rfl, List.forall_mem_cons.mpr ⟨gTb_in k_1035 rfl, List.forall_mem_cons.mpr ⟨gTb_in k_1037 rfl, List.forall_mem_cons.mpr ⟨gTb_in k_1039 rfl, List.forall_mem_cons.mpr ⟨gTb_in k_1041 rfl, List.forall_mem_cons.mpr ⟨gTb_in k_1043 rfl, List.forall_mem_cons.mpr ⟨gTb_in k_1045 rfl, List.forall_mem_cons.mpr ⟨gTb_in k_1047 rfl, List.forall_mem_cons.mpr ⟨gTb_in k_1049 rfl, List.forall_mem_cons.mpr ⟨gTb_in k_1051 rfl, List.forall_mem_cons.mpr ⟨gTb_in k_1053 rfl, List.forall_mem_cons.mpr ⟨gTb_in k_1055 rfl, List.forall_mem_cons.mpr ⟨gTb_in k_1057 rfl, List.forall_mem_cons.mpr ⟨gTb_in k_1059 rfl, List.forall_mem_cons.mpr ⟨gTb_in k_1061 rfl, List.forall_mem_cons.mpr ⟨gTb_in k_1063 rfl, List.forall_mem_cons.mpr ⟨gTb_in k_1065 rfl, List.forall_mem_cons.mpr ⟨gTb_in k_1067 rfl, List.forall_mem_cons.mpr ⟨gTb_in k_1069 rfl, List.forall_mem_cons.mpr ⟨gTb_in k_1071 rfl, List.forall_mem_cons.mpr ⟨gTb_in k_1073 rfl, List.forall_mem_cons.mpr ⟨gTb_in k_1075 rfl, List.forall_mem_cons.mpr ⟨gTb_in k_1077 rfl, List.forall_mem_cons.mpr ⟨gTb_in k_1079 rfl, List.forall_mem_cons.mpr ⟨gTb_in k_1081 rfl, List.forall_mem_cons.mpr ⟨gTb_in k_1083 rfl, List.forall_mem_cons.mpr ⟨gTb_in k_1085 rfl, List.forall_mem_cons.mpr ⟨gTb_in k_1087 rfl, List.forall_mem_cons.mpr ⟨gTb_in k_1089 rfl, fun _ h => absurd h List.not_mem_nil⟩⟩⟩⟩⟩⟩⟩⟩⟩⟩⟩⟩⟩⟩⟩⟩⟩⟩⟩⟩⟩⟩⟩⟩⟩⟩⟩⟩⟩⟩⟩⟩⟩⟩
end
section
/-! methods that throw: they have written nothing, and made the exception alone -/
section GX
variable {s0 : State} {a0 : Array Value} {D : va_G} {t : Nat → ClassId} {p : Program} {l : Launch} {e : Env} {R : Room} {s : State} {m : MethodId} {args : Array Value} {below : List Frame} {meth : Method} {c : Code} {Q : State → Prop} {Z : Heap → List Loc → Prop} {A : Nat → Prop} {own : String} {cc : ByteArray} {nL : Nat} {ret : Option FieldType} {mn : String} {fr lo mc ms : Nat} {cells slots : Nat} {ad : Nat → Nat} {n : Nat} {ce : Nat → va_E} {pc : Nat} {lv lv' : List (Nat × Value)} {st : List Value}
def gExc (X : String) (x : Nat) (s u : State) : Prop := ∃ cell : Cell, u.heap[x]? = some cell ∧ cell.vm.isStatics = false ∧ s.vm.findClass X = some cell.cls
def gQx (X : String) : Array Value → State → Outcome → State → Prop := fun _ st o u => ∃ x, o = .threw x ∧ gExc X x st u ∧ st.WarmedH u.vm ∧ st.sameButNew ({ u with vm := st.vm } : State) [] 1 6
def gEndX (X : String) (below : List Frame) (args : Array Value) (s : State) : State → Prop := fun u => ∃ o, u.status = .running ∧ Ended u below o ∧ gQx X args s o u
def gX (s0 : State) (a0 : Array Value) (D : va_G) (t : Nat → ClassId) (y : MethodName) (cc : ByteArray) (mL : Nat) (ret : Option FieldType) (fr lo : Nat) (ad : Nat → Nat) (n : Nat) (ce : Nat → va_E) (av : List Value) (X : String) : Prop :=
  gG s0 a0 D t → ∀ (l : Launch), l.stackTraces = false → ∀ sz : Nat, MetFree l y (headSpec [.code y cc mL ret] (gRm fr lo 1 6)) (va_Pc av (gPc s0 D ad n ce sz)) (fun _ _ _ _ _ => True) (gQx X)
theorem g_startX {y : MethodName} {cy : ByteArray} {mL : Nat} {rt : Option FieldType} {fr lo : Nat} {av : List Value} {X : String} (hy : plainName y.cls = true) (hav : (lg_sl av).length ≤ mL)
    (body : ∀ (p : Program) (l : Launch) (e : Env) (R : Room) (s : State) (m : MethodId) (args : Array Value) (below : List Frame) (meth : Method) (c : Code) (A : Nat → Prop), e.platform.stackTraces = false → (∀ (k : Nat), ∀ x ∈ c.exceptionTable.toList, covers x k = false) → gOk s0 a0 D t p R s m meth c A y.cls cy mL rt y.name fr lo 1 6 →
      gW p l e R s m args below meth c (gEndX X below args s) D A mL (gZ0 s) 0 0 ad n ce 0 (lv_args 0 av) []) : gX s0 a0 D t y cy mL rt fr lo ad n ce av X := by
  intro hG l hlt sz
  refine MetFree.of_bodyS (code := cy) (maxLocals := mL) (ret := rt) hy ?_ ?_
  · intro args s m h hn
    obtain ⟨meth, c, h1, h2, h3, h4, h5, h6, -, -⟩ := Cond.code_spec hn (atoms_spec (ws := [.code y cy mL rt]) h _ (List.mem_singleton.mpr rfl))
    exact ⟨meth, c, h1, h2, h3, h4, h5, h6⟩
  · intro p e s m args below meth c s₁ B hml hv _
    obtain ⟨rfl, hsz, hw, ⟨ho1, ho2, ho3⟩, hP, hD⟩ := hv
    have hh0 : s₁.heap = s.heap := by rw [B.state]; rfl
    have hcodeV := atoms_spec (ws := [.code y cy mL rt]) B.pre _ (List.mem_singleton.mpr rfl)
    have htr : e.platform.stackTraces = false := by rw [B.admits.platform]; exact hlt
    have hl := lv_entry av (n := mL) hav
    have K : W p l e (gRm fr lo 1 6) s m av.toArray below meth c s.heap [] 0 0 (gEndX X below av.toArray s) (entryFrame m av.toArray mL) := by
      rw [lg_entry_eq]
      refine body p l e _ s m _ below meth c (va_A (wW ad n ce) sz) htr (fun k => covers_of_empty (B.noHandlers hcodeV) k) ⟨B.exec, B.bytes, hml, findClass_of_methodNamed B.named, hw, hG, fun q h => Or.inr (by rw [← hsz]; exact h), ⟨by rw [hsz]; exact ho1, ho2, fun q h => ?_⟩, ⟨Nat.le_refl _, Nat.le_refl _, Nat.le_refl _, Nat.le_refl _⟩, B.notSynchronized, B.returns, (name_of_methodNamed B.named B.method).1⟩ s.heap [] _ ⟨rfl, rfl⟩ hP hD.self va_S.rf hl
      rcases h with ⟨k, x, h⟩ | h
      · obtain ⟨h1, h2⟩ := wW_of h
        cases h2
        exact ho3 k h1
      · exact Nat.le_trans ho1 h
    obtain ⟨u, a1, o, b1, b2, b3⟩ := K s₁ hh0 (Stand.of_body B)
    exact ⟨u, o, a1, b1, b2, b3⟩
theorem g_throw (ok : gOk s0 a0 D t p R s m meth c A own cc nL ret mn fr lo mc ms) (htr : e.platform.stackTraces = false) (hno : ∀ (k : Nat), ∀ x ∈ c.exceptionTable.toList, covers x k = false) {X : String} {names : List String} {ia ib ic q : Nat} {tx : String} (hfit : Bundle.fit X = true) (hnames : ∀ y ∈ names, Bundle.fit y = true) (hcl : Cond.classLink own ia X ∈ lw_tbl) (hini : Cond.initialized X ∈ lw_tbl)
    (hat : ∀ a ∈ Bundle.ownAtoms own ic X names, a.before args s = true) (hstr : vk_R own ib tx q s) (hd0 : decode cc pc = .ok (.new ia, 3)) (hd3 : decode cc (pc + 3) = .ok (.dup, 1)) (hd4 : decode cc (pc + 4) = .ok (.ldc ib, 2)) (hd6 : decode cc (pc + 6) = .ok (.invokespecial ic, 3)) (hd9 : decode cc (pc + 9) = .ok (.athrow, 1)) (hroom : names.length + 3 < fr ∧ 1 + (13 * (names.length + 1) + 42) ≤ lo ∧ 1 ≤ mc ∧ 6 ≤ ms) :
    gW p l e R s m args below meth c (gEndX X below args s) D A nL (gZ0 s) 0 0 ad n ce pc lv [] := by
  intro H locs ls hZ hP hD hS hl
  obtain ⟨rfl, rfl⟩ := hZ
  have hr := ok.r
  refine W.newc ok.x ok.b ok.wn (ok.w hcl rfl) (hat (.instantiable X 6) (by simp [Bundle.ownAtoms])) (ok.w hini rfl) rfl hd0 (by omega) (by omega) (fun cC kC h1 h2 h3 h4 => ?_)
  refine lv_dup ok.x ok.b hd3 rfl ?_
  refine va_ldcS ok.x ok.b ok.wn hstr hd4 ?_
  intro T hT Y
  obtain ⟨U, k1, k2, k3, k4, k5, ceX, k6, k7⟩ := Y.ctorThrowS ok.x htr (own := own) (cls := X) (names := names) (ic := ic) ok.wn hfit hnames hat (fun y hy => by cases hy) h1 h2 (a := s.heap.size) (by rw [hT]; simp [freshCell]) (Nat.le_refl _) (msg := .ref q) rfl (g := F0 m (pc + 6) ls [.ref q, .ref s.heap.size, .ref s.heap.size]) rfl (hl.1.trans ok.ml.symm) rfl rfl (rest := []) rfl (by rw [ok.b]; exact hd6) (by rw [ok.b]; exact hd9) (hno _) (by omega) (by show 2 * 0 + (1 + 0) + (13 * (names.length + 1) + 42) ≤ R.locals; omega) ok.lk
  exact ⟨U, k1, .threw s.heap.size, k2, k3, s.heap.size, rfl, ⟨ceX, k6, by rw [k7.vm]; rfl, k7.cls⟩, k4, k5⟩
end GX
end
section
/-! MEMORY: where each cell of desk, reference and law lies (by places), and what it holds: F k j the number in field j of the object at place k, G k the ints of the array at place k -/
abbrev f_Dk (ad : Nat → Nat) (F : Nat → Nat → Int) (k : Nat) : List Value := [.ref (ad 1), .ref (ad 222), .ref (ad 223), .ref (ad 224), .ref (ad 230), .ref (ad 236), .ref (ad 235), .ref (ad 238), .int (iI (F k 8)), .int (iI (F k 9)), .int (iI (F k 10))]
abbrev f_Sh (ad : Nat → Nat) (F : Nat → Nat → Int) (k : Nat) : List Value := [.ref (ad (k + 1)), .ref (ad (k + 2)), .ref (ad (k + 21)), .int (iI (F k 3)), .int (iI (F k 4)), .int (iI (F k 5)), .int (iI (F k 6)), .int (iI (F k 7)), .int (iI (F k 8)), .int (iI (F k 9)), .int (iI (F k 10))]
abbrev f_Rg (ad : Nat → Nat) (F : Nat → Nat → Int) (k : Nat) : List Value := [.ref (ad (k + 1)), .ref (ad (k + 2)), .int (iI (F k 2))]
abbrev f_Ty (ad : Nat → Nat) (F : Nat → Nat → Int) (k : Nat) : List Value := [.int (iI (F k 0)), .int (iI (F k 1))]
abbrev f_In (ad : Nat → Nat) (F : Nat → Nat → Int) (k : Nat) : List Value := [.ref (ad 225), .ref (ad 226), .ref (ad 227), .ref (ad 228), .ref (ad 229), .int (iI (F k 5)), .int (iI (F k 6)), .int (iI (F k 7)), .int (iI (F k 8))]
abbrev f_Rt (ad : Nat → Nat) (F : Nat → Nat → Int) (k : Nat) : List Value := [.ref (ad 231)]
abbrev f_Hl (ad : Nat → Nat) (F : Nat → Nat → Int) (k : Nat) : List Value := [.ref (ad 232), .ref (ad 233), .ref (ad 234), .int (iI (F k 3)), .int (iI (F k 4)), .int (iI (F k 5)), .int (iI (F k 6)), .int (iI (F k 7)), .int (iI (F k 8)), .int (iI (F k 9)), .int (iI (F k 10)), .int (iI (F k 11)), .int (iI (F k 12))]
/-- the shape that the maker is at: none, or a number -/
def pmS (ad : Nat → Nat) (z : Int) : Value := if z < 0 then .null else .ref (ad (2 + 22 * z.toNat))
abbrev f_Pm (ad : Nat → Nat) (F : Nat → Nat → Int) (k : Nat) : List Value := [.ref (ad 236), pmS ad (F k 1), .int (iI (F k 2)), .int (iI (F k 3)), .int (iI (F k 4)), .int (iI (F k 5)), .int (iI (F k 6))]
abbrev f_Pa (ad : Nat → Nat) (F : Nat → Nat → Int) (k : Nat) : List Value := [.ref (ad 237), .int (iI (F k 1)), .int (iI (F k 2))]
abbrev f_Pl (ad : Nat → Nat) (F : Nat → Nat → Int) (k : Nat) : List Value := [.ref (ad 239), .ref (ad 240), .ref (ad 241), .ref (ad 242), .ref (ad 243), .int (iI (F k 5))]
abbrev f_Mo (ad : Nat → Nat) (F : Nat → Nat → Int) (k : Nat) : List Value := [.int (iI (F k 0)), .int (iI (F k 1)), .int (iI (F k 2)), .ref (ad 245), .ref (ad 246), .ref (ad 247), .ref (ad 248), .ref (ad 249), .ref (ad 250), .int (iI (F k 9)), .int (iI (F k 10)), .int (iI (F k 11)), .int (iI (F k 12)), .ref (ad 251), .ref (ad 252), .ref (ad 253), .ref (ad 254), .ref (ad 255), .ref (ad 256), .ref (ad 257), .int (iI (F k 20)), .ref (ad 258), .ref (ad 259), .ref (ad 260), .int (iI (F k 24)), .int (iI (F k 25)), .int (iI (F k 26)), .int (iI (F k 27)), .int (iI (F k 28)), .int (iI (F k 29)), .int (iI (F k 30)), .ref (ad 261), .ref (ad 262), .ref (ad 263)]
def rRoom (j : Nat) : Nat := if j < 6 then 32 else if j < 15 then 24 else 16
/-- a cell of the shape whose object lies at k - j -/
def shC (ad : Nat → Nat) (t : Nat → ClassId) (F : Nat → Nat → Int) (G : Nat → Int → Int) (k j : Nat) : va_E :=
  if j = 0 then .inr (1, f_Sh ad F k) else if j = 1 then .inl (t 2, 4, .inr (.inr (.inr (.inr (fun i => some (ad (k + 2 + 3 * i))))))) else if j = 2 then .inl (t 2, 2, .inr (.inr (.inr (.inr (fun i => some (ad (k + 13 + 3 * i))))))) else if j = 21 then .inr (3, f_Ty ad F k) else if j % 3 = 0 then .inr (2, f_Rg ad F k) else zC t (rRoom j) (G k)
def aN (k : Nat) : Nat := if k = 222 then 10 else if k = 223 then 1500 else if k = 225 then 96 else if k = 226 then 96 else if k = 227 then 96 else if k = 228 then 96 else if k = 229 then 96 else if k = 232 then 384 else if k = 233 then 192 else if k = 234 then 192 else if k = 237 then 4000 else if k = 239 then 1024 else if k = 240 then 1024 else if k = 241 then 10 else if k = 242 then 10 else if k = 243 then 10 else if k = 245 then 44 else if k = 246 then 44 else if k = 247 then 1056 else if k = 248 then 1056 else if k = 249 then 44 else if k = 250 then 10 else if k = 251 then 100 else if k = 252 then 100 else if k = 253 then 100 else if k = 254 then 100 else if k = 255 then 100 else if k = 256 then 100 else if k = 258 then 4000 else if k = 259 then 4000 else if k = 260 then 4000 else if k = 261 then 1500 else if k = 262 then 9216 else if k = 263 then 10 else 0
/-- a boolean array; a long array -/
def bC (t : Nat → ClassId) (N : Nat) (f : Int → Int) : va_E := .inl (t 4, N, .inl (zA f))
def jC (t : Nat → ClassId) (N : Nat) (f : Int → Int) : va_E := .inl (t 1, N, .inr (.inl (fun j => Int64.ofInt (f (j : Int)))))
def mem (ad : Nat → Nat) (t : Nat → ClassId) (F : Nat → Nat → Int) (G : Nat → Int → Int) (k : Nat) : va_E :=
  if k = 0 then .inr (0, f_Dk ad F k) else if k = 1 then .inl (t 3, 10, .inr (.inr (.inr (.inr (fun i => some (ad (2 + 22 * i))))))) else if k < 222 then shC ad t F G k ((k - 2) % 22) else if k = 224 then .inr (4, f_In ad F k) else if k = 230 then .inr (5, f_Rt ad F k) else if k = 231 then .inr (6, f_Hl ad F k) else if k = 235 then .inr (7, f_Pm ad F k) else if k = 236 then .inr (8, f_Pa ad F k) else if k = 238 then .inr (9, f_Pl ad F k) else if k = 244 then .inr (10, f_Mo ad F k) else if k = 257 then bC t 4 (G k) else if k = 264 then jC t 1 (G k) else zC t (aN k) (G k)
theorem mem_cong {ad : Nat → Nat} {t : Nat → ClassId} {F F' : Nat → Nat → Int} {G G' : Nat → Int → Int} {q : Nat} (hF : ∀ b, F q b = F' q b) (hG : G q = G' q) : mem ad t F G q = mem ad t F' G' q := by
  unfold mem shC
  simp only [f_Dk, f_Sh, f_Rg, f_Ty, f_In, f_Rt, f_Hl, f_Pm, f_Pa, f_Pl, f_Mo, hF, hG]
def fU (F : Nat → Nat → Int) (k j : Nat) (v : Int) : Nat → Nat → Int := fun a b => if a = k ∧ b = j then v else F a b
theorem fU_self (F : Nat → Nat → Int) (k j : Nat) (v : Int) : fU F k j v k j = v := by simp [fU]
theorem fU_k (F : Nat → Nat → Int) {k j a b : Nat} (v : Int) (h : a ≠ k) : fU F k j v a b = F a b := by simp [fU, h]
theorem fU_j (F : Nat → Nat → Int) {k j a b : Nat} (v : Int) (h : b ≠ j) : fU F k j v a b = F a b := by simp [fU, h]
def gU (G : Nat → Int → Int) (k : Nat) (z v : Int) : Nat → Int → Int := fun a => if a = k then zU (G k) z v else G a
theorem gU_self (G : Nat → Int → Int) (k : Nat) (z v : Int) : gU G k z v k = zU (G k) z v := by simp [gU]
theorem gU_k (G : Nat → Int → Int) {k a : Nat} (z v : Int) (h : a ≠ k) : gU G k z v a = G a := by simp [gU, h]
theorem mem_put {ad : Nat → Nat} {t : Nat → ClassId} {F : Nat → Nat → Int} {G : Nat → Int → Int} {k j : Nat} {v : Int} {x : va_E} (h : mem ad t (fU F k j v) G k = x) : va_up (mem ad t F G) k x = mem ad t (fU F k j v) G := by
  funext q
  by_cases hq : q = k
  · subst hq
    rw [va_up_self, h]
  · rw [va_up_ne _ _ hq]
    exact mem_cong (fun b => (fU_k F v hq).symm) rfl
theorem mem_set {ad : Nat → Nat} {t : Nat → ClassId} {F : Nat → Nat → Int} {G : Nat → Int → Int} {k : Nat} {z v : Int} {x : va_E} (h : mem ad t F (gU G k z v) k = x) : va_up (mem ad t F G) k x = mem ad t F (gU G k z v) := by
  funext q
  by_cases hq : q = k
  · subst hq
    rw [va_up_self, h]
  · rw [va_up_ne _ _ hq]
    exact mem_cong (fun _ => rfl) (gU_k G z v hq).symm
-- which place is what
def isSh (k : Nat) : Prop := 2 ≤ k ∧ k < 222 ∧ (k - 2) % 22 = 0
def isRg (k : Nat) : Prop := 2 ≤ k ∧ k < 222 ∧ (k - 2) % 22 % 3 = 0 ∧ 3 ≤ (k - 2) % 22 ∧ (k - 2) % 22 ≤ 18
def isTy (k : Nat) : Prop := 2 ≤ k ∧ k < 222 ∧ (k - 2) % 22 = 21
def isDk (k : Nat) : Prop := k = 0
def isIn (k : Nat) : Prop := k = 224
def isRt (k : Nat) : Prop := k = 230
def isHl (k : Nat) : Prop := k = 231
def isPm (k : Nat) : Prop := k = 235
def isPa (k : Nat) : Prop := k = 236
def isPl (k : Nat) : Prop := k = 238
def isMo (k : Nat) : Prop := k = 244
/-- an array of N ints lies at k -/
def isA (k N : Nat) : Prop := (k < 265 ∧ N < 2147483648) ∧ ∀ (ad : Nat → Nat) (t : Nat → ClassId) (F : Nat → Nat → Int) (G : Nat → Int → Int), mem ad t F G k = zC t N (G k)
theorem m_Dk {ad : Nat → Nat} {t : Nat → ClassId} {F : Nat → Nat → Int} {G : Nat → Int → Int} {k : Nat} (h : isDk k) : k < 265 ∧ mem ad t F G k = .inr (0, f_Dk ad F k) := by
  cases h
  exact ⟨by decide, rfl⟩
theorem m_Sh {ad : Nat → Nat} {t : Nat → ClassId} {F : Nat → Nat → Int} {G : Nat → Int → Int} {k : Nat} (h : isSh k) : k < 265 ∧ mem ad t F G k = .inr (1, f_Sh ad F k) := by
  unfold isSh at h
  refine ⟨by omega, ?_⟩
  unfold mem
  rw [if_neg (by omega), if_neg (by omega), if_pos (by omega)]
  unfold shC
  rw [if_pos (by omega)]
theorem m_Rg {ad : Nat → Nat} {t : Nat → ClassId} {F : Nat → Nat → Int} {G : Nat → Int → Int} {k : Nat} (h : isRg k) : k < 265 ∧ mem ad t F G k = .inr (2, f_Rg ad F k) := by
  unfold isRg at h
  refine ⟨by omega, ?_⟩
  unfold mem
  rw [if_neg (by omega), if_neg (by omega), if_pos (by omega)]
  unfold shC
  rw [if_neg (by omega), if_neg (by omega), if_neg (by omega), if_neg (by omega), if_pos (by omega)]
theorem m_Ty {ad : Nat → Nat} {t : Nat → ClassId} {F : Nat → Nat → Int} {G : Nat → Int → Int} {k : Nat} (h : isTy k) : k < 265 ∧ mem ad t F G k = .inr (3, f_Ty ad F k) := by
  unfold isTy at h
  refine ⟨by omega, ?_⟩
  unfold mem
  rw [if_neg (by omega), if_neg (by omega), if_pos (by omega)]
  unfold shC
  rw [if_neg (by omega), if_neg (by omega), if_neg (by omega), if_pos (by omega)]
theorem m_In {ad : Nat → Nat} {t : Nat → ClassId} {F : Nat → Nat → Int} {G : Nat → Int → Int} {k : Nat} (h : isIn k) : k < 265 ∧ mem ad t F G k = .inr (4, f_In ad F k) := by
  cases h
  exact ⟨by decide, rfl⟩
theorem m_Rt {ad : Nat → Nat} {t : Nat → ClassId} {F : Nat → Nat → Int} {G : Nat → Int → Int} {k : Nat} (h : isRt k) : k < 265 ∧ mem ad t F G k = .inr (5, f_Rt ad F k) := by
  cases h
  exact ⟨by decide, rfl⟩
theorem m_Hl {ad : Nat → Nat} {t : Nat → ClassId} {F : Nat → Nat → Int} {G : Nat → Int → Int} {k : Nat} (h : isHl k) : k < 265 ∧ mem ad t F G k = .inr (6, f_Hl ad F k) := by
  cases h
  exact ⟨by decide, rfl⟩
theorem m_Pm {ad : Nat → Nat} {t : Nat → ClassId} {F : Nat → Nat → Int} {G : Nat → Int → Int} {k : Nat} (h : isPm k) : k < 265 ∧ mem ad t F G k = .inr (7, f_Pm ad F k) := by
  cases h
  exact ⟨by decide, rfl⟩
theorem m_Pa {ad : Nat → Nat} {t : Nat → ClassId} {F : Nat → Nat → Int} {G : Nat → Int → Int} {k : Nat} (h : isPa k) : k < 265 ∧ mem ad t F G k = .inr (8, f_Pa ad F k) := by
  cases h
  exact ⟨by decide, rfl⟩
theorem m_Pl {ad : Nat → Nat} {t : Nat → ClassId} {F : Nat → Nat → Int} {G : Nat → Int → Int} {k : Nat} (h : isPl k) : k < 265 ∧ mem ad t F G k = .inr (9, f_Pl ad F k) := by
  cases h
  exact ⟨by decide, rfl⟩
theorem m_Mo {ad : Nat → Nat} {t : Nat → ClassId} {F : Nat → Nat → Int} {G : Nat → Int → Int} {k : Nat} (h : isMo k) : k < 265 ∧ mem ad t F G k = .inr (10, f_Mo ad F k) := by
  cases h
  exact ⟨by decide, rfl⟩
theorem a_222 : isA 222 10 := ⟨by decide, fun _ _ _ _ => rfl⟩
theorem a_223 : isA 223 1500 := ⟨by decide, fun _ _ _ _ => rfl⟩
theorem a_225 : isA 225 96 := ⟨by decide, fun _ _ _ _ => rfl⟩
theorem a_226 : isA 226 96 := ⟨by decide, fun _ _ _ _ => rfl⟩
theorem a_227 : isA 227 96 := ⟨by decide, fun _ _ _ _ => rfl⟩
theorem a_228 : isA 228 96 := ⟨by decide, fun _ _ _ _ => rfl⟩
theorem a_229 : isA 229 96 := ⟨by decide, fun _ _ _ _ => rfl⟩
theorem a_232 : isA 232 384 := ⟨by decide, fun _ _ _ _ => rfl⟩
theorem a_233 : isA 233 192 := ⟨by decide, fun _ _ _ _ => rfl⟩
theorem a_234 : isA 234 192 := ⟨by decide, fun _ _ _ _ => rfl⟩
theorem a_237 : isA 237 4000 := ⟨by decide, fun _ _ _ _ => rfl⟩
theorem a_239 : isA 239 1024 := ⟨by decide, fun _ _ _ _ => rfl⟩
theorem a_240 : isA 240 1024 := ⟨by decide, fun _ _ _ _ => rfl⟩
theorem a_241 : isA 241 10 := ⟨by decide, fun _ _ _ _ => rfl⟩
theorem a_242 : isA 242 10 := ⟨by decide, fun _ _ _ _ => rfl⟩
theorem a_243 : isA 243 10 := ⟨by decide, fun _ _ _ _ => rfl⟩
theorem a_245 : isA 245 44 := ⟨by decide, fun _ _ _ _ => rfl⟩
theorem a_246 : isA 246 44 := ⟨by decide, fun _ _ _ _ => rfl⟩
theorem a_247 : isA 247 1056 := ⟨by decide, fun _ _ _ _ => rfl⟩
theorem a_248 : isA 248 1056 := ⟨by decide, fun _ _ _ _ => rfl⟩
theorem a_249 : isA 249 44 := ⟨by decide, fun _ _ _ _ => rfl⟩
theorem a_250 : isA 250 10 := ⟨by decide, fun _ _ _ _ => rfl⟩
theorem a_251 : isA 251 100 := ⟨by decide, fun _ _ _ _ => rfl⟩
theorem a_252 : isA 252 100 := ⟨by decide, fun _ _ _ _ => rfl⟩
theorem a_253 : isA 253 100 := ⟨by decide, fun _ _ _ _ => rfl⟩
theorem a_254 : isA 254 100 := ⟨by decide, fun _ _ _ _ => rfl⟩
theorem a_255 : isA 255 100 := ⟨by decide, fun _ _ _ _ => rfl⟩
theorem a_256 : isA 256 100 := ⟨by decide, fun _ _ _ _ => rfl⟩
theorem a_258 : isA 258 4000 := ⟨by decide, fun _ _ _ _ => rfl⟩
theorem a_259 : isA 259 4000 := ⟨by decide, fun _ _ _ _ => rfl⟩
theorem a_260 : isA 260 4000 := ⟨by decide, fun _ _ _ _ => rfl⟩
theorem a_261 : isA 261 1500 := ⟨by decide, fun _ _ _ _ => rfl⟩
theorem a_262 : isA 262 9216 := ⟨by decide, fun _ _ _ _ => rfl⟩
theorem a_263 : isA 263 10 := ⟨by decide, fun _ _ _ _ => rfl⟩
theorem a_rg {k j N : Nat} (h : isRg k) (hj : j = 1 ∨ j = 2) (hN : N = rRoom ((k - 2) % 22)) : isA (k + j) N := by
  unfold isRg at h
  have h9 : (k - 2) / 22 < 10 := by omega
  have h8 : k + j < 222 := by omega
  refine ⟨⟨by omega, ?_⟩, fun ad t F G => ?_⟩
  · rw [hN]
    unfold rRoom
    split
    · decide
    · split <;> decide
  · unfold mem
    rw [if_neg (by omega), if_neg (by omega), if_pos (by omega)]
    have e : (k + j - 2) % 22 = (k - 2) % 22 + j := by omega
    rw [e]
    unfold shC
    rw [if_neg (by omega), if_neg (by omega), if_neg (by omega), if_neg (by omega), if_neg (by omega), hN]
    have : rRoom ((k - 2) % 22 + j) = rRoom ((k - 2) % 22) := by
      unfold rRoom
      by_cases a : (k - 2) % 22 < 6
      · rw [if_pos a, if_pos (by omega)]
      · rw [if_neg a, if_neg (by omega)]
        by_cases b : (k - 2) % 22 < 15
        · rw [if_pos b, if_pos (by omega)]
        · rw [if_neg b, if_neg (by omega)]
    rw [this]
end
section
section GM
variable {s0 : State} {a0 : Array Value} {D : va_G} {t : Nat → ClassId} {p : Program} {l : Launch} {e : Env} {R : Room} {s : State} {m : MethodId} {args : Array Value} {below : List Frame} {meth : Method} {c : Code} {Q : State → Prop} {Z : Heap → List Loc → Prop} {A : Nat → Prop} {own : String} {cc : ByteArray} {nL : Nat} {ret : Option FieldType} {mn : String} {fr lo mc ms : Nat} {cells slots : Nat} {ad : Nat → Nat} {F : Nat → Nat → Int} {G : Nat → Int → Int} {pc : Nat} {lv lv' : List (Nat × Value)} {st : List Value}
theorem fits_bool {z : Int} (hz : z = 0 ∨ z = 1) : fits .boolean (.int (iI z)) = true := by
  rcases hz with rfl | rfl <;> rfl
theorem gI_Dk_shapes (ok : gOk s0 a0 D t p R s m meth c A own cc nL ret mn fr lo mc ms) (k : Nat) (hK : isDk k) {index : Nat} (hl0 : Cond.fieldLink own index "StitchDesk" "shapes" "[LStitchDesk$Shape;" ∈ lw_tbl) (hd : decode cc pc = .ok (.getfield index, 3)) (kk : gW p l e R s m args below meth c Q D A nL Z cells slots ad 265 (mem ad t F G) (pc + 3) lv (.ref (ad 1) :: st)) : gW p l e R s m args below meth c Q D A nL Z cells slots ad 265 (mem ad t F G) pc lv (.ref (ad k) :: st) :=
  g_get ok in_Dk cl_Dk k (m_Dk (ad := ad) (t := t) (F := F) (G := G) hK).1 (m_Dk hK).2 0 (by decide) rfl hl0 rfl hd kk
theorem gN_Dk_shapes (ok : gOk s0 a0 D t p R s m meth c A own cc nL ret mn fr lo mc ms) (k : Nat) (hK : isDk k) {index : Nat} {host : String} (hl0 : Cond.fieldLinkNest own index "StitchDesk" "shapes" "[LStitchDesk$Shape;" host ∈ lw_tbl) (hd : decode cc pc = .ok (.getfield index, 3)) (kk : gW p l e R s m args below meth c Q D A nL Z cells slots ad 265 (mem ad t F G) (pc + 3) lv (.ref (ad 1) :: st)) : gW p l e R s m args below meth c Q D A nL Z cells slots ad 265 (mem ad t F G) pc lv (.ref (ad k) :: st) :=
  g_getN ok in_Dk cl_Dk k (m_Dk (ad := ad) (t := t) (F := F) (G := G) hK).1 (m_Dk hK).2 0 (by decide) rfl hl0 rfl hd kk
theorem gI_Dk_sequence (ok : gOk s0 a0 D t p R s m meth c A own cc nL ret mn fr lo mc ms) (k : Nat) (hK : isDk k) {index : Nat} (hl0 : Cond.fieldLink own index "StitchDesk" "sequence" "[I" ∈ lw_tbl) (hd : decode cc pc = .ok (.getfield index, 3)) (kk : gW p l e R s m args below meth c Q D A nL Z cells slots ad 265 (mem ad t F G) (pc + 3) lv (.ref (ad 222) :: st)) : gW p l e R s m args below meth c Q D A nL Z cells slots ad 265 (mem ad t F G) pc lv (.ref (ad k) :: st) :=
  g_get ok in_Dk cl_Dk k (m_Dk (ad := ad) (t := t) (F := F) (G := G) hK).1 (m_Dk hK).2 1 (by decide) rfl hl0 rfl hd kk
theorem gN_Dk_sequence (ok : gOk s0 a0 D t p R s m meth c A own cc nL ret mn fr lo mc ms) (k : Nat) (hK : isDk k) {index : Nat} {host : String} (hl0 : Cond.fieldLinkNest own index "StitchDesk" "sequence" "[I" host ∈ lw_tbl) (hd : decode cc pc = .ok (.getfield index, 3)) (kk : gW p l e R s m args below meth c Q D A nL Z cells slots ad 265 (mem ad t F G) (pc + 3) lv (.ref (ad 222) :: st)) : gW p l e R s m args below meth c Q D A nL Z cells slots ad 265 (mem ad t F G) pc lv (.ref (ad k) :: st) :=
  g_getN ok in_Dk cl_Dk k (m_Dk (ad := ad) (t := t) (F := F) (G := G) hK).1 (m_Dk hK).2 1 (by decide) rfl hl0 rfl hd kk
theorem gI_Dk_loaded (ok : gOk s0 a0 D t p R s m meth c A own cc nL ret mn fr lo mc ms) (k : Nat) (hK : isDk k) {index : Nat} (hl0 : Cond.fieldLink own index "StitchDesk" "loaded" "[I" ∈ lw_tbl) (hd : decode cc pc = .ok (.getfield index, 3)) (kk : gW p l e R s m args below meth c Q D A nL Z cells slots ad 265 (mem ad t F G) (pc + 3) lv (.ref (ad 223) :: st)) : gW p l e R s m args below meth c Q D A nL Z cells slots ad 265 (mem ad t F G) pc lv (.ref (ad k) :: st) :=
  g_get ok in_Dk cl_Dk k (m_Dk (ad := ad) (t := t) (F := F) (G := G) hK).1 (m_Dk hK).2 2 (by decide) rfl hl0 rfl hd kk
theorem gN_Dk_loaded (ok : gOk s0 a0 D t p R s m meth c A own cc nL ret mn fr lo mc ms) (k : Nat) (hK : isDk k) {index : Nat} {host : String} (hl0 : Cond.fieldLinkNest own index "StitchDesk" "loaded" "[I" host ∈ lw_tbl) (hd : decode cc pc = .ok (.getfield index, 3)) (kk : gW p l e R s m args below meth c Q D A nL Z cells slots ad 265 (mem ad t F G) (pc + 3) lv (.ref (ad 223) :: st)) : gW p l e R s m args below meth c Q D A nL Z cells slots ad 265 (mem ad t F G) pc lv (.ref (ad k) :: st) :=
  g_getN ok in_Dk cl_Dk k (m_Dk (ad := ad) (t := t) (F := F) (G := G) hK).1 (m_Dk hK).2 2 (by decide) rfl hl0 rfl hd kk
theorem gI_Dk_inspector (ok : gOk s0 a0 D t p R s m meth c A own cc nL ret mn fr lo mc ms) (k : Nat) (hK : isDk k) {index : Nat} (hl0 : Cond.fieldLink own index "StitchDesk" "inspector" "LStitchDesk$Inspector;" ∈ lw_tbl) (hd : decode cc pc = .ok (.getfield index, 3)) (kk : gW p l e R s m args below meth c Q D A nL Z cells slots ad 265 (mem ad t F G) (pc + 3) lv (.ref (ad 224) :: st)) : gW p l e R s m args below meth c Q D A nL Z cells slots ad 265 (mem ad t F G) pc lv (.ref (ad k) :: st) :=
  g_get ok in_Dk cl_Dk k (m_Dk (ad := ad) (t := t) (F := F) (G := G) hK).1 (m_Dk hK).2 3 (by decide) rfl hl0 rfl hd kk
theorem gN_Dk_inspector (ok : gOk s0 a0 D t p R s m meth c A own cc nL ret mn fr lo mc ms) (k : Nat) (hK : isDk k) {index : Nat} {host : String} (hl0 : Cond.fieldLinkNest own index "StitchDesk" "inspector" "LStitchDesk$Inspector;" host ∈ lw_tbl) (hd : decode cc pc = .ok (.getfield index, 3)) (kk : gW p l e R s m args below meth c Q D A nL Z cells slots ad 265 (mem ad t F G) (pc + 3) lv (.ref (ad 224) :: st)) : gW p l e R s m args below meth c Q D A nL Z cells slots ad 265 (mem ad t F G) pc lv (.ref (ad k) :: st) :=
  g_getN ok in_Dk cl_Dk k (m_Dk (ad := ad) (t := t) (F := F) (G := G) hK).1 (m_Dk hK).2 3 (by decide) rfl hl0 rfl hd kk
theorem gI_Dk_teller (ok : gOk s0 a0 D t p R s m meth c A own cc nL ret mn fr lo mc ms) (k : Nat) (hK : isDk k) {index : Nat} (hl0 : Cond.fieldLink own index "StitchDesk" "teller" "LStitchDesk$RunTeller;" ∈ lw_tbl) (hd : decode cc pc = .ok (.getfield index, 3)) (kk : gW p l e R s m args below meth c Q D A nL Z cells slots ad 265 (mem ad t F G) (pc + 3) lv (.ref (ad 230) :: st)) : gW p l e R s m args below meth c Q D A nL Z cells slots ad 265 (mem ad t F G) pc lv (.ref (ad k) :: st) :=
  g_get ok in_Dk cl_Dk k (m_Dk (ad := ad) (t := t) (F := F) (G := G) hK).1 (m_Dk hK).2 4 (by decide) rfl hl0 rfl hd kk
theorem gN_Dk_teller (ok : gOk s0 a0 D t p R s m meth c A own cc nL ret mn fr lo mc ms) (k : Nat) (hK : isDk k) {index : Nat} {host : String} (hl0 : Cond.fieldLinkNest own index "StitchDesk" "teller" "LStitchDesk$RunTeller;" host ∈ lw_tbl) (hd : decode cc pc = .ok (.getfield index, 3)) (kk : gW p l e R s m args below meth c Q D A nL Z cells slots ad 265 (mem ad t F G) (pc + 3) lv (.ref (ad 230) :: st)) : gW p l e R s m args below meth c Q D A nL Z cells slots ad 265 (mem ad t F G) pc lv (.ref (ad k) :: st) :=
  g_getN ok in_Dk cl_Dk k (m_Dk (ad := ad) (t := t) (F := F) (G := G) hK).1 (m_Dk hK).2 4 (by decide) rfl hl0 rfl hd kk
theorem gI_Dk_path (ok : gOk s0 a0 D t p R s m meth c A own cc nL ret mn fr lo mc ms) (k : Nat) (hK : isDk k) {index : Nat} (hl0 : Cond.fieldLink own index "StitchDesk" "path" "LStitchDesk$Path;" ∈ lw_tbl) (hd : decode cc pc = .ok (.getfield index, 3)) (kk : gW p l e R s m args below meth c Q D A nL Z cells slots ad 265 (mem ad t F G) (pc + 3) lv (.ref (ad 236) :: st)) : gW p l e R s m args below meth c Q D A nL Z cells slots ad 265 (mem ad t F G) pc lv (.ref (ad k) :: st) :=
  g_get ok in_Dk cl_Dk k (m_Dk (ad := ad) (t := t) (F := F) (G := G) hK).1 (m_Dk hK).2 5 (by decide) rfl hl0 rfl hd kk
theorem gN_Dk_path (ok : gOk s0 a0 D t p R s m meth c A own cc nL ret mn fr lo mc ms) (k : Nat) (hK : isDk k) {index : Nat} {host : String} (hl0 : Cond.fieldLinkNest own index "StitchDesk" "path" "LStitchDesk$Path;" host ∈ lw_tbl) (hd : decode cc pc = .ok (.getfield index, 3)) (kk : gW p l e R s m args below meth c Q D A nL Z cells slots ad 265 (mem ad t F G) (pc + 3) lv (.ref (ad 236) :: st)) : gW p l e R s m args below meth c Q D A nL Z cells slots ad 265 (mem ad t F G) pc lv (.ref (ad k) :: st) :=
  g_getN ok in_Dk cl_Dk k (m_Dk (ad := ad) (t := t) (F := F) (G := G) hK).1 (m_Dk hK).2 5 (by decide) rfl hl0 rfl hd kk
theorem gI_Dk_maker (ok : gOk s0 a0 D t p R s m meth c A own cc nL ret mn fr lo mc ms) (k : Nat) (hK : isDk k) {index : Nat} (hl0 : Cond.fieldLink own index "StitchDesk" "maker" "LStitchDesk$PathMaker;" ∈ lw_tbl) (hd : decode cc pc = .ok (.getfield index, 3)) (kk : gW p l e R s m args below meth c Q D A nL Z cells slots ad 265 (mem ad t F G) (pc + 3) lv (.ref (ad 235) :: st)) : gW p l e R s m args below meth c Q D A nL Z cells slots ad 265 (mem ad t F G) pc lv (.ref (ad k) :: st) :=
  g_get ok in_Dk cl_Dk k (m_Dk (ad := ad) (t := t) (F := F) (G := G) hK).1 (m_Dk hK).2 6 (by decide) rfl hl0 rfl hd kk
theorem gN_Dk_maker (ok : gOk s0 a0 D t p R s m meth c A own cc nL ret mn fr lo mc ms) (k : Nat) (hK : isDk k) {index : Nat} {host : String} (hl0 : Cond.fieldLinkNest own index "StitchDesk" "maker" "LStitchDesk$PathMaker;" host ∈ lw_tbl) (hd : decode cc pc = .ok (.getfield index, 3)) (kk : gW p l e R s m args below meth c Q D A nL Z cells slots ad 265 (mem ad t F G) (pc + 3) lv (.ref (ad 235) :: st)) : gW p l e R s m args below meth c Q D A nL Z cells slots ad 265 (mem ad t F G) pc lv (.ref (ad k) :: st) :=
  g_getN ok in_Dk cl_Dk k (m_Dk (ad := ad) (t := t) (F := F) (G := G) hK).1 (m_Dk hK).2 6 (by decide) rfl hl0 rfl hd kk
theorem gI_Dk_planner (ok : gOk s0 a0 D t p R s m meth c A own cc nL ret mn fr lo mc ms) (k : Nat) (hK : isDk k) {index : Nat} (hl0 : Cond.fieldLink own index "StitchDesk" "planner" "LStitchDesk$Planner;" ∈ lw_tbl) (hd : decode cc pc = .ok (.getfield index, 3)) (kk : gW p l e R s m args below meth c Q D A nL Z cells slots ad 265 (mem ad t F G) (pc + 3) lv (.ref (ad 238) :: st)) : gW p l e R s m args below meth c Q D A nL Z cells slots ad 265 (mem ad t F G) pc lv (.ref (ad k) :: st) :=
  g_get ok in_Dk cl_Dk k (m_Dk (ad := ad) (t := t) (F := F) (G := G) hK).1 (m_Dk hK).2 7 (by decide) rfl hl0 rfl hd kk
theorem gN_Dk_planner (ok : gOk s0 a0 D t p R s m meth c A own cc nL ret mn fr lo mc ms) (k : Nat) (hK : isDk k) {index : Nat} {host : String} (hl0 : Cond.fieldLinkNest own index "StitchDesk" "planner" "LStitchDesk$Planner;" host ∈ lw_tbl) (hd : decode cc pc = .ok (.getfield index, 3)) (kk : gW p l e R s m args below meth c Q D A nL Z cells slots ad 265 (mem ad t F G) (pc + 3) lv (.ref (ad 238) :: st)) : gW p l e R s m args below meth c Q D A nL Z cells slots ad 265 (mem ad t F G) pc lv (.ref (ad k) :: st) :=
  g_getN ok in_Dk cl_Dk k (m_Dk (ad := ad) (t := t) (F := F) (G := G) hK).1 (m_Dk hK).2 7 (by decide) rfl hl0 rfl hd kk
theorem gI_Dk_shapeTotal (ok : gOk s0 a0 D t p R s m meth c A own cc nL ret mn fr lo mc ms) (k : Nat) (hK : isDk k) {index : Nat} (hl0 : Cond.fieldLink own index "StitchDesk" "shapeTotal" "I" ∈ lw_tbl) (hd : decode cc pc = .ok (.getfield index, 3)) (kk : gW p l e R s m args below meth c Q D A nL Z cells slots ad 265 (mem ad t F G) (pc + 3) lv (.int (iI (F k 8)) :: st)) : gW p l e R s m args below meth c Q D A nL Z cells slots ad 265 (mem ad t F G) pc lv (.ref (ad k) :: st) :=
  g_get ok in_Dk cl_Dk k (m_Dk (ad := ad) (t := t) (F := F) (G := G) hK).1 (m_Dk hK).2 8 (by decide) rfl hl0 rfl hd kk
theorem pI_Dk_shapeTotal (ok : gOk s0 a0 D t p R s m meth c A own cc nL ret mn fr lo mc ms) (k : Nat) (hK : isDk k) {index : Nat} (hl0 : Cond.fieldLink own index "StitchDesk" "shapeTotal" "I" ∈ lw_tbl) {v : Int} (hd : decode cc pc = .ok (.putfield index, 3)) (kk : gW p l e R s m args below meth c Q D A nL gZ cells slots ad 265 (mem ad t (fU F k 8 v) G) (pc + 3) lv st) : gW p l e R s m args below meth c Q D A nL Z cells slots ad 265 (mem ad t F G) pc lv (.int (iI v) :: .ref (ad k) :: st) := by
  refine g_put ok in_Dk cl_Dk k (m_Dk (ad := ad) (t := t) (F := F) (G := G) hK).1 (m_Dk hK).2 8 (by decide) ty_Dk ok_Dk nm_Dk rfl hl0 rfl rfl rfl (Nat.le_of_ble_eq_true rfl) hd ?_
  rw [mem_put (v := v) (j := 8) (by rw [(m_Dk hK).2]; simp [f_Dk, fU])]
  exact kk
theorem gN_Dk_shapeTotal (ok : gOk s0 a0 D t p R s m meth c A own cc nL ret mn fr lo mc ms) (k : Nat) (hK : isDk k) {index : Nat} {host : String} (hl0 : Cond.fieldLinkNest own index "StitchDesk" "shapeTotal" "I" host ∈ lw_tbl) (hd : decode cc pc = .ok (.getfield index, 3)) (kk : gW p l e R s m args below meth c Q D A nL Z cells slots ad 265 (mem ad t F G) (pc + 3) lv (.int (iI (F k 8)) :: st)) : gW p l e R s m args below meth c Q D A nL Z cells slots ad 265 (mem ad t F G) pc lv (.ref (ad k) :: st) :=
  g_getN ok in_Dk cl_Dk k (m_Dk (ad := ad) (t := t) (F := F) (G := G) hK).1 (m_Dk hK).2 8 (by decide) rfl hl0 rfl hd kk
theorem pN_Dk_shapeTotal (ok : gOk s0 a0 D t p R s m meth c A own cc nL ret mn fr lo mc ms) (k : Nat) (hK : isDk k) {index : Nat} {host : String} (hl0 : Cond.fieldLinkNest own index "StitchDesk" "shapeTotal" "I" host ∈ lw_tbl) {v : Int} (hd : decode cc pc = .ok (.putfield index, 3)) (kk : gW p l e R s m args below meth c Q D A nL gZ cells slots ad 265 (mem ad t (fU F k 8 v) G) (pc + 3) lv st) : gW p l e R s m args below meth c Q D A nL Z cells slots ad 265 (mem ad t F G) pc lv (.int (iI v) :: .ref (ad k) :: st) := by
  refine g_putN ok in_Dk cl_Dk k (m_Dk (ad := ad) (t := t) (F := F) (G := G) hK).1 (m_Dk hK).2 8 (by decide) ty_Dk ok_Dk nm_Dk rfl hl0 rfl rfl rfl (Nat.le_of_ble_eq_true rfl) hd ?_
  rw [mem_put (v := v) (j := 8) (by rw [(m_Dk hK).2]; simp [f_Dk, fU])]
  exact kk
theorem gI_Dk_loadedTotal (ok : gOk s0 a0 D t p R s m meth c A own cc nL ret mn fr lo mc ms) (k : Nat) (hK : isDk k) {index : Nat} (hl0 : Cond.fieldLink own index "StitchDesk" "loadedTotal" "I" ∈ lw_tbl) (hd : decode cc pc = .ok (.getfield index, 3)) (kk : gW p l e R s m args below meth c Q D A nL Z cells slots ad 265 (mem ad t F G) (pc + 3) lv (.int (iI (F k 9)) :: st)) : gW p l e R s m args below meth c Q D A nL Z cells slots ad 265 (mem ad t F G) pc lv (.ref (ad k) :: st) :=
  g_get ok in_Dk cl_Dk k (m_Dk (ad := ad) (t := t) (F := F) (G := G) hK).1 (m_Dk hK).2 9 (by decide) rfl hl0 rfl hd kk
theorem pI_Dk_loadedTotal (ok : gOk s0 a0 D t p R s m meth c A own cc nL ret mn fr lo mc ms) (k : Nat) (hK : isDk k) {index : Nat} (hl0 : Cond.fieldLink own index "StitchDesk" "loadedTotal" "I" ∈ lw_tbl) {v : Int} (hd : decode cc pc = .ok (.putfield index, 3)) (kk : gW p l e R s m args below meth c Q D A nL gZ cells slots ad 265 (mem ad t (fU F k 9 v) G) (pc + 3) lv st) : gW p l e R s m args below meth c Q D A nL Z cells slots ad 265 (mem ad t F G) pc lv (.int (iI v) :: .ref (ad k) :: st) := by
  refine g_put ok in_Dk cl_Dk k (m_Dk (ad := ad) (t := t) (F := F) (G := G) hK).1 (m_Dk hK).2 9 (by decide) ty_Dk ok_Dk nm_Dk rfl hl0 rfl rfl rfl (Nat.le_of_ble_eq_true rfl) hd ?_
  rw [mem_put (v := v) (j := 9) (by rw [(m_Dk hK).2]; simp [f_Dk, fU])]
  exact kk
theorem gN_Dk_loadedTotal (ok : gOk s0 a0 D t p R s m meth c A own cc nL ret mn fr lo mc ms) (k : Nat) (hK : isDk k) {index : Nat} {host : String} (hl0 : Cond.fieldLinkNest own index "StitchDesk" "loadedTotal" "I" host ∈ lw_tbl) (hd : decode cc pc = .ok (.getfield index, 3)) (kk : gW p l e R s m args below meth c Q D A nL Z cells slots ad 265 (mem ad t F G) (pc + 3) lv (.int (iI (F k 9)) :: st)) : gW p l e R s m args below meth c Q D A nL Z cells slots ad 265 (mem ad t F G) pc lv (.ref (ad k) :: st) :=
  g_getN ok in_Dk cl_Dk k (m_Dk (ad := ad) (t := t) (F := F) (G := G) hK).1 (m_Dk hK).2 9 (by decide) rfl hl0 rfl hd kk
theorem pN_Dk_loadedTotal (ok : gOk s0 a0 D t p R s m meth c A own cc nL ret mn fr lo mc ms) (k : Nat) (hK : isDk k) {index : Nat} {host : String} (hl0 : Cond.fieldLinkNest own index "StitchDesk" "loadedTotal" "I" host ∈ lw_tbl) {v : Int} (hd : decode cc pc = .ok (.putfield index, 3)) (kk : gW p l e R s m args below meth c Q D A nL gZ cells slots ad 265 (mem ad t (fU F k 9 v) G) (pc + 3) lv st) : gW p l e R s m args below meth c Q D A nL Z cells slots ad 265 (mem ad t F G) pc lv (.int (iI v) :: .ref (ad k) :: st) := by
  refine g_putN ok in_Dk cl_Dk k (m_Dk (ad := ad) (t := t) (F := F) (G := G) hK).1 (m_Dk hK).2 9 (by decide) ty_Dk ok_Dk nm_Dk rfl hl0 rfl rfl rfl (Nat.le_of_ble_eq_true rfl) hd ?_
  rw [mem_put (v := v) (j := 9) (by rw [(m_Dk hK).2]; simp [f_Dk, fU])]
  exact kk
theorem gI_Dk_open (ok : gOk s0 a0 D t p R s m meth c A own cc nL ret mn fr lo mc ms) (k : Nat) (hK : isDk k) {index : Nat} (hl0 : Cond.fieldLink own index "StitchDesk" "open" "Z" ∈ lw_tbl) (hd : decode cc pc = .ok (.getfield index, 3)) (kk : gW p l e R s m args below meth c Q D A nL Z cells slots ad 265 (mem ad t F G) (pc + 3) lv (.int (iI (F k 10)) :: st)) : gW p l e R s m args below meth c Q D A nL Z cells slots ad 265 (mem ad t F G) pc lv (.ref (ad k) :: st) :=
  g_get ok in_Dk cl_Dk k (m_Dk (ad := ad) (t := t) (F := F) (G := G) hK).1 (m_Dk hK).2 10 (by decide) rfl hl0 rfl hd kk
theorem pI_Dk_open (ok : gOk s0 a0 D t p R s m meth c A own cc nL ret mn fr lo mc ms) (k : Nat) (hK : isDk k) {index : Nat} (hl0 : Cond.fieldLink own index "StitchDesk" "open" "Z" ∈ lw_tbl) {v : Int} (hb : v = 0 ∨ v = 1) (hd : decode cc pc = .ok (.putfield index, 3)) (kk : gW p l e R s m args below meth c Q D A nL gZ cells slots ad 265 (mem ad t (fU F k 10 v) G) (pc + 3) lv st) : gW p l e R s m args below meth c Q D A nL Z cells slots ad 265 (mem ad t F G) pc lv (.int (iI v) :: .ref (ad k) :: st) := by
  refine g_put ok in_Dk cl_Dk k (m_Dk (ad := ad) (t := t) (F := F) (G := G) hK).1 (m_Dk hK).2 10 (by decide) ty_Dk ok_Dk nm_Dk rfl hl0 rfl (narrow_bool hb) (fits_bool hb) (Nat.le_of_ble_eq_true rfl) hd ?_
  rw [mem_put (v := v) (j := 10) (by rw [(m_Dk hK).2]; simp [f_Dk, fU])]
  exact kk
theorem gN_Dk_open (ok : gOk s0 a0 D t p R s m meth c A own cc nL ret mn fr lo mc ms) (k : Nat) (hK : isDk k) {index : Nat} {host : String} (hl0 : Cond.fieldLinkNest own index "StitchDesk" "open" "Z" host ∈ lw_tbl) (hd : decode cc pc = .ok (.getfield index, 3)) (kk : gW p l e R s m args below meth c Q D A nL Z cells slots ad 265 (mem ad t F G) (pc + 3) lv (.int (iI (F k 10)) :: st)) : gW p l e R s m args below meth c Q D A nL Z cells slots ad 265 (mem ad t F G) pc lv (.ref (ad k) :: st) :=
  g_getN ok in_Dk cl_Dk k (m_Dk (ad := ad) (t := t) (F := F) (G := G) hK).1 (m_Dk hK).2 10 (by decide) rfl hl0 rfl hd kk
theorem pN_Dk_open (ok : gOk s0 a0 D t p R s m meth c A own cc nL ret mn fr lo mc ms) (k : Nat) (hK : isDk k) {index : Nat} {host : String} (hl0 : Cond.fieldLinkNest own index "StitchDesk" "open" "Z" host ∈ lw_tbl) {v : Int} (hb : v = 0 ∨ v = 1) (hd : decode cc pc = .ok (.putfield index, 3)) (kk : gW p l e R s m args below meth c Q D A nL gZ cells slots ad 265 (mem ad t (fU F k 10 v) G) (pc + 3) lv st) : gW p l e R s m args below meth c Q D A nL Z cells slots ad 265 (mem ad t F G) pc lv (.int (iI v) :: .ref (ad k) :: st) := by
  refine g_putN ok in_Dk cl_Dk k (m_Dk (ad := ad) (t := t) (F := F) (G := G) hK).1 (m_Dk hK).2 10 (by decide) ty_Dk ok_Dk nm_Dk rfl hl0 rfl (narrow_bool hb) (fits_bool hb) (Nat.le_of_ble_eq_true rfl) hd ?_
  rw [mem_put (v := v) (j := 10) (by rw [(m_Dk hK).2]; simp [f_Dk, fU])]
  exact kk
theorem gI_Sh_rings (ok : gOk s0 a0 D t p R s m meth c A own cc nL ret mn fr lo mc ms) (k : Nat) (hK : isSh k) {index : Nat} (hl0 : Cond.fieldLink own index "StitchDesk$Shape" "rings" "[LStitchDesk$Ring;" ∈ lw_tbl) (hd : decode cc pc = .ok (.getfield index, 3)) (kk : gW p l e R s m args below meth c Q D A nL Z cells slots ad 265 (mem ad t F G) (pc + 3) lv (.ref (ad (k + 1)) :: st)) : gW p l e R s m args below meth c Q D A nL Z cells slots ad 265 (mem ad t F G) pc lv (.ref (ad k) :: st) :=
  g_get ok in_Sh cl_Sh k (m_Sh (ad := ad) (t := t) (F := F) (G := G) hK).1 (m_Sh hK).2 0 (by decide) rfl hl0 rfl hd kk
theorem gN_Sh_rings (ok : gOk s0 a0 D t p R s m meth c A own cc nL ret mn fr lo mc ms) (k : Nat) (hK : isSh k) {index : Nat} {host : String} (hl0 : Cond.fieldLinkNest own index "StitchDesk$Shape" "rings" "[LStitchDesk$Ring;" host ∈ lw_tbl) (hd : decode cc pc = .ok (.getfield index, 3)) (kk : gW p l e R s m args below meth c Q D A nL Z cells slots ad 265 (mem ad t F G) (pc + 3) lv (.ref (ad (k + 1)) :: st)) : gW p l e R s m args below meth c Q D A nL Z cells slots ad 265 (mem ad t F G) pc lv (.ref (ad k) :: st) :=
  g_getN ok in_Sh cl_Sh k (m_Sh (ad := ad) (t := t) (F := F) (G := G) hK).1 (m_Sh hK).2 0 (by decide) rfl hl0 rfl hd kk
theorem gI_Sh_rails (ok : gOk s0 a0 D t p R s m meth c A own cc nL ret mn fr lo mc ms) (k : Nat) (hK : isSh k) {index : Nat} (hl0 : Cond.fieldLink own index "StitchDesk$Shape" "rails" "[LStitchDesk$Ring;" ∈ lw_tbl) (hd : decode cc pc = .ok (.getfield index, 3)) (kk : gW p l e R s m args below meth c Q D A nL Z cells slots ad 265 (mem ad t F G) (pc + 3) lv (.ref (ad (k + 2)) :: st)) : gW p l e R s m args below meth c Q D A nL Z cells slots ad 265 (mem ad t F G) pc lv (.ref (ad k) :: st) :=
  g_get ok in_Sh cl_Sh k (m_Sh (ad := ad) (t := t) (F := F) (G := G) hK).1 (m_Sh hK).2 1 (by decide) rfl hl0 rfl hd kk
theorem gN_Sh_rails (ok : gOk s0 a0 D t p R s m meth c A own cc nL ret mn fr lo mc ms) (k : Nat) (hK : isSh k) {index : Nat} {host : String} (hl0 : Cond.fieldLinkNest own index "StitchDesk$Shape" "rails" "[LStitchDesk$Ring;" host ∈ lw_tbl) (hd : decode cc pc = .ok (.getfield index, 3)) (kk : gW p l e R s m args below meth c Q D A nL Z cells slots ad 265 (mem ad t F G) (pc + 3) lv (.ref (ad (k + 2)) :: st)) : gW p l e R s m args below meth c Q D A nL Z cells slots ad 265 (mem ad t F G) pc lv (.ref (ad k) :: st) :=
  g_getN ok in_Sh cl_Sh k (m_Sh (ad := ad) (t := t) (F := F) (G := G) hK).1 (m_Sh hK).2 1 (by decide) rfl hl0 rfl hd kk
theorem gI_Sh_tally (ok : gOk s0 a0 D t p R s m meth c A own cc nL ret mn fr lo mc ms) (k : Nat) (hK : isSh k) {index : Nat} (hl0 : Cond.fieldLink own index "StitchDesk$Shape" "tally" "LStitchDesk$Tally;" ∈ lw_tbl) (hd : decode cc pc = .ok (.getfield index, 3)) (kk : gW p l e R s m args below meth c Q D A nL Z cells slots ad 265 (mem ad t F G) (pc + 3) lv (.ref (ad (k + 21)) :: st)) : gW p l e R s m args below meth c Q D A nL Z cells slots ad 265 (mem ad t F G) pc lv (.ref (ad k) :: st) :=
  g_get ok in_Sh cl_Sh k (m_Sh (ad := ad) (t := t) (F := F) (G := G) hK).1 (m_Sh hK).2 2 (by decide) rfl hl0 rfl hd kk
theorem gN_Sh_tally (ok : gOk s0 a0 D t p R s m meth c A own cc nL ret mn fr lo mc ms) (k : Nat) (hK : isSh k) {index : Nat} {host : String} (hl0 : Cond.fieldLinkNest own index "StitchDesk$Shape" "tally" "LStitchDesk$Tally;" host ∈ lw_tbl) (hd : decode cc pc = .ok (.getfield index, 3)) (kk : gW p l e R s m args below meth c Q D A nL Z cells slots ad 265 (mem ad t F G) (pc + 3) lv (.ref (ad (k + 21)) :: st)) : gW p l e R s m args below meth c Q D A nL Z cells slots ad 265 (mem ad t F G) pc lv (.ref (ad k) :: st) :=
  g_getN ok in_Sh cl_Sh k (m_Sh (ad := ad) (t := t) (F := F) (G := G) hK).1 (m_Sh hK).2 2 (by decide) rfl hl0 rfl hd kk
theorem gI_Sh_colour (ok : gOk s0 a0 D t p R s m meth c A own cc nL ret mn fr lo mc ms) (k : Nat) (hK : isSh k) {index : Nat} (hl0 : Cond.fieldLink own index "StitchDesk$Shape" "colour" "I" ∈ lw_tbl) (hd : decode cc pc = .ok (.getfield index, 3)) (kk : gW p l e R s m args below meth c Q D A nL Z cells slots ad 265 (mem ad t F G) (pc + 3) lv (.int (iI (F k 3)) :: st)) : gW p l e R s m args below meth c Q D A nL Z cells slots ad 265 (mem ad t F G) pc lv (.ref (ad k) :: st) :=
  g_get ok in_Sh cl_Sh k (m_Sh (ad := ad) (t := t) (F := F) (G := G) hK).1 (m_Sh hK).2 3 (by decide) rfl hl0 rfl hd kk
theorem pI_Sh_colour (ok : gOk s0 a0 D t p R s m meth c A own cc nL ret mn fr lo mc ms) (k : Nat) (hK : isSh k) {index : Nat} (hl0 : Cond.fieldLink own index "StitchDesk$Shape" "colour" "I" ∈ lw_tbl) {v : Int} (hd : decode cc pc = .ok (.putfield index, 3)) (kk : gW p l e R s m args below meth c Q D A nL gZ cells slots ad 265 (mem ad t (fU F k 3 v) G) (pc + 3) lv st) : gW p l e R s m args below meth c Q D A nL Z cells slots ad 265 (mem ad t F G) pc lv (.int (iI v) :: .ref (ad k) :: st) := by
  refine g_put ok in_Sh cl_Sh k (m_Sh (ad := ad) (t := t) (F := F) (G := G) hK).1 (m_Sh hK).2 3 (by decide) ty_Sh ok_Sh nm_Sh rfl hl0 rfl rfl rfl (Nat.le_of_ble_eq_true rfl) hd ?_
  rw [mem_put (v := v) (j := 3) (by rw [(m_Sh hK).2]; simp [f_Sh, fU])]
  exact kk
theorem gN_Sh_colour (ok : gOk s0 a0 D t p R s m meth c A own cc nL ret mn fr lo mc ms) (k : Nat) (hK : isSh k) {index : Nat} {host : String} (hl0 : Cond.fieldLinkNest own index "StitchDesk$Shape" "colour" "I" host ∈ lw_tbl) (hd : decode cc pc = .ok (.getfield index, 3)) (kk : gW p l e R s m args below meth c Q D A nL Z cells slots ad 265 (mem ad t F G) (pc + 3) lv (.int (iI (F k 3)) :: st)) : gW p l e R s m args below meth c Q D A nL Z cells slots ad 265 (mem ad t F G) pc lv (.ref (ad k) :: st) :=
  g_getN ok in_Sh cl_Sh k (m_Sh (ad := ad) (t := t) (F := F) (G := G) hK).1 (m_Sh hK).2 3 (by decide) rfl hl0 rfl hd kk
theorem pN_Sh_colour (ok : gOk s0 a0 D t p R s m meth c A own cc nL ret mn fr lo mc ms) (k : Nat) (hK : isSh k) {index : Nat} {host : String} (hl0 : Cond.fieldLinkNest own index "StitchDesk$Shape" "colour" "I" host ∈ lw_tbl) {v : Int} (hd : decode cc pc = .ok (.putfield index, 3)) (kk : gW p l e R s m args below meth c Q D A nL gZ cells slots ad 265 (mem ad t (fU F k 3 v) G) (pc + 3) lv st) : gW p l e R s m args below meth c Q D A nL Z cells slots ad 265 (mem ad t F G) pc lv (.int (iI v) :: .ref (ad k) :: st) := by
  refine g_putN ok in_Sh cl_Sh k (m_Sh (ad := ad) (t := t) (F := F) (G := G) hK).1 (m_Sh hK).2 3 (by decide) ty_Sh ok_Sh nm_Sh rfl hl0 rfl rfl rfl (Nat.le_of_ble_eq_true rfl) hd ?_
  rw [mem_put (v := v) (j := 3) (by rw [(m_Sh hK).2]; simp [f_Sh, fU])]
  exact kk
theorem gI_Sh_fill (ok : gOk s0 a0 D t p R s m meth c A own cc nL ret mn fr lo mc ms) (k : Nat) (hK : isSh k) {index : Nat} (hl0 : Cond.fieldLink own index "StitchDesk$Shape" "fill" "I" ∈ lw_tbl) (hd : decode cc pc = .ok (.getfield index, 3)) (kk : gW p l e R s m args below meth c Q D A nL Z cells slots ad 265 (mem ad t F G) (pc + 3) lv (.int (iI (F k 4)) :: st)) : gW p l e R s m args below meth c Q D A nL Z cells slots ad 265 (mem ad t F G) pc lv (.ref (ad k) :: st) :=
  g_get ok in_Sh cl_Sh k (m_Sh (ad := ad) (t := t) (F := F) (G := G) hK).1 (m_Sh hK).2 4 (by decide) rfl hl0 rfl hd kk
theorem pI_Sh_fill (ok : gOk s0 a0 D t p R s m meth c A own cc nL ret mn fr lo mc ms) (k : Nat) (hK : isSh k) {index : Nat} (hl0 : Cond.fieldLink own index "StitchDesk$Shape" "fill" "I" ∈ lw_tbl) {v : Int} (hd : decode cc pc = .ok (.putfield index, 3)) (kk : gW p l e R s m args below meth c Q D A nL gZ cells slots ad 265 (mem ad t (fU F k 4 v) G) (pc + 3) lv st) : gW p l e R s m args below meth c Q D A nL Z cells slots ad 265 (mem ad t F G) pc lv (.int (iI v) :: .ref (ad k) :: st) := by
  refine g_put ok in_Sh cl_Sh k (m_Sh (ad := ad) (t := t) (F := F) (G := G) hK).1 (m_Sh hK).2 4 (by decide) ty_Sh ok_Sh nm_Sh rfl hl0 rfl rfl rfl (Nat.le_of_ble_eq_true rfl) hd ?_
  rw [mem_put (v := v) (j := 4) (by rw [(m_Sh hK).2]; simp [f_Sh, fU])]
  exact kk
theorem gN_Sh_fill (ok : gOk s0 a0 D t p R s m meth c A own cc nL ret mn fr lo mc ms) (k : Nat) (hK : isSh k) {index : Nat} {host : String} (hl0 : Cond.fieldLinkNest own index "StitchDesk$Shape" "fill" "I" host ∈ lw_tbl) (hd : decode cc pc = .ok (.getfield index, 3)) (kk : gW p l e R s m args below meth c Q D A nL Z cells slots ad 265 (mem ad t F G) (pc + 3) lv (.int (iI (F k 4)) :: st)) : gW p l e R s m args below meth c Q D A nL Z cells slots ad 265 (mem ad t F G) pc lv (.ref (ad k) :: st) :=
  g_getN ok in_Sh cl_Sh k (m_Sh (ad := ad) (t := t) (F := F) (G := G) hK).1 (m_Sh hK).2 4 (by decide) rfl hl0 rfl hd kk
theorem pN_Sh_fill (ok : gOk s0 a0 D t p R s m meth c A own cc nL ret mn fr lo mc ms) (k : Nat) (hK : isSh k) {index : Nat} {host : String} (hl0 : Cond.fieldLinkNest own index "StitchDesk$Shape" "fill" "I" host ∈ lw_tbl) {v : Int} (hd : decode cc pc = .ok (.putfield index, 3)) (kk : gW p l e R s m args below meth c Q D A nL gZ cells slots ad 265 (mem ad t (fU F k 4 v) G) (pc + 3) lv st) : gW p l e R s m args below meth c Q D A nL Z cells slots ad 265 (mem ad t F G) pc lv (.int (iI v) :: .ref (ad k) :: st) := by
  refine g_putN ok in_Sh cl_Sh k (m_Sh (ad := ad) (t := t) (F := F) (G := G) hK).1 (m_Sh hK).2 4 (by decide) ty_Sh ok_Sh nm_Sh rfl hl0 rfl rfl rfl (Nat.le_of_ble_eq_true rfl) hd ?_
  rw [mem_put (v := v) (j := 4) (by rw [(m_Sh hK).2]; simp [f_Sh, fU])]
  exact kk
theorem gI_Sh_spacing (ok : gOk s0 a0 D t p R s m meth c A own cc nL ret mn fr lo mc ms) (k : Nat) (hK : isSh k) {index : Nat} (hl0 : Cond.fieldLink own index "StitchDesk$Shape" "spacing" "I" ∈ lw_tbl) (hd : decode cc pc = .ok (.getfield index, 3)) (kk : gW p l e R s m args below meth c Q D A nL Z cells slots ad 265 (mem ad t F G) (pc + 3) lv (.int (iI (F k 5)) :: st)) : gW p l e R s m args below meth c Q D A nL Z cells slots ad 265 (mem ad t F G) pc lv (.ref (ad k) :: st) :=
  g_get ok in_Sh cl_Sh k (m_Sh (ad := ad) (t := t) (F := F) (G := G) hK).1 (m_Sh hK).2 5 (by decide) rfl hl0 rfl hd kk
theorem pI_Sh_spacing (ok : gOk s0 a0 D t p R s m meth c A own cc nL ret mn fr lo mc ms) (k : Nat) (hK : isSh k) {index : Nat} (hl0 : Cond.fieldLink own index "StitchDesk$Shape" "spacing" "I" ∈ lw_tbl) {v : Int} (hd : decode cc pc = .ok (.putfield index, 3)) (kk : gW p l e R s m args below meth c Q D A nL gZ cells slots ad 265 (mem ad t (fU F k 5 v) G) (pc + 3) lv st) : gW p l e R s m args below meth c Q D A nL Z cells slots ad 265 (mem ad t F G) pc lv (.int (iI v) :: .ref (ad k) :: st) := by
  refine g_put ok in_Sh cl_Sh k (m_Sh (ad := ad) (t := t) (F := F) (G := G) hK).1 (m_Sh hK).2 5 (by decide) ty_Sh ok_Sh nm_Sh rfl hl0 rfl rfl rfl (Nat.le_of_ble_eq_true rfl) hd ?_
  rw [mem_put (v := v) (j := 5) (by rw [(m_Sh hK).2]; simp [f_Sh, fU])]
  exact kk
theorem gN_Sh_spacing (ok : gOk s0 a0 D t p R s m meth c A own cc nL ret mn fr lo mc ms) (k : Nat) (hK : isSh k) {index : Nat} {host : String} (hl0 : Cond.fieldLinkNest own index "StitchDesk$Shape" "spacing" "I" host ∈ lw_tbl) (hd : decode cc pc = .ok (.getfield index, 3)) (kk : gW p l e R s m args below meth c Q D A nL Z cells slots ad 265 (mem ad t F G) (pc + 3) lv (.int (iI (F k 5)) :: st)) : gW p l e R s m args below meth c Q D A nL Z cells slots ad 265 (mem ad t F G) pc lv (.ref (ad k) :: st) :=
  g_getN ok in_Sh cl_Sh k (m_Sh (ad := ad) (t := t) (F := F) (G := G) hK).1 (m_Sh hK).2 5 (by decide) rfl hl0 rfl hd kk
theorem pN_Sh_spacing (ok : gOk s0 a0 D t p R s m meth c A own cc nL ret mn fr lo mc ms) (k : Nat) (hK : isSh k) {index : Nat} {host : String} (hl0 : Cond.fieldLinkNest own index "StitchDesk$Shape" "spacing" "I" host ∈ lw_tbl) {v : Int} (hd : decode cc pc = .ok (.putfield index, 3)) (kk : gW p l e R s m args below meth c Q D A nL gZ cells slots ad 265 (mem ad t (fU F k 5 v) G) (pc + 3) lv st) : gW p l e R s m args below meth c Q D A nL Z cells slots ad 265 (mem ad t F G) pc lv (.int (iI v) :: .ref (ad k) :: st) := by
  refine g_putN ok in_Sh cl_Sh k (m_Sh (ad := ad) (t := t) (F := F) (G := G) hK).1 (m_Sh hK).2 5 (by decide) ty_Sh ok_Sh nm_Sh rfl hl0 rfl rfl rfl (Nat.le_of_ble_eq_true rfl) hd ?_
  rw [mem_put (v := v) (j := 5) (by rw [(m_Sh hK).2]; simp [f_Sh, fU])]
  exact kk
theorem gI_Sh_direction (ok : gOk s0 a0 D t p R s m meth c A own cc nL ret mn fr lo mc ms) (k : Nat) (hK : isSh k) {index : Nat} (hl0 : Cond.fieldLink own index "StitchDesk$Shape" "direction" "I" ∈ lw_tbl) (hd : decode cc pc = .ok (.getfield index, 3)) (kk : gW p l e R s m args below meth c Q D A nL Z cells slots ad 265 (mem ad t F G) (pc + 3) lv (.int (iI (F k 6)) :: st)) : gW p l e R s m args below meth c Q D A nL Z cells slots ad 265 (mem ad t F G) pc lv (.ref (ad k) :: st) :=
  g_get ok in_Sh cl_Sh k (m_Sh (ad := ad) (t := t) (F := F) (G := G) hK).1 (m_Sh hK).2 6 (by decide) rfl hl0 rfl hd kk
theorem pI_Sh_direction (ok : gOk s0 a0 D t p R s m meth c A own cc nL ret mn fr lo mc ms) (k : Nat) (hK : isSh k) {index : Nat} (hl0 : Cond.fieldLink own index "StitchDesk$Shape" "direction" "I" ∈ lw_tbl) {v : Int} (hd : decode cc pc = .ok (.putfield index, 3)) (kk : gW p l e R s m args below meth c Q D A nL gZ cells slots ad 265 (mem ad t (fU F k 6 v) G) (pc + 3) lv st) : gW p l e R s m args below meth c Q D A nL Z cells slots ad 265 (mem ad t F G) pc lv (.int (iI v) :: .ref (ad k) :: st) := by
  refine g_put ok in_Sh cl_Sh k (m_Sh (ad := ad) (t := t) (F := F) (G := G) hK).1 (m_Sh hK).2 6 (by decide) ty_Sh ok_Sh nm_Sh rfl hl0 rfl rfl rfl (Nat.le_of_ble_eq_true rfl) hd ?_
  rw [mem_put (v := v) (j := 6) (by rw [(m_Sh hK).2]; simp [f_Sh, fU])]
  exact kk
theorem gN_Sh_direction (ok : gOk s0 a0 D t p R s m meth c A own cc nL ret mn fr lo mc ms) (k : Nat) (hK : isSh k) {index : Nat} {host : String} (hl0 : Cond.fieldLinkNest own index "StitchDesk$Shape" "direction" "I" host ∈ lw_tbl) (hd : decode cc pc = .ok (.getfield index, 3)) (kk : gW p l e R s m args below meth c Q D A nL Z cells slots ad 265 (mem ad t F G) (pc + 3) lv (.int (iI (F k 6)) :: st)) : gW p l e R s m args below meth c Q D A nL Z cells slots ad 265 (mem ad t F G) pc lv (.ref (ad k) :: st) :=
  g_getN ok in_Sh cl_Sh k (m_Sh (ad := ad) (t := t) (F := F) (G := G) hK).1 (m_Sh hK).2 6 (by decide) rfl hl0 rfl hd kk
theorem pN_Sh_direction (ok : gOk s0 a0 D t p R s m meth c A own cc nL ret mn fr lo mc ms) (k : Nat) (hK : isSh k) {index : Nat} {host : String} (hl0 : Cond.fieldLinkNest own index "StitchDesk$Shape" "direction" "I" host ∈ lw_tbl) {v : Int} (hd : decode cc pc = .ok (.putfield index, 3)) (kk : gW p l e R s m args below meth c Q D A nL gZ cells slots ad 265 (mem ad t (fU F k 6 v) G) (pc + 3) lv st) : gW p l e R s m args below meth c Q D A nL Z cells slots ad 265 (mem ad t F G) pc lv (.int (iI v) :: .ref (ad k) :: st) := by
  refine g_putN ok in_Sh cl_Sh k (m_Sh (ad := ad) (t := t) (F := F) (G := G) hK).1 (m_Sh hK).2 6 (by decide) ty_Sh ok_Sh nm_Sh rfl hl0 rfl rfl rfl (Nat.le_of_ble_eq_true rfl) hd ?_
  rw [mem_put (v := v) (j := 6) (by rw [(m_Sh hK).2]; simp [f_Sh, fU])]
  exact kk
theorem gI_Sh_left (ok : gOk s0 a0 D t p R s m meth c A own cc nL ret mn fr lo mc ms) (k : Nat) (hK : isSh k) {index : Nat} (hl0 : Cond.fieldLink own index "StitchDesk$Shape" "left" "I" ∈ lw_tbl) (hd : decode cc pc = .ok (.getfield index, 3)) (kk : gW p l e R s m args below meth c Q D A nL Z cells slots ad 265 (mem ad t F G) (pc + 3) lv (.int (iI (F k 7)) :: st)) : gW p l e R s m args below meth c Q D A nL Z cells slots ad 265 (mem ad t F G) pc lv (.ref (ad k) :: st) :=
  g_get ok in_Sh cl_Sh k (m_Sh (ad := ad) (t := t) (F := F) (G := G) hK).1 (m_Sh hK).2 7 (by decide) rfl hl0 rfl hd kk
theorem pI_Sh_left (ok : gOk s0 a0 D t p R s m meth c A own cc nL ret mn fr lo mc ms) (k : Nat) (hK : isSh k) {index : Nat} (hl0 : Cond.fieldLink own index "StitchDesk$Shape" "left" "I" ∈ lw_tbl) {v : Int} (hd : decode cc pc = .ok (.putfield index, 3)) (kk : gW p l e R s m args below meth c Q D A nL gZ cells slots ad 265 (mem ad t (fU F k 7 v) G) (pc + 3) lv st) : gW p l e R s m args below meth c Q D A nL Z cells slots ad 265 (mem ad t F G) pc lv (.int (iI v) :: .ref (ad k) :: st) := by
  refine g_put ok in_Sh cl_Sh k (m_Sh (ad := ad) (t := t) (F := F) (G := G) hK).1 (m_Sh hK).2 7 (by decide) ty_Sh ok_Sh nm_Sh rfl hl0 rfl rfl rfl (Nat.le_of_ble_eq_true rfl) hd ?_
  rw [mem_put (v := v) (j := 7) (by rw [(m_Sh hK).2]; simp [f_Sh, fU])]
  exact kk
theorem gN_Sh_left (ok : gOk s0 a0 D t p R s m meth c A own cc nL ret mn fr lo mc ms) (k : Nat) (hK : isSh k) {index : Nat} {host : String} (hl0 : Cond.fieldLinkNest own index "StitchDesk$Shape" "left" "I" host ∈ lw_tbl) (hd : decode cc pc = .ok (.getfield index, 3)) (kk : gW p l e R s m args below meth c Q D A nL Z cells slots ad 265 (mem ad t F G) (pc + 3) lv (.int (iI (F k 7)) :: st)) : gW p l e R s m args below meth c Q D A nL Z cells slots ad 265 (mem ad t F G) pc lv (.ref (ad k) :: st) :=
  g_getN ok in_Sh cl_Sh k (m_Sh (ad := ad) (t := t) (F := F) (G := G) hK).1 (m_Sh hK).2 7 (by decide) rfl hl0 rfl hd kk
theorem pN_Sh_left (ok : gOk s0 a0 D t p R s m meth c A own cc nL ret mn fr lo mc ms) (k : Nat) (hK : isSh k) {index : Nat} {host : String} (hl0 : Cond.fieldLinkNest own index "StitchDesk$Shape" "left" "I" host ∈ lw_tbl) {v : Int} (hd : decode cc pc = .ok (.putfield index, 3)) (kk : gW p l e R s m args below meth c Q D A nL gZ cells slots ad 265 (mem ad t (fU F k 7 v) G) (pc + 3) lv st) : gW p l e R s m args below meth c Q D A nL Z cells slots ad 265 (mem ad t F G) pc lv (.int (iI v) :: .ref (ad k) :: st) := by
  refine g_putN ok in_Sh cl_Sh k (m_Sh (ad := ad) (t := t) (F := F) (G := G) hK).1 (m_Sh hK).2 7 (by decide) ty_Sh ok_Sh nm_Sh rfl hl0 rfl rfl rfl (Nat.le_of_ble_eq_true rfl) hd ?_
  rw [mem_put (v := v) (j := 7) (by rw [(m_Sh hK).2]; simp [f_Sh, fU])]
  exact kk
theorem gI_Sh_top (ok : gOk s0 a0 D t p R s m meth c A own cc nL ret mn fr lo mc ms) (k : Nat) (hK : isSh k) {index : Nat} (hl0 : Cond.fieldLink own index "StitchDesk$Shape" "top" "I" ∈ lw_tbl) (hd : decode cc pc = .ok (.getfield index, 3)) (kk : gW p l e R s m args below meth c Q D A nL Z cells slots ad 265 (mem ad t F G) (pc + 3) lv (.int (iI (F k 8)) :: st)) : gW p l e R s m args below meth c Q D A nL Z cells slots ad 265 (mem ad t F G) pc lv (.ref (ad k) :: st) :=
  g_get ok in_Sh cl_Sh k (m_Sh (ad := ad) (t := t) (F := F) (G := G) hK).1 (m_Sh hK).2 8 (by decide) rfl hl0 rfl hd kk
theorem pI_Sh_top (ok : gOk s0 a0 D t p R s m meth c A own cc nL ret mn fr lo mc ms) (k : Nat) (hK : isSh k) {index : Nat} (hl0 : Cond.fieldLink own index "StitchDesk$Shape" "top" "I" ∈ lw_tbl) {v : Int} (hd : decode cc pc = .ok (.putfield index, 3)) (kk : gW p l e R s m args below meth c Q D A nL gZ cells slots ad 265 (mem ad t (fU F k 8 v) G) (pc + 3) lv st) : gW p l e R s m args below meth c Q D A nL Z cells slots ad 265 (mem ad t F G) pc lv (.int (iI v) :: .ref (ad k) :: st) := by
  refine g_put ok in_Sh cl_Sh k (m_Sh (ad := ad) (t := t) (F := F) (G := G) hK).1 (m_Sh hK).2 8 (by decide) ty_Sh ok_Sh nm_Sh rfl hl0 rfl rfl rfl (Nat.le_of_ble_eq_true rfl) hd ?_
  rw [mem_put (v := v) (j := 8) (by rw [(m_Sh hK).2]; simp [f_Sh, fU])]
  exact kk
theorem gN_Sh_top (ok : gOk s0 a0 D t p R s m meth c A own cc nL ret mn fr lo mc ms) (k : Nat) (hK : isSh k) {index : Nat} {host : String} (hl0 : Cond.fieldLinkNest own index "StitchDesk$Shape" "top" "I" host ∈ lw_tbl) (hd : decode cc pc = .ok (.getfield index, 3)) (kk : gW p l e R s m args below meth c Q D A nL Z cells slots ad 265 (mem ad t F G) (pc + 3) lv (.int (iI (F k 8)) :: st)) : gW p l e R s m args below meth c Q D A nL Z cells slots ad 265 (mem ad t F G) pc lv (.ref (ad k) :: st) :=
  g_getN ok in_Sh cl_Sh k (m_Sh (ad := ad) (t := t) (F := F) (G := G) hK).1 (m_Sh hK).2 8 (by decide) rfl hl0 rfl hd kk
theorem pN_Sh_top (ok : gOk s0 a0 D t p R s m meth c A own cc nL ret mn fr lo mc ms) (k : Nat) (hK : isSh k) {index : Nat} {host : String} (hl0 : Cond.fieldLinkNest own index "StitchDesk$Shape" "top" "I" host ∈ lw_tbl) {v : Int} (hd : decode cc pc = .ok (.putfield index, 3)) (kk : gW p l e R s m args below meth c Q D A nL gZ cells slots ad 265 (mem ad t (fU F k 8 v) G) (pc + 3) lv st) : gW p l e R s m args below meth c Q D A nL Z cells slots ad 265 (mem ad t F G) pc lv (.int (iI v) :: .ref (ad k) :: st) := by
  refine g_putN ok in_Sh cl_Sh k (m_Sh (ad := ad) (t := t) (F := F) (G := G) hK).1 (m_Sh hK).2 8 (by decide) ty_Sh ok_Sh nm_Sh rfl hl0 rfl rfl rfl (Nat.le_of_ble_eq_true rfl) hd ?_
  rw [mem_put (v := v) (j := 8) (by rw [(m_Sh hK).2]; simp [f_Sh, fU])]
  exact kk
theorem gI_Sh_right (ok : gOk s0 a0 D t p R s m meth c A own cc nL ret mn fr lo mc ms) (k : Nat) (hK : isSh k) {index : Nat} (hl0 : Cond.fieldLink own index "StitchDesk$Shape" "right" "I" ∈ lw_tbl) (hd : decode cc pc = .ok (.getfield index, 3)) (kk : gW p l e R s m args below meth c Q D A nL Z cells slots ad 265 (mem ad t F G) (pc + 3) lv (.int (iI (F k 9)) :: st)) : gW p l e R s m args below meth c Q D A nL Z cells slots ad 265 (mem ad t F G) pc lv (.ref (ad k) :: st) :=
  g_get ok in_Sh cl_Sh k (m_Sh (ad := ad) (t := t) (F := F) (G := G) hK).1 (m_Sh hK).2 9 (by decide) rfl hl0 rfl hd kk
theorem pI_Sh_right (ok : gOk s0 a0 D t p R s m meth c A own cc nL ret mn fr lo mc ms) (k : Nat) (hK : isSh k) {index : Nat} (hl0 : Cond.fieldLink own index "StitchDesk$Shape" "right" "I" ∈ lw_tbl) {v : Int} (hd : decode cc pc = .ok (.putfield index, 3)) (kk : gW p l e R s m args below meth c Q D A nL gZ cells slots ad 265 (mem ad t (fU F k 9 v) G) (pc + 3) lv st) : gW p l e R s m args below meth c Q D A nL Z cells slots ad 265 (mem ad t F G) pc lv (.int (iI v) :: .ref (ad k) :: st) := by
  refine g_put ok in_Sh cl_Sh k (m_Sh (ad := ad) (t := t) (F := F) (G := G) hK).1 (m_Sh hK).2 9 (by decide) ty_Sh ok_Sh nm_Sh rfl hl0 rfl rfl rfl (Nat.le_of_ble_eq_true rfl) hd ?_
  rw [mem_put (v := v) (j := 9) (by rw [(m_Sh hK).2]; simp [f_Sh, fU])]
  exact kk
theorem gN_Sh_right (ok : gOk s0 a0 D t p R s m meth c A own cc nL ret mn fr lo mc ms) (k : Nat) (hK : isSh k) {index : Nat} {host : String} (hl0 : Cond.fieldLinkNest own index "StitchDesk$Shape" "right" "I" host ∈ lw_tbl) (hd : decode cc pc = .ok (.getfield index, 3)) (kk : gW p l e R s m args below meth c Q D A nL Z cells slots ad 265 (mem ad t F G) (pc + 3) lv (.int (iI (F k 9)) :: st)) : gW p l e R s m args below meth c Q D A nL Z cells slots ad 265 (mem ad t F G) pc lv (.ref (ad k) :: st) :=
  g_getN ok in_Sh cl_Sh k (m_Sh (ad := ad) (t := t) (F := F) (G := G) hK).1 (m_Sh hK).2 9 (by decide) rfl hl0 rfl hd kk
theorem pN_Sh_right (ok : gOk s0 a0 D t p R s m meth c A own cc nL ret mn fr lo mc ms) (k : Nat) (hK : isSh k) {index : Nat} {host : String} (hl0 : Cond.fieldLinkNest own index "StitchDesk$Shape" "right" "I" host ∈ lw_tbl) {v : Int} (hd : decode cc pc = .ok (.putfield index, 3)) (kk : gW p l e R s m args below meth c Q D A nL gZ cells slots ad 265 (mem ad t (fU F k 9 v) G) (pc + 3) lv st) : gW p l e R s m args below meth c Q D A nL Z cells slots ad 265 (mem ad t F G) pc lv (.int (iI v) :: .ref (ad k) :: st) := by
  refine g_putN ok in_Sh cl_Sh k (m_Sh (ad := ad) (t := t) (F := F) (G := G) hK).1 (m_Sh hK).2 9 (by decide) ty_Sh ok_Sh nm_Sh rfl hl0 rfl rfl rfl (Nat.le_of_ble_eq_true rfl) hd ?_
  rw [mem_put (v := v) (j := 9) (by rw [(m_Sh hK).2]; simp [f_Sh, fU])]
  exact kk
theorem gI_Sh_bottom (ok : gOk s0 a0 D t p R s m meth c A own cc nL ret mn fr lo mc ms) (k : Nat) (hK : isSh k) {index : Nat} (hl0 : Cond.fieldLink own index "StitchDesk$Shape" "bottom" "I" ∈ lw_tbl) (hd : decode cc pc = .ok (.getfield index, 3)) (kk : gW p l e R s m args below meth c Q D A nL Z cells slots ad 265 (mem ad t F G) (pc + 3) lv (.int (iI (F k 10)) :: st)) : gW p l e R s m args below meth c Q D A nL Z cells slots ad 265 (mem ad t F G) pc lv (.ref (ad k) :: st) :=
  g_get ok in_Sh cl_Sh k (m_Sh (ad := ad) (t := t) (F := F) (G := G) hK).1 (m_Sh hK).2 10 (by decide) rfl hl0 rfl hd kk
theorem pI_Sh_bottom (ok : gOk s0 a0 D t p R s m meth c A own cc nL ret mn fr lo mc ms) (k : Nat) (hK : isSh k) {index : Nat} (hl0 : Cond.fieldLink own index "StitchDesk$Shape" "bottom" "I" ∈ lw_tbl) {v : Int} (hd : decode cc pc = .ok (.putfield index, 3)) (kk : gW p l e R s m args below meth c Q D A nL gZ cells slots ad 265 (mem ad t (fU F k 10 v) G) (pc + 3) lv st) : gW p l e R s m args below meth c Q D A nL Z cells slots ad 265 (mem ad t F G) pc lv (.int (iI v) :: .ref (ad k) :: st) := by
  refine g_put ok in_Sh cl_Sh k (m_Sh (ad := ad) (t := t) (F := F) (G := G) hK).1 (m_Sh hK).2 10 (by decide) ty_Sh ok_Sh nm_Sh rfl hl0 rfl rfl rfl (Nat.le_of_ble_eq_true rfl) hd ?_
  rw [mem_put (v := v) (j := 10) (by rw [(m_Sh hK).2]; simp [f_Sh, fU])]
  exact kk
theorem gN_Sh_bottom (ok : gOk s0 a0 D t p R s m meth c A own cc nL ret mn fr lo mc ms) (k : Nat) (hK : isSh k) {index : Nat} {host : String} (hl0 : Cond.fieldLinkNest own index "StitchDesk$Shape" "bottom" "I" host ∈ lw_tbl) (hd : decode cc pc = .ok (.getfield index, 3)) (kk : gW p l e R s m args below meth c Q D A nL Z cells slots ad 265 (mem ad t F G) (pc + 3) lv (.int (iI (F k 10)) :: st)) : gW p l e R s m args below meth c Q D A nL Z cells slots ad 265 (mem ad t F G) pc lv (.ref (ad k) :: st) :=
  g_getN ok in_Sh cl_Sh k (m_Sh (ad := ad) (t := t) (F := F) (G := G) hK).1 (m_Sh hK).2 10 (by decide) rfl hl0 rfl hd kk
theorem pN_Sh_bottom (ok : gOk s0 a0 D t p R s m meth c A own cc nL ret mn fr lo mc ms) (k : Nat) (hK : isSh k) {index : Nat} {host : String} (hl0 : Cond.fieldLinkNest own index "StitchDesk$Shape" "bottom" "I" host ∈ lw_tbl) {v : Int} (hd : decode cc pc = .ok (.putfield index, 3)) (kk : gW p l e R s m args below meth c Q D A nL gZ cells slots ad 265 (mem ad t (fU F k 10 v) G) (pc + 3) lv st) : gW p l e R s m args below meth c Q D A nL Z cells slots ad 265 (mem ad t F G) pc lv (.int (iI v) :: .ref (ad k) :: st) := by
  refine g_putN ok in_Sh cl_Sh k (m_Sh (ad := ad) (t := t) (F := F) (G := G) hK).1 (m_Sh hK).2 10 (by decide) ty_Sh ok_Sh nm_Sh rfl hl0 rfl rfl rfl (Nat.le_of_ble_eq_true rfl) hd ?_
  rw [mem_put (v := v) (j := 10) (by rw [(m_Sh hK).2]; simp [f_Sh, fU])]
  exact kk
theorem gI_Rg_xs (ok : gOk s0 a0 D t p R s m meth c A own cc nL ret mn fr lo mc ms) (k : Nat) (hK : isRg k) {index : Nat} (hl0 : Cond.fieldLink own index "StitchDesk$Ring" "xs" "[I" ∈ lw_tbl) (hd : decode cc pc = .ok (.getfield index, 3)) (kk : gW p l e R s m args below meth c Q D A nL Z cells slots ad 265 (mem ad t F G) (pc + 3) lv (.ref (ad (k + 1)) :: st)) : gW p l e R s m args below meth c Q D A nL Z cells slots ad 265 (mem ad t F G) pc lv (.ref (ad k) :: st) :=
  g_get ok in_Rg cl_Rg k (m_Rg (ad := ad) (t := t) (F := F) (G := G) hK).1 (m_Rg hK).2 0 (by decide) rfl hl0 rfl hd kk
theorem gN_Rg_xs (ok : gOk s0 a0 D t p R s m meth c A own cc nL ret mn fr lo mc ms) (k : Nat) (hK : isRg k) {index : Nat} {host : String} (hl0 : Cond.fieldLinkNest own index "StitchDesk$Ring" "xs" "[I" host ∈ lw_tbl) (hd : decode cc pc = .ok (.getfield index, 3)) (kk : gW p l e R s m args below meth c Q D A nL Z cells slots ad 265 (mem ad t F G) (pc + 3) lv (.ref (ad (k + 1)) :: st)) : gW p l e R s m args below meth c Q D A nL Z cells slots ad 265 (mem ad t F G) pc lv (.ref (ad k) :: st) :=
  g_getN ok in_Rg cl_Rg k (m_Rg (ad := ad) (t := t) (F := F) (G := G) hK).1 (m_Rg hK).2 0 (by decide) rfl hl0 rfl hd kk
theorem gI_Rg_ys (ok : gOk s0 a0 D t p R s m meth c A own cc nL ret mn fr lo mc ms) (k : Nat) (hK : isRg k) {index : Nat} (hl0 : Cond.fieldLink own index "StitchDesk$Ring" "ys" "[I" ∈ lw_tbl) (hd : decode cc pc = .ok (.getfield index, 3)) (kk : gW p l e R s m args below meth c Q D A nL Z cells slots ad 265 (mem ad t F G) (pc + 3) lv (.ref (ad (k + 2)) :: st)) : gW p l e R s m args below meth c Q D A nL Z cells slots ad 265 (mem ad t F G) pc lv (.ref (ad k) :: st) :=
  g_get ok in_Rg cl_Rg k (m_Rg (ad := ad) (t := t) (F := F) (G := G) hK).1 (m_Rg hK).2 1 (by decide) rfl hl0 rfl hd kk
theorem gN_Rg_ys (ok : gOk s0 a0 D t p R s m meth c A own cc nL ret mn fr lo mc ms) (k : Nat) (hK : isRg k) {index : Nat} {host : String} (hl0 : Cond.fieldLinkNest own index "StitchDesk$Ring" "ys" "[I" host ∈ lw_tbl) (hd : decode cc pc = .ok (.getfield index, 3)) (kk : gW p l e R s m args below meth c Q D A nL Z cells slots ad 265 (mem ad t F G) (pc + 3) lv (.ref (ad (k + 2)) :: st)) : gW p l e R s m args below meth c Q D A nL Z cells slots ad 265 (mem ad t F G) pc lv (.ref (ad k) :: st) :=
  g_getN ok in_Rg cl_Rg k (m_Rg (ad := ad) (t := t) (F := F) (G := G) hK).1 (m_Rg hK).2 1 (by decide) rfl hl0 rfl hd kk
theorem gI_Rg_size (ok : gOk s0 a0 D t p R s m meth c A own cc nL ret mn fr lo mc ms) (k : Nat) (hK : isRg k) {index : Nat} (hl0 : Cond.fieldLink own index "StitchDesk$Ring" "size" "I" ∈ lw_tbl) (hd : decode cc pc = .ok (.getfield index, 3)) (kk : gW p l e R s m args below meth c Q D A nL Z cells slots ad 265 (mem ad t F G) (pc + 3) lv (.int (iI (F k 2)) :: st)) : gW p l e R s m args below meth c Q D A nL Z cells slots ad 265 (mem ad t F G) pc lv (.ref (ad k) :: st) :=
  g_get ok in_Rg cl_Rg k (m_Rg (ad := ad) (t := t) (F := F) (G := G) hK).1 (m_Rg hK).2 2 (by decide) rfl hl0 rfl hd kk
theorem pI_Rg_size (ok : gOk s0 a0 D t p R s m meth c A own cc nL ret mn fr lo mc ms) (k : Nat) (hK : isRg k) {index : Nat} (hl0 : Cond.fieldLink own index "StitchDesk$Ring" "size" "I" ∈ lw_tbl) {v : Int} (hd : decode cc pc = .ok (.putfield index, 3)) (kk : gW p l e R s m args below meth c Q D A nL gZ cells slots ad 265 (mem ad t (fU F k 2 v) G) (pc + 3) lv st) : gW p l e R s m args below meth c Q D A nL Z cells slots ad 265 (mem ad t F G) pc lv (.int (iI v) :: .ref (ad k) :: st) := by
  refine g_put ok in_Rg cl_Rg k (m_Rg (ad := ad) (t := t) (F := F) (G := G) hK).1 (m_Rg hK).2 2 (by decide) ty_Rg ok_Rg nm_Rg rfl hl0 rfl rfl rfl (Nat.le_of_ble_eq_true rfl) hd ?_
  rw [mem_put (v := v) (j := 2) (by rw [(m_Rg hK).2]; simp [f_Rg, fU])]
  exact kk
theorem gN_Rg_size (ok : gOk s0 a0 D t p R s m meth c A own cc nL ret mn fr lo mc ms) (k : Nat) (hK : isRg k) {index : Nat} {host : String} (hl0 : Cond.fieldLinkNest own index "StitchDesk$Ring" "size" "I" host ∈ lw_tbl) (hd : decode cc pc = .ok (.getfield index, 3)) (kk : gW p l e R s m args below meth c Q D A nL Z cells slots ad 265 (mem ad t F G) (pc + 3) lv (.int (iI (F k 2)) :: st)) : gW p l e R s m args below meth c Q D A nL Z cells slots ad 265 (mem ad t F G) pc lv (.ref (ad k) :: st) :=
  g_getN ok in_Rg cl_Rg k (m_Rg (ad := ad) (t := t) (F := F) (G := G) hK).1 (m_Rg hK).2 2 (by decide) rfl hl0 rfl hd kk
theorem pN_Rg_size (ok : gOk s0 a0 D t p R s m meth c A own cc nL ret mn fr lo mc ms) (k : Nat) (hK : isRg k) {index : Nat} {host : String} (hl0 : Cond.fieldLinkNest own index "StitchDesk$Ring" "size" "I" host ∈ lw_tbl) {v : Int} (hd : decode cc pc = .ok (.putfield index, 3)) (kk : gW p l e R s m args below meth c Q D A nL gZ cells slots ad 265 (mem ad t (fU F k 2 v) G) (pc + 3) lv st) : gW p l e R s m args below meth c Q D A nL Z cells slots ad 265 (mem ad t F G) pc lv (.int (iI v) :: .ref (ad k) :: st) := by
  refine g_putN ok in_Rg cl_Rg k (m_Rg (ad := ad) (t := t) (F := F) (G := G) hK).1 (m_Rg hK).2 2 (by decide) ty_Rg ok_Rg nm_Rg rfl hl0 rfl rfl rfl (Nat.le_of_ble_eq_true rfl) hd ?_
  rw [mem_put (v := v) (j := 2) (by rw [(m_Rg hK).2]; simp [f_Rg, fU])]
  exact kk
theorem gI_Ty_runs (ok : gOk s0 a0 D t p R s m meth c A own cc nL ret mn fr lo mc ms) (k : Nat) (hK : isTy k) {index : Nat} (hl0 : Cond.fieldLink own index "StitchDesk$Tally" "runs" "I" ∈ lw_tbl) (hd : decode cc pc = .ok (.getfield index, 3)) (kk : gW p l e R s m args below meth c Q D A nL Z cells slots ad 265 (mem ad t F G) (pc + 3) lv (.int (iI (F k 0)) :: st)) : gW p l e R s m args below meth c Q D A nL Z cells slots ad 265 (mem ad t F G) pc lv (.ref (ad k) :: st) :=
  g_get ok in_Ty cl_Ty k (m_Ty (ad := ad) (t := t) (F := F) (G := G) hK).1 (m_Ty hK).2 0 (by decide) rfl hl0 rfl hd kk
theorem pI_Ty_runs (ok : gOk s0 a0 D t p R s m meth c A own cc nL ret mn fr lo mc ms) (k : Nat) (hK : isTy k) {index : Nat} (hl0 : Cond.fieldLink own index "StitchDesk$Tally" "runs" "I" ∈ lw_tbl) {v : Int} (hd : decode cc pc = .ok (.putfield index, 3)) (kk : gW p l e R s m args below meth c Q D A nL gZ cells slots ad 265 (mem ad t (fU F k 0 v) G) (pc + 3) lv st) : gW p l e R s m args below meth c Q D A nL Z cells slots ad 265 (mem ad t F G) pc lv (.int (iI v) :: .ref (ad k) :: st) := by
  refine g_put ok in_Ty cl_Ty k (m_Ty (ad := ad) (t := t) (F := F) (G := G) hK).1 (m_Ty hK).2 0 (by decide) ty_Ty ok_Ty nm_Ty rfl hl0 rfl rfl rfl (Nat.le_of_ble_eq_true rfl) hd ?_
  rw [mem_put (v := v) (j := 0) (by rw [(m_Ty hK).2]; simp [f_Ty, fU])]
  exact kk
theorem gN_Ty_runs (ok : gOk s0 a0 D t p R s m meth c A own cc nL ret mn fr lo mc ms) (k : Nat) (hK : isTy k) {index : Nat} {host : String} (hl0 : Cond.fieldLinkNest own index "StitchDesk$Tally" "runs" "I" host ∈ lw_tbl) (hd : decode cc pc = .ok (.getfield index, 3)) (kk : gW p l e R s m args below meth c Q D A nL Z cells slots ad 265 (mem ad t F G) (pc + 3) lv (.int (iI (F k 0)) :: st)) : gW p l e R s m args below meth c Q D A nL Z cells slots ad 265 (mem ad t F G) pc lv (.ref (ad k) :: st) :=
  g_getN ok in_Ty cl_Ty k (m_Ty (ad := ad) (t := t) (F := F) (G := G) hK).1 (m_Ty hK).2 0 (by decide) rfl hl0 rfl hd kk
theorem pN_Ty_runs (ok : gOk s0 a0 D t p R s m meth c A own cc nL ret mn fr lo mc ms) (k : Nat) (hK : isTy k) {index : Nat} {host : String} (hl0 : Cond.fieldLinkNest own index "StitchDesk$Tally" "runs" "I" host ∈ lw_tbl) {v : Int} (hd : decode cc pc = .ok (.putfield index, 3)) (kk : gW p l e R s m args below meth c Q D A nL gZ cells slots ad 265 (mem ad t (fU F k 0 v) G) (pc + 3) lv st) : gW p l e R s m args below meth c Q D A nL Z cells slots ad 265 (mem ad t F G) pc lv (.int (iI v) :: .ref (ad k) :: st) := by
  refine g_putN ok in_Ty cl_Ty k (m_Ty (ad := ad) (t := t) (F := F) (G := G) hK).1 (m_Ty hK).2 0 (by decide) ty_Ty ok_Ty nm_Ty rfl hl0 rfl rfl rfl (Nat.le_of_ble_eq_true rfl) hd ?_
  rw [mem_put (v := v) (j := 0) (by rw [(m_Ty hK).2]; simp [f_Ty, fU])]
  exact kk
theorem gI_Ty_places (ok : gOk s0 a0 D t p R s m meth c A own cc nL ret mn fr lo mc ms) (k : Nat) (hK : isTy k) {index : Nat} (hl0 : Cond.fieldLink own index "StitchDesk$Tally" "places" "I" ∈ lw_tbl) (hd : decode cc pc = .ok (.getfield index, 3)) (kk : gW p l e R s m args below meth c Q D A nL Z cells slots ad 265 (mem ad t F G) (pc + 3) lv (.int (iI (F k 1)) :: st)) : gW p l e R s m args below meth c Q D A nL Z cells slots ad 265 (mem ad t F G) pc lv (.ref (ad k) :: st) :=
  g_get ok in_Ty cl_Ty k (m_Ty (ad := ad) (t := t) (F := F) (G := G) hK).1 (m_Ty hK).2 1 (by decide) rfl hl0 rfl hd kk
theorem pI_Ty_places (ok : gOk s0 a0 D t p R s m meth c A own cc nL ret mn fr lo mc ms) (k : Nat) (hK : isTy k) {index : Nat} (hl0 : Cond.fieldLink own index "StitchDesk$Tally" "places" "I" ∈ lw_tbl) {v : Int} (hd : decode cc pc = .ok (.putfield index, 3)) (kk : gW p l e R s m args below meth c Q D A nL gZ cells slots ad 265 (mem ad t (fU F k 1 v) G) (pc + 3) lv st) : gW p l e R s m args below meth c Q D A nL Z cells slots ad 265 (mem ad t F G) pc lv (.int (iI v) :: .ref (ad k) :: st) := by
  refine g_put ok in_Ty cl_Ty k (m_Ty (ad := ad) (t := t) (F := F) (G := G) hK).1 (m_Ty hK).2 1 (by decide) ty_Ty ok_Ty nm_Ty rfl hl0 rfl rfl rfl (Nat.le_of_ble_eq_true rfl) hd ?_
  rw [mem_put (v := v) (j := 1) (by rw [(m_Ty hK).2]; simp [f_Ty, fU])]
  exact kk
theorem gN_Ty_places (ok : gOk s0 a0 D t p R s m meth c A own cc nL ret mn fr lo mc ms) (k : Nat) (hK : isTy k) {index : Nat} {host : String} (hl0 : Cond.fieldLinkNest own index "StitchDesk$Tally" "places" "I" host ∈ lw_tbl) (hd : decode cc pc = .ok (.getfield index, 3)) (kk : gW p l e R s m args below meth c Q D A nL Z cells slots ad 265 (mem ad t F G) (pc + 3) lv (.int (iI (F k 1)) :: st)) : gW p l e R s m args below meth c Q D A nL Z cells slots ad 265 (mem ad t F G) pc lv (.ref (ad k) :: st) :=
  g_getN ok in_Ty cl_Ty k (m_Ty (ad := ad) (t := t) (F := F) (G := G) hK).1 (m_Ty hK).2 1 (by decide) rfl hl0 rfl hd kk
theorem pN_Ty_places (ok : gOk s0 a0 D t p R s m meth c A own cc nL ret mn fr lo mc ms) (k : Nat) (hK : isTy k) {index : Nat} {host : String} (hl0 : Cond.fieldLinkNest own index "StitchDesk$Tally" "places" "I" host ∈ lw_tbl) {v : Int} (hd : decode cc pc = .ok (.putfield index, 3)) (kk : gW p l e R s m args below meth c Q D A nL gZ cells slots ad 265 (mem ad t (fU F k 1 v) G) (pc + 3) lv st) : gW p l e R s m args below meth c Q D A nL Z cells slots ad 265 (mem ad t F G) pc lv (.int (iI v) :: .ref (ad k) :: st) := by
  refine g_putN ok in_Ty cl_Ty k (m_Ty (ad := ad) (t := t) (F := F) (G := G) hK).1 (m_Ty hK).2 1 (by decide) ty_Ty ok_Ty nm_Ty rfl hl0 rfl rfl rfl (Nat.le_of_ble_eq_true rfl) hd ?_
  rw [mem_put (v := v) (j := 1) (by rw [(m_Ty hK).2]; simp [f_Ty, fU])]
  exact kk
theorem gI_In_x1 (ok : gOk s0 a0 D t p R s m meth c A own cc nL ret mn fr lo mc ms) (k : Nat) (hK : isIn k) {index : Nat} (hl0 : Cond.fieldLink own index "StitchDesk$Inspector" "x1" "[I" ∈ lw_tbl) (hd : decode cc pc = .ok (.getfield index, 3)) (kk : gW p l e R s m args below meth c Q D A nL Z cells slots ad 265 (mem ad t F G) (pc + 3) lv (.ref (ad 225) :: st)) : gW p l e R s m args below meth c Q D A nL Z cells slots ad 265 (mem ad t F G) pc lv (.ref (ad k) :: st) :=
  g_get ok in_In cl_In k (m_In (ad := ad) (t := t) (F := F) (G := G) hK).1 (m_In hK).2 0 (by decide) rfl hl0 rfl hd kk
theorem gN_In_x1 (ok : gOk s0 a0 D t p R s m meth c A own cc nL ret mn fr lo mc ms) (k : Nat) (hK : isIn k) {index : Nat} {host : String} (hl0 : Cond.fieldLinkNest own index "StitchDesk$Inspector" "x1" "[I" host ∈ lw_tbl) (hd : decode cc pc = .ok (.getfield index, 3)) (kk : gW p l e R s m args below meth c Q D A nL Z cells slots ad 265 (mem ad t F G) (pc + 3) lv (.ref (ad 225) :: st)) : gW p l e R s m args below meth c Q D A nL Z cells slots ad 265 (mem ad t F G) pc lv (.ref (ad k) :: st) :=
  g_getN ok in_In cl_In k (m_In (ad := ad) (t := t) (F := F) (G := G) hK).1 (m_In hK).2 0 (by decide) rfl hl0 rfl hd kk
theorem gI_In_y1 (ok : gOk s0 a0 D t p R s m meth c A own cc nL ret mn fr lo mc ms) (k : Nat) (hK : isIn k) {index : Nat} (hl0 : Cond.fieldLink own index "StitchDesk$Inspector" "y1" "[I" ∈ lw_tbl) (hd : decode cc pc = .ok (.getfield index, 3)) (kk : gW p l e R s m args below meth c Q D A nL Z cells slots ad 265 (mem ad t F G) (pc + 3) lv (.ref (ad 226) :: st)) : gW p l e R s m args below meth c Q D A nL Z cells slots ad 265 (mem ad t F G) pc lv (.ref (ad k) :: st) :=
  g_get ok in_In cl_In k (m_In (ad := ad) (t := t) (F := F) (G := G) hK).1 (m_In hK).2 1 (by decide) rfl hl0 rfl hd kk
theorem gN_In_y1 (ok : gOk s0 a0 D t p R s m meth c A own cc nL ret mn fr lo mc ms) (k : Nat) (hK : isIn k) {index : Nat} {host : String} (hl0 : Cond.fieldLinkNest own index "StitchDesk$Inspector" "y1" "[I" host ∈ lw_tbl) (hd : decode cc pc = .ok (.getfield index, 3)) (kk : gW p l e R s m args below meth c Q D A nL Z cells slots ad 265 (mem ad t F G) (pc + 3) lv (.ref (ad 226) :: st)) : gW p l e R s m args below meth c Q D A nL Z cells slots ad 265 (mem ad t F G) pc lv (.ref (ad k) :: st) :=
  g_getN ok in_In cl_In k (m_In (ad := ad) (t := t) (F := F) (G := G) hK).1 (m_In hK).2 1 (by decide) rfl hl0 rfl hd kk
theorem gI_In_x2 (ok : gOk s0 a0 D t p R s m meth c A own cc nL ret mn fr lo mc ms) (k : Nat) (hK : isIn k) {index : Nat} (hl0 : Cond.fieldLink own index "StitchDesk$Inspector" "x2" "[I" ∈ lw_tbl) (hd : decode cc pc = .ok (.getfield index, 3)) (kk : gW p l e R s m args below meth c Q D A nL Z cells slots ad 265 (mem ad t F G) (pc + 3) lv (.ref (ad 227) :: st)) : gW p l e R s m args below meth c Q D A nL Z cells slots ad 265 (mem ad t F G) pc lv (.ref (ad k) :: st) :=
  g_get ok in_In cl_In k (m_In (ad := ad) (t := t) (F := F) (G := G) hK).1 (m_In hK).2 2 (by decide) rfl hl0 rfl hd kk
theorem gN_In_x2 (ok : gOk s0 a0 D t p R s m meth c A own cc nL ret mn fr lo mc ms) (k : Nat) (hK : isIn k) {index : Nat} {host : String} (hl0 : Cond.fieldLinkNest own index "StitchDesk$Inspector" "x2" "[I" host ∈ lw_tbl) (hd : decode cc pc = .ok (.getfield index, 3)) (kk : gW p l e R s m args below meth c Q D A nL Z cells slots ad 265 (mem ad t F G) (pc + 3) lv (.ref (ad 227) :: st)) : gW p l e R s m args below meth c Q D A nL Z cells slots ad 265 (mem ad t F G) pc lv (.ref (ad k) :: st) :=
  g_getN ok in_In cl_In k (m_In (ad := ad) (t := t) (F := F) (G := G) hK).1 (m_In hK).2 2 (by decide) rfl hl0 rfl hd kk
theorem gI_In_y2 (ok : gOk s0 a0 D t p R s m meth c A own cc nL ret mn fr lo mc ms) (k : Nat) (hK : isIn k) {index : Nat} (hl0 : Cond.fieldLink own index "StitchDesk$Inspector" "y2" "[I" ∈ lw_tbl) (hd : decode cc pc = .ok (.getfield index, 3)) (kk : gW p l e R s m args below meth c Q D A nL Z cells slots ad 265 (mem ad t F G) (pc + 3) lv (.ref (ad 228) :: st)) : gW p l e R s m args below meth c Q D A nL Z cells slots ad 265 (mem ad t F G) pc lv (.ref (ad k) :: st) :=
  g_get ok in_In cl_In k (m_In (ad := ad) (t := t) (F := F) (G := G) hK).1 (m_In hK).2 3 (by decide) rfl hl0 rfl hd kk
theorem gN_In_y2 (ok : gOk s0 a0 D t p R s m meth c A own cc nL ret mn fr lo mc ms) (k : Nat) (hK : isIn k) {index : Nat} {host : String} (hl0 : Cond.fieldLinkNest own index "StitchDesk$Inspector" "y2" "[I" host ∈ lw_tbl) (hd : decode cc pc = .ok (.getfield index, 3)) (kk : gW p l e R s m args below meth c Q D A nL Z cells slots ad 265 (mem ad t F G) (pc + 3) lv (.ref (ad 228) :: st)) : gW p l e R s m args below meth c Q D A nL Z cells slots ad 265 (mem ad t F G) pc lv (.ref (ad k) :: st) :=
  g_getN ok in_In cl_In k (m_In (ad := ad) (t := t) (F := F) (G := G) hK).1 (m_In hK).2 3 (by decide) rfl hl0 rfl hd kk
theorem gI_In_follower (ok : gOk s0 a0 D t p R s m meth c A own cc nL ret mn fr lo mc ms) (k : Nat) (hK : isIn k) {index : Nat} (hl0 : Cond.fieldLink own index "StitchDesk$Inspector" "follower" "[I" ∈ lw_tbl) (hd : decode cc pc = .ok (.getfield index, 3)) (kk : gW p l e R s m args below meth c Q D A nL Z cells slots ad 265 (mem ad t F G) (pc + 3) lv (.ref (ad 229) :: st)) : gW p l e R s m args below meth c Q D A nL Z cells slots ad 265 (mem ad t F G) pc lv (.ref (ad k) :: st) :=
  g_get ok in_In cl_In k (m_In (ad := ad) (t := t) (F := F) (G := G) hK).1 (m_In hK).2 4 (by decide) rfl hl0 rfl hd kk
theorem gN_In_follower (ok : gOk s0 a0 D t p R s m meth c A own cc nL ret mn fr lo mc ms) (k : Nat) (hK : isIn k) {index : Nat} {host : String} (hl0 : Cond.fieldLinkNest own index "StitchDesk$Inspector" "follower" "[I" host ∈ lw_tbl) (hd : decode cc pc = .ok (.getfield index, 3)) (kk : gW p l e R s m args below meth c Q D A nL Z cells slots ad 265 (mem ad t F G) (pc + 3) lv (.ref (ad 229) :: st)) : gW p l e R s m args below meth c Q D A nL Z cells slots ad 265 (mem ad t F G) pc lv (.ref (ad k) :: st) :=
  g_getN ok in_In cl_In k (m_In (ad := ad) (t := t) (F := F) (G := G) hK).1 (m_In hK).2 4 (by decide) rfl hl0 rfl hd kk
theorem gI_In_edgeTotal (ok : gOk s0 a0 D t p R s m meth c A own cc nL ret mn fr lo mc ms) (k : Nat) (hK : isIn k) {index : Nat} (hl0 : Cond.fieldLink own index "StitchDesk$Inspector" "edgeTotal" "I" ∈ lw_tbl) (hd : decode cc pc = .ok (.getfield index, 3)) (kk : gW p l e R s m args below meth c Q D A nL Z cells slots ad 265 (mem ad t F G) (pc + 3) lv (.int (iI (F k 5)) :: st)) : gW p l e R s m args below meth c Q D A nL Z cells slots ad 265 (mem ad t F G) pc lv (.ref (ad k) :: st) :=
  g_get ok in_In cl_In k (m_In (ad := ad) (t := t) (F := F) (G := G) hK).1 (m_In hK).2 5 (by decide) rfl hl0 rfl hd kk
theorem pI_In_edgeTotal (ok : gOk s0 a0 D t p R s m meth c A own cc nL ret mn fr lo mc ms) (k : Nat) (hK : isIn k) {index : Nat} (hl0 : Cond.fieldLink own index "StitchDesk$Inspector" "edgeTotal" "I" ∈ lw_tbl) {v : Int} (hd : decode cc pc = .ok (.putfield index, 3)) (kk : gW p l e R s m args below meth c Q D A nL gZ cells slots ad 265 (mem ad t (fU F k 5 v) G) (pc + 3) lv st) : gW p l e R s m args below meth c Q D A nL Z cells slots ad 265 (mem ad t F G) pc lv (.int (iI v) :: .ref (ad k) :: st) := by
  refine g_put ok in_In cl_In k (m_In (ad := ad) (t := t) (F := F) (G := G) hK).1 (m_In hK).2 5 (by decide) ty_In ok_In nm_In rfl hl0 rfl rfl rfl (Nat.le_of_ble_eq_true rfl) hd ?_
  rw [mem_put (v := v) (j := 5) (by rw [(m_In hK).2]; simp [f_In, fU])]
  exact kk
theorem gN_In_edgeTotal (ok : gOk s0 a0 D t p R s m meth c A own cc nL ret mn fr lo mc ms) (k : Nat) (hK : isIn k) {index : Nat} {host : String} (hl0 : Cond.fieldLinkNest own index "StitchDesk$Inspector" "edgeTotal" "I" host ∈ lw_tbl) (hd : decode cc pc = .ok (.getfield index, 3)) (kk : gW p l e R s m args below meth c Q D A nL Z cells slots ad 265 (mem ad t F G) (pc + 3) lv (.int (iI (F k 5)) :: st)) : gW p l e R s m args below meth c Q D A nL Z cells slots ad 265 (mem ad t F G) pc lv (.ref (ad k) :: st) :=
  g_getN ok in_In cl_In k (m_In (ad := ad) (t := t) (F := F) (G := G) hK).1 (m_In hK).2 5 (by decide) rfl hl0 rfl hd kk
theorem pN_In_edgeTotal (ok : gOk s0 a0 D t p R s m meth c A own cc nL ret mn fr lo mc ms) (k : Nat) (hK : isIn k) {index : Nat} {host : String} (hl0 : Cond.fieldLinkNest own index "StitchDesk$Inspector" "edgeTotal" "I" host ∈ lw_tbl) {v : Int} (hd : decode cc pc = .ok (.putfield index, 3)) (kk : gW p l e R s m args below meth c Q D A nL gZ cells slots ad 265 (mem ad t (fU F k 5 v) G) (pc + 3) lv st) : gW p l e R s m args below meth c Q D A nL Z cells slots ad 265 (mem ad t F G) pc lv (.int (iI v) :: .ref (ad k) :: st) := by
  refine g_putN ok in_In cl_In k (m_In (ad := ad) (t := t) (F := F) (G := G) hK).1 (m_In hK).2 5 (by decide) ty_In ok_In nm_In rfl hl0 rfl rfl rfl (Nat.le_of_ble_eq_true rfl) hd ?_
  rw [mem_put (v := v) (j := 5) (by rw [(m_In hK).2]; simp [f_In, fU])]
  exact kk
theorem gI_In_found (ok : gOk s0 a0 D t p R s m meth c A own cc nL ret mn fr lo mc ms) (k : Nat) (hK : isIn k) {index : Nat} (hl0 : Cond.fieldLink own index "StitchDesk$Inspector" "found" "I" ∈ lw_tbl) (hd : decode cc pc = .ok (.getfield index, 3)) (kk : gW p l e R s m args below meth c Q D A nL Z cells slots ad 265 (mem ad t F G) (pc + 3) lv (.int (iI (F k 6)) :: st)) : gW p l e R s m args below meth c Q D A nL Z cells slots ad 265 (mem ad t F G) pc lv (.ref (ad k) :: st) :=
  g_get ok in_In cl_In k (m_In (ad := ad) (t := t) (F := F) (G := G) hK).1 (m_In hK).2 6 (by decide) rfl hl0 rfl hd kk
theorem pI_In_found (ok : gOk s0 a0 D t p R s m meth c A own cc nL ret mn fr lo mc ms) (k : Nat) (hK : isIn k) {index : Nat} (hl0 : Cond.fieldLink own index "StitchDesk$Inspector" "found" "I" ∈ lw_tbl) {v : Int} (hd : decode cc pc = .ok (.putfield index, 3)) (kk : gW p l e R s m args below meth c Q D A nL gZ cells slots ad 265 (mem ad t (fU F k 6 v) G) (pc + 3) lv st) : gW p l e R s m args below meth c Q D A nL Z cells slots ad 265 (mem ad t F G) pc lv (.int (iI v) :: .ref (ad k) :: st) := by
  refine g_put ok in_In cl_In k (m_In (ad := ad) (t := t) (F := F) (G := G) hK).1 (m_In hK).2 6 (by decide) ty_In ok_In nm_In rfl hl0 rfl rfl rfl (Nat.le_of_ble_eq_true rfl) hd ?_
  rw [mem_put (v := v) (j := 6) (by rw [(m_In hK).2]; simp [f_In, fU])]
  exact kk
theorem gN_In_found (ok : gOk s0 a0 D t p R s m meth c A own cc nL ret mn fr lo mc ms) (k : Nat) (hK : isIn k) {index : Nat} {host : String} (hl0 : Cond.fieldLinkNest own index "StitchDesk$Inspector" "found" "I" host ∈ lw_tbl) (hd : decode cc pc = .ok (.getfield index, 3)) (kk : gW p l e R s m args below meth c Q D A nL Z cells slots ad 265 (mem ad t F G) (pc + 3) lv (.int (iI (F k 6)) :: st)) : gW p l e R s m args below meth c Q D A nL Z cells slots ad 265 (mem ad t F G) pc lv (.ref (ad k) :: st) :=
  g_getN ok in_In cl_In k (m_In (ad := ad) (t := t) (F := F) (G := G) hK).1 (m_In hK).2 6 (by decide) rfl hl0 rfl hd kk
theorem pN_In_found (ok : gOk s0 a0 D t p R s m meth c A own cc nL ret mn fr lo mc ms) (k : Nat) (hK : isIn k) {index : Nat} {host : String} (hl0 : Cond.fieldLinkNest own index "StitchDesk$Inspector" "found" "I" host ∈ lw_tbl) {v : Int} (hd : decode cc pc = .ok (.putfield index, 3)) (kk : gW p l e R s m args below meth c Q D A nL gZ cells slots ad 265 (mem ad t (fU F k 6 v) G) (pc + 3) lv st) : gW p l e R s m args below meth c Q D A nL Z cells slots ad 265 (mem ad t F G) pc lv (.int (iI v) :: .ref (ad k) :: st) := by
  refine g_putN ok in_In cl_In k (m_In (ad := ad) (t := t) (F := F) (G := G) hK).1 (m_In hK).2 6 (by decide) ty_In ok_In nm_In rfl hl0 rfl rfl rfl (Nat.le_of_ble_eq_true rfl) hd ?_
  rw [mem_put (v := v) (j := 6) (by rw [(m_In hK).2]; simp [f_In, fU])]
  exact kk
theorem gI_In_lesser (ok : gOk s0 a0 D t p R s m meth c A own cc nL ret mn fr lo mc ms) (k : Nat) (hK : isIn k) {index : Nat} (hl0 : Cond.fieldLink own index "StitchDesk$Inspector" "lesser" "I" ∈ lw_tbl) (hd : decode cc pc = .ok (.getfield index, 3)) (kk : gW p l e R s m args below meth c Q D A nL Z cells slots ad 265 (mem ad t F G) (pc + 3) lv (.int (iI (F k 7)) :: st)) : gW p l e R s m args below meth c Q D A nL Z cells slots ad 265 (mem ad t F G) pc lv (.ref (ad k) :: st) :=
  g_get ok in_In cl_In k (m_In (ad := ad) (t := t) (F := F) (G := G) hK).1 (m_In hK).2 7 (by decide) rfl hl0 rfl hd kk
theorem pI_In_lesser (ok : gOk s0 a0 D t p R s m meth c A own cc nL ret mn fr lo mc ms) (k : Nat) (hK : isIn k) {index : Nat} (hl0 : Cond.fieldLink own index "StitchDesk$Inspector" "lesser" "I" ∈ lw_tbl) {v : Int} (hd : decode cc pc = .ok (.putfield index, 3)) (kk : gW p l e R s m args below meth c Q D A nL gZ cells slots ad 265 (mem ad t (fU F k 7 v) G) (pc + 3) lv st) : gW p l e R s m args below meth c Q D A nL Z cells slots ad 265 (mem ad t F G) pc lv (.int (iI v) :: .ref (ad k) :: st) := by
  refine g_put ok in_In cl_In k (m_In (ad := ad) (t := t) (F := F) (G := G) hK).1 (m_In hK).2 7 (by decide) ty_In ok_In nm_In rfl hl0 rfl rfl rfl (Nat.le_of_ble_eq_true rfl) hd ?_
  rw [mem_put (v := v) (j := 7) (by rw [(m_In hK).2]; simp [f_In, fU])]
  exact kk
theorem gN_In_lesser (ok : gOk s0 a0 D t p R s m meth c A own cc nL ret mn fr lo mc ms) (k : Nat) (hK : isIn k) {index : Nat} {host : String} (hl0 : Cond.fieldLinkNest own index "StitchDesk$Inspector" "lesser" "I" host ∈ lw_tbl) (hd : decode cc pc = .ok (.getfield index, 3)) (kk : gW p l e R s m args below meth c Q D A nL Z cells slots ad 265 (mem ad t F G) (pc + 3) lv (.int (iI (F k 7)) :: st)) : gW p l e R s m args below meth c Q D A nL Z cells slots ad 265 (mem ad t F G) pc lv (.ref (ad k) :: st) :=
  g_getN ok in_In cl_In k (m_In (ad := ad) (t := t) (F := F) (G := G) hK).1 (m_In hK).2 7 (by decide) rfl hl0 rfl hd kk
theorem pN_In_lesser (ok : gOk s0 a0 D t p R s m meth c A own cc nL ret mn fr lo mc ms) (k : Nat) (hK : isIn k) {index : Nat} {host : String} (hl0 : Cond.fieldLinkNest own index "StitchDesk$Inspector" "lesser" "I" host ∈ lw_tbl) {v : Int} (hd : decode cc pc = .ok (.putfield index, 3)) (kk : gW p l e R s m args below meth c Q D A nL gZ cells slots ad 265 (mem ad t (fU F k 7 v) G) (pc + 3) lv st) : gW p l e R s m args below meth c Q D A nL Z cells slots ad 265 (mem ad t F G) pc lv (.int (iI v) :: .ref (ad k) :: st) := by
  refine g_putN ok in_In cl_In k (m_In (ad := ad) (t := t) (F := F) (G := G) hK).1 (m_In hK).2 7 (by decide) ty_In ok_In nm_In rfl hl0 rfl rfl rfl (Nat.le_of_ble_eq_true rfl) hd ?_
  rw [mem_put (v := v) (j := 7) (by rw [(m_In hK).2]; simp [f_In, fU])]
  exact kk
theorem gI_In_other (ok : gOk s0 a0 D t p R s m meth c A own cc nL ret mn fr lo mc ms) (k : Nat) (hK : isIn k) {index : Nat} (hl0 : Cond.fieldLink own index "StitchDesk$Inspector" "other" "I" ∈ lw_tbl) (hd : decode cc pc = .ok (.getfield index, 3)) (kk : gW p l e R s m args below meth c Q D A nL Z cells slots ad 265 (mem ad t F G) (pc + 3) lv (.int (iI (F k 8)) :: st)) : gW p l e R s m args below meth c Q D A nL Z cells slots ad 265 (mem ad t F G) pc lv (.ref (ad k) :: st) :=
  g_get ok in_In cl_In k (m_In (ad := ad) (t := t) (F := F) (G := G) hK).1 (m_In hK).2 8 (by decide) rfl hl0 rfl hd kk
theorem pI_In_other (ok : gOk s0 a0 D t p R s m meth c A own cc nL ret mn fr lo mc ms) (k : Nat) (hK : isIn k) {index : Nat} (hl0 : Cond.fieldLink own index "StitchDesk$Inspector" "other" "I" ∈ lw_tbl) {v : Int} (hd : decode cc pc = .ok (.putfield index, 3)) (kk : gW p l e R s m args below meth c Q D A nL gZ cells slots ad 265 (mem ad t (fU F k 8 v) G) (pc + 3) lv st) : gW p l e R s m args below meth c Q D A nL Z cells slots ad 265 (mem ad t F G) pc lv (.int (iI v) :: .ref (ad k) :: st) := by
  refine g_put ok in_In cl_In k (m_In (ad := ad) (t := t) (F := F) (G := G) hK).1 (m_In hK).2 8 (by decide) ty_In ok_In nm_In rfl hl0 rfl rfl rfl (Nat.le_of_ble_eq_true rfl) hd ?_
  rw [mem_put (v := v) (j := 8) (by rw [(m_In hK).2]; simp [f_In, fU])]
  exact kk
theorem gN_In_other (ok : gOk s0 a0 D t p R s m meth c A own cc nL ret mn fr lo mc ms) (k : Nat) (hK : isIn k) {index : Nat} {host : String} (hl0 : Cond.fieldLinkNest own index "StitchDesk$Inspector" "other" "I" host ∈ lw_tbl) (hd : decode cc pc = .ok (.getfield index, 3)) (kk : gW p l e R s m args below meth c Q D A nL Z cells slots ad 265 (mem ad t F G) (pc + 3) lv (.int (iI (F k 8)) :: st)) : gW p l e R s m args below meth c Q D A nL Z cells slots ad 265 (mem ad t F G) pc lv (.ref (ad k) :: st) :=
  g_getN ok in_In cl_In k (m_In (ad := ad) (t := t) (F := F) (G := G) hK).1 (m_In hK).2 8 (by decide) rfl hl0 rfl hd kk
theorem pN_In_other (ok : gOk s0 a0 D t p R s m meth c A own cc nL ret mn fr lo mc ms) (k : Nat) (hK : isIn k) {index : Nat} {host : String} (hl0 : Cond.fieldLinkNest own index "StitchDesk$Inspector" "other" "I" host ∈ lw_tbl) {v : Int} (hd : decode cc pc = .ok (.putfield index, 3)) (kk : gW p l e R s m args below meth c Q D A nL gZ cells slots ad 265 (mem ad t (fU F k 8 v) G) (pc + 3) lv st) : gW p l e R s m args below meth c Q D A nL Z cells slots ad 265 (mem ad t F G) pc lv (.int (iI v) :: .ref (ad k) :: st) := by
  refine g_putN ok in_In cl_In k (m_In (ad := ad) (t := t) (F := F) (G := G) hK).1 (m_In hK).2 8 (by decide) ty_In ok_In nm_In rfl hl0 rfl rfl rfl (Nat.le_of_ble_eq_true rfl) hd ?_
  rw [mem_put (v := v) (j := 8) (by rw [(m_In hK).2]; simp [f_In, fU])]
  exact kk
theorem gI_Rt_line (ok : gOk s0 a0 D t p R s m meth c A own cc nL ret mn fr lo mc ms) (k : Nat) (hK : isRt k) {index : Nat} (hl0 : Cond.fieldLink own index "StitchDesk$RunTeller" "line" "LStitchDesk$HatchLine;" ∈ lw_tbl) (hd : decode cc pc = .ok (.getfield index, 3)) (kk : gW p l e R s m args below meth c Q D A nL Z cells slots ad 265 (mem ad t F G) (pc + 3) lv (.ref (ad 231) :: st)) : gW p l e R s m args below meth c Q D A nL Z cells slots ad 265 (mem ad t F G) pc lv (.ref (ad k) :: st) :=
  g_get ok in_Rt cl_Rt k (m_Rt (ad := ad) (t := t) (F := F) (G := G) hK).1 (m_Rt hK).2 0 (by decide) rfl hl0 rfl hd kk
theorem gN_Rt_line (ok : gOk s0 a0 D t p R s m meth c A own cc nL ret mn fr lo mc ms) (k : Nat) (hK : isRt k) {index : Nat} {host : String} (hl0 : Cond.fieldLinkNest own index "StitchDesk$RunTeller" "line" "LStitchDesk$HatchLine;" host ∈ lw_tbl) (hd : decode cc pc = .ok (.getfield index, 3)) (kk : gW p l e R s m args below meth c Q D A nL Z cells slots ad 265 (mem ad t F G) (pc + 3) lv (.ref (ad 231) :: st)) : gW p l e R s m args below meth c Q D A nL Z cells slots ad 265 (mem ad t F G) pc lv (.ref (ad k) :: st) :=
  g_getN ok in_Rt cl_Rt k (m_Rt (ad := ad) (t := t) (F := F) (G := G) hK).1 (m_Rt hK).2 0 (by decide) rfl hl0 rfl hd kk
theorem gI_Hl_events (ok : gOk s0 a0 D t p R s m meth c A own cc nL ret mn fr lo mc ms) (k : Nat) (hK : isHl k) {index : Nat} (hl0 : Cond.fieldLink own index "StitchDesk$HatchLine" "events" "[I" ∈ lw_tbl) (hd : decode cc pc = .ok (.getfield index, 3)) (kk : gW p l e R s m args below meth c Q D A nL Z cells slots ad 265 (mem ad t F G) (pc + 3) lv (.ref (ad 232) :: st)) : gW p l e R s m args below meth c Q D A nL Z cells slots ad 265 (mem ad t F G) pc lv (.ref (ad k) :: st) :=
  g_get ok in_Hl cl_Hl k (m_Hl (ad := ad) (t := t) (F := F) (G := G) hK).1 (m_Hl hK).2 0 (by decide) rfl hl0 rfl hd kk
theorem gN_Hl_events (ok : gOk s0 a0 D t p R s m meth c A own cc nL ret mn fr lo mc ms) (k : Nat) (hK : isHl k) {index : Nat} {host : String} (hl0 : Cond.fieldLinkNest own index "StitchDesk$HatchLine" "events" "[I" host ∈ lw_tbl) (hd : decode cc pc = .ok (.getfield index, 3)) (kk : gW p l e R s m args below meth c Q D A nL Z cells slots ad 265 (mem ad t F G) (pc + 3) lv (.ref (ad 232) :: st)) : gW p l e R s m args below meth c Q D A nL Z cells slots ad 265 (mem ad t F G) pc lv (.ref (ad k) :: st) :=
  g_getN ok in_Hl cl_Hl k (m_Hl (ad := ad) (t := t) (F := F) (G := G) hK).1 (m_Hl hK).2 0 (by decide) rfl hl0 rfl hd kk
theorem gI_Hl_starts (ok : gOk s0 a0 D t p R s m meth c A own cc nL ret mn fr lo mc ms) (k : Nat) (hK : isHl k) {index : Nat} (hl0 : Cond.fieldLink own index "StitchDesk$HatchLine" "starts" "[I" ∈ lw_tbl) (hd : decode cc pc = .ok (.getfield index, 3)) (kk : gW p l e R s m args below meth c Q D A nL Z cells slots ad 265 (mem ad t F G) (pc + 3) lv (.ref (ad 233) :: st)) : gW p l e R s m args below meth c Q D A nL Z cells slots ad 265 (mem ad t F G) pc lv (.ref (ad k) :: st) :=
  g_get ok in_Hl cl_Hl k (m_Hl (ad := ad) (t := t) (F := F) (G := G) hK).1 (m_Hl hK).2 1 (by decide) rfl hl0 rfl hd kk
theorem gN_Hl_starts (ok : gOk s0 a0 D t p R s m meth c A own cc nL ret mn fr lo mc ms) (k : Nat) (hK : isHl k) {index : Nat} {host : String} (hl0 : Cond.fieldLinkNest own index "StitchDesk$HatchLine" "starts" "[I" host ∈ lw_tbl) (hd : decode cc pc = .ok (.getfield index, 3)) (kk : gW p l e R s m args below meth c Q D A nL Z cells slots ad 265 (mem ad t F G) (pc + 3) lv (.ref (ad 233) :: st)) : gW p l e R s m args below meth c Q D A nL Z cells slots ad 265 (mem ad t F G) pc lv (.ref (ad k) :: st) :=
  g_getN ok in_Hl cl_Hl k (m_Hl (ad := ad) (t := t) (F := F) (G := G) hK).1 (m_Hl hK).2 1 (by decide) rfl hl0 rfl hd kk
theorem gI_Hl_ends (ok : gOk s0 a0 D t p R s m meth c A own cc nL ret mn fr lo mc ms) (k : Nat) (hK : isHl k) {index : Nat} (hl0 : Cond.fieldLink own index "StitchDesk$HatchLine" "ends" "[I" ∈ lw_tbl) (hd : decode cc pc = .ok (.getfield index, 3)) (kk : gW p l e R s m args below meth c Q D A nL Z cells slots ad 265 (mem ad t F G) (pc + 3) lv (.ref (ad 234) :: st)) : gW p l e R s m args below meth c Q D A nL Z cells slots ad 265 (mem ad t F G) pc lv (.ref (ad k) :: st) :=
  g_get ok in_Hl cl_Hl k (m_Hl (ad := ad) (t := t) (F := F) (G := G) hK).1 (m_Hl hK).2 2 (by decide) rfl hl0 rfl hd kk
theorem gN_Hl_ends (ok : gOk s0 a0 D t p R s m meth c A own cc nL ret mn fr lo mc ms) (k : Nat) (hK : isHl k) {index : Nat} {host : String} (hl0 : Cond.fieldLinkNest own index "StitchDesk$HatchLine" "ends" "[I" host ∈ lw_tbl) (hd : decode cc pc = .ok (.getfield index, 3)) (kk : gW p l e R s m args below meth c Q D A nL Z cells slots ad 265 (mem ad t F G) (pc + 3) lv (.ref (ad 234) :: st)) : gW p l e R s m args below meth c Q D A nL Z cells slots ad 265 (mem ad t F G) pc lv (.ref (ad k) :: st) :=
  g_getN ok in_Hl cl_Hl k (m_Hl (ad := ad) (t := t) (F := F) (G := G) hK).1 (m_Hl hK).2 2 (by decide) rfl hl0 rfl hd kk
theorem gI_Hl_eventTotal (ok : gOk s0 a0 D t p R s m meth c A own cc nL ret mn fr lo mc ms) (k : Nat) (hK : isHl k) {index : Nat} (hl0 : Cond.fieldLink own index "StitchDesk$HatchLine" "eventTotal" "I" ∈ lw_tbl) (hd : decode cc pc = .ok (.getfield index, 3)) (kk : gW p l e R s m args below meth c Q D A nL Z cells slots ad 265 (mem ad t F G) (pc + 3) lv (.int (iI (F k 3)) :: st)) : gW p l e R s m args below meth c Q D A nL Z cells slots ad 265 (mem ad t F G) pc lv (.ref (ad k) :: st) :=
  g_get ok in_Hl cl_Hl k (m_Hl (ad := ad) (t := t) (F := F) (G := G) hK).1 (m_Hl hK).2 3 (by decide) rfl hl0 rfl hd kk
theorem pI_Hl_eventTotal (ok : gOk s0 a0 D t p R s m meth c A own cc nL ret mn fr lo mc ms) (k : Nat) (hK : isHl k) {index : Nat} (hl0 : Cond.fieldLink own index "StitchDesk$HatchLine" "eventTotal" "I" ∈ lw_tbl) {v : Int} (hd : decode cc pc = .ok (.putfield index, 3)) (kk : gW p l e R s m args below meth c Q D A nL gZ cells slots ad 265 (mem ad t (fU F k 3 v) G) (pc + 3) lv st) : gW p l e R s m args below meth c Q D A nL Z cells slots ad 265 (mem ad t F G) pc lv (.int (iI v) :: .ref (ad k) :: st) := by
  refine g_put ok in_Hl cl_Hl k (m_Hl (ad := ad) (t := t) (F := F) (G := G) hK).1 (m_Hl hK).2 3 (by decide) ty_Hl ok_Hl nm_Hl rfl hl0 rfl rfl rfl (Nat.le_of_ble_eq_true rfl) hd ?_
  rw [mem_put (v := v) (j := 3) (by rw [(m_Hl hK).2]; simp [f_Hl, fU])]
  exact kk
theorem gN_Hl_eventTotal (ok : gOk s0 a0 D t p R s m meth c A own cc nL ret mn fr lo mc ms) (k : Nat) (hK : isHl k) {index : Nat} {host : String} (hl0 : Cond.fieldLinkNest own index "StitchDesk$HatchLine" "eventTotal" "I" host ∈ lw_tbl) (hd : decode cc pc = .ok (.getfield index, 3)) (kk : gW p l e R s m args below meth c Q D A nL Z cells slots ad 265 (mem ad t F G) (pc + 3) lv (.int (iI (F k 3)) :: st)) : gW p l e R s m args below meth c Q D A nL Z cells slots ad 265 (mem ad t F G) pc lv (.ref (ad k) :: st) :=
  g_getN ok in_Hl cl_Hl k (m_Hl (ad := ad) (t := t) (F := F) (G := G) hK).1 (m_Hl hK).2 3 (by decide) rfl hl0 rfl hd kk
theorem pN_Hl_eventTotal (ok : gOk s0 a0 D t p R s m meth c A own cc nL ret mn fr lo mc ms) (k : Nat) (hK : isHl k) {index : Nat} {host : String} (hl0 : Cond.fieldLinkNest own index "StitchDesk$HatchLine" "eventTotal" "I" host ∈ lw_tbl) {v : Int} (hd : decode cc pc = .ok (.putfield index, 3)) (kk : gW p l e R s m args below meth c Q D A nL gZ cells slots ad 265 (mem ad t (fU F k 3 v) G) (pc + 3) lv st) : gW p l e R s m args below meth c Q D A nL Z cells slots ad 265 (mem ad t F G) pc lv (.int (iI v) :: .ref (ad k) :: st) := by
  refine g_putN ok in_Hl cl_Hl k (m_Hl (ad := ad) (t := t) (F := F) (G := G) hK).1 (m_Hl hK).2 3 (by decide) ty_Hl ok_Hl nm_Hl rfl hl0 rfl rfl rfl (Nat.le_of_ble_eq_true rfl) hd ?_
  rw [mem_put (v := v) (j := 3) (by rw [(m_Hl hK).2]; simp [f_Hl, fU])]
  exact kk
theorem gI_Hl_partTotal (ok : gOk s0 a0 D t p R s m meth c A own cc nL ret mn fr lo mc ms) (k : Nat) (hK : isHl k) {index : Nat} (hl0 : Cond.fieldLink own index "StitchDesk$HatchLine" "partTotal" "I" ∈ lw_tbl) (hd : decode cc pc = .ok (.getfield index, 3)) (kk : gW p l e R s m args below meth c Q D A nL Z cells slots ad 265 (mem ad t F G) (pc + 3) lv (.int (iI (F k 4)) :: st)) : gW p l e R s m args below meth c Q D A nL Z cells slots ad 265 (mem ad t F G) pc lv (.ref (ad k) :: st) :=
  g_get ok in_Hl cl_Hl k (m_Hl (ad := ad) (t := t) (F := F) (G := G) hK).1 (m_Hl hK).2 4 (by decide) rfl hl0 rfl hd kk
theorem pI_Hl_partTotal (ok : gOk s0 a0 D t p R s m meth c A own cc nL ret mn fr lo mc ms) (k : Nat) (hK : isHl k) {index : Nat} (hl0 : Cond.fieldLink own index "StitchDesk$HatchLine" "partTotal" "I" ∈ lw_tbl) {v : Int} (hd : decode cc pc = .ok (.putfield index, 3)) (kk : gW p l e R s m args below meth c Q D A nL gZ cells slots ad 265 (mem ad t (fU F k 4 v) G) (pc + 3) lv st) : gW p l e R s m args below meth c Q D A nL Z cells slots ad 265 (mem ad t F G) pc lv (.int (iI v) :: .ref (ad k) :: st) := by
  refine g_put ok in_Hl cl_Hl k (m_Hl (ad := ad) (t := t) (F := F) (G := G) hK).1 (m_Hl hK).2 4 (by decide) ty_Hl ok_Hl nm_Hl rfl hl0 rfl rfl rfl (Nat.le_of_ble_eq_true rfl) hd ?_
  rw [mem_put (v := v) (j := 4) (by rw [(m_Hl hK).2]; simp [f_Hl, fU])]
  exact kk
theorem gN_Hl_partTotal (ok : gOk s0 a0 D t p R s m meth c A own cc nL ret mn fr lo mc ms) (k : Nat) (hK : isHl k) {index : Nat} {host : String} (hl0 : Cond.fieldLinkNest own index "StitchDesk$HatchLine" "partTotal" "I" host ∈ lw_tbl) (hd : decode cc pc = .ok (.getfield index, 3)) (kk : gW p l e R s m args below meth c Q D A nL Z cells slots ad 265 (mem ad t F G) (pc + 3) lv (.int (iI (F k 4)) :: st)) : gW p l e R s m args below meth c Q D A nL Z cells slots ad 265 (mem ad t F G) pc lv (.ref (ad k) :: st) :=
  g_getN ok in_Hl cl_Hl k (m_Hl (ad := ad) (t := t) (F := F) (G := G) hK).1 (m_Hl hK).2 4 (by decide) rfl hl0 rfl hd kk
theorem pN_Hl_partTotal (ok : gOk s0 a0 D t p R s m meth c A own cc nL ret mn fr lo mc ms) (k : Nat) (hK : isHl k) {index : Nat} {host : String} (hl0 : Cond.fieldLinkNest own index "StitchDesk$HatchLine" "partTotal" "I" host ∈ lw_tbl) {v : Int} (hd : decode cc pc = .ok (.putfield index, 3)) (kk : gW p l e R s m args below meth c Q D A nL gZ cells slots ad 265 (mem ad t (fU F k 4 v) G) (pc + 3) lv st) : gW p l e R s m args below meth c Q D A nL Z cells slots ad 265 (mem ad t F G) pc lv (.int (iI v) :: .ref (ad k) :: st) := by
  refine g_putN ok in_Hl cl_Hl k (m_Hl (ad := ad) (t := t) (F := F) (G := G) hK).1 (m_Hl hK).2 4 (by decide) ty_Hl ok_Hl nm_Hl rfl hl0 rfl rfl rfl (Nat.le_of_ble_eq_true rfl) hd ?_
  rw [mem_put (v := v) (j := 4) (by rw [(m_Hl hK).2]; simp [f_Hl, fU])]
  exact kk
theorem gI_Hl_xStep (ok : gOk s0 a0 D t p R s m meth c A own cc nL ret mn fr lo mc ms) (k : Nat) (hK : isHl k) {index : Nat} (hl0 : Cond.fieldLink own index "StitchDesk$HatchLine" "xStep" "I" ∈ lw_tbl) (hd : decode cc pc = .ok (.getfield index, 3)) (kk : gW p l e R s m args below meth c Q D A nL Z cells slots ad 265 (mem ad t F G) (pc + 3) lv (.int (iI (F k 5)) :: st)) : gW p l e R s m args below meth c Q D A nL Z cells slots ad 265 (mem ad t F G) pc lv (.ref (ad k) :: st) :=
  g_get ok in_Hl cl_Hl k (m_Hl (ad := ad) (t := t) (F := F) (G := G) hK).1 (m_Hl hK).2 5 (by decide) rfl hl0 rfl hd kk
theorem pI_Hl_xStep (ok : gOk s0 a0 D t p R s m meth c A own cc nL ret mn fr lo mc ms) (k : Nat) (hK : isHl k) {index : Nat} (hl0 : Cond.fieldLink own index "StitchDesk$HatchLine" "xStep" "I" ∈ lw_tbl) {v : Int} (hd : decode cc pc = .ok (.putfield index, 3)) (kk : gW p l e R s m args below meth c Q D A nL gZ cells slots ad 265 (mem ad t (fU F k 5 v) G) (pc + 3) lv st) : gW p l e R s m args below meth c Q D A nL Z cells slots ad 265 (mem ad t F G) pc lv (.int (iI v) :: .ref (ad k) :: st) := by
  refine g_put ok in_Hl cl_Hl k (m_Hl (ad := ad) (t := t) (F := F) (G := G) hK).1 (m_Hl hK).2 5 (by decide) ty_Hl ok_Hl nm_Hl rfl hl0 rfl rfl rfl (Nat.le_of_ble_eq_true rfl) hd ?_
  rw [mem_put (v := v) (j := 5) (by rw [(m_Hl hK).2]; simp [f_Hl, fU])]
  exact kk
theorem gN_Hl_xStep (ok : gOk s0 a0 D t p R s m meth c A own cc nL ret mn fr lo mc ms) (k : Nat) (hK : isHl k) {index : Nat} {host : String} (hl0 : Cond.fieldLinkNest own index "StitchDesk$HatchLine" "xStep" "I" host ∈ lw_tbl) (hd : decode cc pc = .ok (.getfield index, 3)) (kk : gW p l e R s m args below meth c Q D A nL Z cells slots ad 265 (mem ad t F G) (pc + 3) lv (.int (iI (F k 5)) :: st)) : gW p l e R s m args below meth c Q D A nL Z cells slots ad 265 (mem ad t F G) pc lv (.ref (ad k) :: st) :=
  g_getN ok in_Hl cl_Hl k (m_Hl (ad := ad) (t := t) (F := F) (G := G) hK).1 (m_Hl hK).2 5 (by decide) rfl hl0 rfl hd kk
theorem pN_Hl_xStep (ok : gOk s0 a0 D t p R s m meth c A own cc nL ret mn fr lo mc ms) (k : Nat) (hK : isHl k) {index : Nat} {host : String} (hl0 : Cond.fieldLinkNest own index "StitchDesk$HatchLine" "xStep" "I" host ∈ lw_tbl) {v : Int} (hd : decode cc pc = .ok (.putfield index, 3)) (kk : gW p l e R s m args below meth c Q D A nL gZ cells slots ad 265 (mem ad t (fU F k 5 v) G) (pc + 3) lv st) : gW p l e R s m args below meth c Q D A nL Z cells slots ad 265 (mem ad t F G) pc lv (.int (iI v) :: .ref (ad k) :: st) := by
  refine g_putN ok in_Hl cl_Hl k (m_Hl (ad := ad) (t := t) (F := F) (G := G) hK).1 (m_Hl hK).2 5 (by decide) ty_Hl ok_Hl nm_Hl rfl hl0 rfl rfl rfl (Nat.le_of_ble_eq_true rfl) hd ?_
  rw [mem_put (v := v) (j := 5) (by rw [(m_Hl hK).2]; simp [f_Hl, fU])]
  exact kk
theorem gI_Hl_xBase (ok : gOk s0 a0 D t p R s m meth c A own cc nL ret mn fr lo mc ms) (k : Nat) (hK : isHl k) {index : Nat} (hl0 : Cond.fieldLink own index "StitchDesk$HatchLine" "xBase" "I" ∈ lw_tbl) (hd : decode cc pc = .ok (.getfield index, 3)) (kk : gW p l e R s m args below meth c Q D A nL Z cells slots ad 265 (mem ad t F G) (pc + 3) lv (.int (iI (F k 6)) :: st)) : gW p l e R s m args below meth c Q D A nL Z cells slots ad 265 (mem ad t F G) pc lv (.ref (ad k) :: st) :=
  g_get ok in_Hl cl_Hl k (m_Hl (ad := ad) (t := t) (F := F) (G := G) hK).1 (m_Hl hK).2 6 (by decide) rfl hl0 rfl hd kk
theorem pI_Hl_xBase (ok : gOk s0 a0 D t p R s m meth c A own cc nL ret mn fr lo mc ms) (k : Nat) (hK : isHl k) {index : Nat} (hl0 : Cond.fieldLink own index "StitchDesk$HatchLine" "xBase" "I" ∈ lw_tbl) {v : Int} (hd : decode cc pc = .ok (.putfield index, 3)) (kk : gW p l e R s m args below meth c Q D A nL gZ cells slots ad 265 (mem ad t (fU F k 6 v) G) (pc + 3) lv st) : gW p l e R s m args below meth c Q D A nL Z cells slots ad 265 (mem ad t F G) pc lv (.int (iI v) :: .ref (ad k) :: st) := by
  refine g_put ok in_Hl cl_Hl k (m_Hl (ad := ad) (t := t) (F := F) (G := G) hK).1 (m_Hl hK).2 6 (by decide) ty_Hl ok_Hl nm_Hl rfl hl0 rfl rfl rfl (Nat.le_of_ble_eq_true rfl) hd ?_
  rw [mem_put (v := v) (j := 6) (by rw [(m_Hl hK).2]; simp [f_Hl, fU])]
  exact kk
theorem gN_Hl_xBase (ok : gOk s0 a0 D t p R s m meth c A own cc nL ret mn fr lo mc ms) (k : Nat) (hK : isHl k) {index : Nat} {host : String} (hl0 : Cond.fieldLinkNest own index "StitchDesk$HatchLine" "xBase" "I" host ∈ lw_tbl) (hd : decode cc pc = .ok (.getfield index, 3)) (kk : gW p l e R s m args below meth c Q D A nL Z cells slots ad 265 (mem ad t F G) (pc + 3) lv (.int (iI (F k 6)) :: st)) : gW p l e R s m args below meth c Q D A nL Z cells slots ad 265 (mem ad t F G) pc lv (.ref (ad k) :: st) :=
  g_getN ok in_Hl cl_Hl k (m_Hl (ad := ad) (t := t) (F := F) (G := G) hK).1 (m_Hl hK).2 6 (by decide) rfl hl0 rfl hd kk
theorem pN_Hl_xBase (ok : gOk s0 a0 D t p R s m meth c A own cc nL ret mn fr lo mc ms) (k : Nat) (hK : isHl k) {index : Nat} {host : String} (hl0 : Cond.fieldLinkNest own index "StitchDesk$HatchLine" "xBase" "I" host ∈ lw_tbl) {v : Int} (hd : decode cc pc = .ok (.putfield index, 3)) (kk : gW p l e R s m args below meth c Q D A nL gZ cells slots ad 265 (mem ad t (fU F k 6 v) G) (pc + 3) lv st) : gW p l e R s m args below meth c Q D A nL Z cells slots ad 265 (mem ad t F G) pc lv (.int (iI v) :: .ref (ad k) :: st) := by
  refine g_putN ok in_Hl cl_Hl k (m_Hl (ad := ad) (t := t) (F := F) (G := G) hK).1 (m_Hl hK).2 6 (by decide) ty_Hl ok_Hl nm_Hl rfl hl0 rfl rfl rfl (Nat.le_of_ble_eq_true rfl) hd ?_
  rw [mem_put (v := v) (j := 6) (by rw [(m_Hl hK).2]; simp [f_Hl, fU])]
  exact kk
theorem gI_Hl_yStep (ok : gOk s0 a0 D t p R s m meth c A own cc nL ret mn fr lo mc ms) (k : Nat) (hK : isHl k) {index : Nat} (hl0 : Cond.fieldLink own index "StitchDesk$HatchLine" "yStep" "I" ∈ lw_tbl) (hd : decode cc pc = .ok (.getfield index, 3)) (kk : gW p l e R s m args below meth c Q D A nL Z cells slots ad 265 (mem ad t F G) (pc + 3) lv (.int (iI (F k 7)) :: st)) : gW p l e R s m args below meth c Q D A nL Z cells slots ad 265 (mem ad t F G) pc lv (.ref (ad k) :: st) :=
  g_get ok in_Hl cl_Hl k (m_Hl (ad := ad) (t := t) (F := F) (G := G) hK).1 (m_Hl hK).2 7 (by decide) rfl hl0 rfl hd kk
theorem pI_Hl_yStep (ok : gOk s0 a0 D t p R s m meth c A own cc nL ret mn fr lo mc ms) (k : Nat) (hK : isHl k) {index : Nat} (hl0 : Cond.fieldLink own index "StitchDesk$HatchLine" "yStep" "I" ∈ lw_tbl) {v : Int} (hd : decode cc pc = .ok (.putfield index, 3)) (kk : gW p l e R s m args below meth c Q D A nL gZ cells slots ad 265 (mem ad t (fU F k 7 v) G) (pc + 3) lv st) : gW p l e R s m args below meth c Q D A nL Z cells slots ad 265 (mem ad t F G) pc lv (.int (iI v) :: .ref (ad k) :: st) := by
  refine g_put ok in_Hl cl_Hl k (m_Hl (ad := ad) (t := t) (F := F) (G := G) hK).1 (m_Hl hK).2 7 (by decide) ty_Hl ok_Hl nm_Hl rfl hl0 rfl rfl rfl (Nat.le_of_ble_eq_true rfl) hd ?_
  rw [mem_put (v := v) (j := 7) (by rw [(m_Hl hK).2]; simp [f_Hl, fU])]
  exact kk
theorem gN_Hl_yStep (ok : gOk s0 a0 D t p R s m meth c A own cc nL ret mn fr lo mc ms) (k : Nat) (hK : isHl k) {index : Nat} {host : String} (hl0 : Cond.fieldLinkNest own index "StitchDesk$HatchLine" "yStep" "I" host ∈ lw_tbl) (hd : decode cc pc = .ok (.getfield index, 3)) (kk : gW p l e R s m args below meth c Q D A nL Z cells slots ad 265 (mem ad t F G) (pc + 3) lv (.int (iI (F k 7)) :: st)) : gW p l e R s m args below meth c Q D A nL Z cells slots ad 265 (mem ad t F G) pc lv (.ref (ad k) :: st) :=
  g_getN ok in_Hl cl_Hl k (m_Hl (ad := ad) (t := t) (F := F) (G := G) hK).1 (m_Hl hK).2 7 (by decide) rfl hl0 rfl hd kk
theorem pN_Hl_yStep (ok : gOk s0 a0 D t p R s m meth c A own cc nL ret mn fr lo mc ms) (k : Nat) (hK : isHl k) {index : Nat} {host : String} (hl0 : Cond.fieldLinkNest own index "StitchDesk$HatchLine" "yStep" "I" host ∈ lw_tbl) {v : Int} (hd : decode cc pc = .ok (.putfield index, 3)) (kk : gW p l e R s m args below meth c Q D A nL gZ cells slots ad 265 (mem ad t (fU F k 7 v) G) (pc + 3) lv st) : gW p l e R s m args below meth c Q D A nL Z cells slots ad 265 (mem ad t F G) pc lv (.int (iI v) :: .ref (ad k) :: st) := by
  refine g_putN ok in_Hl cl_Hl k (m_Hl (ad := ad) (t := t) (F := F) (G := G) hK).1 (m_Hl hK).2 7 (by decide) ty_Hl ok_Hl nm_Hl rfl hl0 rfl rfl rfl (Nat.le_of_ble_eq_true rfl) hd ?_
  rw [mem_put (v := v) (j := 7) (by rw [(m_Hl hK).2]; simp [f_Hl, fU])]
  exact kk
theorem gI_Hl_yBase (ok : gOk s0 a0 D t p R s m meth c A own cc nL ret mn fr lo mc ms) (k : Nat) (hK : isHl k) {index : Nat} (hl0 : Cond.fieldLink own index "StitchDesk$HatchLine" "yBase" "I" ∈ lw_tbl) (hd : decode cc pc = .ok (.getfield index, 3)) (kk : gW p l e R s m args below meth c Q D A nL Z cells slots ad 265 (mem ad t F G) (pc + 3) lv (.int (iI (F k 8)) :: st)) : gW p l e R s m args below meth c Q D A nL Z cells slots ad 265 (mem ad t F G) pc lv (.ref (ad k) :: st) :=
  g_get ok in_Hl cl_Hl k (m_Hl (ad := ad) (t := t) (F := F) (G := G) hK).1 (m_Hl hK).2 8 (by decide) rfl hl0 rfl hd kk
theorem pI_Hl_yBase (ok : gOk s0 a0 D t p R s m meth c A own cc nL ret mn fr lo mc ms) (k : Nat) (hK : isHl k) {index : Nat} (hl0 : Cond.fieldLink own index "StitchDesk$HatchLine" "yBase" "I" ∈ lw_tbl) {v : Int} (hd : decode cc pc = .ok (.putfield index, 3)) (kk : gW p l e R s m args below meth c Q D A nL gZ cells slots ad 265 (mem ad t (fU F k 8 v) G) (pc + 3) lv st) : gW p l e R s m args below meth c Q D A nL Z cells slots ad 265 (mem ad t F G) pc lv (.int (iI v) :: .ref (ad k) :: st) := by
  refine g_put ok in_Hl cl_Hl k (m_Hl (ad := ad) (t := t) (F := F) (G := G) hK).1 (m_Hl hK).2 8 (by decide) ty_Hl ok_Hl nm_Hl rfl hl0 rfl rfl rfl (Nat.le_of_ble_eq_true rfl) hd ?_
  rw [mem_put (v := v) (j := 8) (by rw [(m_Hl hK).2]; simp [f_Hl, fU])]
  exact kk
theorem gN_Hl_yBase (ok : gOk s0 a0 D t p R s m meth c A own cc nL ret mn fr lo mc ms) (k : Nat) (hK : isHl k) {index : Nat} {host : String} (hl0 : Cond.fieldLinkNest own index "StitchDesk$HatchLine" "yBase" "I" host ∈ lw_tbl) (hd : decode cc pc = .ok (.getfield index, 3)) (kk : gW p l e R s m args below meth c Q D A nL Z cells slots ad 265 (mem ad t F G) (pc + 3) lv (.int (iI (F k 8)) :: st)) : gW p l e R s m args below meth c Q D A nL Z cells slots ad 265 (mem ad t F G) pc lv (.ref (ad k) :: st) :=
  g_getN ok in_Hl cl_Hl k (m_Hl (ad := ad) (t := t) (F := F) (G := G) hK).1 (m_Hl hK).2 8 (by decide) rfl hl0 rfl hd kk
theorem pN_Hl_yBase (ok : gOk s0 a0 D t p R s m meth c A own cc nL ret mn fr lo mc ms) (k : Nat) (hK : isHl k) {index : Nat} {host : String} (hl0 : Cond.fieldLinkNest own index "StitchDesk$HatchLine" "yBase" "I" host ∈ lw_tbl) {v : Int} (hd : decode cc pc = .ok (.putfield index, 3)) (kk : gW p l e R s m args below meth c Q D A nL gZ cells slots ad 265 (mem ad t (fU F k 8 v) G) (pc + 3) lv st) : gW p l e R s m args below meth c Q D A nL Z cells slots ad 265 (mem ad t F G) pc lv (.int (iI v) :: .ref (ad k) :: st) := by
  refine g_putN ok in_Hl cl_Hl k (m_Hl (ad := ad) (t := t) (F := F) (G := G) hK).1 (m_Hl hK).2 8 (by decide) ty_Hl ok_Hl nm_Hl rfl hl0 rfl rfl rfl (Nat.le_of_ble_eq_true rfl) hd ?_
  rw [mem_put (v := v) (j := 8) (by rw [(m_Hl hK).2]; simp [f_Hl, fU])]
  exact kk
theorem gI_Hl_first (ok : gOk s0 a0 D t p R s m meth c A own cc nL ret mn fr lo mc ms) (k : Nat) (hK : isHl k) {index : Nat} (hl0 : Cond.fieldLink own index "StitchDesk$HatchLine" "first" "I" ∈ lw_tbl) (hd : decode cc pc = .ok (.getfield index, 3)) (kk : gW p l e R s m args below meth c Q D A nL Z cells slots ad 265 (mem ad t F G) (pc + 3) lv (.int (iI (F k 9)) :: st)) : gW p l e R s m args below meth c Q D A nL Z cells slots ad 265 (mem ad t F G) pc lv (.ref (ad k) :: st) :=
  g_get ok in_Hl cl_Hl k (m_Hl (ad := ad) (t := t) (F := F) (G := G) hK).1 (m_Hl hK).2 9 (by decide) rfl hl0 rfl hd kk
theorem pI_Hl_first (ok : gOk s0 a0 D t p R s m meth c A own cc nL ret mn fr lo mc ms) (k : Nat) (hK : isHl k) {index : Nat} (hl0 : Cond.fieldLink own index "StitchDesk$HatchLine" "first" "I" ∈ lw_tbl) {v : Int} (hd : decode cc pc = .ok (.putfield index, 3)) (kk : gW p l e R s m args below meth c Q D A nL gZ cells slots ad 265 (mem ad t (fU F k 9 v) G) (pc + 3) lv st) : gW p l e R s m args below meth c Q D A nL Z cells slots ad 265 (mem ad t F G) pc lv (.int (iI v) :: .ref (ad k) :: st) := by
  refine g_put ok in_Hl cl_Hl k (m_Hl (ad := ad) (t := t) (F := F) (G := G) hK).1 (m_Hl hK).2 9 (by decide) ty_Hl ok_Hl nm_Hl rfl hl0 rfl rfl rfl (Nat.le_of_ble_eq_true rfl) hd ?_
  rw [mem_put (v := v) (j := 9) (by rw [(m_Hl hK).2]; simp [f_Hl, fU])]
  exact kk
theorem gN_Hl_first (ok : gOk s0 a0 D t p R s m meth c A own cc nL ret mn fr lo mc ms) (k : Nat) (hK : isHl k) {index : Nat} {host : String} (hl0 : Cond.fieldLinkNest own index "StitchDesk$HatchLine" "first" "I" host ∈ lw_tbl) (hd : decode cc pc = .ok (.getfield index, 3)) (kk : gW p l e R s m args below meth c Q D A nL Z cells slots ad 265 (mem ad t F G) (pc + 3) lv (.int (iI (F k 9)) :: st)) : gW p l e R s m args below meth c Q D A nL Z cells slots ad 265 (mem ad t F G) pc lv (.ref (ad k) :: st) :=
  g_getN ok in_Hl cl_Hl k (m_Hl (ad := ad) (t := t) (F := F) (G := G) hK).1 (m_Hl hK).2 9 (by decide) rfl hl0 rfl hd kk
theorem pN_Hl_first (ok : gOk s0 a0 D t p R s m meth c A own cc nL ret mn fr lo mc ms) (k : Nat) (hK : isHl k) {index : Nat} {host : String} (hl0 : Cond.fieldLinkNest own index "StitchDesk$HatchLine" "first" "I" host ∈ lw_tbl) {v : Int} (hd : decode cc pc = .ok (.putfield index, 3)) (kk : gW p l e R s m args below meth c Q D A nL gZ cells slots ad 265 (mem ad t (fU F k 9 v) G) (pc + 3) lv st) : gW p l e R s m args below meth c Q D A nL Z cells slots ad 265 (mem ad t F G) pc lv (.int (iI v) :: .ref (ad k) :: st) := by
  refine g_putN ok in_Hl cl_Hl k (m_Hl (ad := ad) (t := t) (F := F) (G := G) hK).1 (m_Hl hK).2 9 (by decide) ty_Hl ok_Hl nm_Hl rfl hl0 rfl rfl rfl (Nat.le_of_ble_eq_true rfl) hd ?_
  rw [mem_put (v := v) (j := 9) (by rw [(m_Hl hK).2]; simp [f_Hl, fU])]
  exact kk
theorem gI_Hl_last (ok : gOk s0 a0 D t p R s m meth c A own cc nL ret mn fr lo mc ms) (k : Nat) (hK : isHl k) {index : Nat} (hl0 : Cond.fieldLink own index "StitchDesk$HatchLine" "last" "I" ∈ lw_tbl) (hd : decode cc pc = .ok (.getfield index, 3)) (kk : gW p l e R s m args below meth c Q D A nL Z cells slots ad 265 (mem ad t F G) (pc + 3) lv (.int (iI (F k 10)) :: st)) : gW p l e R s m args below meth c Q D A nL Z cells slots ad 265 (mem ad t F G) pc lv (.ref (ad k) :: st) :=
  g_get ok in_Hl cl_Hl k (m_Hl (ad := ad) (t := t) (F := F) (G := G) hK).1 (m_Hl hK).2 10 (by decide) rfl hl0 rfl hd kk
theorem pI_Hl_last (ok : gOk s0 a0 D t p R s m meth c A own cc nL ret mn fr lo mc ms) (k : Nat) (hK : isHl k) {index : Nat} (hl0 : Cond.fieldLink own index "StitchDesk$HatchLine" "last" "I" ∈ lw_tbl) {v : Int} (hd : decode cc pc = .ok (.putfield index, 3)) (kk : gW p l e R s m args below meth c Q D A nL gZ cells slots ad 265 (mem ad t (fU F k 10 v) G) (pc + 3) lv st) : gW p l e R s m args below meth c Q D A nL Z cells slots ad 265 (mem ad t F G) pc lv (.int (iI v) :: .ref (ad k) :: st) := by
  refine g_put ok in_Hl cl_Hl k (m_Hl (ad := ad) (t := t) (F := F) (G := G) hK).1 (m_Hl hK).2 10 (by decide) ty_Hl ok_Hl nm_Hl rfl hl0 rfl rfl rfl (Nat.le_of_ble_eq_true rfl) hd ?_
  rw [mem_put (v := v) (j := 10) (by rw [(m_Hl hK).2]; simp [f_Hl, fU])]
  exact kk
theorem gN_Hl_last (ok : gOk s0 a0 D t p R s m meth c A own cc nL ret mn fr lo mc ms) (k : Nat) (hK : isHl k) {index : Nat} {host : String} (hl0 : Cond.fieldLinkNest own index "StitchDesk$HatchLine" "last" "I" host ∈ lw_tbl) (hd : decode cc pc = .ok (.getfield index, 3)) (kk : gW p l e R s m args below meth c Q D A nL Z cells slots ad 265 (mem ad t F G) (pc + 3) lv (.int (iI (F k 10)) :: st)) : gW p l e R s m args below meth c Q D A nL Z cells slots ad 265 (mem ad t F G) pc lv (.ref (ad k) :: st) :=
  g_getN ok in_Hl cl_Hl k (m_Hl (ad := ad) (t := t) (F := F) (G := G) hK).1 (m_Hl hK).2 10 (by decide) rfl hl0 rfl hd kk
theorem pN_Hl_last (ok : gOk s0 a0 D t p R s m meth c A own cc nL ret mn fr lo mc ms) (k : Nat) (hK : isHl k) {index : Nat} {host : String} (hl0 : Cond.fieldLinkNest own index "StitchDesk$HatchLine" "last" "I" host ∈ lw_tbl) {v : Int} (hd : decode cc pc = .ok (.putfield index, 3)) (kk : gW p l e R s m args below meth c Q D A nL gZ cells slots ad 265 (mem ad t (fU F k 10 v) G) (pc + 3) lv st) : gW p l e R s m args below meth c Q D A nL Z cells slots ad 265 (mem ad t F G) pc lv (.int (iI v) :: .ref (ad k) :: st) := by
  refine g_putN ok in_Hl cl_Hl k (m_Hl (ad := ad) (t := t) (F := F) (G := G) hK).1 (m_Hl hK).2 10 (by decide) ty_Hl ok_Hl nm_Hl rfl hl0 rfl rfl rfl (Nat.le_of_ble_eq_true rfl) hd ?_
  rw [mem_put (v := v) (j := 10) (by rw [(m_Hl hK).2]; simp [f_Hl, fU])]
  exact kk
theorem gI_Hl_low (ok : gOk s0 a0 D t p R s m meth c A own cc nL ret mn fr lo mc ms) (k : Nat) (hK : isHl k) {index : Nat} (hl0 : Cond.fieldLink own index "StitchDesk$HatchLine" "low" "I" ∈ lw_tbl) (hd : decode cc pc = .ok (.getfield index, 3)) (kk : gW p l e R s m args below meth c Q D A nL Z cells slots ad 265 (mem ad t F G) (pc + 3) lv (.int (iI (F k 11)) :: st)) : gW p l e R s m args below meth c Q D A nL Z cells slots ad 265 (mem ad t F G) pc lv (.ref (ad k) :: st) :=
  g_get ok in_Hl cl_Hl k (m_Hl (ad := ad) (t := t) (F := F) (G := G) hK).1 (m_Hl hK).2 11 (by decide) rfl hl0 rfl hd kk
theorem pI_Hl_low (ok : gOk s0 a0 D t p R s m meth c A own cc nL ret mn fr lo mc ms) (k : Nat) (hK : isHl k) {index : Nat} (hl0 : Cond.fieldLink own index "StitchDesk$HatchLine" "low" "I" ∈ lw_tbl) {v : Int} (hd : decode cc pc = .ok (.putfield index, 3)) (kk : gW p l e R s m args below meth c Q D A nL gZ cells slots ad 265 (mem ad t (fU F k 11 v) G) (pc + 3) lv st) : gW p l e R s m args below meth c Q D A nL Z cells slots ad 265 (mem ad t F G) pc lv (.int (iI v) :: .ref (ad k) :: st) := by
  refine g_put ok in_Hl cl_Hl k (m_Hl (ad := ad) (t := t) (F := F) (G := G) hK).1 (m_Hl hK).2 11 (by decide) ty_Hl ok_Hl nm_Hl rfl hl0 rfl rfl rfl (Nat.le_of_ble_eq_true rfl) hd ?_
  rw [mem_put (v := v) (j := 11) (by rw [(m_Hl hK).2]; simp [f_Hl, fU])]
  exact kk
theorem gN_Hl_low (ok : gOk s0 a0 D t p R s m meth c A own cc nL ret mn fr lo mc ms) (k : Nat) (hK : isHl k) {index : Nat} {host : String} (hl0 : Cond.fieldLinkNest own index "StitchDesk$HatchLine" "low" "I" host ∈ lw_tbl) (hd : decode cc pc = .ok (.getfield index, 3)) (kk : gW p l e R s m args below meth c Q D A nL Z cells slots ad 265 (mem ad t F G) (pc + 3) lv (.int (iI (F k 11)) :: st)) : gW p l e R s m args below meth c Q D A nL Z cells slots ad 265 (mem ad t F G) pc lv (.ref (ad k) :: st) :=
  g_getN ok in_Hl cl_Hl k (m_Hl (ad := ad) (t := t) (F := F) (G := G) hK).1 (m_Hl hK).2 11 (by decide) rfl hl0 rfl hd kk
theorem pN_Hl_low (ok : gOk s0 a0 D t p R s m meth c A own cc nL ret mn fr lo mc ms) (k : Nat) (hK : isHl k) {index : Nat} {host : String} (hl0 : Cond.fieldLinkNest own index "StitchDesk$HatchLine" "low" "I" host ∈ lw_tbl) {v : Int} (hd : decode cc pc = .ok (.putfield index, 3)) (kk : gW p l e R s m args below meth c Q D A nL gZ cells slots ad 265 (mem ad t (fU F k 11 v) G) (pc + 3) lv st) : gW p l e R s m args below meth c Q D A nL Z cells slots ad 265 (mem ad t F G) pc lv (.int (iI v) :: .ref (ad k) :: st) := by
  refine g_putN ok in_Hl cl_Hl k (m_Hl (ad := ad) (t := t) (F := F) (G := G) hK).1 (m_Hl hK).2 11 (by decide) ty_Hl ok_Hl nm_Hl rfl hl0 rfl rfl rfl (Nat.le_of_ble_eq_true rfl) hd ?_
  rw [mem_put (v := v) (j := 11) (by rw [(m_Hl hK).2]; simp [f_Hl, fU])]
  exact kk
theorem gI_Hl_high (ok : gOk s0 a0 D t p R s m meth c A own cc nL ret mn fr lo mc ms) (k : Nat) (hK : isHl k) {index : Nat} (hl0 : Cond.fieldLink own index "StitchDesk$HatchLine" "high" "I" ∈ lw_tbl) (hd : decode cc pc = .ok (.getfield index, 3)) (kk : gW p l e R s m args below meth c Q D A nL Z cells slots ad 265 (mem ad t F G) (pc + 3) lv (.int (iI (F k 12)) :: st)) : gW p l e R s m args below meth c Q D A nL Z cells slots ad 265 (mem ad t F G) pc lv (.ref (ad k) :: st) :=
  g_get ok in_Hl cl_Hl k (m_Hl (ad := ad) (t := t) (F := F) (G := G) hK).1 (m_Hl hK).2 12 (by decide) rfl hl0 rfl hd kk
theorem pI_Hl_high (ok : gOk s0 a0 D t p R s m meth c A own cc nL ret mn fr lo mc ms) (k : Nat) (hK : isHl k) {index : Nat} (hl0 : Cond.fieldLink own index "StitchDesk$HatchLine" "high" "I" ∈ lw_tbl) {v : Int} (hd : decode cc pc = .ok (.putfield index, 3)) (kk : gW p l e R s m args below meth c Q D A nL gZ cells slots ad 265 (mem ad t (fU F k 12 v) G) (pc + 3) lv st) : gW p l e R s m args below meth c Q D A nL Z cells slots ad 265 (mem ad t F G) pc lv (.int (iI v) :: .ref (ad k) :: st) := by
  refine g_put ok in_Hl cl_Hl k (m_Hl (ad := ad) (t := t) (F := F) (G := G) hK).1 (m_Hl hK).2 12 (by decide) ty_Hl ok_Hl nm_Hl rfl hl0 rfl rfl rfl (Nat.le_of_ble_eq_true rfl) hd ?_
  rw [mem_put (v := v) (j := 12) (by rw [(m_Hl hK).2]; simp [f_Hl, fU])]
  exact kk
theorem gN_Hl_high (ok : gOk s0 a0 D t p R s m meth c A own cc nL ret mn fr lo mc ms) (k : Nat) (hK : isHl k) {index : Nat} {host : String} (hl0 : Cond.fieldLinkNest own index "StitchDesk$HatchLine" "high" "I" host ∈ lw_tbl) (hd : decode cc pc = .ok (.getfield index, 3)) (kk : gW p l e R s m args below meth c Q D A nL Z cells slots ad 265 (mem ad t F G) (pc + 3) lv (.int (iI (F k 12)) :: st)) : gW p l e R s m args below meth c Q D A nL Z cells slots ad 265 (mem ad t F G) pc lv (.ref (ad k) :: st) :=
  g_getN ok in_Hl cl_Hl k (m_Hl (ad := ad) (t := t) (F := F) (G := G) hK).1 (m_Hl hK).2 12 (by decide) rfl hl0 rfl hd kk
theorem pN_Hl_high (ok : gOk s0 a0 D t p R s m meth c A own cc nL ret mn fr lo mc ms) (k : Nat) (hK : isHl k) {index : Nat} {host : String} (hl0 : Cond.fieldLinkNest own index "StitchDesk$HatchLine" "high" "I" host ∈ lw_tbl) {v : Int} (hd : decode cc pc = .ok (.putfield index, 3)) (kk : gW p l e R s m args below meth c Q D A nL gZ cells slots ad 265 (mem ad t (fU F k 12 v) G) (pc + 3) lv st) : gW p l e R s m args below meth c Q D A nL Z cells slots ad 265 (mem ad t F G) pc lv (.int (iI v) :: .ref (ad k) :: st) := by
  refine g_putN ok in_Hl cl_Hl k (m_Hl (ad := ad) (t := t) (F := F) (G := G) hK).1 (m_Hl hK).2 12 (by decide) ty_Hl ok_Hl nm_Hl rfl hl0 rfl rfl rfl (Nat.le_of_ble_eq_true rfl) hd ?_
  rw [mem_put (v := v) (j := 12) (by rw [(m_Hl hK).2]; simp [f_Hl, fU])]
  exact kk
theorem gI_Pm_path (ok : gOk s0 a0 D t p R s m meth c A own cc nL ret mn fr lo mc ms) (k : Nat) (hK : isPm k) {index : Nat} (hl0 : Cond.fieldLink own index "StitchDesk$PathMaker" "path" "LStitchDesk$Path;" ∈ lw_tbl) (hd : decode cc pc = .ok (.getfield index, 3)) (kk : gW p l e R s m args below meth c Q D A nL Z cells slots ad 265 (mem ad t F G) (pc + 3) lv (.ref (ad 236) :: st)) : gW p l e R s m args below meth c Q D A nL Z cells slots ad 265 (mem ad t F G) pc lv (.ref (ad k) :: st) :=
  g_get ok in_Pm cl_Pm k (m_Pm (ad := ad) (t := t) (F := F) (G := G) hK).1 (m_Pm hK).2 0 (by decide) rfl hl0 rfl hd kk
theorem gN_Pm_path (ok : gOk s0 a0 D t p R s m meth c A own cc nL ret mn fr lo mc ms) (k : Nat) (hK : isPm k) {index : Nat} {host : String} (hl0 : Cond.fieldLinkNest own index "StitchDesk$PathMaker" "path" "LStitchDesk$Path;" host ∈ lw_tbl) (hd : decode cc pc = .ok (.getfield index, 3)) (kk : gW p l e R s m args below meth c Q D A nL Z cells slots ad 265 (mem ad t F G) (pc + 3) lv (.ref (ad 236) :: st)) : gW p l e R s m args below meth c Q D A nL Z cells slots ad 265 (mem ad t F G) pc lv (.ref (ad k) :: st) :=
  g_getN ok in_Pm cl_Pm k (m_Pm (ad := ad) (t := t) (F := F) (G := G) hK).1 (m_Pm hK).2 0 (by decide) rfl hl0 rfl hd kk
theorem gI_Pm_shape (ok : gOk s0 a0 D t p R s m meth c A own cc nL ret mn fr lo mc ms) (k : Nat) (hK : isPm k) {index : Nat} (hl0 : Cond.fieldLink own index "StitchDesk$PathMaker" "shape" "LStitchDesk$Shape;" ∈ lw_tbl) (hd : decode cc pc = .ok (.getfield index, 3)) (kk : gW p l e R s m args below meth c Q D A nL Z cells slots ad 265 (mem ad t F G) (pc + 3) lv (pmS ad (F k 1) :: st)) : gW p l e R s m args below meth c Q D A nL Z cells slots ad 265 (mem ad t F G) pc lv (.ref (ad k) :: st) :=
  g_get ok in_Pm cl_Pm k (m_Pm (ad := ad) (t := t) (F := F) (G := G) hK).1 (m_Pm hK).2 1 (by decide) rfl hl0 rfl hd kk
theorem gN_Pm_shape (ok : gOk s0 a0 D t p R s m meth c A own cc nL ret mn fr lo mc ms) (k : Nat) (hK : isPm k) {index : Nat} {host : String} (hl0 : Cond.fieldLinkNest own index "StitchDesk$PathMaker" "shape" "LStitchDesk$Shape;" host ∈ lw_tbl) (hd : decode cc pc = .ok (.getfield index, 3)) (kk : gW p l e R s m args below meth c Q D A nL Z cells slots ad 265 (mem ad t F G) (pc + 3) lv (pmS ad (F k 1) :: st)) : gW p l e R s m args below meth c Q D A nL Z cells slots ad 265 (mem ad t F G) pc lv (.ref (ad k) :: st) :=
  g_getN ok in_Pm cl_Pm k (m_Pm (ad := ad) (t := t) (F := F) (G := G) hK).1 (m_Pm hK).2 1 (by decide) rfl hl0 rfl hd kk
theorem gI_Pm_x (ok : gOk s0 a0 D t p R s m meth c A own cc nL ret mn fr lo mc ms) (k : Nat) (hK : isPm k) {index : Nat} (hl0 : Cond.fieldLink own index "StitchDesk$PathMaker" "x" "I" ∈ lw_tbl) (hd : decode cc pc = .ok (.getfield index, 3)) (kk : gW p l e R s m args below meth c Q D A nL Z cells slots ad 265 (mem ad t F G) (pc + 3) lv (.int (iI (F k 2)) :: st)) : gW p l e R s m args below meth c Q D A nL Z cells slots ad 265 (mem ad t F G) pc lv (.ref (ad k) :: st) :=
  g_get ok in_Pm cl_Pm k (m_Pm (ad := ad) (t := t) (F := F) (G := G) hK).1 (m_Pm hK).2 2 (by decide) rfl hl0 rfl hd kk
theorem pI_Pm_x (ok : gOk s0 a0 D t p R s m meth c A own cc nL ret mn fr lo mc ms) (k : Nat) (hK : isPm k) {index : Nat} (hl0 : Cond.fieldLink own index "StitchDesk$PathMaker" "x" "I" ∈ lw_tbl) {v : Int} (hd : decode cc pc = .ok (.putfield index, 3)) (kk : gW p l e R s m args below meth c Q D A nL gZ cells slots ad 265 (mem ad t (fU F k 2 v) G) (pc + 3) lv st) : gW p l e R s m args below meth c Q D A nL Z cells slots ad 265 (mem ad t F G) pc lv (.int (iI v) :: .ref (ad k) :: st) := by
  refine g_put ok in_Pm cl_Pm k (m_Pm (ad := ad) (t := t) (F := F) (G := G) hK).1 (m_Pm hK).2 2 (by decide) ty_Pm ok_Pm nm_Pm rfl hl0 rfl rfl rfl (Nat.le_of_ble_eq_true rfl) hd ?_
  rw [mem_put (v := v) (j := 2) (by rw [(m_Pm hK).2]; simp [f_Pm, fU])]
  exact kk
theorem gN_Pm_x (ok : gOk s0 a0 D t p R s m meth c A own cc nL ret mn fr lo mc ms) (k : Nat) (hK : isPm k) {index : Nat} {host : String} (hl0 : Cond.fieldLinkNest own index "StitchDesk$PathMaker" "x" "I" host ∈ lw_tbl) (hd : decode cc pc = .ok (.getfield index, 3)) (kk : gW p l e R s m args below meth c Q D A nL Z cells slots ad 265 (mem ad t F G) (pc + 3) lv (.int (iI (F k 2)) :: st)) : gW p l e R s m args below meth c Q D A nL Z cells slots ad 265 (mem ad t F G) pc lv (.ref (ad k) :: st) :=
  g_getN ok in_Pm cl_Pm k (m_Pm (ad := ad) (t := t) (F := F) (G := G) hK).1 (m_Pm hK).2 2 (by decide) rfl hl0 rfl hd kk
theorem pN_Pm_x (ok : gOk s0 a0 D t p R s m meth c A own cc nL ret mn fr lo mc ms) (k : Nat) (hK : isPm k) {index : Nat} {host : String} (hl0 : Cond.fieldLinkNest own index "StitchDesk$PathMaker" "x" "I" host ∈ lw_tbl) {v : Int} (hd : decode cc pc = .ok (.putfield index, 3)) (kk : gW p l e R s m args below meth c Q D A nL gZ cells slots ad 265 (mem ad t (fU F k 2 v) G) (pc + 3) lv st) : gW p l e R s m args below meth c Q D A nL Z cells slots ad 265 (mem ad t F G) pc lv (.int (iI v) :: .ref (ad k) :: st) := by
  refine g_putN ok in_Pm cl_Pm k (m_Pm (ad := ad) (t := t) (F := F) (G := G) hK).1 (m_Pm hK).2 2 (by decide) ty_Pm ok_Pm nm_Pm rfl hl0 rfl rfl rfl (Nat.le_of_ble_eq_true rfl) hd ?_
  rw [mem_put (v := v) (j := 2) (by rw [(m_Pm hK).2]; simp [f_Pm, fU])]
  exact kk
theorem gI_Pm_y (ok : gOk s0 a0 D t p R s m meth c A own cc nL ret mn fr lo mc ms) (k : Nat) (hK : isPm k) {index : Nat} (hl0 : Cond.fieldLink own index "StitchDesk$PathMaker" "y" "I" ∈ lw_tbl) (hd : decode cc pc = .ok (.getfield index, 3)) (kk : gW p l e R s m args below meth c Q D A nL Z cells slots ad 265 (mem ad t F G) (pc + 3) lv (.int (iI (F k 3)) :: st)) : gW p l e R s m args below meth c Q D A nL Z cells slots ad 265 (mem ad t F G) pc lv (.ref (ad k) :: st) :=
  g_get ok in_Pm cl_Pm k (m_Pm (ad := ad) (t := t) (F := F) (G := G) hK).1 (m_Pm hK).2 3 (by decide) rfl hl0 rfl hd kk
theorem pI_Pm_y (ok : gOk s0 a0 D t p R s m meth c A own cc nL ret mn fr lo mc ms) (k : Nat) (hK : isPm k) {index : Nat} (hl0 : Cond.fieldLink own index "StitchDesk$PathMaker" "y" "I" ∈ lw_tbl) {v : Int} (hd : decode cc pc = .ok (.putfield index, 3)) (kk : gW p l e R s m args below meth c Q D A nL gZ cells slots ad 265 (mem ad t (fU F k 3 v) G) (pc + 3) lv st) : gW p l e R s m args below meth c Q D A nL Z cells slots ad 265 (mem ad t F G) pc lv (.int (iI v) :: .ref (ad k) :: st) := by
  refine g_put ok in_Pm cl_Pm k (m_Pm (ad := ad) (t := t) (F := F) (G := G) hK).1 (m_Pm hK).2 3 (by decide) ty_Pm ok_Pm nm_Pm rfl hl0 rfl rfl rfl (Nat.le_of_ble_eq_true rfl) hd ?_
  rw [mem_put (v := v) (j := 3) (by rw [(m_Pm hK).2]; simp [f_Pm, fU])]
  exact kk
theorem gN_Pm_y (ok : gOk s0 a0 D t p R s m meth c A own cc nL ret mn fr lo mc ms) (k : Nat) (hK : isPm k) {index : Nat} {host : String} (hl0 : Cond.fieldLinkNest own index "StitchDesk$PathMaker" "y" "I" host ∈ lw_tbl) (hd : decode cc pc = .ok (.getfield index, 3)) (kk : gW p l e R s m args below meth c Q D A nL Z cells slots ad 265 (mem ad t F G) (pc + 3) lv (.int (iI (F k 3)) :: st)) : gW p l e R s m args below meth c Q D A nL Z cells slots ad 265 (mem ad t F G) pc lv (.ref (ad k) :: st) :=
  g_getN ok in_Pm cl_Pm k (m_Pm (ad := ad) (t := t) (F := F) (G := G) hK).1 (m_Pm hK).2 3 (by decide) rfl hl0 rfl hd kk
theorem pN_Pm_y (ok : gOk s0 a0 D t p R s m meth c A own cc nL ret mn fr lo mc ms) (k : Nat) (hK : isPm k) {index : Nat} {host : String} (hl0 : Cond.fieldLinkNest own index "StitchDesk$PathMaker" "y" "I" host ∈ lw_tbl) {v : Int} (hd : decode cc pc = .ok (.putfield index, 3)) (kk : gW p l e R s m args below meth c Q D A nL gZ cells slots ad 265 (mem ad t (fU F k 3 v) G) (pc + 3) lv st) : gW p l e R s m args below meth c Q D A nL Z cells slots ad 265 (mem ad t F G) pc lv (.int (iI v) :: .ref (ad k) :: st) := by
  refine g_putN ok in_Pm cl_Pm k (m_Pm (ad := ad) (t := t) (F := F) (G := G) hK).1 (m_Pm hK).2 3 (by decide) ty_Pm ok_Pm nm_Pm rfl hl0 rfl rfl rfl (Nat.le_of_ble_eq_true rfl) hd ?_
  rw [mem_put (v := v) (j := 3) (by rw [(m_Pm hK).2]; simp [f_Pm, fU])]
  exact kk
theorem gI_Pm_threaded (ok : gOk s0 a0 D t p R s m meth c A own cc nL ret mn fr lo mc ms) (k : Nat) (hK : isPm k) {index : Nat} (hl0 : Cond.fieldLink own index "StitchDesk$PathMaker" "threaded" "I" ∈ lw_tbl) (hd : decode cc pc = .ok (.getfield index, 3)) (kk : gW p l e R s m args below meth c Q D A nL Z cells slots ad 265 (mem ad t F G) (pc + 3) lv (.int (iI (F k 4)) :: st)) : gW p l e R s m args below meth c Q D A nL Z cells slots ad 265 (mem ad t F G) pc lv (.ref (ad k) :: st) :=
  g_get ok in_Pm cl_Pm k (m_Pm (ad := ad) (t := t) (F := F) (G := G) hK).1 (m_Pm hK).2 4 (by decide) rfl hl0 rfl hd kk
theorem pI_Pm_threaded (ok : gOk s0 a0 D t p R s m meth c A own cc nL ret mn fr lo mc ms) (k : Nat) (hK : isPm k) {index : Nat} (hl0 : Cond.fieldLink own index "StitchDesk$PathMaker" "threaded" "I" ∈ lw_tbl) {v : Int} (hd : decode cc pc = .ok (.putfield index, 3)) (kk : gW p l e R s m args below meth c Q D A nL gZ cells slots ad 265 (mem ad t (fU F k 4 v) G) (pc + 3) lv st) : gW p l e R s m args below meth c Q D A nL Z cells slots ad 265 (mem ad t F G) pc lv (.int (iI v) :: .ref (ad k) :: st) := by
  refine g_put ok in_Pm cl_Pm k (m_Pm (ad := ad) (t := t) (F := F) (G := G) hK).1 (m_Pm hK).2 4 (by decide) ty_Pm ok_Pm nm_Pm rfl hl0 rfl rfl rfl (Nat.le_of_ble_eq_true rfl) hd ?_
  rw [mem_put (v := v) (j := 4) (by rw [(m_Pm hK).2]; simp [f_Pm, fU])]
  exact kk
theorem gN_Pm_threaded (ok : gOk s0 a0 D t p R s m meth c A own cc nL ret mn fr lo mc ms) (k : Nat) (hK : isPm k) {index : Nat} {host : String} (hl0 : Cond.fieldLinkNest own index "StitchDesk$PathMaker" "threaded" "I" host ∈ lw_tbl) (hd : decode cc pc = .ok (.getfield index, 3)) (kk : gW p l e R s m args below meth c Q D A nL Z cells slots ad 265 (mem ad t F G) (pc + 3) lv (.int (iI (F k 4)) :: st)) : gW p l e R s m args below meth c Q D A nL Z cells slots ad 265 (mem ad t F G) pc lv (.ref (ad k) :: st) :=
  g_getN ok in_Pm cl_Pm k (m_Pm (ad := ad) (t := t) (F := F) (G := G) hK).1 (m_Pm hK).2 4 (by decide) rfl hl0 rfl hd kk
theorem pN_Pm_threaded (ok : gOk s0 a0 D t p R s m meth c A own cc nL ret mn fr lo mc ms) (k : Nat) (hK : isPm k) {index : Nat} {host : String} (hl0 : Cond.fieldLinkNest own index "StitchDesk$PathMaker" "threaded" "I" host ∈ lw_tbl) {v : Int} (hd : decode cc pc = .ok (.putfield index, 3)) (kk : gW p l e R s m args below meth c Q D A nL gZ cells slots ad 265 (mem ad t (fU F k 4 v) G) (pc + 3) lv st) : gW p l e R s m args below meth c Q D A nL Z cells slots ad 265 (mem ad t F G) pc lv (.int (iI v) :: .ref (ad k) :: st) := by
  refine g_putN ok in_Pm cl_Pm k (m_Pm (ad := ad) (t := t) (F := F) (G := G) hK).1 (m_Pm hK).2 4 (by decide) ty_Pm ok_Pm nm_Pm rfl hl0 rfl rfl rfl (Nat.le_of_ble_eq_true rfl) hd ?_
  rw [mem_put (v := v) (j := 4) (by rw [(m_Pm hK).2]; simp [f_Pm, fU])]
  exact kk
theorem gI_Pm_entering (ok : gOk s0 a0 D t p R s m meth c A own cc nL ret mn fr lo mc ms) (k : Nat) (hK : isPm k) {index : Nat} (hl0 : Cond.fieldLink own index "StitchDesk$PathMaker" "entering" "Z" ∈ lw_tbl) (hd : decode cc pc = .ok (.getfield index, 3)) (kk : gW p l e R s m args below meth c Q D A nL Z cells slots ad 265 (mem ad t F G) (pc + 3) lv (.int (iI (F k 5)) :: st)) : gW p l e R s m args below meth c Q D A nL Z cells slots ad 265 (mem ad t F G) pc lv (.ref (ad k) :: st) :=
  g_get ok in_Pm cl_Pm k (m_Pm (ad := ad) (t := t) (F := F) (G := G) hK).1 (m_Pm hK).2 5 (by decide) rfl hl0 rfl hd kk
theorem pI_Pm_entering (ok : gOk s0 a0 D t p R s m meth c A own cc nL ret mn fr lo mc ms) (k : Nat) (hK : isPm k) {index : Nat} (hl0 : Cond.fieldLink own index "StitchDesk$PathMaker" "entering" "Z" ∈ lw_tbl) {v : Int} (hb : v = 0 ∨ v = 1) (hd : decode cc pc = .ok (.putfield index, 3)) (kk : gW p l e R s m args below meth c Q D A nL gZ cells slots ad 265 (mem ad t (fU F k 5 v) G) (pc + 3) lv st) : gW p l e R s m args below meth c Q D A nL Z cells slots ad 265 (mem ad t F G) pc lv (.int (iI v) :: .ref (ad k) :: st) := by
  refine g_put ok in_Pm cl_Pm k (m_Pm (ad := ad) (t := t) (F := F) (G := G) hK).1 (m_Pm hK).2 5 (by decide) ty_Pm ok_Pm nm_Pm rfl hl0 rfl (narrow_bool hb) (fits_bool hb) (Nat.le_of_ble_eq_true rfl) hd ?_
  rw [mem_put (v := v) (j := 5) (by rw [(m_Pm hK).2]; simp [f_Pm, fU])]
  exact kk
theorem gN_Pm_entering (ok : gOk s0 a0 D t p R s m meth c A own cc nL ret mn fr lo mc ms) (k : Nat) (hK : isPm k) {index : Nat} {host : String} (hl0 : Cond.fieldLinkNest own index "StitchDesk$PathMaker" "entering" "Z" host ∈ lw_tbl) (hd : decode cc pc = .ok (.getfield index, 3)) (kk : gW p l e R s m args below meth c Q D A nL Z cells slots ad 265 (mem ad t F G) (pc + 3) lv (.int (iI (F k 5)) :: st)) : gW p l e R s m args below meth c Q D A nL Z cells slots ad 265 (mem ad t F G) pc lv (.ref (ad k) :: st) :=
  g_getN ok in_Pm cl_Pm k (m_Pm (ad := ad) (t := t) (F := F) (G := G) hK).1 (m_Pm hK).2 5 (by decide) rfl hl0 rfl hd kk
theorem pN_Pm_entering (ok : gOk s0 a0 D t p R s m meth c A own cc nL ret mn fr lo mc ms) (k : Nat) (hK : isPm k) {index : Nat} {host : String} (hl0 : Cond.fieldLinkNest own index "StitchDesk$PathMaker" "entering" "Z" host ∈ lw_tbl) {v : Int} (hb : v = 0 ∨ v = 1) (hd : decode cc pc = .ok (.putfield index, 3)) (kk : gW p l e R s m args below meth c Q D A nL gZ cells slots ad 265 (mem ad t (fU F k 5 v) G) (pc + 3) lv st) : gW p l e R s m args below meth c Q D A nL Z cells slots ad 265 (mem ad t F G) pc lv (.int (iI v) :: .ref (ad k) :: st) := by
  refine g_putN ok in_Pm cl_Pm k (m_Pm (ad := ad) (t := t) (F := F) (G := G) hK).1 (m_Pm hK).2 5 (by decide) ty_Pm ok_Pm nm_Pm rfl hl0 rfl (narrow_bool hb) (fits_bool hb) (Nat.le_of_ble_eq_true rfl) hd ?_
  rw [mem_put (v := v) (j := 5) (by rw [(m_Pm hK).2]; simp [f_Pm, fU])]
  exact kk
theorem gI_Pm_atRunStart (ok : gOk s0 a0 D t p R s m meth c A own cc nL ret mn fr lo mc ms) (k : Nat) (hK : isPm k) {index : Nat} (hl0 : Cond.fieldLink own index "StitchDesk$PathMaker" "atRunStart" "Z" ∈ lw_tbl) (hd : decode cc pc = .ok (.getfield index, 3)) (kk : gW p l e R s m args below meth c Q D A nL Z cells slots ad 265 (mem ad t F G) (pc + 3) lv (.int (iI (F k 6)) :: st)) : gW p l e R s m args below meth c Q D A nL Z cells slots ad 265 (mem ad t F G) pc lv (.ref (ad k) :: st) :=
  g_get ok in_Pm cl_Pm k (m_Pm (ad := ad) (t := t) (F := F) (G := G) hK).1 (m_Pm hK).2 6 (by decide) rfl hl0 rfl hd kk
theorem pI_Pm_atRunStart (ok : gOk s0 a0 D t p R s m meth c A own cc nL ret mn fr lo mc ms) (k : Nat) (hK : isPm k) {index : Nat} (hl0 : Cond.fieldLink own index "StitchDesk$PathMaker" "atRunStart" "Z" ∈ lw_tbl) {v : Int} (hb : v = 0 ∨ v = 1) (hd : decode cc pc = .ok (.putfield index, 3)) (kk : gW p l e R s m args below meth c Q D A nL gZ cells slots ad 265 (mem ad t (fU F k 6 v) G) (pc + 3) lv st) : gW p l e R s m args below meth c Q D A nL Z cells slots ad 265 (mem ad t F G) pc lv (.int (iI v) :: .ref (ad k) :: st) := by
  refine g_put ok in_Pm cl_Pm k (m_Pm (ad := ad) (t := t) (F := F) (G := G) hK).1 (m_Pm hK).2 6 (by decide) ty_Pm ok_Pm nm_Pm rfl hl0 rfl (narrow_bool hb) (fits_bool hb) (Nat.le_of_ble_eq_true rfl) hd ?_
  rw [mem_put (v := v) (j := 6) (by rw [(m_Pm hK).2]; simp [f_Pm, fU])]
  exact kk
theorem gN_Pm_atRunStart (ok : gOk s0 a0 D t p R s m meth c A own cc nL ret mn fr lo mc ms) (k : Nat) (hK : isPm k) {index : Nat} {host : String} (hl0 : Cond.fieldLinkNest own index "StitchDesk$PathMaker" "atRunStart" "Z" host ∈ lw_tbl) (hd : decode cc pc = .ok (.getfield index, 3)) (kk : gW p l e R s m args below meth c Q D A nL Z cells slots ad 265 (mem ad t F G) (pc + 3) lv (.int (iI (F k 6)) :: st)) : gW p l e R s m args below meth c Q D A nL Z cells slots ad 265 (mem ad t F G) pc lv (.ref (ad k) :: st) :=
  g_getN ok in_Pm cl_Pm k (m_Pm (ad := ad) (t := t) (F := F) (G := G) hK).1 (m_Pm hK).2 6 (by decide) rfl hl0 rfl hd kk
theorem pN_Pm_atRunStart (ok : gOk s0 a0 D t p R s m meth c A own cc nL ret mn fr lo mc ms) (k : Nat) (hK : isPm k) {index : Nat} {host : String} (hl0 : Cond.fieldLinkNest own index "StitchDesk$PathMaker" "atRunStart" "Z" host ∈ lw_tbl) {v : Int} (hb : v = 0 ∨ v = 1) (hd : decode cc pc = .ok (.putfield index, 3)) (kk : gW p l e R s m args below meth c Q D A nL gZ cells slots ad 265 (mem ad t (fU F k 6 v) G) (pc + 3) lv st) : gW p l e R s m args below meth c Q D A nL Z cells slots ad 265 (mem ad t F G) pc lv (.int (iI v) :: .ref (ad k) :: st) := by
  refine g_putN ok in_Pm cl_Pm k (m_Pm (ad := ad) (t := t) (F := F) (G := G) hK).1 (m_Pm hK).2 6 (by decide) ty_Pm ok_Pm nm_Pm rfl hl0 rfl (narrow_bool hb) (fits_bool hb) (Nat.le_of_ble_eq_true rfl) hd ?_
  rw [mem_put (v := v) (j := 6) (by rw [(m_Pm hK).2]; simp [f_Pm, fU])]
  exact kk
theorem gI_Pa_codes (ok : gOk s0 a0 D t p R s m meth c A own cc nL ret mn fr lo mc ms) (k : Nat) (hK : isPa k) {index : Nat} (hl0 : Cond.fieldLink own index "StitchDesk$Path" "codes" "[I" ∈ lw_tbl) (hd : decode cc pc = .ok (.getfield index, 3)) (kk : gW p l e R s m args below meth c Q D A nL Z cells slots ad 265 (mem ad t F G) (pc + 3) lv (.ref (ad 237) :: st)) : gW p l e R s m args below meth c Q D A nL Z cells slots ad 265 (mem ad t F G) pc lv (.ref (ad k) :: st) :=
  g_get ok in_Pa cl_Pa k (m_Pa (ad := ad) (t := t) (F := F) (G := G) hK).1 (m_Pa hK).2 0 (by decide) rfl hl0 rfl hd kk
theorem gN_Pa_codes (ok : gOk s0 a0 D t p R s m meth c A own cc nL ret mn fr lo mc ms) (k : Nat) (hK : isPa k) {index : Nat} {host : String} (hl0 : Cond.fieldLinkNest own index "StitchDesk$Path" "codes" "[I" host ∈ lw_tbl) (hd : decode cc pc = .ok (.getfield index, 3)) (kk : gW p l e R s m args below meth c Q D A nL Z cells slots ad 265 (mem ad t F G) (pc + 3) lv (.ref (ad 237) :: st)) : gW p l e R s m args below meth c Q D A nL Z cells slots ad 265 (mem ad t F G) pc lv (.ref (ad k) :: st) :=
  g_getN ok in_Pa cl_Pa k (m_Pa (ad := ad) (t := t) (F := F) (G := G) hK).1 (m_Pa hK).2 0 (by decide) rfl hl0 rfl hd kk
theorem gI_Pa_size (ok : gOk s0 a0 D t p R s m meth c A own cc nL ret mn fr lo mc ms) (k : Nat) (hK : isPa k) {index : Nat} (hl0 : Cond.fieldLink own index "StitchDesk$Path" "size" "I" ∈ lw_tbl) (hd : decode cc pc = .ok (.getfield index, 3)) (kk : gW p l e R s m args below meth c Q D A nL Z cells slots ad 265 (mem ad t F G) (pc + 3) lv (.int (iI (F k 1)) :: st)) : gW p l e R s m args below meth c Q D A nL Z cells slots ad 265 (mem ad t F G) pc lv (.ref (ad k) :: st) :=
  g_get ok in_Pa cl_Pa k (m_Pa (ad := ad) (t := t) (F := F) (G := G) hK).1 (m_Pa hK).2 1 (by decide) rfl hl0 rfl hd kk
theorem pI_Pa_size (ok : gOk s0 a0 D t p R s m meth c A own cc nL ret mn fr lo mc ms) (k : Nat) (hK : isPa k) {index : Nat} (hl0 : Cond.fieldLink own index "StitchDesk$Path" "size" "I" ∈ lw_tbl) {v : Int} (hd : decode cc pc = .ok (.putfield index, 3)) (kk : gW p l e R s m args below meth c Q D A nL gZ cells slots ad 265 (mem ad t (fU F k 1 v) G) (pc + 3) lv st) : gW p l e R s m args below meth c Q D A nL Z cells slots ad 265 (mem ad t F G) pc lv (.int (iI v) :: .ref (ad k) :: st) := by
  refine g_put ok in_Pa cl_Pa k (m_Pa (ad := ad) (t := t) (F := F) (G := G) hK).1 (m_Pa hK).2 1 (by decide) ty_Pa ok_Pa nm_Pa rfl hl0 rfl rfl rfl (Nat.le_of_ble_eq_true rfl) hd ?_
  rw [mem_put (v := v) (j := 1) (by rw [(m_Pa hK).2]; simp [f_Pa, fU])]
  exact kk
theorem gN_Pa_size (ok : gOk s0 a0 D t p R s m meth c A own cc nL ret mn fr lo mc ms) (k : Nat) (hK : isPa k) {index : Nat} {host : String} (hl0 : Cond.fieldLinkNest own index "StitchDesk$Path" "size" "I" host ∈ lw_tbl) (hd : decode cc pc = .ok (.getfield index, 3)) (kk : gW p l e R s m args below meth c Q D A nL Z cells slots ad 265 (mem ad t F G) (pc + 3) lv (.int (iI (F k 1)) :: st)) : gW p l e R s m args below meth c Q D A nL Z cells slots ad 265 (mem ad t F G) pc lv (.ref (ad k) :: st) :=
  g_getN ok in_Pa cl_Pa k (m_Pa (ad := ad) (t := t) (F := F) (G := G) hK).1 (m_Pa hK).2 1 (by decide) rfl hl0 rfl hd kk
theorem pN_Pa_size (ok : gOk s0 a0 D t p R s m meth c A own cc nL ret mn fr lo mc ms) (k : Nat) (hK : isPa k) {index : Nat} {host : String} (hl0 : Cond.fieldLinkNest own index "StitchDesk$Path" "size" "I" host ∈ lw_tbl) {v : Int} (hd : decode cc pc = .ok (.putfield index, 3)) (kk : gW p l e R s m args below meth c Q D A nL gZ cells slots ad 265 (mem ad t (fU F k 1 v) G) (pc + 3) lv st) : gW p l e R s m args below meth c Q D A nL Z cells slots ad 265 (mem ad t F G) pc lv (.int (iI v) :: .ref (ad k) :: st) := by
  refine g_putN ok in_Pa cl_Pa k (m_Pa (ad := ad) (t := t) (F := F) (G := G) hK).1 (m_Pa hK).2 1 (by decide) ty_Pa ok_Pa nm_Pa rfl hl0 rfl rfl rfl (Nat.le_of_ble_eq_true rfl) hd ?_
  rw [mem_put (v := v) (j := 1) (by rw [(m_Pa hK).2]; simp [f_Pa, fU])]
  exact kk
theorem gI_Pa_overfull (ok : gOk s0 a0 D t p R s m meth c A own cc nL ret mn fr lo mc ms) (k : Nat) (hK : isPa k) {index : Nat} (hl0 : Cond.fieldLink own index "StitchDesk$Path" "overfull" "Z" ∈ lw_tbl) (hd : decode cc pc = .ok (.getfield index, 3)) (kk : gW p l e R s m args below meth c Q D A nL Z cells slots ad 265 (mem ad t F G) (pc + 3) lv (.int (iI (F k 2)) :: st)) : gW p l e R s m args below meth c Q D A nL Z cells slots ad 265 (mem ad t F G) pc lv (.ref (ad k) :: st) :=
  g_get ok in_Pa cl_Pa k (m_Pa (ad := ad) (t := t) (F := F) (G := G) hK).1 (m_Pa hK).2 2 (by decide) rfl hl0 rfl hd kk
theorem pI_Pa_overfull (ok : gOk s0 a0 D t p R s m meth c A own cc nL ret mn fr lo mc ms) (k : Nat) (hK : isPa k) {index : Nat} (hl0 : Cond.fieldLink own index "StitchDesk$Path" "overfull" "Z" ∈ lw_tbl) {v : Int} (hb : v = 0 ∨ v = 1) (hd : decode cc pc = .ok (.putfield index, 3)) (kk : gW p l e R s m args below meth c Q D A nL gZ cells slots ad 265 (mem ad t (fU F k 2 v) G) (pc + 3) lv st) : gW p l e R s m args below meth c Q D A nL Z cells slots ad 265 (mem ad t F G) pc lv (.int (iI v) :: .ref (ad k) :: st) := by
  refine g_put ok in_Pa cl_Pa k (m_Pa (ad := ad) (t := t) (F := F) (G := G) hK).1 (m_Pa hK).2 2 (by decide) ty_Pa ok_Pa nm_Pa rfl hl0 rfl (narrow_bool hb) (fits_bool hb) (Nat.le_of_ble_eq_true rfl) hd ?_
  rw [mem_put (v := v) (j := 2) (by rw [(m_Pa hK).2]; simp [f_Pa, fU])]
  exact kk
theorem gN_Pa_overfull (ok : gOk s0 a0 D t p R s m meth c A own cc nL ret mn fr lo mc ms) (k : Nat) (hK : isPa k) {index : Nat} {host : String} (hl0 : Cond.fieldLinkNest own index "StitchDesk$Path" "overfull" "Z" host ∈ lw_tbl) (hd : decode cc pc = .ok (.getfield index, 3)) (kk : gW p l e R s m args below meth c Q D A nL Z cells slots ad 265 (mem ad t F G) (pc + 3) lv (.int (iI (F k 2)) :: st)) : gW p l e R s m args below meth c Q D A nL Z cells slots ad 265 (mem ad t F G) pc lv (.ref (ad k) :: st) :=
  g_getN ok in_Pa cl_Pa k (m_Pa (ad := ad) (t := t) (F := F) (G := G) hK).1 (m_Pa hK).2 2 (by decide) rfl hl0 rfl hd kk
theorem pN_Pa_overfull (ok : gOk s0 a0 D t p R s m meth c A own cc nL ret mn fr lo mc ms) (k : Nat) (hK : isPa k) {index : Nat} {host : String} (hl0 : Cond.fieldLinkNest own index "StitchDesk$Path" "overfull" "Z" host ∈ lw_tbl) {v : Int} (hb : v = 0 ∨ v = 1) (hd : decode cc pc = .ok (.putfield index, 3)) (kk : gW p l e R s m args below meth c Q D A nL gZ cells slots ad 265 (mem ad t (fU F k 2 v) G) (pc + 3) lv st) : gW p l e R s m args below meth c Q D A nL Z cells slots ad 265 (mem ad t F G) pc lv (.int (iI v) :: .ref (ad k) :: st) := by
  refine g_putN ok in_Pa cl_Pa k (m_Pa (ad := ad) (t := t) (F := F) (G := G) hK).1 (m_Pa hK).2 2 (by decide) ty_Pa ok_Pa nm_Pa rfl hl0 rfl (narrow_bool hb) (fits_bool hb) (Nat.le_of_ble_eq_true rfl) hd ?_
  rw [mem_put (v := v) (j := 2) (by rw [(m_Pa hK).2]; simp [f_Pa, fU])]
  exact kk
theorem gI_Pl_fewest (ok : gOk s0 a0 D t p R s m meth c A own cc nL ret mn fr lo mc ms) (k : Nat) (hK : isPl k) {index : Nat} (hl0 : Cond.fieldLink own index "StitchDesk$Planner" "fewest" "[I" ∈ lw_tbl) (hd : decode cc pc = .ok (.getfield index, 3)) (kk : gW p l e R s m args below meth c Q D A nL Z cells slots ad 265 (mem ad t F G) (pc + 3) lv (.ref (ad 239) :: st)) : gW p l e R s m args below meth c Q D A nL Z cells slots ad 265 (mem ad t F G) pc lv (.ref (ad k) :: st) :=
  g_get ok in_Pl cl_Pl k (m_Pl (ad := ad) (t := t) (F := F) (G := G) hK).1 (m_Pl hK).2 0 (by decide) rfl hl0 rfl hd kk
theorem gN_Pl_fewest (ok : gOk s0 a0 D t p R s m meth c A own cc nL ret mn fr lo mc ms) (k : Nat) (hK : isPl k) {index : Nat} {host : String} (hl0 : Cond.fieldLinkNest own index "StitchDesk$Planner" "fewest" "[I" host ∈ lw_tbl) (hd : decode cc pc = .ok (.getfield index, 3)) (kk : gW p l e R s m args below meth c Q D A nL Z cells slots ad 265 (mem ad t F G) (pc + 3) lv (.ref (ad 239) :: st)) : gW p l e R s m args below meth c Q D A nL Z cells slots ad 265 (mem ad t F G) pc lv (.ref (ad k) :: st) :=
  g_getN ok in_Pl cl_Pl k (m_Pl (ad := ad) (t := t) (F := F) (G := G) hK).1 (m_Pl hK).2 0 (by decide) rfl hl0 rfl hd kk
theorem gI_Pl_friendly (ok : gOk s0 a0 D t p R s m meth c A own cc nL ret mn fr lo mc ms) (k : Nat) (hK : isPl k) {index : Nat} (hl0 : Cond.fieldLink own index "StitchDesk$Planner" "friendly" "[I" ∈ lw_tbl) (hd : decode cc pc = .ok (.getfield index, 3)) (kk : gW p l e R s m args below meth c Q D A nL Z cells slots ad 265 (mem ad t F G) (pc + 3) lv (.ref (ad 240) :: st)) : gW p l e R s m args below meth c Q D A nL Z cells slots ad 265 (mem ad t F G) pc lv (.ref (ad k) :: st) :=
  g_get ok in_Pl cl_Pl k (m_Pl (ad := ad) (t := t) (F := F) (G := G) hK).1 (m_Pl hK).2 1 (by decide) rfl hl0 rfl hd kk
theorem gN_Pl_friendly (ok : gOk s0 a0 D t p R s m meth c A own cc nL ret mn fr lo mc ms) (k : Nat) (hK : isPl k) {index : Nat} {host : String} (hl0 : Cond.fieldLinkNest own index "StitchDesk$Planner" "friendly" "[I" host ∈ lw_tbl) (hd : decode cc pc = .ok (.getfield index, 3)) (kk : gW p l e R s m args below meth c Q D A nL Z cells slots ad 265 (mem ad t F G) (pc + 3) lv (.ref (ad 240) :: st)) : gW p l e R s m args below meth c Q D A nL Z cells slots ad 265 (mem ad t F G) pc lv (.ref (ad k) :: st) :=
  g_getN ok in_Pl cl_Pl k (m_Pl (ad := ad) (t := t) (F := F) (G := G) hK).1 (m_Pl hK).2 1 (by decide) rfl hl0 rfl hd kk
theorem gI_Pl_ahead (ok : gOk s0 a0 D t p R s m meth c A own cc nL ret mn fr lo mc ms) (k : Nat) (hK : isPl k) {index : Nat} (hl0 : Cond.fieldLink own index "StitchDesk$Planner" "ahead" "[I" ∈ lw_tbl) (hd : decode cc pc = .ok (.getfield index, 3)) (kk : gW p l e R s m args below meth c Q D A nL Z cells slots ad 265 (mem ad t F G) (pc + 3) lv (.ref (ad 241) :: st)) : gW p l e R s m args below meth c Q D A nL Z cells slots ad 265 (mem ad t F G) pc lv (.ref (ad k) :: st) :=
  g_get ok in_Pl cl_Pl k (m_Pl (ad := ad) (t := t) (F := F) (G := G) hK).1 (m_Pl hK).2 2 (by decide) rfl hl0 rfl hd kk
theorem gN_Pl_ahead (ok : gOk s0 a0 D t p R s m meth c A own cc nL ret mn fr lo mc ms) (k : Nat) (hK : isPl k) {index : Nat} {host : String} (hl0 : Cond.fieldLinkNest own index "StitchDesk$Planner" "ahead" "[I" host ∈ lw_tbl) (hd : decode cc pc = .ok (.getfield index, 3)) (kk : gW p l e R s m args below meth c Q D A nL Z cells slots ad 265 (mem ad t F G) (pc + 3) lv (.ref (ad 241) :: st)) : gW p l e R s m args below meth c Q D A nL Z cells slots ad 265 (mem ad t F G) pc lv (.ref (ad k) :: st) :=
  g_getN ok in_Pl cl_Pl k (m_Pl (ad := ad) (t := t) (F := F) (G := G) hK).1 (m_Pl hK).2 2 (by decide) rfl hl0 rfl hd kk
theorem gI_Pl_colours (ok : gOk s0 a0 D t p R s m meth c A own cc nL ret mn fr lo mc ms) (k : Nat) (hK : isPl k) {index : Nat} (hl0 : Cond.fieldLink own index "StitchDesk$Planner" "colours" "[I" ∈ lw_tbl) (hd : decode cc pc = .ok (.getfield index, 3)) (kk : gW p l e R s m args below meth c Q D A nL Z cells slots ad 265 (mem ad t F G) (pc + 3) lv (.ref (ad 242) :: st)) : gW p l e R s m args below meth c Q D A nL Z cells slots ad 265 (mem ad t F G) pc lv (.ref (ad k) :: st) :=
  g_get ok in_Pl cl_Pl k (m_Pl (ad := ad) (t := t) (F := F) (G := G) hK).1 (m_Pl hK).2 3 (by decide) rfl hl0 rfl hd kk
theorem gN_Pl_colours (ok : gOk s0 a0 D t p R s m meth c A own cc nL ret mn fr lo mc ms) (k : Nat) (hK : isPl k) {index : Nat} {host : String} (hl0 : Cond.fieldLinkNest own index "StitchDesk$Planner" "colours" "[I" host ∈ lw_tbl) (hd : decode cc pc = .ok (.getfield index, 3)) (kk : gW p l e R s m args below meth c Q D A nL Z cells slots ad 265 (mem ad t F G) (pc + 3) lv (.ref (ad 242) :: st)) : gW p l e R s m args below meth c Q D A nL Z cells slots ad 265 (mem ad t F G) pc lv (.ref (ad k) :: st) :=
  g_getN ok in_Pl cl_Pl k (m_Pl (ad := ad) (t := t) (F := F) (G := G) hK).1 (m_Pl hK).2 3 (by decide) rfl hl0 rfl hd kk
theorem gI_Pl_planned (ok : gOk s0 a0 D t p R s m meth c A own cc nL ret mn fr lo mc ms) (k : Nat) (hK : isPl k) {index : Nat} (hl0 : Cond.fieldLink own index "StitchDesk$Planner" "planned" "[I" ∈ lw_tbl) (hd : decode cc pc = .ok (.getfield index, 3)) (kk : gW p l e R s m args below meth c Q D A nL Z cells slots ad 265 (mem ad t F G) (pc + 3) lv (.ref (ad 243) :: st)) : gW p l e R s m args below meth c Q D A nL Z cells slots ad 265 (mem ad t F G) pc lv (.ref (ad k) :: st) :=
  g_get ok in_Pl cl_Pl k (m_Pl (ad := ad) (t := t) (F := F) (G := G) hK).1 (m_Pl hK).2 4 (by decide) rfl hl0 rfl hd kk
theorem gN_Pl_planned (ok : gOk s0 a0 D t p R s m meth c A own cc nL ret mn fr lo mc ms) (k : Nat) (hK : isPl k) {index : Nat} {host : String} (hl0 : Cond.fieldLinkNest own index "StitchDesk$Planner" "planned" "[I" host ∈ lw_tbl) (hd : decode cc pc = .ok (.getfield index, 3)) (kk : gW p l e R s m args below meth c Q D A nL Z cells slots ad 265 (mem ad t F G) (pc + 3) lv (.ref (ad 243) :: st)) : gW p l e R s m args below meth c Q D A nL Z cells slots ad 265 (mem ad t F G) pc lv (.ref (ad k) :: st) :=
  g_getN ok in_Pl cl_Pl k (m_Pl (ad := ad) (t := t) (F := F) (G := G) hK).1 (m_Pl hK).2 4 (by decide) rfl hl0 rfl hd kk
theorem gI_Pl_total (ok : gOk s0 a0 D t p R s m meth c A own cc nL ret mn fr lo mc ms) (k : Nat) (hK : isPl k) {index : Nat} (hl0 : Cond.fieldLink own index "StitchDesk$Planner" "total" "I" ∈ lw_tbl) (hd : decode cc pc = .ok (.getfield index, 3)) (kk : gW p l e R s m args below meth c Q D A nL Z cells slots ad 265 (mem ad t F G) (pc + 3) lv (.int (iI (F k 5)) :: st)) : gW p l e R s m args below meth c Q D A nL Z cells slots ad 265 (mem ad t F G) pc lv (.ref (ad k) :: st) :=
  g_get ok in_Pl cl_Pl k (m_Pl (ad := ad) (t := t) (F := F) (G := G) hK).1 (m_Pl hK).2 5 (by decide) rfl hl0 rfl hd kk
theorem pI_Pl_total (ok : gOk s0 a0 D t p R s m meth c A own cc nL ret mn fr lo mc ms) (k : Nat) (hK : isPl k) {index : Nat} (hl0 : Cond.fieldLink own index "StitchDesk$Planner" "total" "I" ∈ lw_tbl) {v : Int} (hd : decode cc pc = .ok (.putfield index, 3)) (kk : gW p l e R s m args below meth c Q D A nL gZ cells slots ad 265 (mem ad t (fU F k 5 v) G) (pc + 3) lv st) : gW p l e R s m args below meth c Q D A nL Z cells slots ad 265 (mem ad t F G) pc lv (.int (iI v) :: .ref (ad k) :: st) := by
  refine g_put ok in_Pl cl_Pl k (m_Pl (ad := ad) (t := t) (F := F) (G := G) hK).1 (m_Pl hK).2 5 (by decide) ty_Pl ok_Pl nm_Pl rfl hl0 rfl rfl rfl (Nat.le_of_ble_eq_true rfl) hd ?_
  rw [mem_put (v := v) (j := 5) (by rw [(m_Pl hK).2]; simp [f_Pl, fU])]
  exact kk
theorem gN_Pl_total (ok : gOk s0 a0 D t p R s m meth c A own cc nL ret mn fr lo mc ms) (k : Nat) (hK : isPl k) {index : Nat} {host : String} (hl0 : Cond.fieldLinkNest own index "StitchDesk$Planner" "total" "I" host ∈ lw_tbl) (hd : decode cc pc = .ok (.getfield index, 3)) (kk : gW p l e R s m args below meth c Q D A nL Z cells slots ad 265 (mem ad t F G) (pc + 3) lv (.int (iI (F k 5)) :: st)) : gW p l e R s m args below meth c Q D A nL Z cells slots ad 265 (mem ad t F G) pc lv (.ref (ad k) :: st) :=
  g_getN ok in_Pl cl_Pl k (m_Pl (ad := ad) (t := t) (F := F) (G := G) hK).1 (m_Pl hK).2 5 (by decide) rfl hl0 rfl hd kk
theorem pN_Pl_total (ok : gOk s0 a0 D t p R s m meth c A own cc nL ret mn fr lo mc ms) (k : Nat) (hK : isPl k) {index : Nat} {host : String} (hl0 : Cond.fieldLinkNest own index "StitchDesk$Planner" "total" "I" host ∈ lw_tbl) {v : Int} (hd : decode cc pc = .ok (.putfield index, 3)) (kk : gW p l e R s m args below meth c Q D A nL gZ cells slots ad 265 (mem ad t (fU F k 5 v) G) (pc + 3) lv st) : gW p l e R s m args below meth c Q D A nL Z cells slots ad 265 (mem ad t F G) pc lv (.int (iI v) :: .ref (ad k) :: st) := by
  refine g_putN ok in_Pl cl_Pl k (m_Pl (ad := ad) (t := t) (F := F) (G := G) hK).1 (m_Pl hK).2 5 (by decide) ty_Pl ok_Pl nm_Pl rfl hl0 rfl rfl rfl (Nat.le_of_ble_eq_true rfl) hd ?_
  rw [mem_put (v := v) (j := 5) (by rw [(m_Pl hK).2]; simp [f_Pl, fU])]
  exact kk
theorem gI_Mo_thrownCode (ok : gOk s0 a0 D t p R s m meth c A own cc nL ret mn fr lo mc ms) (k : Nat) (hK : isMo k) {index : Nat} (hl0 : Cond.fieldLink own index "StitchDeskModel" "thrownCode" "I" ∈ lw_tbl) (hd : decode cc pc = .ok (.getfield index, 3)) (kk : gW p l e R s m args below meth c Q D A nL Z cells slots ad 265 (mem ad t F G) (pc + 3) lv (.int (iI (F k 0)) :: st)) : gW p l e R s m args below meth c Q D A nL Z cells slots ad 265 (mem ad t F G) pc lv (.ref (ad k) :: st) :=
  g_get ok in_Mo cl_Mo k (m_Mo (ad := ad) (t := t) (F := F) (G := G) hK).1 (m_Mo hK).2 0 (by decide) rfl hl0 rfl hd kk
theorem pI_Mo_thrownCode (ok : gOk s0 a0 D t p R s m meth c A own cc nL ret mn fr lo mc ms) (k : Nat) (hK : isMo k) {index : Nat} (hl0 : Cond.fieldLink own index "StitchDeskModel" "thrownCode" "I" ∈ lw_tbl) {v : Int} (hd : decode cc pc = .ok (.putfield index, 3)) (kk : gW p l e R s m args below meth c Q D A nL gZ cells slots ad 265 (mem ad t (fU F k 0 v) G) (pc + 3) lv st) : gW p l e R s m args below meth c Q D A nL Z cells slots ad 265 (mem ad t F G) pc lv (.int (iI v) :: .ref (ad k) :: st) := by
  refine g_put ok in_Mo cl_Mo k (m_Mo (ad := ad) (t := t) (F := F) (G := G) hK).1 (m_Mo hK).2 0 (by decide) ty_Mo ok_Mo nm_Mo rfl hl0 rfl rfl rfl (Nat.le_of_ble_eq_true rfl) hd ?_
  rw [mem_put (v := v) (j := 0) (by rw [(m_Mo hK).2]; simp [f_Mo, fU])]
  exact kk
theorem gN_Mo_thrownCode (ok : gOk s0 a0 D t p R s m meth c A own cc nL ret mn fr lo mc ms) (k : Nat) (hK : isMo k) {index : Nat} {host : String} (hl0 : Cond.fieldLinkNest own index "StitchDeskModel" "thrownCode" "I" host ∈ lw_tbl) (hd : decode cc pc = .ok (.getfield index, 3)) (kk : gW p l e R s m args below meth c Q D A nL Z cells slots ad 265 (mem ad t F G) (pc + 3) lv (.int (iI (F k 0)) :: st)) : gW p l e R s m args below meth c Q D A nL Z cells slots ad 265 (mem ad t F G) pc lv (.ref (ad k) :: st) :=
  g_getN ok in_Mo cl_Mo k (m_Mo (ad := ad) (t := t) (F := F) (G := G) hK).1 (m_Mo hK).2 0 (by decide) rfl hl0 rfl hd kk
theorem pN_Mo_thrownCode (ok : gOk s0 a0 D t p R s m meth c A own cc nL ret mn fr lo mc ms) (k : Nat) (hK : isMo k) {index : Nat} {host : String} (hl0 : Cond.fieldLinkNest own index "StitchDeskModel" "thrownCode" "I" host ∈ lw_tbl) {v : Int} (hd : decode cc pc = .ok (.putfield index, 3)) (kk : gW p l e R s m args below meth c Q D A nL gZ cells slots ad 265 (mem ad t (fU F k 0 v) G) (pc + 3) lv st) : gW p l e R s m args below meth c Q D A nL Z cells slots ad 265 (mem ad t F G) pc lv (.int (iI v) :: .ref (ad k) :: st) := by
  refine g_putN ok in_Mo cl_Mo k (m_Mo (ad := ad) (t := t) (F := F) (G := G) hK).1 (m_Mo hK).2 0 (by decide) ty_Mo ok_Mo nm_Mo rfl hl0 rfl rfl rfl (Nat.le_of_ble_eq_true rfl) hd ?_
  rw [mem_put (v := v) (j := 0) (by rw [(m_Mo hK).2]; simp [f_Mo, fU])]
  exact kk
theorem gI_Mo_shapes (ok : gOk s0 a0 D t p R s m meth c A own cc nL ret mn fr lo mc ms) (k : Nat) (hK : isMo k) {index : Nat} (hl0 : Cond.fieldLink own index "StitchDeskModel" "shapes" "I" ∈ lw_tbl) (hd : decode cc pc = .ok (.getfield index, 3)) (kk : gW p l e R s m args below meth c Q D A nL Z cells slots ad 265 (mem ad t F G) (pc + 3) lv (.int (iI (F k 1)) :: st)) : gW p l e R s m args below meth c Q D A nL Z cells slots ad 265 (mem ad t F G) pc lv (.ref (ad k) :: st) :=
  g_get ok in_Mo cl_Mo k (m_Mo (ad := ad) (t := t) (F := F) (G := G) hK).1 (m_Mo hK).2 1 (by decide) rfl hl0 rfl hd kk
theorem pI_Mo_shapes (ok : gOk s0 a0 D t p R s m meth c A own cc nL ret mn fr lo mc ms) (k : Nat) (hK : isMo k) {index : Nat} (hl0 : Cond.fieldLink own index "StitchDeskModel" "shapes" "I" ∈ lw_tbl) {v : Int} (hd : decode cc pc = .ok (.putfield index, 3)) (kk : gW p l e R s m args below meth c Q D A nL gZ cells slots ad 265 (mem ad t (fU F k 1 v) G) (pc + 3) lv st) : gW p l e R s m args below meth c Q D A nL Z cells slots ad 265 (mem ad t F G) pc lv (.int (iI v) :: .ref (ad k) :: st) := by
  refine g_put ok in_Mo cl_Mo k (m_Mo (ad := ad) (t := t) (F := F) (G := G) hK).1 (m_Mo hK).2 1 (by decide) ty_Mo ok_Mo nm_Mo rfl hl0 rfl rfl rfl (Nat.le_of_ble_eq_true rfl) hd ?_
  rw [mem_put (v := v) (j := 1) (by rw [(m_Mo hK).2]; simp [f_Mo, fU])]
  exact kk
theorem gN_Mo_shapes (ok : gOk s0 a0 D t p R s m meth c A own cc nL ret mn fr lo mc ms) (k : Nat) (hK : isMo k) {index : Nat} {host : String} (hl0 : Cond.fieldLinkNest own index "StitchDeskModel" "shapes" "I" host ∈ lw_tbl) (hd : decode cc pc = .ok (.getfield index, 3)) (kk : gW p l e R s m args below meth c Q D A nL Z cells slots ad 265 (mem ad t F G) (pc + 3) lv (.int (iI (F k 1)) :: st)) : gW p l e R s m args below meth c Q D A nL Z cells slots ad 265 (mem ad t F G) pc lv (.ref (ad k) :: st) :=
  g_getN ok in_Mo cl_Mo k (m_Mo (ad := ad) (t := t) (F := F) (G := G) hK).1 (m_Mo hK).2 1 (by decide) rfl hl0 rfl hd kk
theorem pN_Mo_shapes (ok : gOk s0 a0 D t p R s m meth c A own cc nL ret mn fr lo mc ms) (k : Nat) (hK : isMo k) {index : Nat} {host : String} (hl0 : Cond.fieldLinkNest own index "StitchDeskModel" "shapes" "I" host ∈ lw_tbl) {v : Int} (hd : decode cc pc = .ok (.putfield index, 3)) (kk : gW p l e R s m args below meth c Q D A nL gZ cells slots ad 265 (mem ad t (fU F k 1 v) G) (pc + 3) lv st) : gW p l e R s m args below meth c Q D A nL Z cells slots ad 265 (mem ad t F G) pc lv (.int (iI v) :: .ref (ad k) :: st) := by
  refine g_putN ok in_Mo cl_Mo k (m_Mo (ad := ad) (t := t) (F := F) (G := G) hK).1 (m_Mo hK).2 1 (by decide) ty_Mo ok_Mo nm_Mo rfl hl0 rfl rfl rfl (Nat.le_of_ble_eq_true rfl) hd ?_
  rw [mem_put (v := v) (j := 1) (by rw [(m_Mo hK).2]; simp [f_Mo, fU])]
  exact kk
theorem gI_Mo_open (ok : gOk s0 a0 D t p R s m meth c A own cc nL ret mn fr lo mc ms) (k : Nat) (hK : isMo k) {index : Nat} (hl0 : Cond.fieldLink own index "StitchDeskModel" "open" "Z" ∈ lw_tbl) (hd : decode cc pc = .ok (.getfield index, 3)) (kk : gW p l e R s m args below meth c Q D A nL Z cells slots ad 265 (mem ad t F G) (pc + 3) lv (.int (iI (F k 2)) :: st)) : gW p l e R s m args below meth c Q D A nL Z cells slots ad 265 (mem ad t F G) pc lv (.ref (ad k) :: st) :=
  g_get ok in_Mo cl_Mo k (m_Mo (ad := ad) (t := t) (F := F) (G := G) hK).1 (m_Mo hK).2 2 (by decide) rfl hl0 rfl hd kk
theorem pI_Mo_open (ok : gOk s0 a0 D t p R s m meth c A own cc nL ret mn fr lo mc ms) (k : Nat) (hK : isMo k) {index : Nat} (hl0 : Cond.fieldLink own index "StitchDeskModel" "open" "Z" ∈ lw_tbl) {v : Int} (hb : v = 0 ∨ v = 1) (hd : decode cc pc = .ok (.putfield index, 3)) (kk : gW p l e R s m args below meth c Q D A nL gZ cells slots ad 265 (mem ad t (fU F k 2 v) G) (pc + 3) lv st) : gW p l e R s m args below meth c Q D A nL Z cells slots ad 265 (mem ad t F G) pc lv (.int (iI v) :: .ref (ad k) :: st) := by
  refine g_put ok in_Mo cl_Mo k (m_Mo (ad := ad) (t := t) (F := F) (G := G) hK).1 (m_Mo hK).2 2 (by decide) ty_Mo ok_Mo nm_Mo rfl hl0 rfl (narrow_bool hb) (fits_bool hb) (Nat.le_of_ble_eq_true rfl) hd ?_
  rw [mem_put (v := v) (j := 2) (by rw [(m_Mo hK).2]; simp [f_Mo, fU])]
  exact kk
theorem gN_Mo_open (ok : gOk s0 a0 D t p R s m meth c A own cc nL ret mn fr lo mc ms) (k : Nat) (hK : isMo k) {index : Nat} {host : String} (hl0 : Cond.fieldLinkNest own index "StitchDeskModel" "open" "Z" host ∈ lw_tbl) (hd : decode cc pc = .ok (.getfield index, 3)) (kk : gW p l e R s m args below meth c Q D A nL Z cells slots ad 265 (mem ad t F G) (pc + 3) lv (.int (iI (F k 2)) :: st)) : gW p l e R s m args below meth c Q D A nL Z cells slots ad 265 (mem ad t F G) pc lv (.ref (ad k) :: st) :=
  g_getN ok in_Mo cl_Mo k (m_Mo (ad := ad) (t := t) (F := F) (G := G) hK).1 (m_Mo hK).2 2 (by decide) rfl hl0 rfl hd kk
theorem pN_Mo_open (ok : gOk s0 a0 D t p R s m meth c A own cc nL ret mn fr lo mc ms) (k : Nat) (hK : isMo k) {index : Nat} {host : String} (hl0 : Cond.fieldLinkNest own index "StitchDeskModel" "open" "Z" host ∈ lw_tbl) {v : Int} (hb : v = 0 ∨ v = 1) (hd : decode cc pc = .ok (.putfield index, 3)) (kk : gW p l e R s m args below meth c Q D A nL gZ cells slots ad 265 (mem ad t (fU F k 2 v) G) (pc + 3) lv st) : gW p l e R s m args below meth c Q D A nL Z cells slots ad 265 (mem ad t F G) pc lv (.int (iI v) :: .ref (ad k) :: st) := by
  refine g_putN ok in_Mo cl_Mo k (m_Mo (ad := ad) (t := t) (F := F) (G := G) hK).1 (m_Mo hK).2 2 (by decide) ty_Mo ok_Mo nm_Mo rfl hl0 rfl (narrow_bool hb) (fits_bool hb) (Nat.le_of_ble_eq_true rfl) hd ?_
  rw [mem_put (v := v) (j := 2) (by rw [(m_Mo hK).2]; simp [f_Mo, fU])]
  exact kk
theorem gI_Mo_told (ok : gOk s0 a0 D t p R s m meth c A own cc nL ret mn fr lo mc ms) (k : Nat) (hK : isMo k) {index : Nat} (hl0 : Cond.fieldLink own index "StitchDeskModel" "told" "[I" ∈ lw_tbl) (hd : decode cc pc = .ok (.getfield index, 3)) (kk : gW p l e R s m args below meth c Q D A nL Z cells slots ad 265 (mem ad t F G) (pc + 3) lv (.ref (ad 245) :: st)) : gW p l e R s m args below meth c Q D A nL Z cells slots ad 265 (mem ad t F G) pc lv (.ref (ad k) :: st) :=
  g_get ok in_Mo cl_Mo k (m_Mo (ad := ad) (t := t) (F := F) (G := G) hK).1 (m_Mo hK).2 3 (by decide) rfl hl0 rfl hd kk
theorem gN_Mo_told (ok : gOk s0 a0 D t p R s m meth c A own cc nL ret mn fr lo mc ms) (k : Nat) (hK : isMo k) {index : Nat} {host : String} (hl0 : Cond.fieldLinkNest own index "StitchDeskModel" "told" "[I" host ∈ lw_tbl) (hd : decode cc pc = .ok (.getfield index, 3)) (kk : gW p l e R s m args below meth c Q D A nL Z cells slots ad 265 (mem ad t F G) (pc + 3) lv (.ref (ad 245) :: st)) : gW p l e R s m args below meth c Q D A nL Z cells slots ad 265 (mem ad t F G) pc lv (.ref (ad k) :: st) :=
  g_getN ok in_Mo cl_Mo k (m_Mo (ad := ad) (t := t) (F := F) (G := G) hK).1 (m_Mo hK).2 3 (by decide) rfl hl0 rfl hd kk
theorem gI_Mo_corners (ok : gOk s0 a0 D t p R s m meth c A own cc nL ret mn fr lo mc ms) (k : Nat) (hK : isMo k) {index : Nat} (hl0 : Cond.fieldLink own index "StitchDeskModel" "corners" "[I" ∈ lw_tbl) (hd : decode cc pc = .ok (.getfield index, 3)) (kk : gW p l e R s m args below meth c Q D A nL Z cells slots ad 265 (mem ad t F G) (pc + 3) lv (.ref (ad 246) :: st)) : gW p l e R s m args below meth c Q D A nL Z cells slots ad 265 (mem ad t F G) pc lv (.ref (ad k) :: st) :=
  g_get ok in_Mo cl_Mo k (m_Mo (ad := ad) (t := t) (F := F) (G := G) hK).1 (m_Mo hK).2 4 (by decide) rfl hl0 rfl hd kk
theorem gN_Mo_corners (ok : gOk s0 a0 D t p R s m meth c A own cc nL ret mn fr lo mc ms) (k : Nat) (hK : isMo k) {index : Nat} {host : String} (hl0 : Cond.fieldLinkNest own index "StitchDeskModel" "corners" "[I" host ∈ lw_tbl) (hd : decode cc pc = .ok (.getfield index, 3)) (kk : gW p l e R s m args below meth c Q D A nL Z cells slots ad 265 (mem ad t F G) (pc + 3) lv (.ref (ad 246) :: st)) : gW p l e R s m args below meth c Q D A nL Z cells slots ad 265 (mem ad t F G) pc lv (.ref (ad k) :: st) :=
  g_getN ok in_Mo cl_Mo k (m_Mo (ad := ad) (t := t) (F := F) (G := G) hK).1 (m_Mo hK).2 4 (by decide) rfl hl0 rfl hd kk
theorem gI_Mo_cx (ok : gOk s0 a0 D t p R s m meth c A own cc nL ret mn fr lo mc ms) (k : Nat) (hK : isMo k) {index : Nat} (hl0 : Cond.fieldLink own index "StitchDeskModel" "cx" "[I" ∈ lw_tbl) (hd : decode cc pc = .ok (.getfield index, 3)) (kk : gW p l e R s m args below meth c Q D A nL Z cells slots ad 265 (mem ad t F G) (pc + 3) lv (.ref (ad 247) :: st)) : gW p l e R s m args below meth c Q D A nL Z cells slots ad 265 (mem ad t F G) pc lv (.ref (ad k) :: st) :=
  g_get ok in_Mo cl_Mo k (m_Mo (ad := ad) (t := t) (F := F) (G := G) hK).1 (m_Mo hK).2 5 (by decide) rfl hl0 rfl hd kk
theorem gN_Mo_cx (ok : gOk s0 a0 D t p R s m meth c A own cc nL ret mn fr lo mc ms) (k : Nat) (hK : isMo k) {index : Nat} {host : String} (hl0 : Cond.fieldLinkNest own index "StitchDeskModel" "cx" "[I" host ∈ lw_tbl) (hd : decode cc pc = .ok (.getfield index, 3)) (kk : gW p l e R s m args below meth c Q D A nL Z cells slots ad 265 (mem ad t F G) (pc + 3) lv (.ref (ad 247) :: st)) : gW p l e R s m args below meth c Q D A nL Z cells slots ad 265 (mem ad t F G) pc lv (.ref (ad k) :: st) :=
  g_getN ok in_Mo cl_Mo k (m_Mo (ad := ad) (t := t) (F := F) (G := G) hK).1 (m_Mo hK).2 5 (by decide) rfl hl0 rfl hd kk
theorem gI_Mo_cy (ok : gOk s0 a0 D t p R s m meth c A own cc nL ret mn fr lo mc ms) (k : Nat) (hK : isMo k) {index : Nat} (hl0 : Cond.fieldLink own index "StitchDeskModel" "cy" "[I" ∈ lw_tbl) (hd : decode cc pc = .ok (.getfield index, 3)) (kk : gW p l e R s m args below meth c Q D A nL Z cells slots ad 265 (mem ad t F G) (pc + 3) lv (.ref (ad 248) :: st)) : gW p l e R s m args below meth c Q D A nL Z cells slots ad 265 (mem ad t F G) pc lv (.ref (ad k) :: st) :=
  g_get ok in_Mo cl_Mo k (m_Mo (ad := ad) (t := t) (F := F) (G := G) hK).1 (m_Mo hK).2 6 (by decide) rfl hl0 rfl hd kk
theorem gN_Mo_cy (ok : gOk s0 a0 D t p R s m meth c A own cc nL ret mn fr lo mc ms) (k : Nat) (hK : isMo k) {index : Nat} {host : String} (hl0 : Cond.fieldLinkNest own index "StitchDeskModel" "cy" "[I" host ∈ lw_tbl) (hd : decode cc pc = .ok (.getfield index, 3)) (kk : gW p l e R s m args below meth c Q D A nL Z cells slots ad 265 (mem ad t F G) (pc + 3) lv (.ref (ad 248) :: st)) : gW p l e R s m args below meth c Q D A nL Z cells slots ad 265 (mem ad t F G) pc lv (.ref (ad k) :: st) :=
  g_getN ok in_Mo cl_Mo k (m_Mo (ad := ad) (t := t) (F := F) (G := G) hK).1 (m_Mo hK).2 6 (by decide) rfl hl0 rfl hd kk
theorem gI_Mo_box (ok : gOk s0 a0 D t p R s m meth c A own cc nL ret mn fr lo mc ms) (k : Nat) (hK : isMo k) {index : Nat} (hl0 : Cond.fieldLink own index "StitchDeskModel" "box" "[I" ∈ lw_tbl) (hd : decode cc pc = .ok (.getfield index, 3)) (kk : gW p l e R s m args below meth c Q D A nL Z cells slots ad 265 (mem ad t F G) (pc + 3) lv (.ref (ad 249) :: st)) : gW p l e R s m args below meth c Q D A nL Z cells slots ad 265 (mem ad t F G) pc lv (.ref (ad k) :: st) :=
  g_get ok in_Mo cl_Mo k (m_Mo (ad := ad) (t := t) (F := F) (G := G) hK).1 (m_Mo hK).2 7 (by decide) rfl hl0 rfl hd kk
theorem gN_Mo_box (ok : gOk s0 a0 D t p R s m meth c A own cc nL ret mn fr lo mc ms) (k : Nat) (hK : isMo k) {index : Nat} {host : String} (hl0 : Cond.fieldLinkNest own index "StitchDeskModel" "box" "[I" host ∈ lw_tbl) (hd : decode cc pc = .ok (.getfield index, 3)) (kk : gW p l e R s m args below meth c Q D A nL Z cells slots ad 265 (mem ad t F G) (pc + 3) lv (.ref (ad 249) :: st)) : gW p l e R s m args below meth c Q D A nL Z cells slots ad 265 (mem ad t F G) pc lv (.ref (ad k) :: st) :=
  g_getN ok in_Mo cl_Mo k (m_Mo (ad := ad) (t := t) (F := F) (G := G) hK).1 (m_Mo hK).2 7 (by decide) rfl hl0 rfl hd kk
theorem gI_Mo_order (ok : gOk s0 a0 D t p R s m meth c A own cc nL ret mn fr lo mc ms) (k : Nat) (hK : isMo k) {index : Nat} (hl0 : Cond.fieldLink own index "StitchDeskModel" "order" "[I" ∈ lw_tbl) (hd : decode cc pc = .ok (.getfield index, 3)) (kk : gW p l e R s m args below meth c Q D A nL Z cells slots ad 265 (mem ad t F G) (pc + 3) lv (.ref (ad 250) :: st)) : gW p l e R s m args below meth c Q D A nL Z cells slots ad 265 (mem ad t F G) pc lv (.ref (ad k) :: st) :=
  g_get ok in_Mo cl_Mo k (m_Mo (ad := ad) (t := t) (F := F) (G := G) hK).1 (m_Mo hK).2 8 (by decide) rfl hl0 rfl hd kk
theorem gN_Mo_order (ok : gOk s0 a0 D t p R s m meth c A own cc nL ret mn fr lo mc ms) (k : Nat) (hK : isMo k) {index : Nat} {host : String} (hl0 : Cond.fieldLinkNest own index "StitchDeskModel" "order" "[I" host ∈ lw_tbl) (hd : decode cc pc = .ok (.getfield index, 3)) (kk : gW p l e R s m args below meth c Q D A nL Z cells slots ad 265 (mem ad t F G) (pc + 3) lv (.ref (ad 250) :: st)) : gW p l e R s m args below meth c Q D A nL Z cells slots ad 265 (mem ad t F G) pc lv (.ref (ad k) :: st) :=
  g_getN ok in_Mo cl_Mo k (m_Mo (ad := ad) (t := t) (F := F) (G := G) hK).1 (m_Mo hK).2 8 (by decide) rfl hl0 rfl hd kk
theorem gI_Mo_faultNow (ok : gOk s0 a0 D t p R s m meth c A own cc nL ret mn fr lo mc ms) (k : Nat) (hK : isMo k) {index : Nat} (hl0 : Cond.fieldLink own index "StitchDeskModel" "faultNow" "I" ∈ lw_tbl) (hd : decode cc pc = .ok (.getfield index, 3)) (kk : gW p l e R s m args below meth c Q D A nL Z cells slots ad 265 (mem ad t F G) (pc + 3) lv (.int (iI (F k 9)) :: st)) : gW p l e R s m args below meth c Q D A nL Z cells slots ad 265 (mem ad t F G) pc lv (.ref (ad k) :: st) :=
  g_get ok in_Mo cl_Mo k (m_Mo (ad := ad) (t := t) (F := F) (G := G) hK).1 (m_Mo hK).2 9 (by decide) rfl hl0 rfl hd kk
theorem pI_Mo_faultNow (ok : gOk s0 a0 D t p R s m meth c A own cc nL ret mn fr lo mc ms) (k : Nat) (hK : isMo k) {index : Nat} (hl0 : Cond.fieldLink own index "StitchDeskModel" "faultNow" "I" ∈ lw_tbl) {v : Int} (hd : decode cc pc = .ok (.putfield index, 3)) (kk : gW p l e R s m args below meth c Q D A nL gZ cells slots ad 265 (mem ad t (fU F k 9 v) G) (pc + 3) lv st) : gW p l e R s m args below meth c Q D A nL Z cells slots ad 265 (mem ad t F G) pc lv (.int (iI v) :: .ref (ad k) :: st) := by
  refine g_put ok in_Mo cl_Mo k (m_Mo (ad := ad) (t := t) (F := F) (G := G) hK).1 (m_Mo hK).2 9 (by decide) ty_Mo ok_Mo nm_Mo rfl hl0 rfl rfl rfl (Nat.le_of_ble_eq_true rfl) hd ?_
  rw [mem_put (v := v) (j := 9) (by rw [(m_Mo hK).2]; simp [f_Mo, fU])]
  exact kk
theorem gN_Mo_faultNow (ok : gOk s0 a0 D t p R s m meth c A own cc nL ret mn fr lo mc ms) (k : Nat) (hK : isMo k) {index : Nat} {host : String} (hl0 : Cond.fieldLinkNest own index "StitchDeskModel" "faultNow" "I" host ∈ lw_tbl) (hd : decode cc pc = .ok (.getfield index, 3)) (kk : gW p l e R s m args below meth c Q D A nL Z cells slots ad 265 (mem ad t F G) (pc + 3) lv (.int (iI (F k 9)) :: st)) : gW p l e R s m args below meth c Q D A nL Z cells slots ad 265 (mem ad t F G) pc lv (.ref (ad k) :: st) :=
  g_getN ok in_Mo cl_Mo k (m_Mo (ad := ad) (t := t) (F := F) (G := G) hK).1 (m_Mo hK).2 9 (by decide) rfl hl0 rfl hd kk
theorem pN_Mo_faultNow (ok : gOk s0 a0 D t p R s m meth c A own cc nL ret mn fr lo mc ms) (k : Nat) (hK : isMo k) {index : Nat} {host : String} (hl0 : Cond.fieldLinkNest own index "StitchDeskModel" "faultNow" "I" host ∈ lw_tbl) {v : Int} (hd : decode cc pc = .ok (.putfield index, 3)) (kk : gW p l e R s m args below meth c Q D A nL gZ cells slots ad 265 (mem ad t (fU F k 9 v) G) (pc + 3) lv st) : gW p l e R s m args below meth c Q D A nL Z cells slots ad 265 (mem ad t F G) pc lv (.int (iI v) :: .ref (ad k) :: st) := by
  refine g_putN ok in_Mo cl_Mo k (m_Mo (ad := ad) (t := t) (F := F) (G := G) hK).1 (m_Mo hK).2 9 (by decide) ty_Mo ok_Mo nm_Mo rfl hl0 rfl rfl rfl (Nat.le_of_ble_eq_true rfl) hd ?_
  rw [mem_put (v := v) (j := 9) (by rw [(m_Mo hK).2]; simp [f_Mo, fU])]
  exact kk
theorem gI_Mo_faultOne (ok : gOk s0 a0 D t p R s m meth c A own cc nL ret mn fr lo mc ms) (k : Nat) (hK : isMo k) {index : Nat} (hl0 : Cond.fieldLink own index "StitchDeskModel" "faultOne" "I" ∈ lw_tbl) (hd : decode cc pc = .ok (.getfield index, 3)) (kk : gW p l e R s m args below meth c Q D A nL Z cells slots ad 265 (mem ad t F G) (pc + 3) lv (.int (iI (F k 10)) :: st)) : gW p l e R s m args below meth c Q D A nL Z cells slots ad 265 (mem ad t F G) pc lv (.ref (ad k) :: st) :=
  g_get ok in_Mo cl_Mo k (m_Mo (ad := ad) (t := t) (F := F) (G := G) hK).1 (m_Mo hK).2 10 (by decide) rfl hl0 rfl hd kk
theorem pI_Mo_faultOne (ok : gOk s0 a0 D t p R s m meth c A own cc nL ret mn fr lo mc ms) (k : Nat) (hK : isMo k) {index : Nat} (hl0 : Cond.fieldLink own index "StitchDeskModel" "faultOne" "I" ∈ lw_tbl) {v : Int} (hd : decode cc pc = .ok (.putfield index, 3)) (kk : gW p l e R s m args below meth c Q D A nL gZ cells slots ad 265 (mem ad t (fU F k 10 v) G) (pc + 3) lv st) : gW p l e R s m args below meth c Q D A nL Z cells slots ad 265 (mem ad t F G) pc lv (.int (iI v) :: .ref (ad k) :: st) := by
  refine g_put ok in_Mo cl_Mo k (m_Mo (ad := ad) (t := t) (F := F) (G := G) hK).1 (m_Mo hK).2 10 (by decide) ty_Mo ok_Mo nm_Mo rfl hl0 rfl rfl rfl (Nat.le_of_ble_eq_true rfl) hd ?_
  rw [mem_put (v := v) (j := 10) (by rw [(m_Mo hK).2]; simp [f_Mo, fU])]
  exact kk
theorem gN_Mo_faultOne (ok : gOk s0 a0 D t p R s m meth c A own cc nL ret mn fr lo mc ms) (k : Nat) (hK : isMo k) {index : Nat} {host : String} (hl0 : Cond.fieldLinkNest own index "StitchDeskModel" "faultOne" "I" host ∈ lw_tbl) (hd : decode cc pc = .ok (.getfield index, 3)) (kk : gW p l e R s m args below meth c Q D A nL Z cells slots ad 265 (mem ad t F G) (pc + 3) lv (.int (iI (F k 10)) :: st)) : gW p l e R s m args below meth c Q D A nL Z cells slots ad 265 (mem ad t F G) pc lv (.ref (ad k) :: st) :=
  g_getN ok in_Mo cl_Mo k (m_Mo (ad := ad) (t := t) (F := F) (G := G) hK).1 (m_Mo hK).2 10 (by decide) rfl hl0 rfl hd kk
theorem pN_Mo_faultOne (ok : gOk s0 a0 D t p R s m meth c A own cc nL ret mn fr lo mc ms) (k : Nat) (hK : isMo k) {index : Nat} {host : String} (hl0 : Cond.fieldLinkNest own index "StitchDeskModel" "faultOne" "I" host ∈ lw_tbl) {v : Int} (hd : decode cc pc = .ok (.putfield index, 3)) (kk : gW p l e R s m args below meth c Q D A nL gZ cells slots ad 265 (mem ad t (fU F k 10 v) G) (pc + 3) lv st) : gW p l e R s m args below meth c Q D A nL Z cells slots ad 265 (mem ad t F G) pc lv (.int (iI v) :: .ref (ad k) :: st) := by
  refine g_putN ok in_Mo cl_Mo k (m_Mo (ad := ad) (t := t) (F := F) (G := G) hK).1 (m_Mo hK).2 10 (by decide) ty_Mo ok_Mo nm_Mo rfl hl0 rfl rfl rfl (Nat.le_of_ble_eq_true rfl) hd ?_
  rw [mem_put (v := v) (j := 10) (by rw [(m_Mo hK).2]; simp [f_Mo, fU])]
  exact kk
theorem gI_Mo_faultOther (ok : gOk s0 a0 D t p R s m meth c A own cc nL ret mn fr lo mc ms) (k : Nat) (hK : isMo k) {index : Nat} (hl0 : Cond.fieldLink own index "StitchDeskModel" "faultOther" "I" ∈ lw_tbl) (hd : decode cc pc = .ok (.getfield index, 3)) (kk : gW p l e R s m args below meth c Q D A nL Z cells slots ad 265 (mem ad t F G) (pc + 3) lv (.int (iI (F k 11)) :: st)) : gW p l e R s m args below meth c Q D A nL Z cells slots ad 265 (mem ad t F G) pc lv (.ref (ad k) :: st) :=
  g_get ok in_Mo cl_Mo k (m_Mo (ad := ad) (t := t) (F := F) (G := G) hK).1 (m_Mo hK).2 11 (by decide) rfl hl0 rfl hd kk
theorem pI_Mo_faultOther (ok : gOk s0 a0 D t p R s m meth c A own cc nL ret mn fr lo mc ms) (k : Nat) (hK : isMo k) {index : Nat} (hl0 : Cond.fieldLink own index "StitchDeskModel" "faultOther" "I" ∈ lw_tbl) {v : Int} (hd : decode cc pc = .ok (.putfield index, 3)) (kk : gW p l e R s m args below meth c Q D A nL gZ cells slots ad 265 (mem ad t (fU F k 11 v) G) (pc + 3) lv st) : gW p l e R s m args below meth c Q D A nL Z cells slots ad 265 (mem ad t F G) pc lv (.int (iI v) :: .ref (ad k) :: st) := by
  refine g_put ok in_Mo cl_Mo k (m_Mo (ad := ad) (t := t) (F := F) (G := G) hK).1 (m_Mo hK).2 11 (by decide) ty_Mo ok_Mo nm_Mo rfl hl0 rfl rfl rfl (Nat.le_of_ble_eq_true rfl) hd ?_
  rw [mem_put (v := v) (j := 11) (by rw [(m_Mo hK).2]; simp [f_Mo, fU])]
  exact kk
theorem gN_Mo_faultOther (ok : gOk s0 a0 D t p R s m meth c A own cc nL ret mn fr lo mc ms) (k : Nat) (hK : isMo k) {index : Nat} {host : String} (hl0 : Cond.fieldLinkNest own index "StitchDeskModel" "faultOther" "I" host ∈ lw_tbl) (hd : decode cc pc = .ok (.getfield index, 3)) (kk : gW p l e R s m args below meth c Q D A nL Z cells slots ad 265 (mem ad t F G) (pc + 3) lv (.int (iI (F k 11)) :: st)) : gW p l e R s m args below meth c Q D A nL Z cells slots ad 265 (mem ad t F G) pc lv (.ref (ad k) :: st) :=
  g_getN ok in_Mo cl_Mo k (m_Mo (ad := ad) (t := t) (F := F) (G := G) hK).1 (m_Mo hK).2 11 (by decide) rfl hl0 rfl hd kk
theorem pN_Mo_faultOther (ok : gOk s0 a0 D t p R s m meth c A own cc nL ret mn fr lo mc ms) (k : Nat) (hK : isMo k) {index : Nat} {host : String} (hl0 : Cond.fieldLinkNest own index "StitchDeskModel" "faultOther" "I" host ∈ lw_tbl) {v : Int} (hd : decode cc pc = .ok (.putfield index, 3)) (kk : gW p l e R s m args below meth c Q D A nL gZ cells slots ad 265 (mem ad t (fU F k 11 v) G) (pc + 3) lv st) : gW p l e R s m args below meth c Q D A nL Z cells slots ad 265 (mem ad t F G) pc lv (.int (iI v) :: .ref (ad k) :: st) := by
  refine g_putN ok in_Mo cl_Mo k (m_Mo (ad := ad) (t := t) (F := F) (G := G) hK).1 (m_Mo hK).2 11 (by decide) ty_Mo ok_Mo nm_Mo rfl hl0 rfl rfl rfl (Nat.le_of_ble_eq_true rfl) hd ?_
  rw [mem_put (v := v) (j := 11) (by rw [(m_Mo hK).2]; simp [f_Mo, fU])]
  exact kk
theorem gI_Mo_edges (ok : gOk s0 a0 D t p R s m meth c A own cc nL ret mn fr lo mc ms) (k : Nat) (hK : isMo k) {index : Nat} (hl0 : Cond.fieldLink own index "StitchDeskModel" "edges" "I" ∈ lw_tbl) (hd : decode cc pc = .ok (.getfield index, 3)) (kk : gW p l e R s m args below meth c Q D A nL Z cells slots ad 265 (mem ad t F G) (pc + 3) lv (.int (iI (F k 12)) :: st)) : gW p l e R s m args below meth c Q D A nL Z cells slots ad 265 (mem ad t F G) pc lv (.ref (ad k) :: st) :=
  g_get ok in_Mo cl_Mo k (m_Mo (ad := ad) (t := t) (F := F) (G := G) hK).1 (m_Mo hK).2 12 (by decide) rfl hl0 rfl hd kk
theorem pI_Mo_edges (ok : gOk s0 a0 D t p R s m meth c A own cc nL ret mn fr lo mc ms) (k : Nat) (hK : isMo k) {index : Nat} (hl0 : Cond.fieldLink own index "StitchDeskModel" "edges" "I" ∈ lw_tbl) {v : Int} (hd : decode cc pc = .ok (.putfield index, 3)) (kk : gW p l e R s m args below meth c Q D A nL gZ cells slots ad 265 (mem ad t (fU F k 12 v) G) (pc + 3) lv st) : gW p l e R s m args below meth c Q D A nL Z cells slots ad 265 (mem ad t F G) pc lv (.int (iI v) :: .ref (ad k) :: st) := by
  refine g_put ok in_Mo cl_Mo k (m_Mo (ad := ad) (t := t) (F := F) (G := G) hK).1 (m_Mo hK).2 12 (by decide) ty_Mo ok_Mo nm_Mo rfl hl0 rfl rfl rfl (Nat.le_of_ble_eq_true rfl) hd ?_
  rw [mem_put (v := v) (j := 12) (by rw [(m_Mo hK).2]; simp [f_Mo, fU])]
  exact kk
theorem gN_Mo_edges (ok : gOk s0 a0 D t p R s m meth c A own cc nL ret mn fr lo mc ms) (k : Nat) (hK : isMo k) {index : Nat} {host : String} (hl0 : Cond.fieldLinkNest own index "StitchDeskModel" "edges" "I" host ∈ lw_tbl) (hd : decode cc pc = .ok (.getfield index, 3)) (kk : gW p l e R s m args below meth c Q D A nL Z cells slots ad 265 (mem ad t F G) (pc + 3) lv (.int (iI (F k 12)) :: st)) : gW p l e R s m args below meth c Q D A nL Z cells slots ad 265 (mem ad t F G) pc lv (.ref (ad k) :: st) :=
  g_getN ok in_Mo cl_Mo k (m_Mo (ad := ad) (t := t) (F := F) (G := G) hK).1 (m_Mo hK).2 12 (by decide) rfl hl0 rfl hd kk
theorem pN_Mo_edges (ok : gOk s0 a0 D t p R s m meth c A own cc nL ret mn fr lo mc ms) (k : Nat) (hK : isMo k) {index : Nat} {host : String} (hl0 : Cond.fieldLinkNest own index "StitchDeskModel" "edges" "I" host ∈ lw_tbl) {v : Int} (hd : decode cc pc = .ok (.putfield index, 3)) (kk : gW p l e R s m args below meth c Q D A nL gZ cells slots ad 265 (mem ad t (fU F k 12 v) G) (pc + 3) lv st) : gW p l e R s m args below meth c Q D A nL Z cells slots ad 265 (mem ad t F G) pc lv (.int (iI v) :: .ref (ad k) :: st) := by
  refine g_putN ok in_Mo cl_Mo k (m_Mo (ad := ad) (t := t) (F := F) (G := G) hK).1 (m_Mo hK).2 12 (by decide) ty_Mo ok_Mo nm_Mo rfl hl0 rfl rfl rfl (Nat.le_of_ble_eq_true rfl) hd ?_
  rw [mem_put (v := v) (j := 12) (by rw [(m_Mo hK).2]; simp [f_Mo, fU])]
  exact kk
theorem gI_Mo_ex (ok : gOk s0 a0 D t p R s m meth c A own cc nL ret mn fr lo mc ms) (k : Nat) (hK : isMo k) {index : Nat} (hl0 : Cond.fieldLink own index "StitchDeskModel" "ex" "[I" ∈ lw_tbl) (hd : decode cc pc = .ok (.getfield index, 3)) (kk : gW p l e R s m args below meth c Q D A nL Z cells slots ad 265 (mem ad t F G) (pc + 3) lv (.ref (ad 251) :: st)) : gW p l e R s m args below meth c Q D A nL Z cells slots ad 265 (mem ad t F G) pc lv (.ref (ad k) :: st) :=
  g_get ok in_Mo cl_Mo k (m_Mo (ad := ad) (t := t) (F := F) (G := G) hK).1 (m_Mo hK).2 13 (by decide) rfl hl0 rfl hd kk
theorem gN_Mo_ex (ok : gOk s0 a0 D t p R s m meth c A own cc nL ret mn fr lo mc ms) (k : Nat) (hK : isMo k) {index : Nat} {host : String} (hl0 : Cond.fieldLinkNest own index "StitchDeskModel" "ex" "[I" host ∈ lw_tbl) (hd : decode cc pc = .ok (.getfield index, 3)) (kk : gW p l e R s m args below meth c Q D A nL Z cells slots ad 265 (mem ad t F G) (pc + 3) lv (.ref (ad 251) :: st)) : gW p l e R s m args below meth c Q D A nL Z cells slots ad 265 (mem ad t F G) pc lv (.ref (ad k) :: st) :=
  g_getN ok in_Mo cl_Mo k (m_Mo (ad := ad) (t := t) (F := F) (G := G) hK).1 (m_Mo hK).2 13 (by decide) rfl hl0 rfl hd kk
theorem gI_Mo_ey (ok : gOk s0 a0 D t p R s m meth c A own cc nL ret mn fr lo mc ms) (k : Nat) (hK : isMo k) {index : Nat} (hl0 : Cond.fieldLink own index "StitchDeskModel" "ey" "[I" ∈ lw_tbl) (hd : decode cc pc = .ok (.getfield index, 3)) (kk : gW p l e R s m args below meth c Q D A nL Z cells slots ad 265 (mem ad t F G) (pc + 3) lv (.ref (ad 252) :: st)) : gW p l e R s m args below meth c Q D A nL Z cells slots ad 265 (mem ad t F G) pc lv (.ref (ad k) :: st) :=
  g_get ok in_Mo cl_Mo k (m_Mo (ad := ad) (t := t) (F := F) (G := G) hK).1 (m_Mo hK).2 14 (by decide) rfl hl0 rfl hd kk
theorem gN_Mo_ey (ok : gOk s0 a0 D t p R s m meth c A own cc nL ret mn fr lo mc ms) (k : Nat) (hK : isMo k) {index : Nat} {host : String} (hl0 : Cond.fieldLinkNest own index "StitchDeskModel" "ey" "[I" host ∈ lw_tbl) (hd : decode cc pc = .ok (.getfield index, 3)) (kk : gW p l e R s m args below meth c Q D A nL Z cells slots ad 265 (mem ad t F G) (pc + 3) lv (.ref (ad 252) :: st)) : gW p l e R s m args below meth c Q D A nL Z cells slots ad 265 (mem ad t F G) pc lv (.ref (ad k) :: st) :=
  g_getN ok in_Mo cl_Mo k (m_Mo (ad := ad) (t := t) (F := F) (G := G) hK).1 (m_Mo hK).2 14 (by decide) rfl hl0 rfl hd kk
theorem gI_Mo_fx (ok : gOk s0 a0 D t p R s m meth c A own cc nL ret mn fr lo mc ms) (k : Nat) (hK : isMo k) {index : Nat} (hl0 : Cond.fieldLink own index "StitchDeskModel" "fx" "[I" ∈ lw_tbl) (hd : decode cc pc = .ok (.getfield index, 3)) (kk : gW p l e R s m args below meth c Q D A nL Z cells slots ad 265 (mem ad t F G) (pc + 3) lv (.ref (ad 253) :: st)) : gW p l e R s m args below meth c Q D A nL Z cells slots ad 265 (mem ad t F G) pc lv (.ref (ad k) :: st) :=
  g_get ok in_Mo cl_Mo k (m_Mo (ad := ad) (t := t) (F := F) (G := G) hK).1 (m_Mo hK).2 15 (by decide) rfl hl0 rfl hd kk
theorem gN_Mo_fx (ok : gOk s0 a0 D t p R s m meth c A own cc nL ret mn fr lo mc ms) (k : Nat) (hK : isMo k) {index : Nat} {host : String} (hl0 : Cond.fieldLinkNest own index "StitchDeskModel" "fx" "[I" host ∈ lw_tbl) (hd : decode cc pc = .ok (.getfield index, 3)) (kk : gW p l e R s m args below meth c Q D A nL Z cells slots ad 265 (mem ad t F G) (pc + 3) lv (.ref (ad 253) :: st)) : gW p l e R s m args below meth c Q D A nL Z cells slots ad 265 (mem ad t F G) pc lv (.ref (ad k) :: st) :=
  g_getN ok in_Mo cl_Mo k (m_Mo (ad := ad) (t := t) (F := F) (G := G) hK).1 (m_Mo hK).2 15 (by decide) rfl hl0 rfl hd kk
theorem gI_Mo_fy (ok : gOk s0 a0 D t p R s m meth c A own cc nL ret mn fr lo mc ms) (k : Nat) (hK : isMo k) {index : Nat} (hl0 : Cond.fieldLink own index "StitchDeskModel" "fy" "[I" ∈ lw_tbl) (hd : decode cc pc = .ok (.getfield index, 3)) (kk : gW p l e R s m args below meth c Q D A nL Z cells slots ad 265 (mem ad t F G) (pc + 3) lv (.ref (ad 254) :: st)) : gW p l e R s m args below meth c Q D A nL Z cells slots ad 265 (mem ad t F G) pc lv (.ref (ad k) :: st) :=
  g_get ok in_Mo cl_Mo k (m_Mo (ad := ad) (t := t) (F := F) (G := G) hK).1 (m_Mo hK).2 16 (by decide) rfl hl0 rfl hd kk
theorem gN_Mo_fy (ok : gOk s0 a0 D t p R s m meth c A own cc nL ret mn fr lo mc ms) (k : Nat) (hK : isMo k) {index : Nat} {host : String} (hl0 : Cond.fieldLinkNest own index "StitchDeskModel" "fy" "[I" host ∈ lw_tbl) (hd : decode cc pc = .ok (.getfield index, 3)) (kk : gW p l e R s m args below meth c Q D A nL Z cells slots ad 265 (mem ad t F G) (pc + 3) lv (.ref (ad 254) :: st)) : gW p l e R s m args below meth c Q D A nL Z cells slots ad 265 (mem ad t F G) pc lv (.ref (ad k) :: st) :=
  g_getN ok in_Mo cl_Mo k (m_Mo (ad := ad) (t := t) (F := F) (G := G) hK).1 (m_Mo hK).2 16 (by decide) rfl hl0 rfl hd kk
theorem gI_Mo_ring (ok : gOk s0 a0 D t p R s m meth c A own cc nL ret mn fr lo mc ms) (k : Nat) (hK : isMo k) {index : Nat} (hl0 : Cond.fieldLink own index "StitchDeskModel" "ring" "[I" ∈ lw_tbl) (hd : decode cc pc = .ok (.getfield index, 3)) (kk : gW p l e R s m args below meth c Q D A nL Z cells slots ad 265 (mem ad t F G) (pc + 3) lv (.ref (ad 255) :: st)) : gW p l e R s m args below meth c Q D A nL Z cells slots ad 265 (mem ad t F G) pc lv (.ref (ad k) :: st) :=
  g_get ok in_Mo cl_Mo k (m_Mo (ad := ad) (t := t) (F := F) (G := G) hK).1 (m_Mo hK).2 17 (by decide) rfl hl0 rfl hd kk
theorem gN_Mo_ring (ok : gOk s0 a0 D t p R s m meth c A own cc nL ret mn fr lo mc ms) (k : Nat) (hK : isMo k) {index : Nat} {host : String} (hl0 : Cond.fieldLinkNest own index "StitchDeskModel" "ring" "[I" host ∈ lw_tbl) (hd : decode cc pc = .ok (.getfield index, 3)) (kk : gW p l e R s m args below meth c Q D A nL Z cells slots ad 265 (mem ad t F G) (pc + 3) lv (.ref (ad 255) :: st)) : gW p l e R s m args below meth c Q D A nL Z cells slots ad 265 (mem ad t F G) pc lv (.ref (ad k) :: st) :=
  g_getN ok in_Mo cl_Mo k (m_Mo (ad := ad) (t := t) (F := F) (G := G) hK).1 (m_Mo hK).2 17 (by decide) rfl hl0 rfl hd kk
theorem gI_Mo_place (ok : gOk s0 a0 D t p R s m meth c A own cc nL ret mn fr lo mc ms) (k : Nat) (hK : isMo k) {index : Nat} (hl0 : Cond.fieldLink own index "StitchDeskModel" "place" "[I" ∈ lw_tbl) (hd : decode cc pc = .ok (.getfield index, 3)) (kk : gW p l e R s m args below meth c Q D A nL Z cells slots ad 265 (mem ad t F G) (pc + 3) lv (.ref (ad 256) :: st)) : gW p l e R s m args below meth c Q D A nL Z cells slots ad 265 (mem ad t F G) pc lv (.ref (ad k) :: st) :=
  g_get ok in_Mo cl_Mo k (m_Mo (ad := ad) (t := t) (F := F) (G := G) hK).1 (m_Mo hK).2 18 (by decide) rfl hl0 rfl hd kk
theorem gN_Mo_place (ok : gOk s0 a0 D t p R s m meth c A own cc nL ret mn fr lo mc ms) (k : Nat) (hK : isMo k) {index : Nat} {host : String} (hl0 : Cond.fieldLinkNest own index "StitchDeskModel" "place" "[I" host ∈ lw_tbl) (hd : decode cc pc = .ok (.getfield index, 3)) (kk : gW p l e R s m args below meth c Q D A nL Z cells slots ad 265 (mem ad t F G) (pc + 3) lv (.ref (ad 256) :: st)) : gW p l e R s m args below meth c Q D A nL Z cells slots ad 265 (mem ad t F G) pc lv (.ref (ad k) :: st) :=
  g_getN ok in_Mo cl_Mo k (m_Mo (ad := ad) (t := t) (F := F) (G := G) hK).1 (m_Mo hK).2 18 (by decide) rfl hl0 rfl hd kk
theorem gI_Mo_odd (ok : gOk s0 a0 D t p R s m meth c A own cc nL ret mn fr lo mc ms) (k : Nat) (hK : isMo k) {index : Nat} (hl0 : Cond.fieldLink own index "StitchDeskModel" "odd" "[Z" ∈ lw_tbl) (hd : decode cc pc = .ok (.getfield index, 3)) (kk : gW p l e R s m args below meth c Q D A nL Z cells slots ad 265 (mem ad t F G) (pc + 3) lv (.ref (ad 257) :: st)) : gW p l e R s m args below meth c Q D A nL Z cells slots ad 265 (mem ad t F G) pc lv (.ref (ad k) :: st) :=
  g_get ok in_Mo cl_Mo k (m_Mo (ad := ad) (t := t) (F := F) (G := G) hK).1 (m_Mo hK).2 19 (by decide) rfl hl0 rfl hd kk
theorem gN_Mo_odd (ok : gOk s0 a0 D t p R s m meth c A own cc nL ret mn fr lo mc ms) (k : Nat) (hK : isMo k) {index : Nat} {host : String} (hl0 : Cond.fieldLinkNest own index "StitchDeskModel" "odd" "[Z" host ∈ lw_tbl) (hd : decode cc pc = .ok (.getfield index, 3)) (kk : gW p l e R s m args below meth c Q D A nL Z cells slots ad 265 (mem ad t F G) (pc + 3) lv (.ref (ad 257) :: st)) : gW p l e R s m args below meth c Q D A nL Z cells slots ad 265 (mem ad t F G) pc lv (.ref (ad k) :: st) :=
  g_getN ok in_Mo cl_Mo k (m_Mo (ad := ad) (t := t) (F := F) (G := G) hK).1 (m_Mo hK).2 19 (by decide) rfl hl0 rfl hd kk
theorem gI_Mo_records (ok : gOk s0 a0 D t p R s m meth c A own cc nL ret mn fr lo mc ms) (k : Nat) (hK : isMo k) {index : Nat} (hl0 : Cond.fieldLink own index "StitchDeskModel" "records" "I" ∈ lw_tbl) (hd : decode cc pc = .ok (.getfield index, 3)) (kk : gW p l e R s m args below meth c Q D A nL Z cells slots ad 265 (mem ad t F G) (pc + 3) lv (.int (iI (F k 20)) :: st)) : gW p l e R s m args below meth c Q D A nL Z cells slots ad 265 (mem ad t F G) pc lv (.ref (ad k) :: st) :=
  g_get ok in_Mo cl_Mo k (m_Mo (ad := ad) (t := t) (F := F) (G := G) hK).1 (m_Mo hK).2 20 (by decide) rfl hl0 rfl hd kk
theorem pI_Mo_records (ok : gOk s0 a0 D t p R s m meth c A own cc nL ret mn fr lo mc ms) (k : Nat) (hK : isMo k) {index : Nat} (hl0 : Cond.fieldLink own index "StitchDeskModel" "records" "I" ∈ lw_tbl) {v : Int} (hd : decode cc pc = .ok (.putfield index, 3)) (kk : gW p l e R s m args below meth c Q D A nL gZ cells slots ad 265 (mem ad t (fU F k 20 v) G) (pc + 3) lv st) : gW p l e R s m args below meth c Q D A nL Z cells slots ad 265 (mem ad t F G) pc lv (.int (iI v) :: .ref (ad k) :: st) := by
  refine g_put ok in_Mo cl_Mo k (m_Mo (ad := ad) (t := t) (F := F) (G := G) hK).1 (m_Mo hK).2 20 (by decide) ty_Mo ok_Mo nm_Mo rfl hl0 rfl rfl rfl (Nat.le_of_ble_eq_true rfl) hd ?_
  rw [mem_put (v := v) (j := 20) (by rw [(m_Mo hK).2]; simp [f_Mo, fU])]
  exact kk
theorem gN_Mo_records (ok : gOk s0 a0 D t p R s m meth c A own cc nL ret mn fr lo mc ms) (k : Nat) (hK : isMo k) {index : Nat} {host : String} (hl0 : Cond.fieldLinkNest own index "StitchDeskModel" "records" "I" host ∈ lw_tbl) (hd : decode cc pc = .ok (.getfield index, 3)) (kk : gW p l e R s m args below meth c Q D A nL Z cells slots ad 265 (mem ad t F G) (pc + 3) lv (.int (iI (F k 20)) :: st)) : gW p l e R s m args below meth c Q D A nL Z cells slots ad 265 (mem ad t F G) pc lv (.ref (ad k) :: st) :=
  g_getN ok in_Mo cl_Mo k (m_Mo (ad := ad) (t := t) (F := F) (G := G) hK).1 (m_Mo hK).2 20 (by decide) rfl hl0 rfl hd kk
theorem pN_Mo_records (ok : gOk s0 a0 D t p R s m meth c A own cc nL ret mn fr lo mc ms) (k : Nat) (hK : isMo k) {index : Nat} {host : String} (hl0 : Cond.fieldLinkNest own index "StitchDeskModel" "records" "I" host ∈ lw_tbl) {v : Int} (hd : decode cc pc = .ok (.putfield index, 3)) (kk : gW p l e R s m args below meth c Q D A nL gZ cells slots ad 265 (mem ad t (fU F k 20 v) G) (pc + 3) lv st) : gW p l e R s m args below meth c Q D A nL Z cells slots ad 265 (mem ad t F G) pc lv (.int (iI v) :: .ref (ad k) :: st) := by
  refine g_putN ok in_Mo cl_Mo k (m_Mo (ad := ad) (t := t) (F := F) (G := G) hK).1 (m_Mo hK).2 20 (by decide) ty_Mo ok_Mo nm_Mo rfl hl0 rfl rfl rfl (Nat.le_of_ble_eq_true rfl) hd ?_
  rw [mem_put (v := v) (j := 20) (by rw [(m_Mo hK).2]; simp [f_Mo, fU])]
  exact kk
theorem gI_Mo_dx (ok : gOk s0 a0 D t p R s m meth c A own cc nL ret mn fr lo mc ms) (k : Nat) (hK : isMo k) {index : Nat} (hl0 : Cond.fieldLink own index "StitchDeskModel" "dx" "[I" ∈ lw_tbl) (hd : decode cc pc = .ok (.getfield index, 3)) (kk : gW p l e R s m args below meth c Q D A nL Z cells slots ad 265 (mem ad t F G) (pc + 3) lv (.ref (ad 258) :: st)) : gW p l e R s m args below meth c Q D A nL Z cells slots ad 265 (mem ad t F G) pc lv (.ref (ad k) :: st) :=
  g_get ok in_Mo cl_Mo k (m_Mo (ad := ad) (t := t) (F := F) (G := G) hK).1 (m_Mo hK).2 21 (by decide) rfl hl0 rfl hd kk
theorem gN_Mo_dx (ok : gOk s0 a0 D t p R s m meth c A own cc nL ret mn fr lo mc ms) (k : Nat) (hK : isMo k) {index : Nat} {host : String} (hl0 : Cond.fieldLinkNest own index "StitchDeskModel" "dx" "[I" host ∈ lw_tbl) (hd : decode cc pc = .ok (.getfield index, 3)) (kk : gW p l e R s m args below meth c Q D A nL Z cells slots ad 265 (mem ad t F G) (pc + 3) lv (.ref (ad 258) :: st)) : gW p l e R s m args below meth c Q D A nL Z cells slots ad 265 (mem ad t F G) pc lv (.ref (ad k) :: st) :=
  g_getN ok in_Mo cl_Mo k (m_Mo (ad := ad) (t := t) (F := F) (G := G) hK).1 (m_Mo hK).2 21 (by decide) rfl hl0 rfl hd kk
theorem gI_Mo_dy (ok : gOk s0 a0 D t p R s m meth c A own cc nL ret mn fr lo mc ms) (k : Nat) (hK : isMo k) {index : Nat} (hl0 : Cond.fieldLink own index "StitchDeskModel" "dy" "[I" ∈ lw_tbl) (hd : decode cc pc = .ok (.getfield index, 3)) (kk : gW p l e R s m args below meth c Q D A nL Z cells slots ad 265 (mem ad t F G) (pc + 3) lv (.ref (ad 259) :: st)) : gW p l e R s m args below meth c Q D A nL Z cells slots ad 265 (mem ad t F G) pc lv (.ref (ad k) :: st) :=
  g_get ok in_Mo cl_Mo k (m_Mo (ad := ad) (t := t) (F := F) (G := G) hK).1 (m_Mo hK).2 22 (by decide) rfl hl0 rfl hd kk
theorem gN_Mo_dy (ok : gOk s0 a0 D t p R s m meth c A own cc nL ret mn fr lo mc ms) (k : Nat) (hK : isMo k) {index : Nat} {host : String} (hl0 : Cond.fieldLinkNest own index "StitchDeskModel" "dy" "[I" host ∈ lw_tbl) (hd : decode cc pc = .ok (.getfield index, 3)) (kk : gW p l e R s m args below meth c Q D A nL Z cells slots ad 265 (mem ad t F G) (pc + 3) lv (.ref (ad 259) :: st)) : gW p l e R s m args below meth c Q D A nL Z cells slots ad 265 (mem ad t F G) pc lv (.ref (ad k) :: st) :=
  g_getN ok in_Mo cl_Mo k (m_Mo (ad := ad) (t := t) (F := F) (G := G) hK).1 (m_Mo hK).2 22 (by decide) rfl hl0 rfl hd kk
theorem gI_Mo_kind (ok : gOk s0 a0 D t p R s m meth c A own cc nL ret mn fr lo mc ms) (k : Nat) (hK : isMo k) {index : Nat} (hl0 : Cond.fieldLink own index "StitchDeskModel" "kind" "[I" ∈ lw_tbl) (hd : decode cc pc = .ok (.getfield index, 3)) (kk : gW p l e R s m args below meth c Q D A nL Z cells slots ad 265 (mem ad t F G) (pc + 3) lv (.ref (ad 260) :: st)) : gW p l e R s m args below meth c Q D A nL Z cells slots ad 265 (mem ad t F G) pc lv (.ref (ad k) :: st) :=
  g_get ok in_Mo cl_Mo k (m_Mo (ad := ad) (t := t) (F := F) (G := G) hK).1 (m_Mo hK).2 23 (by decide) rfl hl0 rfl hd kk
theorem gN_Mo_kind (ok : gOk s0 a0 D t p R s m meth c A own cc nL ret mn fr lo mc ms) (k : Nat) (hK : isMo k) {index : Nat} {host : String} (hl0 : Cond.fieldLinkNest own index "StitchDeskModel" "kind" "[I" host ∈ lw_tbl) (hd : decode cc pc = .ok (.getfield index, 3)) (kk : gW p l e R s m args below meth c Q D A nL Z cells slots ad 265 (mem ad t F G) (pc + 3) lv (.ref (ad 260) :: st)) : gW p l e R s m args below meth c Q D A nL Z cells slots ad 265 (mem ad t F G) pc lv (.ref (ad k) :: st) :=
  g_getN ok in_Mo cl_Mo k (m_Mo (ad := ad) (t := t) (F := F) (G := G) hK).1 (m_Mo hK).2 23 (by decide) rfl hl0 rfl hd kk
theorem gI_Mo_nx (ok : gOk s0 a0 D t p R s m meth c A own cc nL ret mn fr lo mc ms) (k : Nat) (hK : isMo k) {index : Nat} (hl0 : Cond.fieldLink own index "StitchDeskModel" "nx" "I" ∈ lw_tbl) (hd : decode cc pc = .ok (.getfield index, 3)) (kk : gW p l e R s m args below meth c Q D A nL Z cells slots ad 265 (mem ad t F G) (pc + 3) lv (.int (iI (F k 24)) :: st)) : gW p l e R s m args below meth c Q D A nL Z cells slots ad 265 (mem ad t F G) pc lv (.ref (ad k) :: st) :=
  g_get ok in_Mo cl_Mo k (m_Mo (ad := ad) (t := t) (F := F) (G := G) hK).1 (m_Mo hK).2 24 (by decide) rfl hl0 rfl hd kk
theorem pI_Mo_nx (ok : gOk s0 a0 D t p R s m meth c A own cc nL ret mn fr lo mc ms) (k : Nat) (hK : isMo k) {index : Nat} (hl0 : Cond.fieldLink own index "StitchDeskModel" "nx" "I" ∈ lw_tbl) {v : Int} (hd : decode cc pc = .ok (.putfield index, 3)) (kk : gW p l e R s m args below meth c Q D A nL gZ cells slots ad 265 (mem ad t (fU F k 24 v) G) (pc + 3) lv st) : gW p l e R s m args below meth c Q D A nL Z cells slots ad 265 (mem ad t F G) pc lv (.int (iI v) :: .ref (ad k) :: st) := by
  refine g_put ok in_Mo cl_Mo k (m_Mo (ad := ad) (t := t) (F := F) (G := G) hK).1 (m_Mo hK).2 24 (by decide) ty_Mo ok_Mo nm_Mo rfl hl0 rfl rfl rfl (Nat.le_of_ble_eq_true rfl) hd ?_
  rw [mem_put (v := v) (j := 24) (by rw [(m_Mo hK).2]; simp [f_Mo, fU])]
  exact kk
theorem gN_Mo_nx (ok : gOk s0 a0 D t p R s m meth c A own cc nL ret mn fr lo mc ms) (k : Nat) (hK : isMo k) {index : Nat} {host : String} (hl0 : Cond.fieldLinkNest own index "StitchDeskModel" "nx" "I" host ∈ lw_tbl) (hd : decode cc pc = .ok (.getfield index, 3)) (kk : gW p l e R s m args below meth c Q D A nL Z cells slots ad 265 (mem ad t F G) (pc + 3) lv (.int (iI (F k 24)) :: st)) : gW p l e R s m args below meth c Q D A nL Z cells slots ad 265 (mem ad t F G) pc lv (.ref (ad k) :: st) :=
  g_getN ok in_Mo cl_Mo k (m_Mo (ad := ad) (t := t) (F := F) (G := G) hK).1 (m_Mo hK).2 24 (by decide) rfl hl0 rfl hd kk
theorem pN_Mo_nx (ok : gOk s0 a0 D t p R s m meth c A own cc nL ret mn fr lo mc ms) (k : Nat) (hK : isMo k) {index : Nat} {host : String} (hl0 : Cond.fieldLinkNest own index "StitchDeskModel" "nx" "I" host ∈ lw_tbl) {v : Int} (hd : decode cc pc = .ok (.putfield index, 3)) (kk : gW p l e R s m args below meth c Q D A nL gZ cells slots ad 265 (mem ad t (fU F k 24 v) G) (pc + 3) lv st) : gW p l e R s m args below meth c Q D A nL Z cells slots ad 265 (mem ad t F G) pc lv (.int (iI v) :: .ref (ad k) :: st) := by
  refine g_putN ok in_Mo cl_Mo k (m_Mo (ad := ad) (t := t) (F := F) (G := G) hK).1 (m_Mo hK).2 24 (by decide) ty_Mo ok_Mo nm_Mo rfl hl0 rfl rfl rfl (Nat.le_of_ble_eq_true rfl) hd ?_
  rw [mem_put (v := v) (j := 24) (by rw [(m_Mo hK).2]; simp [f_Mo, fU])]
  exact kk
theorem gI_Mo_ny (ok : gOk s0 a0 D t p R s m meth c A own cc nL ret mn fr lo mc ms) (k : Nat) (hK : isMo k) {index : Nat} (hl0 : Cond.fieldLink own index "StitchDeskModel" "ny" "I" ∈ lw_tbl) (hd : decode cc pc = .ok (.getfield index, 3)) (kk : gW p l e R s m args below meth c Q D A nL Z cells slots ad 265 (mem ad t F G) (pc + 3) lv (.int (iI (F k 25)) :: st)) : gW p l e R s m args below meth c Q D A nL Z cells slots ad 265 (mem ad t F G) pc lv (.ref (ad k) :: st) :=
  g_get ok in_Mo cl_Mo k (m_Mo (ad := ad) (t := t) (F := F) (G := G) hK).1 (m_Mo hK).2 25 (by decide) rfl hl0 rfl hd kk
theorem pI_Mo_ny (ok : gOk s0 a0 D t p R s m meth c A own cc nL ret mn fr lo mc ms) (k : Nat) (hK : isMo k) {index : Nat} (hl0 : Cond.fieldLink own index "StitchDeskModel" "ny" "I" ∈ lw_tbl) {v : Int} (hd : decode cc pc = .ok (.putfield index, 3)) (kk : gW p l e R s m args below meth c Q D A nL gZ cells slots ad 265 (mem ad t (fU F k 25 v) G) (pc + 3) lv st) : gW p l e R s m args below meth c Q D A nL Z cells slots ad 265 (mem ad t F G) pc lv (.int (iI v) :: .ref (ad k) :: st) := by
  refine g_put ok in_Mo cl_Mo k (m_Mo (ad := ad) (t := t) (F := F) (G := G) hK).1 (m_Mo hK).2 25 (by decide) ty_Mo ok_Mo nm_Mo rfl hl0 rfl rfl rfl (Nat.le_of_ble_eq_true rfl) hd ?_
  rw [mem_put (v := v) (j := 25) (by rw [(m_Mo hK).2]; simp [f_Mo, fU])]
  exact kk
theorem gN_Mo_ny (ok : gOk s0 a0 D t p R s m meth c A own cc nL ret mn fr lo mc ms) (k : Nat) (hK : isMo k) {index : Nat} {host : String} (hl0 : Cond.fieldLinkNest own index "StitchDeskModel" "ny" "I" host ∈ lw_tbl) (hd : decode cc pc = .ok (.getfield index, 3)) (kk : gW p l e R s m args below meth c Q D A nL Z cells slots ad 265 (mem ad t F G) (pc + 3) lv (.int (iI (F k 25)) :: st)) : gW p l e R s m args below meth c Q D A nL Z cells slots ad 265 (mem ad t F G) pc lv (.ref (ad k) :: st) :=
  g_getN ok in_Mo cl_Mo k (m_Mo (ad := ad) (t := t) (F := F) (G := G) hK).1 (m_Mo hK).2 25 (by decide) rfl hl0 rfl hd kk
theorem pN_Mo_ny (ok : gOk s0 a0 D t p R s m meth c A own cc nL ret mn fr lo mc ms) (k : Nat) (hK : isMo k) {index : Nat} {host : String} (hl0 : Cond.fieldLinkNest own index "StitchDeskModel" "ny" "I" host ∈ lw_tbl) {v : Int} (hd : decode cc pc = .ok (.putfield index, 3)) (kk : gW p l e R s m args below meth c Q D A nL gZ cells slots ad 265 (mem ad t (fU F k 25 v) G) (pc + 3) lv st) : gW p l e R s m args below meth c Q D A nL Z cells slots ad 265 (mem ad t F G) pc lv (.int (iI v) :: .ref (ad k) :: st) := by
  refine g_putN ok in_Mo cl_Mo k (m_Mo (ad := ad) (t := t) (F := F) (G := G) hK).1 (m_Mo hK).2 25 (by decide) ty_Mo ok_Mo nm_Mo rfl hl0 rfl rfl rfl (Nat.le_of_ble_eq_true rfl) hd ?_
  rw [mem_put (v := v) (j := 25) (by rw [(m_Mo hK).2]; simp [f_Mo, fU])]
  exact kk
theorem gI_Mo_stitching (ok : gOk s0 a0 D t p R s m meth c A own cc nL ret mn fr lo mc ms) (k : Nat) (hK : isMo k) {index : Nat} (hl0 : Cond.fieldLink own index "StitchDeskModel" "stitching" "Z" ∈ lw_tbl) (hd : decode cc pc = .ok (.getfield index, 3)) (kk : gW p l e R s m args below meth c Q D A nL Z cells slots ad 265 (mem ad t F G) (pc + 3) lv (.int (iI (F k 26)) :: st)) : gW p l e R s m args below meth c Q D A nL Z cells slots ad 265 (mem ad t F G) pc lv (.ref (ad k) :: st) :=
  g_get ok in_Mo cl_Mo k (m_Mo (ad := ad) (t := t) (F := F) (G := G) hK).1 (m_Mo hK).2 26 (by decide) rfl hl0 rfl hd kk
theorem pI_Mo_stitching (ok : gOk s0 a0 D t p R s m meth c A own cc nL ret mn fr lo mc ms) (k : Nat) (hK : isMo k) {index : Nat} (hl0 : Cond.fieldLink own index "StitchDeskModel" "stitching" "Z" ∈ lw_tbl) {v : Int} (hb : v = 0 ∨ v = 1) (hd : decode cc pc = .ok (.putfield index, 3)) (kk : gW p l e R s m args below meth c Q D A nL gZ cells slots ad 265 (mem ad t (fU F k 26 v) G) (pc + 3) lv st) : gW p l e R s m args below meth c Q D A nL Z cells slots ad 265 (mem ad t F G) pc lv (.int (iI v) :: .ref (ad k) :: st) := by
  refine g_put ok in_Mo cl_Mo k (m_Mo (ad := ad) (t := t) (F := F) (G := G) hK).1 (m_Mo hK).2 26 (by decide) ty_Mo ok_Mo nm_Mo rfl hl0 rfl (narrow_bool hb) (fits_bool hb) (Nat.le_of_ble_eq_true rfl) hd ?_
  rw [mem_put (v := v) (j := 26) (by rw [(m_Mo hK).2]; simp [f_Mo, fU])]
  exact kk
theorem gN_Mo_stitching (ok : gOk s0 a0 D t p R s m meth c A own cc nL ret mn fr lo mc ms) (k : Nat) (hK : isMo k) {index : Nat} {host : String} (hl0 : Cond.fieldLinkNest own index "StitchDeskModel" "stitching" "Z" host ∈ lw_tbl) (hd : decode cc pc = .ok (.getfield index, 3)) (kk : gW p l e R s m args below meth c Q D A nL Z cells slots ad 265 (mem ad t F G) (pc + 3) lv (.int (iI (F k 26)) :: st)) : gW p l e R s m args below meth c Q D A nL Z cells slots ad 265 (mem ad t F G) pc lv (.ref (ad k) :: st) :=
  g_getN ok in_Mo cl_Mo k (m_Mo (ad := ad) (t := t) (F := F) (G := G) hK).1 (m_Mo hK).2 26 (by decide) rfl hl0 rfl hd kk
theorem pN_Mo_stitching (ok : gOk s0 a0 D t p R s m meth c A own cc nL ret mn fr lo mc ms) (k : Nat) (hK : isMo k) {index : Nat} {host : String} (hl0 : Cond.fieldLinkNest own index "StitchDeskModel" "stitching" "Z" host ∈ lw_tbl) {v : Int} (hb : v = 0 ∨ v = 1) (hd : decode cc pc = .ok (.putfield index, 3)) (kk : gW p l e R s m args below meth c Q D A nL gZ cells slots ad 265 (mem ad t (fU F k 26 v) G) (pc + 3) lv st) : gW p l e R s m args below meth c Q D A nL Z cells slots ad 265 (mem ad t F G) pc lv (.int (iI v) :: .ref (ad k) :: st) := by
  refine g_putN ok in_Mo cl_Mo k (m_Mo (ad := ad) (t := t) (F := F) (G := G) hK).1 (m_Mo hK).2 26 (by decide) ty_Mo ok_Mo nm_Mo rfl hl0 rfl (narrow_bool hb) (fits_bool hb) (Nat.le_of_ble_eq_true rfl) hd ?_
  rw [mem_put (v := v) (j := 26) (by rw [(m_Mo hK).2]; simp [f_Mo, fU])]
  exact kk
theorem gI_Mo_runs (ok : gOk s0 a0 D t p R s m meth c A own cc nL ret mn fr lo mc ms) (k : Nat) (hK : isMo k) {index : Nat} (hl0 : Cond.fieldLink own index "StitchDeskModel" "runs" "I" ∈ lw_tbl) (hd : decode cc pc = .ok (.getfield index, 3)) (kk : gW p l e R s m args below meth c Q D A nL Z cells slots ad 265 (mem ad t F G) (pc + 3) lv (.int (iI (F k 27)) :: st)) : gW p l e R s m args below meth c Q D A nL Z cells slots ad 265 (mem ad t F G) pc lv (.ref (ad k) :: st) :=
  g_get ok in_Mo cl_Mo k (m_Mo (ad := ad) (t := t) (F := F) (G := G) hK).1 (m_Mo hK).2 27 (by decide) rfl hl0 rfl hd kk
theorem pI_Mo_runs (ok : gOk s0 a0 D t p R s m meth c A own cc nL ret mn fr lo mc ms) (k : Nat) (hK : isMo k) {index : Nat} (hl0 : Cond.fieldLink own index "StitchDeskModel" "runs" "I" ∈ lw_tbl) {v : Int} (hd : decode cc pc = .ok (.putfield index, 3)) (kk : gW p l e R s m args below meth c Q D A nL gZ cells slots ad 265 (mem ad t (fU F k 27 v) G) (pc + 3) lv st) : gW p l e R s m args below meth c Q D A nL Z cells slots ad 265 (mem ad t F G) pc lv (.int (iI v) :: .ref (ad k) :: st) := by
  refine g_put ok in_Mo cl_Mo k (m_Mo (ad := ad) (t := t) (F := F) (G := G) hK).1 (m_Mo hK).2 27 (by decide) ty_Mo ok_Mo nm_Mo rfl hl0 rfl rfl rfl (Nat.le_of_ble_eq_true rfl) hd ?_
  rw [mem_put (v := v) (j := 27) (by rw [(m_Mo hK).2]; simp [f_Mo, fU])]
  exact kk
theorem gN_Mo_runs (ok : gOk s0 a0 D t p R s m meth c A own cc nL ret mn fr lo mc ms) (k : Nat) (hK : isMo k) {index : Nat} {host : String} (hl0 : Cond.fieldLinkNest own index "StitchDeskModel" "runs" "I" host ∈ lw_tbl) (hd : decode cc pc = .ok (.getfield index, 3)) (kk : gW p l e R s m args below meth c Q D A nL Z cells slots ad 265 (mem ad t F G) (pc + 3) lv (.int (iI (F k 27)) :: st)) : gW p l e R s m args below meth c Q D A nL Z cells slots ad 265 (mem ad t F G) pc lv (.ref (ad k) :: st) :=
  g_getN ok in_Mo cl_Mo k (m_Mo (ad := ad) (t := t) (F := F) (G := G) hK).1 (m_Mo hK).2 27 (by decide) rfl hl0 rfl hd kk
theorem pN_Mo_runs (ok : gOk s0 a0 D t p R s m meth c A own cc nL ret mn fr lo mc ms) (k : Nat) (hK : isMo k) {index : Nat} {host : String} (hl0 : Cond.fieldLinkNest own index "StitchDeskModel" "runs" "I" host ∈ lw_tbl) {v : Int} (hd : decode cc pc = .ok (.putfield index, 3)) (kk : gW p l e R s m args below meth c Q D A nL gZ cells slots ad 265 (mem ad t (fU F k 27 v) G) (pc + 3) lv st) : gW p l e R s m args below meth c Q D A nL Z cells slots ad 265 (mem ad t F G) pc lv (.int (iI v) :: .ref (ad k) :: st) := by
  refine g_putN ok in_Mo cl_Mo k (m_Mo (ad := ad) (t := t) (F := F) (G := G) hK).1 (m_Mo hK).2 27 (by decide) ty_Mo ok_Mo nm_Mo rfl hl0 rfl rfl rfl (Nat.le_of_ble_eq_true rfl) hd ?_
  rw [mem_put (v := v) (j := 27) (by rw [(m_Mo hK).2]; simp [f_Mo, fU])]
  exact kk
theorem gI_Mo_places (ok : gOk s0 a0 D t p R s m meth c A own cc nL ret mn fr lo mc ms) (k : Nat) (hK : isMo k) {index : Nat} (hl0 : Cond.fieldLink own index "StitchDeskModel" "places" "I" ∈ lw_tbl) (hd : decode cc pc = .ok (.getfield index, 3)) (kk : gW p l e R s m args below meth c Q D A nL Z cells slots ad 265 (mem ad t F G) (pc + 3) lv (.int (iI (F k 28)) :: st)) : gW p l e R s m args below meth c Q D A nL Z cells slots ad 265 (mem ad t F G) pc lv (.ref (ad k) :: st) :=
  g_get ok in_Mo cl_Mo k (m_Mo (ad := ad) (t := t) (F := F) (G := G) hK).1 (m_Mo hK).2 28 (by decide) rfl hl0 rfl hd kk
theorem pI_Mo_places (ok : gOk s0 a0 D t p R s m meth c A own cc nL ret mn fr lo mc ms) (k : Nat) (hK : isMo k) {index : Nat} (hl0 : Cond.fieldLink own index "StitchDeskModel" "places" "I" ∈ lw_tbl) {v : Int} (hd : decode cc pc = .ok (.putfield index, 3)) (kk : gW p l e R s m args below meth c Q D A nL gZ cells slots ad 265 (mem ad t (fU F k 28 v) G) (pc + 3) lv st) : gW p l e R s m args below meth c Q D A nL Z cells slots ad 265 (mem ad t F G) pc lv (.int (iI v) :: .ref (ad k) :: st) := by
  refine g_put ok in_Mo cl_Mo k (m_Mo (ad := ad) (t := t) (F := F) (G := G) hK).1 (m_Mo hK).2 28 (by decide) ty_Mo ok_Mo nm_Mo rfl hl0 rfl rfl rfl (Nat.le_of_ble_eq_true rfl) hd ?_
  rw [mem_put (v := v) (j := 28) (by rw [(m_Mo hK).2]; simp [f_Mo, fU])]
  exact kk
theorem gN_Mo_places (ok : gOk s0 a0 D t p R s m meth c A own cc nL ret mn fr lo mc ms) (k : Nat) (hK : isMo k) {index : Nat} {host : String} (hl0 : Cond.fieldLinkNest own index "StitchDeskModel" "places" "I" host ∈ lw_tbl) (hd : decode cc pc = .ok (.getfield index, 3)) (kk : gW p l e R s m args below meth c Q D A nL Z cells slots ad 265 (mem ad t F G) (pc + 3) lv (.int (iI (F k 28)) :: st)) : gW p l e R s m args below meth c Q D A nL Z cells slots ad 265 (mem ad t F G) pc lv (.ref (ad k) :: st) :=
  g_getN ok in_Mo cl_Mo k (m_Mo (ad := ad) (t := t) (F := F) (G := G) hK).1 (m_Mo hK).2 28 (by decide) rfl hl0 rfl hd kk
theorem pN_Mo_places (ok : gOk s0 a0 D t p R s m meth c A own cc nL ret mn fr lo mc ms) (k : Nat) (hK : isMo k) {index : Nat} {host : String} (hl0 : Cond.fieldLinkNest own index "StitchDeskModel" "places" "I" host ∈ lw_tbl) {v : Int} (hd : decode cc pc = .ok (.putfield index, 3)) (kk : gW p l e R s m args below meth c Q D A nL gZ cells slots ad 265 (mem ad t (fU F k 28 v) G) (pc + 3) lv st) : gW p l e R s m args below meth c Q D A nL Z cells slots ad 265 (mem ad t F G) pc lv (.int (iI v) :: .ref (ad k) :: st) := by
  refine g_putN ok in_Mo cl_Mo k (m_Mo (ad := ad) (t := t) (F := F) (G := G) hK).1 (m_Mo hK).2 28 (by decide) ty_Mo ok_Mo nm_Mo rfl hl0 rfl rfl rfl (Nat.le_of_ble_eq_true rfl) hd ?_
  rw [mem_put (v := v) (j := 28) (by rw [(m_Mo hK).2]; simp [f_Mo, fU])]
  exact kk
theorem gI_Mo_lastColour (ok : gOk s0 a0 D t p R s m meth c A own cc nL ret mn fr lo mc ms) (k : Nat) (hK : isMo k) {index : Nat} (hl0 : Cond.fieldLink own index "StitchDeskModel" "lastColour" "I" ∈ lw_tbl) (hd : decode cc pc = .ok (.getfield index, 3)) (kk : gW p l e R s m args below meth c Q D A nL Z cells slots ad 265 (mem ad t F G) (pc + 3) lv (.int (iI (F k 29)) :: st)) : gW p l e R s m args below meth c Q D A nL Z cells slots ad 265 (mem ad t F G) pc lv (.ref (ad k) :: st) :=
  g_get ok in_Mo cl_Mo k (m_Mo (ad := ad) (t := t) (F := F) (G := G) hK).1 (m_Mo hK).2 29 (by decide) rfl hl0 rfl hd kk
theorem pI_Mo_lastColour (ok : gOk s0 a0 D t p R s m meth c A own cc nL ret mn fr lo mc ms) (k : Nat) (hK : isMo k) {index : Nat} (hl0 : Cond.fieldLink own index "StitchDeskModel" "lastColour" "I" ∈ lw_tbl) {v : Int} (hd : decode cc pc = .ok (.putfield index, 3)) (kk : gW p l e R s m args below meth c Q D A nL gZ cells slots ad 265 (mem ad t (fU F k 29 v) G) (pc + 3) lv st) : gW p l e R s m args below meth c Q D A nL Z cells slots ad 265 (mem ad t F G) pc lv (.int (iI v) :: .ref (ad k) :: st) := by
  refine g_put ok in_Mo cl_Mo k (m_Mo (ad := ad) (t := t) (F := F) (G := G) hK).1 (m_Mo hK).2 29 (by decide) ty_Mo ok_Mo nm_Mo rfl hl0 rfl rfl rfl (Nat.le_of_ble_eq_true rfl) hd ?_
  rw [mem_put (v := v) (j := 29) (by rw [(m_Mo hK).2]; simp [f_Mo, fU])]
  exact kk
theorem gN_Mo_lastColour (ok : gOk s0 a0 D t p R s m meth c A own cc nL ret mn fr lo mc ms) (k : Nat) (hK : isMo k) {index : Nat} {host : String} (hl0 : Cond.fieldLinkNest own index "StitchDeskModel" "lastColour" "I" host ∈ lw_tbl) (hd : decode cc pc = .ok (.getfield index, 3)) (kk : gW p l e R s m args below meth c Q D A nL Z cells slots ad 265 (mem ad t F G) (pc + 3) lv (.int (iI (F k 29)) :: st)) : gW p l e R s m args below meth c Q D A nL Z cells slots ad 265 (mem ad t F G) pc lv (.ref (ad k) :: st) :=
  g_getN ok in_Mo cl_Mo k (m_Mo (ad := ad) (t := t) (F := F) (G := G) hK).1 (m_Mo hK).2 29 (by decide) rfl hl0 rfl hd kk
theorem pN_Mo_lastColour (ok : gOk s0 a0 D t p R s m meth c A own cc nL ret mn fr lo mc ms) (k : Nat) (hK : isMo k) {index : Nat} {host : String} (hl0 : Cond.fieldLinkNest own index "StitchDeskModel" "lastColour" "I" host ∈ lw_tbl) {v : Int} (hd : decode cc pc = .ok (.putfield index, 3)) (kk : gW p l e R s m args below meth c Q D A nL gZ cells slots ad 265 (mem ad t (fU F k 29 v) G) (pc + 3) lv st) : gW p l e R s m args below meth c Q D A nL Z cells slots ad 265 (mem ad t F G) pc lv (.int (iI v) :: .ref (ad k) :: st) := by
  refine g_putN ok in_Mo cl_Mo k (m_Mo (ad := ad) (t := t) (F := F) (G := G) hK).1 (m_Mo hK).2 29 (by decide) ty_Mo ok_Mo nm_Mo rfl hl0 rfl rfl rfl (Nat.le_of_ble_eq_true rfl) hd ?_
  rw [mem_put (v := v) (j := 29) (by rw [(m_Mo hK).2]; simp [f_Mo, fU])]
  exact kk
theorem gI_Mo_loaded (ok : gOk s0 a0 D t p R s m meth c A own cc nL ret mn fr lo mc ms) (k : Nat) (hK : isMo k) {index : Nat} (hl0 : Cond.fieldLink own index "StitchDeskModel" "loaded" "I" ∈ lw_tbl) (hd : decode cc pc = .ok (.getfield index, 3)) (kk : gW p l e R s m args below meth c Q D A nL Z cells slots ad 265 (mem ad t F G) (pc + 3) lv (.int (iI (F k 30)) :: st)) : gW p l e R s m args below meth c Q D A nL Z cells slots ad 265 (mem ad t F G) pc lv (.ref (ad k) :: st) :=
  g_get ok in_Mo cl_Mo k (m_Mo (ad := ad) (t := t) (F := F) (G := G) hK).1 (m_Mo hK).2 30 (by decide) rfl hl0 rfl hd kk
theorem pI_Mo_loaded (ok : gOk s0 a0 D t p R s m meth c A own cc nL ret mn fr lo mc ms) (k : Nat) (hK : isMo k) {index : Nat} (hl0 : Cond.fieldLink own index "StitchDeskModel" "loaded" "I" ∈ lw_tbl) {v : Int} (hd : decode cc pc = .ok (.putfield index, 3)) (kk : gW p l e R s m args below meth c Q D A nL gZ cells slots ad 265 (mem ad t (fU F k 30 v) G) (pc + 3) lv st) : gW p l e R s m args below meth c Q D A nL Z cells slots ad 265 (mem ad t F G) pc lv (.int (iI v) :: .ref (ad k) :: st) := by
  refine g_put ok in_Mo cl_Mo k (m_Mo (ad := ad) (t := t) (F := F) (G := G) hK).1 (m_Mo hK).2 30 (by decide) ty_Mo ok_Mo nm_Mo rfl hl0 rfl rfl rfl (Nat.le_of_ble_eq_true rfl) hd ?_
  rw [mem_put (v := v) (j := 30) (by rw [(m_Mo hK).2]; simp [f_Mo, fU])]
  exact kk
theorem gN_Mo_loaded (ok : gOk s0 a0 D t p R s m meth c A own cc nL ret mn fr lo mc ms) (k : Nat) (hK : isMo k) {index : Nat} {host : String} (hl0 : Cond.fieldLinkNest own index "StitchDeskModel" "loaded" "I" host ∈ lw_tbl) (hd : decode cc pc = .ok (.getfield index, 3)) (kk : gW p l e R s m args below meth c Q D A nL Z cells slots ad 265 (mem ad t F G) (pc + 3) lv (.int (iI (F k 30)) :: st)) : gW p l e R s m args below meth c Q D A nL Z cells slots ad 265 (mem ad t F G) pc lv (.ref (ad k) :: st) :=
  g_getN ok in_Mo cl_Mo k (m_Mo (ad := ad) (t := t) (F := F) (G := G) hK).1 (m_Mo hK).2 30 (by decide) rfl hl0 rfl hd kk
theorem pN_Mo_loaded (ok : gOk s0 a0 D t p R s m meth c A own cc nL ret mn fr lo mc ms) (k : Nat) (hK : isMo k) {index : Nat} {host : String} (hl0 : Cond.fieldLinkNest own index "StitchDeskModel" "loaded" "I" host ∈ lw_tbl) {v : Int} (hd : decode cc pc = .ok (.putfield index, 3)) (kk : gW p l e R s m args below meth c Q D A nL gZ cells slots ad 265 (mem ad t (fU F k 30 v) G) (pc + 3) lv st) : gW p l e R s m args below meth c Q D A nL Z cells slots ad 265 (mem ad t F G) pc lv (.int (iI v) :: .ref (ad k) :: st) := by
  refine g_putN ok in_Mo cl_Mo k (m_Mo (ad := ad) (t := t) (F := F) (G := G) hK).1 (m_Mo hK).2 30 (by decide) ty_Mo ok_Mo nm_Mo rfl hl0 rfl rfl rfl (Nat.le_of_ble_eq_true rfl) hd ?_
  rw [mem_put (v := v) (j := 30) (by rw [(m_Mo hK).2]; simp [f_Mo, fU])]
  exact kk
theorem gI_Mo_bytes (ok : gOk s0 a0 D t p R s m meth c A own cc nL ret mn fr lo mc ms) (k : Nat) (hK : isMo k) {index : Nat} (hl0 : Cond.fieldLink own index "StitchDeskModel" "bytes" "[I" ∈ lw_tbl) (hd : decode cc pc = .ok (.getfield index, 3)) (kk : gW p l e R s m args below meth c Q D A nL Z cells slots ad 265 (mem ad t F G) (pc + 3) lv (.ref (ad 261) :: st)) : gW p l e R s m args below meth c Q D A nL Z cells slots ad 265 (mem ad t F G) pc lv (.ref (ad k) :: st) :=
  g_get ok in_Mo cl_Mo k (m_Mo (ad := ad) (t := t) (F := F) (G := G) hK).1 (m_Mo hK).2 31 (by decide) rfl hl0 rfl hd kk
theorem gN_Mo_bytes (ok : gOk s0 a0 D t p R s m meth c A own cc nL ret mn fr lo mc ms) (k : Nat) (hK : isMo k) {index : Nat} {host : String} (hl0 : Cond.fieldLinkNest own index "StitchDeskModel" "bytes" "[I" host ∈ lw_tbl) (hd : decode cc pc = .ok (.getfield index, 3)) (kk : gW p l e R s m args below meth c Q D A nL Z cells slots ad 265 (mem ad t F G) (pc + 3) lv (.ref (ad 261) :: st)) : gW p l e R s m args below meth c Q D A nL Z cells slots ad 265 (mem ad t F G) pc lv (.ref (ad k) :: st) :=
  g_getN ok in_Mo cl_Mo k (m_Mo (ad := ad) (t := t) (F := F) (G := G) hK).1 (m_Mo hK).2 31 (by decide) rfl hl0 rfl hd kk
theorem gI_Mo_left (ok : gOk s0 a0 D t p R s m meth c A own cc nL ret mn fr lo mc ms) (k : Nat) (hK : isMo k) {index : Nat} (hl0 : Cond.fieldLink own index "StitchDeskModel" "left" "[I" ∈ lw_tbl) (hd : decode cc pc = .ok (.getfield index, 3)) (kk : gW p l e R s m args below meth c Q D A nL Z cells slots ad 265 (mem ad t F G) (pc + 3) lv (.ref (ad 262) :: st)) : gW p l e R s m args below meth c Q D A nL Z cells slots ad 265 (mem ad t F G) pc lv (.ref (ad k) :: st) :=
  g_get ok in_Mo cl_Mo k (m_Mo (ad := ad) (t := t) (F := F) (G := G) hK).1 (m_Mo hK).2 32 (by decide) rfl hl0 rfl hd kk
theorem gN_Mo_left (ok : gOk s0 a0 D t p R s m meth c A own cc nL ret mn fr lo mc ms) (k : Nat) (hK : isMo k) {index : Nat} {host : String} (hl0 : Cond.fieldLinkNest own index "StitchDeskModel" "left" "[I" host ∈ lw_tbl) (hd : decode cc pc = .ok (.getfield index, 3)) (kk : gW p l e R s m args below meth c Q D A nL Z cells slots ad 265 (mem ad t F G) (pc + 3) lv (.ref (ad 262) :: st)) : gW p l e R s m args below meth c Q D A nL Z cells slots ad 265 (mem ad t F G) pc lv (.ref (ad k) :: st) :=
  g_getN ok in_Mo cl_Mo k (m_Mo (ad := ad) (t := t) (F := F) (G := G) hK).1 (m_Mo hK).2 32 (by decide) rfl hl0 rfl hd kk
theorem gI_Mo_newOrder (ok : gOk s0 a0 D t p R s m meth c A own cc nL ret mn fr lo mc ms) (k : Nat) (hK : isMo k) {index : Nat} (hl0 : Cond.fieldLink own index "StitchDeskModel" "newOrder" "[I" ∈ lw_tbl) (hd : decode cc pc = .ok (.getfield index, 3)) (kk : gW p l e R s m args below meth c Q D A nL Z cells slots ad 265 (mem ad t F G) (pc + 3) lv (.ref (ad 263) :: st)) : gW p l e R s m args below meth c Q D A nL Z cells slots ad 265 (mem ad t F G) pc lv (.ref (ad k) :: st) :=
  g_get ok in_Mo cl_Mo k (m_Mo (ad := ad) (t := t) (F := F) (G := G) hK).1 (m_Mo hK).2 33 (by decide) rfl hl0 rfl hd kk
theorem gN_Mo_newOrder (ok : gOk s0 a0 D t p R s m meth c A own cc nL ret mn fr lo mc ms) (k : Nat) (hK : isMo k) {index : Nat} {host : String} (hl0 : Cond.fieldLinkNest own index "StitchDeskModel" "newOrder" "[I" host ∈ lw_tbl) (hd : decode cc pc = .ok (.getfield index, 3)) (kk : gW p l e R s m args below meth c Q D A nL Z cells slots ad 265 (mem ad t F G) (pc + 3) lv (.ref (ad 263) :: st)) : gW p l e R s m args below meth c Q D A nL Z cells slots ad 265 (mem ad t F G) pc lv (.ref (ad k) :: st) :=
  g_getN ok in_Mo cl_Mo k (m_Mo (ad := ad) (t := t) (F := F) (G := G) hK).1 (m_Mo hK).2 33 (by decide) rfl hl0 rfl hd kk
theorem h_iald (ok : gOk s0 a0 D t p R s m meth c A own cc nL ret mn fr lo mc ms) (k : Nat) {N : Nat} (hA : isA k N) {z : Int} (hz : 0 ≤ z ∧ z < N) (hd : decode cc pc = .ok (.iaload, 1)) (kk : gW p l e R s m args below meth c Q D A nL Z cells slots ad 265 (mem ad t F G) (pc + 1) lv (.int (iI (G k z)) :: st)) : gW p l e R s m args below meth c Q D A nL Z cells slots ad 265 (mem ad t F G) pc lv (.int (iI z) :: .ref (ad k) :: st) :=
  g_iald ok k hA.1.1 (hA.2 ad t F G) hA.1.2 hz hd kk
theorem h_iast (ok : gOk s0 a0 D t p R s m meth c A own cc nL ret mn fr lo mc ms) (k : Nat) {N : Nat} (hA : isA k N) {z v : Int} (hz : 0 ≤ z ∧ z < N) (hd : decode cc pc = .ok (.iastore, 1)) (kk : gW p l e R s m args below meth c Q D A nL gZ cells slots ad 265 (mem ad t F (gU G k z v)) (pc + 1) lv st) : gW p l e R s m args below meth c Q D A nL Z cells slots ad 265 (mem ad t F G) pc lv (.int (iI v) :: .int (iI z) :: .ref (ad k) :: st) := by
  refine g_iast ok k hA.1.1 (hA.2 ad t F G) hA.1.2 hz hd ?_
  rw [mem_set (z := z) (v := v) (by rw [hA.2, gU_self])]
  exact kk
theorem h_alen (ok : gOk s0 a0 D t p R s m meth c A own cc nL ret mn fr lo mc ms) (k : Nat) {N : Nat} (hA : isA k N) (hd : decode cc pc = .ok (.arraylength, 1)) (kk : gW p l e R s m args below meth c Q D A nL Z cells slots ad 265 (mem ad t F G) (pc + 1) lv (.int (iI (N : Int)) :: st)) : gW p l e R s m args below meth c Q D A nL Z cells slots ad 265 (mem ad t F G) pc lv (.ref (ad k) :: st) :=
  g_alen ok k hA.1.1 (hA.2 ad t F G) hd kk
theorem h_rfq (ok : gOk s0 a0 D t p R s m meth c A own cc nL ret mn fr lo mc ms) (k t0 : Nat) (hk : k < 265) {cA : ClassId} {C : String} {N : Nat} {f : Nat → Option Nat} (he : mem ad t F G k = .inl (cA, N, .inr (.inr (.inr (.inr f))))) (ht : (gTl t)[t0]? = some (cA, .object C)) (hN : N < 2147483648) {z : Int} (hz : 0 ≤ z ∧ z < N) {x : Nat} (hx : f z.toNat = some x) (hd : decode cc pc = .ok (.aaload, 1)) (kk : gW p l e R s m args below meth c Q D A nL Z cells slots ad 265 (mem ad t F G) (pc + 1) lv (.ref x :: st)) : gW p l e R s m args below meth c Q D A nL Z cells slots ad 265 (mem ad t F G) pc lv (.int (iI z) :: .ref (ad k) :: st) := by
  intro H locs ls hZ hP hD hS hl
  refine va_aldq ok.x ok.b ok.k hP k t0 ((wW_get hk).trans (by rw [he])) ht (iI_in hN hz) hd ?_
  rw [iI_clamp (by omega), hx]
  exact kk H locs ls hZ hP hD hS hl
theorem h_rings (ok : gOk s0 a0 D t p R s m meth c A own cc nL ret mn fr lo mc ms) (k : Nat) (hK : isSh k) {z : Int} (hz : 0 ≤ z ∧ z < 4) (hd : decode cc pc = .ok (.aaload, 1)) (kk : gW p l e R s m args below meth c Q D A nL Z cells slots ad 265 (mem ad t F G) (pc + 1) lv (.ref (ad (k + 3 + 3 * z.toNat)) :: st)) : gW p l e R s m args below meth c Q D A nL Z cells slots ad 265 (mem ad t F G) pc lv (.int (iI z) :: .ref (ad (k + 1)) :: st) := by
  unfold isSh at hK
  have h9 : (k - 2) / 22 < 10 := by omega
  refine h_rfq ok (k + 1) 2 (by omega) (C := "StitchDesk$Ring") (N := 4) (f := fun i => some (ad (k + 1 + 2 + 3 * i))) ?_ rfl (by decide) hz (x := ad (k + 3 + 3 * z.toNat)) rfl hd kk
  unfold mem
  rw [if_neg (by omega), if_neg (by omega), if_pos (by omega)]
  unfold shC
  rw [if_neg (by omega), if_pos (by omega)]
theorem h_rails (ok : gOk s0 a0 D t p R s m meth c A own cc nL ret mn fr lo mc ms) (k : Nat) (hK : isSh k) {z : Int} (hz : 0 ≤ z ∧ z < 2) (hd : decode cc pc = .ok (.aaload, 1)) (kk : gW p l e R s m args below meth c Q D A nL Z cells slots ad 265 (mem ad t F G) (pc + 1) lv (.ref (ad (k + 15 + 3 * z.toNat)) :: st)) : gW p l e R s m args below meth c Q D A nL Z cells slots ad 265 (mem ad t F G) pc lv (.int (iI z) :: .ref (ad (k + 2)) :: st) := by
  unfold isSh at hK
  have h9 : (k - 2) / 22 < 10 := by omega
  refine h_rfq ok (k + 2) 2 (by omega) (C := "StitchDesk$Ring") (N := 2) (f := fun i => some (ad (k + 2 + 13 + 3 * i))) ?_ rfl (by decide) hz (x := ad (k + 15 + 3 * z.toNat)) rfl hd kk
  unfold mem
  rw [if_neg (by omega), if_neg (by omega), if_pos (by omega)]
  unfold shC
  rw [if_neg (by omega), if_neg (by omega), if_pos (by omega)]
theorem h_shapes (ok : gOk s0 a0 D t p R s m meth c A own cc nL ret mn fr lo mc ms) {z : Int} (hz : 0 ≤ z ∧ z < 10) (hd : decode cc pc = .ok (.aaload, 1)) (kk : gW p l e R s m args below meth c Q D A nL Z cells slots ad 265 (mem ad t F G) (pc + 1) lv (.ref (ad (2 + 22 * z.toNat)) :: st)) : gW p l e R s m args below meth c Q D A nL Z cells slots ad 265 (mem ad t F G) pc lv (.int (iI z) :: .ref (ad 1) :: st) :=
  h_rfq ok 1 3 (by omega) (C := "StitchDesk$Shape") (N := 10) (f := fun i => some (ad (2 + 22 * i))) rfl rfl (by decide) hz (x := ad (2 + 22 * z.toNat)) rfl hd kk
end GM
end
section
-- selects of the private methods
theorem sel_of {y : MethodName} {N : Nat} (i : Nat) (h : lw_privs[i]? = some (y, N)) : Cond.selects y.cls y y ∈ lw_tbl := List.mem_append_left _ (List.mem_map.mpr ⟨(y, N), List.mem_of_getElem? h, rfl⟩)
theorem s_Pm_restart : Cond.selects "StitchDesk$PathMaker" y_Pm_restart y_Pm_restart ∈ lw_tbl := sel_of (y := y_Pm_restart) (N := 7) 0 (by decide +kernel)
theorem s_Pa_clear : Cond.selects "StitchDesk$Path" y_Pa_clear y_Pa_clear ∈ lw_tbl := sel_of (y := y_Pa_clear) (N := 3) 1 (by decide +kernel)
theorem s_Pm_enter : Cond.selects "StitchDesk$PathMaker" y_Pm_enter y_Pm_enter ∈ lw_tbl := sel_of (y := y_Pm_enter) (N := 7) 2 (by decide +kernel)
theorem s_Rt_tell : Cond.selects "StitchDesk$RunTeller" y_Rt_tell y_Rt_tell ∈ lw_tbl := sel_of (y := y_Rt_tell) (N := 1) 3 (by decide +kernel)
theorem s_Rt_tellHatch : Cond.selects "StitchDesk$RunTeller" y_Rt_tellHatch y_Rt_tellHatch ∈ lw_tbl := sel_of (y := y_Rt_tellHatch) (N := 1) 4 (by decide +kernel)
theorem s_Hl_lay : Cond.selects "StitchDesk$HatchLine" y_Hl_lay y_Hl_lay ∈ lw_tbl := sel_of (y := y_Hl_lay) (N := 13) 5 (by decide +kernel)
theorem s_Hl_aim : Cond.selects "StitchDesk$HatchLine" y_Hl_aim y_Hl_aim ∈ lw_tbl := sel_of (y := y_Hl_aim) (N := 13) 6 (by decide +kernel)
theorem s_Hl_narrow : Cond.selects "StitchDesk$HatchLine" y_Hl_narrow y_Hl_narrow ∈ lw_tbl := sel_of (y := y_Hl_narrow) (N := 13) 7 (by decide +kernel)
theorem s_Hl_empty : Cond.selects "StitchDesk$HatchLine" y_Hl_empty y_Hl_empty ∈ lw_tbl := sel_of (y := y_Hl_empty) (N := 13) 8 (by decide +kernel)
theorem s_Rg_next : Cond.selects "StitchDesk$Ring" y_Rg_next y_Rg_next ∈ lw_tbl := sel_of (y := y_Rg_next) (N := 3) 9 (by decide +kernel)
theorem s_Hl_addEdge : Cond.selects "StitchDesk$HatchLine" y_Hl_addEdge y_Hl_addEdge ∈ lw_tbl := sel_of (y := y_Hl_addEdge) (N := 13) 10 (by decide +kernel)
theorem s_Hl_narrowToZero : Cond.selects "StitchDesk$HatchLine" y_Hl_narrowToZero y_Hl_narrowToZero ∈ lw_tbl := sel_of (y := y_Hl_narrowToZero) (N := 13) 11 (by decide +kernel)
theorem s_Hl_addSpan : Cond.selects "StitchDesk$HatchLine" y_Hl_addSpan y_Hl_addSpan ∈ lw_tbl := sel_of (y := y_Hl_addSpan) (N := 13) 12 (by decide +kernel)
theorem s_Hl_insert : Cond.selects "StitchDesk$HatchLine" y_Hl_insert y_Hl_insert ∈ lw_tbl := sel_of (y := y_Hl_insert) (N := 13) 13 (by decide +kernel)
theorem s_Hl_narrowToAboveZero : Cond.selects "StitchDesk$HatchLine" y_Hl_narrowToAboveZero y_Hl_narrowToAboveZero ∈ lw_tbl := sel_of (y := y_Hl_narrowToAboveZero) (N := 13) 14 (by decide +kernel)
theorem s_Hl_gatherParts : Cond.selects "StitchDesk$HatchLine" y_Hl_gatherParts y_Hl_gatherParts ∈ lw_tbl := sel_of (y := y_Hl_gatherParts) (N := 13) 15 (by decide +kernel)
theorem s_Hl_addPart : Cond.selects "StitchDesk$HatchLine" y_Hl_addPart y_Hl_addPart ∈ lw_tbl := sel_of (y := y_Hl_addPart) (N := 13) 16 (by decide +kernel)
theorem s_Hl_xAt : Cond.selects "StitchDesk$HatchLine" y_Hl_xAt y_Hl_xAt ∈ lw_tbl := sel_of (y := y_Hl_xAt) (N := 13) 17 (by decide +kernel)
theorem s_Hl_yAt : Cond.selects "StitchDesk$HatchLine" y_Hl_yAt y_Hl_yAt ∈ lw_tbl := sel_of (y := y_Hl_yAt) (N := 13) 18 (by decide +kernel)
theorem s_Pm_move : Cond.selects "StitchDesk$PathMaker" y_Pm_move y_Pm_move ∈ lw_tbl := sel_of (y := y_Pm_move) (N := 7) 19 (by decide +kernel)
theorem s_Pm_stepsTo : Cond.selects "StitchDesk$PathMaker" y_Pm_stepsTo y_Pm_stepsTo ∈ lw_tbl := sel_of (y := y_Pm_stepsTo) (N := 7) 20 (by decide +kernel)
theorem s_Pa_add : Cond.selects "StitchDesk$Path" y_Pa_add y_Pa_add ∈ lw_tbl := sel_of (y := y_Pa_add) (N := 3) 21 (by decide +kernel)
theorem s_Pm_changeThread : Cond.selects "StitchDesk$PathMaker" y_Pm_changeThread y_Pm_changeThread ∈ lw_tbl := sel_of (y := y_Pm_changeThread) (N := 7) 22 (by decide +kernel)
theorem s_Pm_leap : Cond.selects "StitchDesk$PathMaker" y_Pm_leap y_Pm_leap ∈ lw_tbl := sel_of (y := y_Pm_leap) (N := 7) 23 (by decide +kernel)
theorem s_Pm_staysInShape : Cond.selects "StitchDesk$PathMaker" y_Pm_staysInShape y_Pm_staysInShape ∈ lw_tbl := sel_of (y := y_Pm_staysInShape) (N := 7) 24 (by decide +kernel)
theorem s_Sh_has : Cond.selects "StitchDesk$Shape" y_Sh_has y_Sh_has ∈ lw_tbl := sel_of (y := y_Sh_has) (N := 11) 25 (by decide +kernel)
theorem s_Rg_sideOf : Cond.selects "StitchDesk$Ring" y_Rg_sideOf y_Rg_sideOf ∈ lw_tbl := sel_of (y := y_Rg_sideOf) (N := 3) 26 (by decide +kernel)
theorem s_Rt_tellSatin : Cond.selects "StitchDesk$RunTeller" y_Rt_tellSatin y_Rt_tellSatin ∈ lw_tbl := sel_of (y := y_Rt_tellSatin) (N := 1) 27 (by decide +kernel)
theorem s_Rt_tellOutline : Cond.selects "StitchDesk$RunTeller" y_Rt_tellOutline y_Rt_tellOutline ∈ lw_tbl := sel_of (y := y_Rt_tellOutline) (N := 1) 28 (by decide +kernel)
theorem s_Dk_firstWrongGroup : Cond.selects "StitchDesk" y_Dk_firstWrongGroup y_Dk_firstWrongGroup ∈ lw_tbl := sel_of (y := y_Dk_firstWrongGroup) (N := 11) 29 (by decide +kernel)
theorem s_Dk_groupAt : Cond.selects "StitchDesk" y_Dk_groupAt y_Dk_groupAt ∈ lw_tbl := sel_of (y := y_Dk_groupAt) (N := 11) 30 (by decide +kernel)
theorem s_Pa_addPacked : Cond.selects "StitchDesk$Path" y_Pa_addPacked y_Pa_addPacked ∈ lw_tbl := sel_of (y := y_Pa_addPacked) (N := 3) 31 (by decide +kernel)
theorem s_Pl_plan : Cond.selects "StitchDesk$Planner" y_Pl_plan y_Pl_plan ∈ lw_tbl := sel_of (y := y_Pl_plan) (N := 6) 32 (by decide +kernel)
theorem s_Pl_gather : Cond.selects "StitchDesk$Planner" y_Pl_gather y_Pl_gather ∈ lw_tbl := sel_of (y := y_Pl_gather) (N := 6) 33 (by decide +kernel)
theorem s_Sh_meets : Cond.selects "StitchDesk$Shape" y_Sh_meets y_Sh_meets ∈ lw_tbl := sel_of (y := y_Sh_meets) (N := 11) 34 (by decide +kernel)
theorem s_Pl_weighSets : Cond.selects "StitchDesk$Planner" y_Pl_weighSets y_Pl_weighSets ∈ lw_tbl := sel_of (y := y_Pl_weighSets) (N := 6) 35 (by decide +kernel)
theorem s_Pl_mayFollow : Cond.selects "StitchDesk$Planner" y_Pl_mayFollow y_Pl_mayFollow ∈ lw_tbl := sel_of (y := y_Pl_mayFollow) (N := 6) 36 (by decide +kernel)
theorem s_Pl_changesAfter : Cond.selects "StitchDesk$Planner" y_Pl_changesAfter y_Pl_changesAfter ∈ lw_tbl := sel_of (y := y_Pl_changesAfter) (N := 6) 37 (by decide +kernel)
theorem s_Pl_weigh : Cond.selects "StitchDesk$Planner" y_Pl_weigh y_Pl_weigh ∈ lw_tbl := sel_of (y := y_Pl_weigh) (N := 6) 38 (by decide +kernel)
theorem s_Pl_choose : Cond.selects "StitchDesk$Planner" y_Pl_choose y_Pl_choose ∈ lw_tbl := sel_of (y := y_Pl_choose) (N := 6) 39 (by decide +kernel)
theorem s_Pa_threadBehind : Cond.selects "StitchDesk$Path" y_Pa_threadBehind y_Pa_threadBehind ∈ lw_tbl := sel_of (y := y_Pa_threadBehind) (N := 3) 40 (by decide +kernel)
theorem s_Pa_kind : Cond.selects "StitchDesk$Path" y_Pa_kind y_Pa_kind ∈ lw_tbl := sel_of (y := y_Pa_kind) (N := 3) 41 (by decide +kernel)
theorem s_Pa_dx : Cond.selects "StitchDesk$Path" y_Pa_dx y_Pa_dx ∈ lw_tbl := sel_of (y := y_Pa_dx) (N := 3) 42 (by decide +kernel)
theorem s_Pa_dy : Cond.selects "StitchDesk$Path" y_Pa_dy y_Pa_dy ∈ lw_tbl := sel_of (y := y_Pa_dy) (N := 3) 43 (by decide +kernel)
theorem s_Pa_fits : Cond.selects "StitchDesk$Path" y_Pa_fits y_Pa_fits ∈ lw_tbl := sel_of (y := y_Pa_fits) (N := 3) 44 (by decide +kernel)
theorem s_Sh_reset : Cond.selects "StitchDesk$Shape" y_Sh_reset y_Sh_reset ∈ lw_tbl := sel_of (y := y_Sh_reset) (N := 11) 46 (by decide +kernel)
theorem s_Rg_clear : Cond.selects "StitchDesk$Ring" y_Rg_clear y_Rg_clear ∈ lw_tbl := sel_of (y := y_Rg_clear) (N := 3) 47 (by decide +kernel)
theorem s_Ty_clear : Cond.selects "StitchDesk$Tally" y_Ty_clear y_Ty_clear ∈ lw_tbl := sel_of (y := y_Ty_clear) (N := 2) 48 (by decide +kernel)
theorem s_Rg_add : Cond.selects "StitchDesk$Ring" y_Rg_add y_Rg_add ∈ lw_tbl := sel_of (y := y_Rg_add) (N := 3) 49 (by decide +kernel)
theorem s_In_inspect : Cond.selects "StitchDesk$Inspector" y_In_inspect y_In_inspect ∈ lw_tbl := sel_of (y := y_In_inspect) (N := 9) 50 (by decide +kernel)
theorem s_In_faultOfRails : Cond.selects "StitchDesk$Inspector" y_In_faultOfRails y_In_faultOfRails ∈ lw_tbl := sel_of (y := y_In_faultOfRails) (N := 9) 51 (by decide +kernel)
theorem s_In_faultOfRings : Cond.selects "StitchDesk$Inspector" y_In_faultOfRings y_In_faultOfRings ∈ lw_tbl := sel_of (y := y_In_faultOfRings) (N := 9) 52 (by decide +kernel)
theorem s_In_hasFlatRing : Cond.selects "StitchDesk$Inspector" y_In_hasFlatRing y_In_hasFlatRing ∈ lw_tbl := sel_of (y := y_In_hasFlatRing) (N := 9) 53 (by decide +kernel)
theorem s_Rg_isFlat : Cond.selects "StitchDesk$Ring" y_Rg_isFlat y_Rg_isFlat ∈ lw_tbl := sel_of (y := y_Rg_isFlat) (N := 3) 54 (by decide +kernel)
theorem s_In_gatherEdges : Cond.selects "StitchDesk$Inspector" y_In_gatherEdges y_In_gatherEdges ∈ lw_tbl := sel_of (y := y_In_gatherEdges) (N := 9) 55 (by decide +kernel)
theorem s_In_findCrossing : Cond.selects "StitchDesk$Inspector" y_In_findCrossing y_In_findCrossing ∈ lw_tbl := sel_of (y := y_In_findCrossing) (N := 9) 56 (by decide +kernel)
theorem s_In_areCrossed : Cond.selects "StitchDesk$Inspector" y_In_areCrossed y_In_areCrossed ∈ lw_tbl := sel_of (y := y_In_areCrossed) (N := 9) 57 (by decide +kernel)
theorem s_In_turnsBack : Cond.selects "StitchDesk$Inspector" y_In_turnsBack y_In_turnsBack ∈ lw_tbl := sel_of (y := y_In_turnsBack) (N := 9) 58 (by decide +kernel)
theorem s_In_sharePoint : Cond.selects "StitchDesk$Inspector" y_In_sharePoint y_In_sharePoint ∈ lw_tbl := sel_of (y := y_In_sharePoint) (N := 9) 59 (by decide +kernel)
theorem s_In_turn : Cond.selects "StitchDesk$Inspector" y_In_turn y_In_turn ∈ lw_tbl := sel_of (y := y_In_turn) (N := 9) 60 (by decide +kernel)
theorem s_In_hasHoleOutside : Cond.selects "StitchDesk$Inspector" y_In_hasHoleOutside y_In_hasHoleOutside ∈ lw_tbl := sel_of (y := y_In_hasHoleOutside) (N := 9) 61 (by decide +kernel)
theorem s_In_hasHoleWithin : Cond.selects "StitchDesk$Inspector" y_In_hasHoleWithin y_In_hasHoleWithin ∈ lw_tbl := sel_of (y := y_In_hasHoleWithin) (N := 9) 62 (by decide +kernel)
theorem s_Sh_finish : Cond.selects "StitchDesk$Shape" y_Sh_finish y_Sh_finish ∈ lw_tbl := sel_of (y := y_Sh_finish) (N := 11) 63 (by decide +kernel)
theorem s_Sh_joinRails : Cond.selects "StitchDesk$Shape" y_Sh_joinRails y_Sh_joinRails ∈ lw_tbl := sel_of (y := y_Sh_joinRails) (N := 11) 64 (by decide +kernel)
theorem s_Sh_measure : Cond.selects "StitchDesk$Shape" y_Sh_measure y_Sh_measure ∈ lw_tbl := sel_of (y := y_Sh_measure) (N := 11) 65 (by decide +kernel)
theorem s_Pa_packed : Cond.selects "StitchDesk$Path" y_Pa_packed y_Pa_packed ∈ lw_tbl := sel_of (y := y_Pa_packed) (N := 3) 66 (by decide +kernel)
theorem s_Mo_oneMore : Cond.selects "StitchDeskModel" y_Mo_oneMore y_Mo_oneMore ∈ lw_tbl := sel_of (y := y_Mo_oneMore) (N := 34) 67 (by decide +kernel)
theorem s_Mo_findFault : Cond.selects "StitchDeskModel" y_Mo_findFault y_Mo_findFault ∈ lw_tbl := sel_of (y := y_Mo_findFault) (N := 34) 68 (by decide +kernel)
theorem s_Mo_flat : Cond.selects "StitchDeskModel" y_Mo_flat y_Mo_flat ∈ lw_tbl := sel_of (y := y_Mo_flat) (N := 34) 69 (by decide +kernel)
theorem s_Mo_edgesOf : Cond.selects "StitchDeskModel" y_Mo_edgesOf y_Mo_edgesOf ∈ lw_tbl := sel_of (y := y_Mo_edgesOf) (N := 34) 70 (by decide +kernel)
theorem s_Mo_railCorner : Cond.selects "StitchDeskModel" y_Mo_railCorner y_Mo_railCorner ∈ lw_tbl := sel_of (y := y_Mo_railCorner) (N := 34) 71 (by decide +kernel)
theorem s_Mo_edge : Cond.selects "StitchDeskModel" y_Mo_edge y_Mo_edge ∈ lw_tbl := sel_of (y := y_Mo_edge) (N := 34) 72 (by decide +kernel)
theorem s_Mo_crossed : Cond.selects "StitchDeskModel" y_Mo_crossed y_Mo_crossed ∈ lw_tbl := sel_of (y := y_Mo_crossed) (N := 34) 73 (by decide +kernel)
theorem s_Mo_touch : Cond.selects "StitchDeskModel" y_Mo_touch y_Mo_touch ∈ lw_tbl := sel_of (y := y_Mo_touch) (N := 34) 74 (by decide +kernel)
theorem s_Mo_onEdge : Cond.selects "StitchDeskModel" y_Mo_onEdge y_Mo_onEdge ∈ lw_tbl := sel_of (y := y_Mo_onEdge) (N := 34) 75 (by decide +kernel)
theorem s_Mo_folded : Cond.selects "StitchDeskModel" y_Mo_folded y_Mo_folded ∈ lw_tbl := sel_of (y := y_Mo_folded) (N := 34) 76 (by decide +kernel)
theorem s_Mo_inside : Cond.selects "StitchDeskModel" y_Mo_inside y_Mo_inside ∈ lw_tbl := sel_of (y := y_Mo_inside) (N := 34) 77 (by decide +kernel)
theorem s_Mo_passes : Cond.selects "StitchDeskModel" y_Mo_passes y_Mo_passes ∈ lw_tbl := sel_of (y := y_Mo_passes) (N := 34) 78 (by decide +kernel)
theorem s_Mo_runsOf : Cond.selects "StitchDeskModel" y_Mo_runsOf y_Mo_runsOf ∈ lw_tbl := sel_of (y := y_Mo_runsOf) (N := 34) 79 (by decide +kernel)
theorem s_Mo_hatch : Cond.selects "StitchDeskModel" y_Mo_hatch y_Mo_hatch ∈ lw_tbl := sel_of (y := y_Mo_hatch) (N := 34) 80 (by decide +kernel)
theorem s_Mo_line : Cond.selects "StitchDeskModel" y_Mo_line y_Mo_line ∈ lw_tbl := sel_of (y := y_Mo_line) (N := 34) 81 (by decide +kernel)
theorem s_Mo_in : Cond.selects "StitchDeskModel" y_Mo_in y_Mo_in ∈ lw_tbl := sel_of (y := y_Mo_in) (N := 34) 82 (by decide +kernel)
theorem s_Mo_comes : Cond.selects "StitchDeskModel" y_Mo_comes y_Mo_comes ∈ lw_tbl := sel_of (y := y_Mo_comes) (N := 34) 83 (by decide +kernel)
theorem s_Mo_move : Cond.selects "StitchDeskModel" y_Mo_move y_Mo_move ∈ lw_tbl := sel_of (y := y_Mo_move) (N := 34) 84 (by decide +kernel)
theorem s_Mo_stepsTo : Cond.selects "StitchDeskModel" y_Mo_stepsTo y_Mo_stepsTo ∈ lw_tbl := sel_of (y := y_Mo_stepsTo) (N := 34) 85 (by decide +kernel)
theorem s_Mo_step : Cond.selects "StitchDeskModel" y_Mo_step y_Mo_step ∈ lw_tbl := sel_of (y := y_Mo_step) (N := 34) 86 (by decide +kernel)
theorem s_Mo_leap : Cond.selects "StitchDeskModel" y_Mo_leap y_Mo_leap ∈ lw_tbl := sel_of (y := y_Mo_leap) (N := 34) 87 (by decide +kernel)
theorem s_Mo_stepsIn : Cond.selects "StitchDeskModel" y_Mo_stepsIn y_Mo_stepsIn ∈ lw_tbl := sel_of (y := y_Mo_stepsIn) (N := 34) 88 (by decide +kernel)
theorem s_Mo_satin : Cond.selects "StitchDeskModel" y_Mo_satin y_Mo_satin ∈ lw_tbl := sel_of (y := y_Mo_satin) (N := 34) 89 (by decide +kernel)
theorem s_Mo_outline : Cond.selects "StitchDeskModel" y_Mo_outline y_Mo_outline ∈ lw_tbl := sel_of (y := y_Mo_outline) (N := 34) 90 (by decide +kernel)
theorem s_Mo_group : Cond.selects "StitchDeskModel" y_Mo_group y_Mo_group ∈ lw_tbl := sel_of (y := y_Mo_group) (N := 34) 91 (by decide +kernel)
theorem s_Mo_findLeft : Cond.selects "StitchDeskModel" y_Mo_findLeft y_Mo_findLeft ∈ lw_tbl := sel_of (y := y_Mo_findLeft) (N := 34) 92 (by decide +kernel)
theorem s_Mo_mayCome : Cond.selects "StitchDeskModel" y_Mo_mayCome y_Mo_mayCome ∈ lw_tbl := sel_of (y := y_Mo_mayCome) (N := 34) 93 (by decide +kernel)
theorem s_Mo_meetBoxes : Cond.selects "StitchDeskModel" y_Mo_meetBoxes y_Mo_meetBoxes ∈ lw_tbl := sel_of (y := y_Mo_meetBoxes) (N := 34) 94 (by decide +kernel)
theorem s_Mo_costOf : Cond.selects "StitchDeskModel" y_Mo_costOf y_Mo_costOf ∈ lw_tbl := sel_of (y := y_Mo_costOf) (N := 34) 95 (by decide +kernel)
theorem q_Dk_init : y_Dk_init.cls ≠ "java/lang/invoke/MethodHandle" ∧ y_Dk_init.cls ≠ "java/lang/invoke/VarHandle" ∧ (parseMethodDescriptor y_Dk_init.desc).map (fun d => d.parameters.length) = some 0 := by decide +kernel
theorem q_Ob_init : y_Ob_init.cls ≠ "java/lang/invoke/MethodHandle" ∧ y_Ob_init.cls ≠ "java/lang/invoke/VarHandle" ∧ (parseMethodDescriptor y_Ob_init.desc).map (fun d => d.parameters.length) = some 0 := by decide +kernel
theorem q_Sh_init : y_Sh_init.cls ≠ "java/lang/invoke/MethodHandle" ∧ y_Sh_init.cls ≠ "java/lang/invoke/VarHandle" ∧ (parseMethodDescriptor y_Sh_init.desc).map (fun d => d.parameters.length) = some 0 := by decide +kernel
theorem q_Rg_init : y_Rg_init.cls ≠ "java/lang/invoke/MethodHandle" ∧ y_Rg_init.cls ≠ "java/lang/invoke/VarHandle" ∧ (parseMethodDescriptor y_Rg_init.desc).map (fun d => d.parameters.length) = some 1 := by decide +kernel
theorem q_Ty_init : y_Ty_init.cls ≠ "java/lang/invoke/MethodHandle" ∧ y_Ty_init.cls ≠ "java/lang/invoke/VarHandle" ∧ (parseMethodDescriptor y_Ty_init.desc).map (fun d => d.parameters.length) = some 0 := by decide +kernel
theorem q_In_init : y_In_init.cls ≠ "java/lang/invoke/MethodHandle" ∧ y_In_init.cls ≠ "java/lang/invoke/VarHandle" ∧ (parseMethodDescriptor y_In_init.desc).map (fun d => d.parameters.length) = some 0 := by decide +kernel
theorem q_Rt_init : y_Rt_init.cls ≠ "java/lang/invoke/MethodHandle" ∧ y_Rt_init.cls ≠ "java/lang/invoke/VarHandle" ∧ (parseMethodDescriptor y_Rt_init.desc).map (fun d => d.parameters.length) = some 0 := by decide +kernel
theorem q_Hl_init : y_Hl_init.cls ≠ "java/lang/invoke/MethodHandle" ∧ y_Hl_init.cls ≠ "java/lang/invoke/VarHandle" ∧ (parseMethodDescriptor y_Hl_init.desc).map (fun d => d.parameters.length) = some 0 := by decide +kernel
theorem q_Pm_init : y_Pm_init.cls ≠ "java/lang/invoke/MethodHandle" ∧ y_Pm_init.cls ≠ "java/lang/invoke/VarHandle" ∧ (parseMethodDescriptor y_Pm_init.desc).map (fun d => d.parameters.length) = some 0 := by decide +kernel
theorem q_Pa_init : y_Pa_init.cls ≠ "java/lang/invoke/MethodHandle" ∧ y_Pa_init.cls ≠ "java/lang/invoke/VarHandle" ∧ (parseMethodDescriptor y_Pa_init.desc).map (fun d => d.parameters.length) = some 0 := by decide +kernel
theorem q_Pl_init : y_Pl_init.cls ≠ "java/lang/invoke/MethodHandle" ∧ y_Pl_init.cls ≠ "java/lang/invoke/VarHandle" ∧ (parseMethodDescriptor y_Pl_init.desc).map (fun d => d.parameters.length) = some 0 := by decide +kernel
theorem q_Dk_fault : y_Dk_fault.cls ≠ "java/lang/invoke/MethodHandle" ∧ y_Dk_fault.cls ≠ "java/lang/invoke/VarHandle" ∧ (parseMethodDescriptor y_Dk_fault.desc).map (fun d => d.parameters.length) = some 1 := by decide +kernel
theorem q_Dk_count : y_Dk_count.cls ≠ "java/lang/invoke/MethodHandle" ∧ y_Dk_count.cls ≠ "java/lang/invoke/VarHandle" ∧ (parseMethodDescriptor y_Dk_count.desc).map (fun d => d.parameters.length) = some 1 := by decide +kernel
theorem q_Dk_stitch : y_Dk_stitch.cls ≠ "java/lang/invoke/MethodHandle" ∧ y_Dk_stitch.cls ≠ "java/lang/invoke/VarHandle" ∧ (parseMethodDescriptor y_Dk_stitch.desc).map (fun d => d.parameters.length) = some 0 := by decide +kernel
theorem q_Pm_restart : y_Pm_restart.cls ≠ "java/lang/invoke/MethodHandle" ∧ y_Pm_restart.cls ≠ "java/lang/invoke/VarHandle" ∧ (parseMethodDescriptor y_Pm_restart.desc).map (fun d => d.parameters.length) = some 0 := by decide +kernel
theorem q_Pa_clear : y_Pa_clear.cls ≠ "java/lang/invoke/MethodHandle" ∧ y_Pa_clear.cls ≠ "java/lang/invoke/VarHandle" ∧ (parseMethodDescriptor y_Pa_clear.desc).map (fun d => d.parameters.length) = some 0 := by decide +kernel
theorem q_Pm_enter : y_Pm_enter.cls ≠ "java/lang/invoke/MethodHandle" ∧ y_Pm_enter.cls ≠ "java/lang/invoke/VarHandle" ∧ (parseMethodDescriptor y_Pm_enter.desc).map (fun d => d.parameters.length) = some 1 := by decide +kernel
theorem q_Rt_tell : y_Rt_tell.cls ≠ "java/lang/invoke/MethodHandle" ∧ y_Rt_tell.cls ≠ "java/lang/invoke/VarHandle" ∧ (parseMethodDescriptor y_Rt_tell.desc).map (fun d => d.parameters.length) = some 2 := by decide +kernel
theorem q_Rt_tellHatch : y_Rt_tellHatch.cls ≠ "java/lang/invoke/MethodHandle" ∧ y_Rt_tellHatch.cls ≠ "java/lang/invoke/VarHandle" ∧ (parseMethodDescriptor y_Rt_tellHatch.desc).map (fun d => d.parameters.length) = some 2 := by decide +kernel
theorem q_Rt_leastF : y_Rt_leastF.cls ≠ "java/lang/invoke/MethodHandle" ∧ y_Rt_leastF.cls ≠ "java/lang/invoke/VarHandle" ∧ (parseMethodDescriptor y_Rt_leastF.desc).map (fun d => d.parameters.length) = some 1 := by decide +kernel
theorem q_Ma_floorDiv : y_Ma_floorDiv.cls ≠ "java/lang/invoke/MethodHandle" ∧ y_Ma_floorDiv.cls ≠ "java/lang/invoke/VarHandle" ∧ (parseMethodDescriptor y_Ma_floorDiv.desc).map (fun d => d.parameters.length) = some 2 := by decide +kernel
theorem q_Rt_greatestF : y_Rt_greatestF.cls ≠ "java/lang/invoke/MethodHandle" ∧ y_Rt_greatestF.cls ≠ "java/lang/invoke/VarHandle" ∧ (parseMethodDescriptor y_Rt_greatestF.desc).map (fun d => d.parameters.length) = some 1 := by decide +kernel
theorem q_Hl_lay : y_Hl_lay.cls ≠ "java/lang/invoke/MethodHandle" ∧ y_Hl_lay.cls ≠ "java/lang/invoke/VarHandle" ∧ (parseMethodDescriptor y_Hl_lay.desc).map (fun d => d.parameters.length) = some 2 := by decide +kernel
theorem q_Hl_aim : y_Hl_aim.cls ≠ "java/lang/invoke/MethodHandle" ∧ y_Hl_aim.cls ≠ "java/lang/invoke/VarHandle" ∧ (parseMethodDescriptor y_Hl_aim.desc).map (fun d => d.parameters.length) = some 2 := by decide +kernel
theorem q_Hl_narrow : y_Hl_narrow.cls ≠ "java/lang/invoke/MethodHandle" ∧ y_Hl_narrow.cls ≠ "java/lang/invoke/VarHandle" ∧ (parseMethodDescriptor y_Hl_narrow.desc).map (fun d => d.parameters.length) = some 4 := by decide +kernel
theorem q_Hl_empty : y_Hl_empty.cls ≠ "java/lang/invoke/MethodHandle" ∧ y_Hl_empty.cls ≠ "java/lang/invoke/VarHandle" ∧ (parseMethodDescriptor y_Hl_empty.desc).map (fun d => d.parameters.length) = some 0 := by decide +kernel
theorem q_Ma_max : y_Ma_max.cls ≠ "java/lang/invoke/MethodHandle" ∧ y_Ma_max.cls ≠ "java/lang/invoke/VarHandle" ∧ (parseMethodDescriptor y_Ma_max.desc).map (fun d => d.parameters.length) = some 2 := by decide +kernel
theorem q_Ma_min : y_Ma_min.cls ≠ "java/lang/invoke/MethodHandle" ∧ y_Ma_min.cls ≠ "java/lang/invoke/VarHandle" ∧ (parseMethodDescriptor y_Ma_min.desc).map (fun d => d.parameters.length) = some 2 := by decide +kernel
theorem q_Rg_next : y_Rg_next.cls ≠ "java/lang/invoke/MethodHandle" ∧ y_Rg_next.cls ≠ "java/lang/invoke/VarHandle" ∧ (parseMethodDescriptor y_Rg_next.desc).map (fun d => d.parameters.length) = some 1 := by decide +kernel
theorem q_Hl_addEdge : y_Hl_addEdge.cls ≠ "java/lang/invoke/MethodHandle" ∧ y_Hl_addEdge.cls ≠ "java/lang/invoke/VarHandle" ∧ (parseMethodDescriptor y_Hl_addEdge.desc).map (fun d => d.parameters.length) = some 4 := by decide +kernel
theorem q_Hl_narrowToZero : y_Hl_narrowToZero.cls ≠ "java/lang/invoke/MethodHandle" ∧ y_Hl_narrowToZero.cls ≠ "java/lang/invoke/VarHandle" ∧ (parseMethodDescriptor y_Hl_narrowToZero.desc).map (fun d => d.parameters.length) = some 2 := by decide +kernel
theorem q_Hl_addSpan : y_Hl_addSpan.cls ≠ "java/lang/invoke/MethodHandle" ∧ y_Hl_addSpan.cls ≠ "java/lang/invoke/VarHandle" ∧ (parseMethodDescriptor y_Hl_addSpan.desc).map (fun d => d.parameters.length) = some 2 := by decide +kernel
theorem q_Hl_insert : y_Hl_insert.cls ≠ "java/lang/invoke/MethodHandle" ∧ y_Hl_insert.cls ≠ "java/lang/invoke/VarHandle" ∧ (parseMethodDescriptor y_Hl_insert.desc).map (fun d => d.parameters.length) = some 1 := by decide +kernel
theorem q_Hl_narrowToAboveZero : y_Hl_narrowToAboveZero.cls ≠ "java/lang/invoke/MethodHandle" ∧ y_Hl_narrowToAboveZero.cls ≠ "java/lang/invoke/VarHandle" ∧ (parseMethodDescriptor y_Hl_narrowToAboveZero.desc).map (fun d => d.parameters.length) = some 2 := by decide +kernel
theorem q_Hl_gatherParts : y_Hl_gatherParts.cls ≠ "java/lang/invoke/MethodHandle" ∧ y_Hl_gatherParts.cls ≠ "java/lang/invoke/VarHandle" ∧ (parseMethodDescriptor y_Hl_gatherParts.desc).map (fun d => d.parameters.length) = some 0 := by decide +kernel
theorem q_Hl_addPart : y_Hl_addPart.cls ≠ "java/lang/invoke/MethodHandle" ∧ y_Hl_addPart.cls ≠ "java/lang/invoke/VarHandle" ∧ (parseMethodDescriptor y_Hl_addPart.desc).map (fun d => d.parameters.length) = some 2 := by decide +kernel
theorem q_Pm_beginRun : y_Pm_beginRun.cls ≠ "java/lang/invoke/MethodHandle" ∧ y_Pm_beginRun.cls ≠ "java/lang/invoke/VarHandle" ∧ (parseMethodDescriptor y_Pm_beginRun.desc).map (fun d => d.parameters.length) = some 0 := by decide +kernel
theorem q_Ty_beginRun : y_Ty_beginRun.cls ≠ "java/lang/invoke/MethodHandle" ∧ y_Ty_beginRun.cls ≠ "java/lang/invoke/VarHandle" ∧ (parseMethodDescriptor y_Ty_beginRun.desc).map (fun d => d.parameters.length) = some 0 := by decide +kernel
theorem q_Hl_xAt : y_Hl_xAt.cls ≠ "java/lang/invoke/MethodHandle" ∧ y_Hl_xAt.cls ≠ "java/lang/invoke/VarHandle" ∧ (parseMethodDescriptor y_Hl_xAt.desc).map (fun d => d.parameters.length) = some 1 := by decide +kernel
theorem q_Hl_yAt : y_Hl_yAt.cls ≠ "java/lang/invoke/MethodHandle" ∧ y_Hl_yAt.cls ≠ "java/lang/invoke/VarHandle" ∧ (parseMethodDescriptor y_Hl_yAt.desc).map (fun d => d.parameters.length) = some 1 := by decide +kernel
theorem q_Pm_take : y_Pm_take.cls ≠ "java/lang/invoke/MethodHandle" ∧ y_Pm_take.cls ≠ "java/lang/invoke/VarHandle" ∧ (parseMethodDescriptor y_Pm_take.desc).map (fun d => d.parameters.length) = some 2 := by decide +kernel
theorem q_Pm_move : y_Pm_move.cls ≠ "java/lang/invoke/MethodHandle" ∧ y_Pm_move.cls ≠ "java/lang/invoke/VarHandle" ∧ (parseMethodDescriptor y_Pm_move.desc).map (fun d => d.parameters.length) = some 3 := by decide +kernel
theorem q_Pm_stepsTo : y_Pm_stepsTo.cls ≠ "java/lang/invoke/MethodHandle" ∧ y_Pm_stepsTo.cls ≠ "java/lang/invoke/VarHandle" ∧ (parseMethodDescriptor y_Pm_stepsTo.desc).map (fun d => d.parameters.length) = some 2 := by decide +kernel
theorem q_Ma_abs : y_Ma_abs.cls ≠ "java/lang/invoke/MethodHandle" ∧ y_Ma_abs.cls ≠ "java/lang/invoke/VarHandle" ∧ (parseMethodDescriptor y_Ma_abs.desc).map (fun d => d.parameters.length) = some 1 := by decide +kernel
theorem q_Dk_along : y_Dk_along.cls ≠ "java/lang/invoke/MethodHandle" ∧ y_Dk_along.cls ≠ "java/lang/invoke/VarHandle" ∧ (parseMethodDescriptor y_Dk_along.desc).map (fun d => d.parameters.length) = some 4 := by decide +kernel
theorem q_Pa_add : y_Pa_add.cls ≠ "java/lang/invoke/MethodHandle" ∧ y_Pa_add.cls ≠ "java/lang/invoke/VarHandle" ∧ (parseMethodDescriptor y_Pa_add.desc).map (fun d => d.parameters.length) = some 3 := by decide +kernel
theorem q_Pm_changeThread : y_Pm_changeThread.cls ≠ "java/lang/invoke/MethodHandle" ∧ y_Pm_changeThread.cls ≠ "java/lang/invoke/VarHandle" ∧ (parseMethodDescriptor y_Pm_changeThread.desc).map (fun d => d.parameters.length) = some 0 := by decide +kernel
theorem q_Pm_leap : y_Pm_leap.cls ≠ "java/lang/invoke/MethodHandle" ∧ y_Pm_leap.cls ≠ "java/lang/invoke/VarHandle" ∧ (parseMethodDescriptor y_Pm_leap.desc).map (fun d => d.parameters.length) = some 2 := by decide +kernel
theorem q_Pm_staysInShape : y_Pm_staysInShape.cls ≠ "java/lang/invoke/MethodHandle" ∧ y_Pm_staysInShape.cls ≠ "java/lang/invoke/VarHandle" ∧ (parseMethodDescriptor y_Pm_staysInShape.desc).map (fun d => d.parameters.length) = some 2 := by decide +kernel
theorem q_Sh_has : y_Sh_has.cls ≠ "java/lang/invoke/MethodHandle" ∧ y_Sh_has.cls ≠ "java/lang/invoke/VarHandle" ∧ (parseMethodDescriptor y_Sh_has.desc).map (fun d => d.parameters.length) = some 2 := by decide +kernel
theorem q_Rg_sideOf : y_Rg_sideOf.cls ≠ "java/lang/invoke/MethodHandle" ∧ y_Rg_sideOf.cls ≠ "java/lang/invoke/VarHandle" ∧ (parseMethodDescriptor y_Rg_sideOf.desc).map (fun d => d.parameters.length) = some 2 := by decide +kernel
theorem q_Ty_take : y_Ty_take.cls ≠ "java/lang/invoke/MethodHandle" ∧ y_Ty_take.cls ≠ "java/lang/invoke/VarHandle" ∧ (parseMethodDescriptor y_Ty_take.desc).map (fun d => d.parameters.length) = some 2 := by decide +kernel
theorem q_Rt_tellSatin : y_Rt_tellSatin.cls ≠ "java/lang/invoke/MethodHandle" ∧ y_Rt_tellSatin.cls ≠ "java/lang/invoke/VarHandle" ∧ (parseMethodDescriptor y_Rt_tellSatin.desc).map (fun d => d.parameters.length) = some 2 := by decide +kernel
theorem q_Rt_reach : y_Rt_reach.cls ≠ "java/lang/invoke/MethodHandle" ∧ y_Rt_reach.cls ≠ "java/lang/invoke/VarHandle" ∧ (parseMethodDescriptor y_Rt_reach.desc).map (fun d => d.parameters.length) = some 2 := by decide +kernel
theorem q_Rt_pointOf : y_Rt_pointOf.cls ≠ "java/lang/invoke/MethodHandle" ∧ y_Rt_pointOf.cls ≠ "java/lang/invoke/VarHandle" ∧ (parseMethodDescriptor y_Rt_pointOf.desc).map (fun d => d.parameters.length) = some 4 := by decide +kernel
theorem q_Rt_tellOutline : y_Rt_tellOutline.cls ≠ "java/lang/invoke/MethodHandle" ∧ y_Rt_tellOutline.cls ≠ "java/lang/invoke/VarHandle" ∧ (parseMethodDescriptor y_Rt_tellOutline.desc).map (fun d => d.parameters.length) = some 2 := by decide +kernel
theorem q_Dk_decode : y_Dk_decode.cls ≠ "java/lang/invoke/MethodHandle" ∧ y_Dk_decode.cls ≠ "java/lang/invoke/VarHandle" ∧ (parseMethodDescriptor y_Dk_decode.desc).map (fun d => d.parameters.length) = some 0 := by decide +kernel
theorem q_Dk_firstWrongGroup : y_Dk_firstWrongGroup.cls ≠ "java/lang/invoke/MethodHandle" ∧ y_Dk_firstWrongGroup.cls ≠ "java/lang/invoke/VarHandle" ∧ (parseMethodDescriptor y_Dk_firstWrongGroup.desc).map (fun d => d.parameters.length) = some 0 := by decide +kernel
theorem q_Dk_groupAt : y_Dk_groupAt.cls ≠ "java/lang/invoke/MethodHandle" ∧ y_Dk_groupAt.cls ≠ "java/lang/invoke/VarHandle" ∧ (parseMethodDescriptor y_Dk_groupAt.desc).map (fun d => d.parameters.length) = some 1 := by decide +kernel
theorem q_Pa_isRecord : y_Pa_isRecord.cls ≠ "java/lang/invoke/MethodHandle" ∧ y_Pa_isRecord.cls ≠ "java/lang/invoke/VarHandle" ∧ (parseMethodDescriptor y_Pa_isRecord.desc).map (fun d => d.parameters.length) = some 1 := by decide +kernel
theorem q_Pa_addPacked : y_Pa_addPacked.cls ≠ "java/lang/invoke/MethodHandle" ∧ y_Pa_addPacked.cls ≠ "java/lang/invoke/VarHandle" ∧ (parseMethodDescriptor y_Pa_addPacked.desc).map (fun d => d.parameters.length) = some 1 := by decide +kernel
theorem q_Pa_numberOf : y_Pa_numberOf.cls ≠ "java/lang/invoke/MethodHandle" ∧ y_Pa_numberOf.cls ≠ "java/lang/invoke/VarHandle" ∧ (parseMethodDescriptor y_Pa_numberOf.desc).map (fun d => d.parameters.length) = some 1 := by decide +kernel
theorem q_Dk_reorder : y_Dk_reorder.cls ≠ "java/lang/invoke/MethodHandle" ∧ y_Dk_reorder.cls ≠ "java/lang/invoke/VarHandle" ∧ (parseMethodDescriptor y_Dk_reorder.desc).map (fun d => d.parameters.length) = some 0 := by decide +kernel
theorem q_Pl_plan : y_Pl_plan.cls ≠ "java/lang/invoke/MethodHandle" ∧ y_Pl_plan.cls ≠ "java/lang/invoke/VarHandle" ∧ (parseMethodDescriptor y_Pl_plan.desc).map (fun d => d.parameters.length) = some 3 := by decide +kernel
theorem q_Pl_gather : y_Pl_gather.cls ≠ "java/lang/invoke/MethodHandle" ∧ y_Pl_gather.cls ≠ "java/lang/invoke/VarHandle" ∧ (parseMethodDescriptor y_Pl_gather.desc).map (fun d => d.parameters.length) = some 2 := by decide +kernel
theorem q_Sh_meets : y_Sh_meets.cls ≠ "java/lang/invoke/MethodHandle" ∧ y_Sh_meets.cls ≠ "java/lang/invoke/VarHandle" ∧ (parseMethodDescriptor y_Sh_meets.desc).map (fun d => d.parameters.length) = some 1 := by decide +kernel
theorem q_Pl_weighSets : y_Pl_weighSets.cls ≠ "java/lang/invoke/MethodHandle" ∧ y_Pl_weighSets.cls ≠ "java/lang/invoke/VarHandle" ∧ (parseMethodDescriptor y_Pl_weighSets.desc).map (fun d => d.parameters.length) = some 0 := by decide +kernel
theorem q_Pl_mayFollow : y_Pl_mayFollow.cls ≠ "java/lang/invoke/MethodHandle" ∧ y_Pl_mayFollow.cls ≠ "java/lang/invoke/VarHandle" ∧ (parseMethodDescriptor y_Pl_mayFollow.desc).map (fun d => d.parameters.length) = some 2 := by decide +kernel
theorem q_Pl_changesAfter : y_Pl_changesAfter.cls ≠ "java/lang/invoke/MethodHandle" ∧ y_Pl_changesAfter.cls ≠ "java/lang/invoke/VarHandle" ∧ (parseMethodDescriptor y_Pl_changesAfter.desc).map (fun d => d.parameters.length) = some 2 := by decide +kernel
theorem q_Pl_weigh : y_Pl_weigh.cls ≠ "java/lang/invoke/MethodHandle" ∧ y_Pl_weigh.cls ≠ "java/lang/invoke/VarHandle" ∧ (parseMethodDescriptor y_Pl_weigh.desc).map (fun d => d.parameters.length) = some 3 := by decide +kernel
theorem q_Pl_choose : y_Pl_choose.cls ≠ "java/lang/invoke/MethodHandle" ∧ y_Pl_choose.cls ≠ "java/lang/invoke/VarHandle" ∧ (parseMethodDescriptor y_Pl_choose.desc).map (fun d => d.parameters.length) = some 1 := by decide +kernel
theorem q_Dk_order : y_Dk_order.cls ≠ "java/lang/invoke/MethodHandle" ∧ y_Dk_order.cls ≠ "java/lang/invoke/VarHandle" ∧ (parseMethodDescriptor y_Dk_order.desc).map (fun d => d.parameters.length) = some 1 := by decide +kernel
theorem q_Dk_isBelow : y_Dk_isBelow.cls ≠ "java/lang/invoke/MethodHandle" ∧ y_Dk_isBelow.cls ≠ "java/lang/invoke/VarHandle" ∧ (parseMethodDescriptor y_Dk_isBelow.desc).map (fun d => d.parameters.length) = some 2 := by decide +kernel
theorem q_Dk_thread : y_Dk_thread.cls ≠ "java/lang/invoke/MethodHandle" ∧ y_Dk_thread.cls ≠ "java/lang/invoke/VarHandle" ∧ (parseMethodDescriptor y_Dk_thread.desc).map (fun d => d.parameters.length) = some 1 := by decide +kernel
theorem q_Pa_threadBehind : y_Pa_threadBehind.cls ≠ "java/lang/invoke/MethodHandle" ∧ y_Pa_threadBehind.cls ≠ "java/lang/invoke/VarHandle" ∧ (parseMethodDescriptor y_Pa_threadBehind.desc).map (fun d => d.parameters.length) = some 1 := by decide +kernel
theorem q_Pa_kind : y_Pa_kind.cls ≠ "java/lang/invoke/MethodHandle" ∧ y_Pa_kind.cls ≠ "java/lang/invoke/VarHandle" ∧ (parseMethodDescriptor y_Pa_kind.desc).map (fun d => d.parameters.length) = some 1 := by decide +kernel
theorem q_Pa_dx : y_Pa_dx.cls ≠ "java/lang/invoke/MethodHandle" ∧ y_Pa_dx.cls ≠ "java/lang/invoke/VarHandle" ∧ (parseMethodDescriptor y_Pa_dx.desc).map (fun d => d.parameters.length) = some 1 := by decide +kernel
theorem q_Pa_dy : y_Pa_dy.cls ≠ "java/lang/invoke/MethodHandle" ∧ y_Pa_dy.cls ≠ "java/lang/invoke/VarHandle" ∧ (parseMethodDescriptor y_Pa_dy.desc).map (fun d => d.parameters.length) = some 1 := by decide +kernel
theorem q_Pa_rootUp : y_Pa_rootUp.cls ≠ "java/lang/invoke/MethodHandle" ∧ y_Pa_rootUp.cls ≠ "java/lang/invoke/VarHandle" ∧ (parseMethodDescriptor y_Pa_rootUp.desc).map (fun d => d.parameters.length) = some 2 := by decide +kernel
theorem q_Dk_hoop : y_Dk_hoop.cls ≠ "java/lang/invoke/MethodHandle" ∧ y_Dk_hoop.cls ≠ "java/lang/invoke/VarHandle" ∧ (parseMethodDescriptor y_Dk_hoop.desc).map (fun d => d.parameters.length) = some 2 := by decide +kernel
theorem q_Pa_fits : y_Pa_fits.cls ≠ "java/lang/invoke/MethodHandle" ∧ y_Pa_fits.cls ≠ "java/lang/invoke/VarHandle" ∧ (parseMethodDescriptor y_Pa_fits.desc).map (fun d => d.parameters.length) = some 2 := by decide +kernel
theorem q_Dk_stop : y_Dk_stop.cls ≠ "java/lang/invoke/MethodHandle" ∧ y_Dk_stop.cls ≠ "java/lang/invoke/VarHandle" ∧ (parseMethodDescriptor y_Dk_stop.desc).map (fun d => d.parameters.length) = some 1 := by decide +kernel
theorem q_Lw_begin : y_Lw_begin.cls ≠ "java/lang/invoke/MethodHandle" ∧ y_Lw_begin.cls ≠ "java/lang/invoke/VarHandle" ∧ (parseMethodDescriptor y_Lw_begin.desc).map (fun d => d.parameters.length) = some 5 := by decide +kernel
theorem q_Dk_begin : y_Dk_begin.cls ≠ "java/lang/invoke/MethodHandle" ∧ y_Dk_begin.cls ≠ "java/lang/invoke/VarHandle" ∧ (parseMethodDescriptor y_Dk_begin.desc).map (fun d => d.parameters.length) = some 4 := by decide +kernel
theorem q_Sh_reset : y_Sh_reset.cls ≠ "java/lang/invoke/MethodHandle" ∧ y_Sh_reset.cls ≠ "java/lang/invoke/VarHandle" ∧ (parseMethodDescriptor y_Sh_reset.desc).map (fun d => d.parameters.length) = some 4 := by decide +kernel
theorem q_Rg_clear : y_Rg_clear.cls ≠ "java/lang/invoke/MethodHandle" ∧ y_Rg_clear.cls ≠ "java/lang/invoke/VarHandle" ∧ (parseMethodDescriptor y_Rg_clear.desc).map (fun d => d.parameters.length) = some 0 := by decide +kernel
theorem q_Ty_clear : y_Ty_clear.cls ≠ "java/lang/invoke/MethodHandle" ∧ y_Ty_clear.cls ≠ "java/lang/invoke/VarHandle" ∧ (parseMethodDescriptor y_Ty_clear.desc).map (fun d => d.parameters.length) = some 0 := by decide +kernel
theorem q_Lw_corner : y_Lw_corner.cls ≠ "java/lang/invoke/MethodHandle" ∧ y_Lw_corner.cls ≠ "java/lang/invoke/VarHandle" ∧ (parseMethodDescriptor y_Lw_corner.desc).map (fun d => d.parameters.length) = some 5 := by decide +kernel
theorem q_Dk_corner : y_Dk_corner.cls ≠ "java/lang/invoke/MethodHandle" ∧ y_Dk_corner.cls ≠ "java/lang/invoke/VarHandle" ∧ (parseMethodDescriptor y_Dk_corner.desc).map (fun d => d.parameters.length) = some 3 := by decide +kernel
theorem q_Dk_isPlace : y_Dk_isPlace.cls ≠ "java/lang/invoke/MethodHandle" ∧ y_Dk_isPlace.cls ≠ "java/lang/invoke/VarHandle" ∧ (parseMethodDescriptor y_Dk_isPlace.desc).map (fun d => d.parameters.length) = some 2 := by decide +kernel
theorem q_Rg_add : y_Rg_add.cls ≠ "java/lang/invoke/MethodHandle" ∧ y_Rg_add.cls ≠ "java/lang/invoke/VarHandle" ∧ (parseMethodDescriptor y_Rg_add.desc).map (fun d => d.parameters.length) = some 2 := by decide +kernel
theorem q_Lw_rail : y_Lw_rail.cls ≠ "java/lang/invoke/MethodHandle" ∧ y_Lw_rail.cls ≠ "java/lang/invoke/VarHandle" ∧ (parseMethodDescriptor y_Lw_rail.desc).map (fun d => d.parameters.length) = some 5 := by decide +kernel
theorem q_Dk_rail : y_Dk_rail.cls ≠ "java/lang/invoke/MethodHandle" ∧ y_Dk_rail.cls ≠ "java/lang/invoke/VarHandle" ∧ (parseMethodDescriptor y_Dk_rail.desc).map (fun d => d.parameters.length) = some 3 := by decide +kernel
theorem q_Lw_end : y_Lw_end.cls ≠ "java/lang/invoke/MethodHandle" ∧ y_Lw_end.cls ≠ "java/lang/invoke/VarHandle" ∧ (parseMethodDescriptor y_Lw_end.desc).map (fun d => d.parameters.length) = some 2 := by decide +kernel
theorem q_Dk_end : y_Dk_end.cls ≠ "java/lang/invoke/MethodHandle" ∧ y_Dk_end.cls ≠ "java/lang/invoke/VarHandle" ∧ (parseMethodDescriptor y_Dk_end.desc).map (fun d => d.parameters.length) = some 0 := by decide +kernel
theorem q_In_inspect : y_In_inspect.cls ≠ "java/lang/invoke/MethodHandle" ∧ y_In_inspect.cls ≠ "java/lang/invoke/VarHandle" ∧ (parseMethodDescriptor y_In_inspect.desc).map (fun d => d.parameters.length) = some 1 := by decide +kernel
theorem q_In_faultOfRails : y_In_faultOfRails.cls ≠ "java/lang/invoke/MethodHandle" ∧ y_In_faultOfRails.cls ≠ "java/lang/invoke/VarHandle" ∧ (parseMethodDescriptor y_In_faultOfRails.desc).map (fun d => d.parameters.length) = some 1 := by decide +kernel
theorem q_In_faultOfRings : y_In_faultOfRings.cls ≠ "java/lang/invoke/MethodHandle" ∧ y_In_faultOfRings.cls ≠ "java/lang/invoke/VarHandle" ∧ (parseMethodDescriptor y_In_faultOfRings.desc).map (fun d => d.parameters.length) = some 1 := by decide +kernel
theorem q_In_hasFlatRing : y_In_hasFlatRing.cls ≠ "java/lang/invoke/MethodHandle" ∧ y_In_hasFlatRing.cls ≠ "java/lang/invoke/VarHandle" ∧ (parseMethodDescriptor y_In_hasFlatRing.desc).map (fun d => d.parameters.length) = some 1 := by decide +kernel
theorem q_Rg_isFlat : y_Rg_isFlat.cls ≠ "java/lang/invoke/MethodHandle" ∧ y_Rg_isFlat.cls ≠ "java/lang/invoke/VarHandle" ∧ (parseMethodDescriptor y_Rg_isFlat.desc).map (fun d => d.parameters.length) = some 0 := by decide +kernel
theorem q_In_gatherEdges : y_In_gatherEdges.cls ≠ "java/lang/invoke/MethodHandle" ∧ y_In_gatherEdges.cls ≠ "java/lang/invoke/VarHandle" ∧ (parseMethodDescriptor y_In_gatherEdges.desc).map (fun d => d.parameters.length) = some 1 := by decide +kernel
theorem q_In_findCrossing : y_In_findCrossing.cls ≠ "java/lang/invoke/MethodHandle" ∧ y_In_findCrossing.cls ≠ "java/lang/invoke/VarHandle" ∧ (parseMethodDescriptor y_In_findCrossing.desc).map (fun d => d.parameters.length) = some 0 := by decide +kernel
theorem q_In_areCrossed : y_In_areCrossed.cls ≠ "java/lang/invoke/MethodHandle" ∧ y_In_areCrossed.cls ≠ "java/lang/invoke/VarHandle" ∧ (parseMethodDescriptor y_In_areCrossed.desc).map (fun d => d.parameters.length) = some 2 := by decide +kernel
theorem q_In_turnsBack : y_In_turnsBack.cls ≠ "java/lang/invoke/MethodHandle" ∧ y_In_turnsBack.cls ≠ "java/lang/invoke/VarHandle" ∧ (parseMethodDescriptor y_In_turnsBack.desc).map (fun d => d.parameters.length) = some 2 := by decide +kernel
theorem q_In_sharePoint : y_In_sharePoint.cls ≠ "java/lang/invoke/MethodHandle" ∧ y_In_sharePoint.cls ≠ "java/lang/invoke/VarHandle" ∧ (parseMethodDescriptor y_In_sharePoint.desc).map (fun d => d.parameters.length) = some 2 := by decide +kernel
theorem q_In_turn : y_In_turn.cls ≠ "java/lang/invoke/MethodHandle" ∧ y_In_turn.cls ≠ "java/lang/invoke/VarHandle" ∧ (parseMethodDescriptor y_In_turn.desc).map (fun d => d.parameters.length) = some 3 := by decide +kernel
theorem q_Ig_signum : y_Ig_signum.cls ≠ "java/lang/invoke/MethodHandle" ∧ y_Ig_signum.cls ≠ "java/lang/invoke/VarHandle" ∧ (parseMethodDescriptor y_Ig_signum.desc).map (fun d => d.parameters.length) = some 1 := by decide +kernel
theorem q_In_hasHoleOutside : y_In_hasHoleOutside.cls ≠ "java/lang/invoke/MethodHandle" ∧ y_In_hasHoleOutside.cls ≠ "java/lang/invoke/VarHandle" ∧ (parseMethodDescriptor y_In_hasHoleOutside.desc).map (fun d => d.parameters.length) = some 1 := by decide +kernel
theorem q_In_beginsInside : y_In_beginsInside.cls ≠ "java/lang/invoke/MethodHandle" ∧ y_In_beginsInside.cls ≠ "java/lang/invoke/VarHandle" ∧ (parseMethodDescriptor y_In_beginsInside.desc).map (fun d => d.parameters.length) = some 2 := by decide +kernel
theorem q_In_hasHoleWithin : y_In_hasHoleWithin.cls ≠ "java/lang/invoke/MethodHandle" ∧ y_In_hasHoleWithin.cls ≠ "java/lang/invoke/VarHandle" ∧ (parseMethodDescriptor y_In_hasHoleWithin.desc).map (fun d => d.parameters.length) = some 1 := by decide +kernel
theorem q_Sh_finish : y_Sh_finish.cls ≠ "java/lang/invoke/MethodHandle" ∧ y_Sh_finish.cls ≠ "java/lang/invoke/VarHandle" ∧ (parseMethodDescriptor y_Sh_finish.desc).map (fun d => d.parameters.length) = some 0 := by decide +kernel
theorem q_Sh_joinRails : y_Sh_joinRails.cls ≠ "java/lang/invoke/MethodHandle" ∧ y_Sh_joinRails.cls ≠ "java/lang/invoke/VarHandle" ∧ (parseMethodDescriptor y_Sh_joinRails.desc).map (fun d => d.parameters.length) = some 0 := by decide +kernel
theorem q_Sh_measure : y_Sh_measure.cls ≠ "java/lang/invoke/MethodHandle" ∧ y_Sh_measure.cls ≠ "java/lang/invoke/VarHandle" ∧ (parseMethodDescriptor y_Sh_measure.desc).map (fun d => d.parameters.length) = some 0 := by decide +kernel
theorem q_Lw_shape : y_Lw_shape.cls ≠ "java/lang/invoke/MethodHandle" ∧ y_Lw_shape.cls ≠ "java/lang/invoke/VarHandle" ∧ (parseMethodDescriptor y_Lw_shape.desc).map (fun d => d.parameters.length) = some 4 := by decide +kernel
theorem q_Dk_shape : y_Dk_shape.cls ≠ "java/lang/invoke/MethodHandle" ∧ y_Dk_shape.cls ≠ "java/lang/invoke/VarHandle" ∧ (parseMethodDescriptor y_Dk_shape.desc).map (fun d => d.parameters.length) = some 2 := by decide +kernel
theorem q_Lw_record : y_Lw_record.cls ≠ "java/lang/invoke/MethodHandle" ∧ y_Lw_record.cls ≠ "java/lang/invoke/VarHandle" ∧ (parseMethodDescriptor y_Lw_record.desc).map (fun d => d.parameters.length) = some 4 := by decide +kernel
theorem q_Dk_record : y_Dk_record.cls ≠ "java/lang/invoke/MethodHandle" ∧ y_Dk_record.cls ≠ "java/lang/invoke/VarHandle" ∧ (parseMethodDescriptor y_Dk_record.desc).map (fun d => d.parameters.length) = some 2 := by decide +kernel
theorem q_Lw_byteAt : y_Lw_byteAt.cls ≠ "java/lang/invoke/MethodHandle" ∧ y_Lw_byteAt.cls ≠ "java/lang/invoke/VarHandle" ∧ (parseMethodDescriptor y_Lw_byteAt.desc).map (fun d => d.parameters.length) = some 3 := by decide +kernel
theorem q_Dk_byteAt : y_Dk_byteAt.cls ≠ "java/lang/invoke/MethodHandle" ∧ y_Dk_byteAt.cls ≠ "java/lang/invoke/VarHandle" ∧ (parseMethodDescriptor y_Dk_byteAt.desc).map (fun d => d.parameters.length) = some 1 := by decide +kernel
theorem q_Pa_packed : y_Pa_packed.cls ≠ "java/lang/invoke/MethodHandle" ∧ y_Pa_packed.cls ≠ "java/lang/invoke/VarHandle" ∧ (parseMethodDescriptor y_Pa_packed.desc).map (fun d => d.parameters.length) = some 1 := by decide +kernel
theorem q_Pa_digitsOf : y_Pa_digitsOf.cls ≠ "java/lang/invoke/MethodHandle" ∧ y_Pa_digitsOf.cls ≠ "java/lang/invoke/VarHandle" ∧ (parseMethodDescriptor y_Pa_digitsOf.desc).map (fun d => d.parameters.length) = some 1 := by decide +kernel
theorem q_Lw_load : y_Lw_load.cls ≠ "java/lang/invoke/MethodHandle" ∧ y_Lw_load.cls ≠ "java/lang/invoke/VarHandle" ∧ (parseMethodDescriptor y_Lw_load.desc).map (fun d => d.parameters.length) = some 4 := by decide +kernel
theorem q_Dk_load : y_Dk_load.cls ≠ "java/lang/invoke/MethodHandle" ∧ y_Dk_load.cls ≠ "java/lang/invoke/VarHandle" ∧ (parseMethodDescriptor y_Dk_load.desc).map (fun d => d.parameters.length) = some 2 := by decide +kernel
theorem q_Lw_under : y_Lw_under.cls ≠ "java/lang/invoke/MethodHandle" ∧ y_Lw_under.cls ≠ "java/lang/invoke/VarHandle" ∧ (parseMethodDescriptor y_Lw_under.desc).map (fun d => d.parameters.length) = some 4 := by decide +kernel
theorem q_Dk_under : y_Dk_under.cls ≠ "java/lang/invoke/MethodHandle" ∧ y_Dk_under.cls ≠ "java/lang/invoke/VarHandle" ∧ (parseMethodDescriptor y_Dk_under.desc).map (fun d => d.parameters.length) = some 2 := by decide +kernel
theorem q_Lw_needle : y_Lw_needle.cls ≠ "java/lang/invoke/MethodHandle" ∧ y_Lw_needle.cls ≠ "java/lang/invoke/VarHandle" ∧ (parseMethodDescriptor y_Lw_needle.desc).map (fun d => d.parameters.length) = some 4 := by decide +kernel
theorem q_Dk_needle : y_Dk_needle.cls ≠ "java/lang/invoke/MethodHandle" ∧ y_Dk_needle.cls ≠ "java/lang/invoke/VarHandle" ∧ (parseMethodDescriptor y_Dk_needle.desc).map (fun d => d.parameters.length) = some 2 := by decide +kernel
theorem q_Mo_init : y_Mo_init.cls ≠ "java/lang/invoke/MethodHandle" ∧ y_Mo_init.cls ≠ "java/lang/invoke/VarHandle" ∧ (parseMethodDescriptor y_Mo_init.desc).map (fun d => d.parameters.length) = some 0 := by decide +kernel
theorem q_Mo_thrown : y_Mo_thrown.cls ≠ "java/lang/invoke/MethodHandle" ∧ y_Mo_thrown.cls ≠ "java/lang/invoke/VarHandle" ∧ (parseMethodDescriptor y_Mo_thrown.desc).map (fun d => d.parameters.length) = some 0 := by decide +kernel
theorem q_Mo_begin : y_Mo_begin.cls ≠ "java/lang/invoke/MethodHandle" ∧ y_Mo_begin.cls ≠ "java/lang/invoke/VarHandle" ∧ (parseMethodDescriptor y_Mo_begin.desc).map (fun d => d.parameters.length) = some 4 := by decide +kernel
theorem q_Mo_corner : y_Mo_corner.cls ≠ "java/lang/invoke/MethodHandle" ∧ y_Mo_corner.cls ≠ "java/lang/invoke/VarHandle" ∧ (parseMethodDescriptor y_Mo_corner.desc).map (fun d => d.parameters.length) = some 3 := by decide +kernel
theorem q_Mo_isPlace : y_Mo_isPlace.cls ≠ "java/lang/invoke/MethodHandle" ∧ y_Mo_isPlace.cls ≠ "java/lang/invoke/VarHandle" ∧ (parseMethodDescriptor y_Mo_isPlace.desc).map (fun d => d.parameters.length) = some 2 := by decide +kernel
theorem q_Mo_oneMore : y_Mo_oneMore.cls ≠ "java/lang/invoke/MethodHandle" ∧ y_Mo_oneMore.cls ≠ "java/lang/invoke/VarHandle" ∧ (parseMethodDescriptor y_Mo_oneMore.desc).map (fun d => d.parameters.length) = some 3 := by decide +kernel
theorem q_Mo_rail : y_Mo_rail.cls ≠ "java/lang/invoke/MethodHandle" ∧ y_Mo_rail.cls ≠ "java/lang/invoke/VarHandle" ∧ (parseMethodDescriptor y_Mo_rail.desc).map (fun d => d.parameters.length) = some 3 := by decide +kernel
theorem q_Mo_end : y_Mo_end.cls ≠ "java/lang/invoke/MethodHandle" ∧ y_Mo_end.cls ≠ "java/lang/invoke/VarHandle" ∧ (parseMethodDescriptor y_Mo_end.desc).map (fun d => d.parameters.length) = some 0 := by decide +kernel
theorem q_Mo_findFault : y_Mo_findFault.cls ≠ "java/lang/invoke/MethodHandle" ∧ y_Mo_findFault.cls ≠ "java/lang/invoke/VarHandle" ∧ (parseMethodDescriptor y_Mo_findFault.desc).map (fun d => d.parameters.length) = some 0 := by decide +kernel
theorem q_Mo_flat : y_Mo_flat.cls ≠ "java/lang/invoke/MethodHandle" ∧ y_Mo_flat.cls ≠ "java/lang/invoke/VarHandle" ∧ (parseMethodDescriptor y_Mo_flat.desc).map (fun d => d.parameters.length) = some 0 := by decide +kernel
theorem q_Mo_turn : y_Mo_turn.cls ≠ "java/lang/invoke/MethodHandle" ∧ y_Mo_turn.cls ≠ "java/lang/invoke/VarHandle" ∧ (parseMethodDescriptor y_Mo_turn.desc).map (fun d => d.parameters.length) = some 6 := by decide +kernel
theorem q_Mo_edgesOf : y_Mo_edgesOf.cls ≠ "java/lang/invoke/MethodHandle" ∧ y_Mo_edgesOf.cls ≠ "java/lang/invoke/VarHandle" ∧ (parseMethodDescriptor y_Mo_edgesOf.desc).map (fun d => d.parameters.length) = some 1 := by decide +kernel
theorem q_Mo_railCorner : y_Mo_railCorner.cls ≠ "java/lang/invoke/MethodHandle" ∧ y_Mo_railCorner.cls ≠ "java/lang/invoke/VarHandle" ∧ (parseMethodDescriptor y_Mo_railCorner.desc).map (fun d => d.parameters.length) = some 2 := by decide +kernel
theorem q_Mo_edge : y_Mo_edge.cls ≠ "java/lang/invoke/MethodHandle" ∧ y_Mo_edge.cls ≠ "java/lang/invoke/VarHandle" ∧ (parseMethodDescriptor y_Mo_edge.desc).map (fun d => d.parameters.length) = some 6 := by decide +kernel
theorem q_Mo_crossed : y_Mo_crossed.cls ≠ "java/lang/invoke/MethodHandle" ∧ y_Mo_crossed.cls ≠ "java/lang/invoke/VarHandle" ∧ (parseMethodDescriptor y_Mo_crossed.desc).map (fun d => d.parameters.length) = some 2 := by decide +kernel
theorem q_Mo_touch : y_Mo_touch.cls ≠ "java/lang/invoke/MethodHandle" ∧ y_Mo_touch.cls ≠ "java/lang/invoke/VarHandle" ∧ (parseMethodDescriptor y_Mo_touch.desc).map (fun d => d.parameters.length) = some 2 := by decide +kernel
theorem q_Mo_onEdge : y_Mo_onEdge.cls ≠ "java/lang/invoke/MethodHandle" ∧ y_Mo_onEdge.cls ≠ "java/lang/invoke/VarHandle" ∧ (parseMethodDescriptor y_Mo_onEdge.desc).map (fun d => d.parameters.length) = some 3 := by decide +kernel
theorem q_Mo_size : y_Mo_size.cls ≠ "java/lang/invoke/MethodHandle" ∧ y_Mo_size.cls ≠ "java/lang/invoke/VarHandle" ∧ (parseMethodDescriptor y_Mo_size.desc).map (fun d => d.parameters.length) = some 1 := by decide +kernel
theorem q_Mo_sign : y_Mo_sign.cls ≠ "java/lang/invoke/MethodHandle" ∧ y_Mo_sign.cls ≠ "java/lang/invoke/VarHandle" ∧ (parseMethodDescriptor y_Mo_sign.desc).map (fun d => d.parameters.length) = some 1 := by decide +kernel
theorem q_Mo_folded : y_Mo_folded.cls ≠ "java/lang/invoke/MethodHandle" ∧ y_Mo_folded.cls ≠ "java/lang/invoke/VarHandle" ∧ (parseMethodDescriptor y_Mo_folded.desc).map (fun d => d.parameters.length) = some 2 := by decide +kernel
theorem q_Mo_inside : y_Mo_inside.cls ≠ "java/lang/invoke/MethodHandle" ∧ y_Mo_inside.cls ≠ "java/lang/invoke/VarHandle" ∧ (parseMethodDescriptor y_Mo_inside.desc).map (fun d => d.parameters.length) = some 3 := by decide +kernel
theorem q_Mo_passes : y_Mo_passes.cls ≠ "java/lang/invoke/MethodHandle" ∧ y_Mo_passes.cls ≠ "java/lang/invoke/VarHandle" ∧ (parseMethodDescriptor y_Mo_passes.desc).map (fun d => d.parameters.length) = some 3 := by decide +kernel
theorem q_Mo_fault : y_Mo_fault.cls ≠ "java/lang/invoke/MethodHandle" ∧ y_Mo_fault.cls ≠ "java/lang/invoke/VarHandle" ∧ (parseMethodDescriptor y_Mo_fault.desc).map (fun d => d.parameters.length) = some 1 := by decide +kernel
theorem q_Mo_shape : y_Mo_shape.cls ≠ "java/lang/invoke/MethodHandle" ∧ y_Mo_shape.cls ≠ "java/lang/invoke/VarHandle" ∧ (parseMethodDescriptor y_Mo_shape.desc).map (fun d => d.parameters.length) = some 2 := by decide +kernel
theorem q_Mo_runsOf : y_Mo_runsOf.cls ≠ "java/lang/invoke/MethodHandle" ∧ y_Mo_runsOf.cls ≠ "java/lang/invoke/VarHandle" ∧ (parseMethodDescriptor y_Mo_runsOf.desc).map (fun d => d.parameters.length) = some 2 := by decide +kernel
theorem q_Mo_hatch : y_Mo_hatch.cls ≠ "java/lang/invoke/MethodHandle" ∧ y_Mo_hatch.cls ≠ "java/lang/invoke/VarHandle" ∧ (parseMethodDescriptor y_Mo_hatch.desc).map (fun d => d.parameters.length) = some 1 := by decide +kernel
theorem q_Mo_down : y_Mo_down.cls ≠ "java/lang/invoke/MethodHandle" ∧ y_Mo_down.cls ≠ "java/lang/invoke/VarHandle" ∧ (parseMethodDescriptor y_Mo_down.desc).map (fun d => d.parameters.length) = some 2 := by decide +kernel
theorem q_Mo_line : y_Mo_line.cls ≠ "java/lang/invoke/MethodHandle" ∧ y_Mo_line.cls ≠ "java/lang/invoke/VarHandle" ∧ (parseMethodDescriptor y_Mo_line.desc).map (fun d => d.parameters.length) = some 4 := by decide +kernel
theorem q_Mo_xOf : y_Mo_xOf.cls ≠ "java/lang/invoke/MethodHandle" ∧ y_Mo_xOf.cls ≠ "java/lang/invoke/VarHandle" ∧ (parseMethodDescriptor y_Mo_xOf.desc).map (fun d => d.parameters.length) = some 3 := by decide +kernel
theorem q_Mo_yOf : y_Mo_yOf.cls ≠ "java/lang/invoke/MethodHandle" ∧ y_Mo_yOf.cls ≠ "java/lang/invoke/VarHandle" ∧ (parseMethodDescriptor y_Mo_yOf.desc).map (fun d => d.parameters.length) = some 3 := by decide +kernel
theorem q_Mo_in : y_Mo_in.cls ≠ "java/lang/invoke/MethodHandle" ∧ y_Mo_in.cls ≠ "java/lang/invoke/VarHandle" ∧ (parseMethodDescriptor y_Mo_in.desc).map (fun d => d.parameters.length) = some 2 := by decide +kernel
theorem q_Mo_comes : y_Mo_comes.cls ≠ "java/lang/invoke/MethodHandle" ∧ y_Mo_comes.cls ≠ "java/lang/invoke/VarHandle" ∧ (parseMethodDescriptor y_Mo_comes.desc).map (fun d => d.parameters.length) = some 4 := by decide +kernel
theorem q_Mo_move : y_Mo_move.cls ≠ "java/lang/invoke/MethodHandle" ∧ y_Mo_move.cls ≠ "java/lang/invoke/VarHandle" ∧ (parseMethodDescriptor y_Mo_move.desc).map (fun d => d.parameters.length) = some 3 := by decide +kernel
theorem q_Mo_stepsTo : y_Mo_stepsTo.cls ≠ "java/lang/invoke/MethodHandle" ∧ y_Mo_stepsTo.cls ≠ "java/lang/invoke/VarHandle" ∧ (parseMethodDescriptor y_Mo_stepsTo.desc).map (fun d => d.parameters.length) = some 2 := by decide +kernel
theorem q_Mo_greater : y_Mo_greater.cls ≠ "java/lang/invoke/MethodHandle" ∧ y_Mo_greater.cls ≠ "java/lang/invoke/VarHandle" ∧ (parseMethodDescriptor y_Mo_greater.desc).map (fun d => d.parameters.length) = some 2 := by decide +kernel
theorem q_Mo_step : y_Mo_step.cls ≠ "java/lang/invoke/MethodHandle" ∧ y_Mo_step.cls ≠ "java/lang/invoke/VarHandle" ∧ (parseMethodDescriptor y_Mo_step.desc).map (fun d => d.parameters.length) = some 3 := by decide +kernel
theorem q_Mo_leap : y_Mo_leap.cls ≠ "java/lang/invoke/MethodHandle" ∧ y_Mo_leap.cls ≠ "java/lang/invoke/VarHandle" ∧ (parseMethodDescriptor y_Mo_leap.desc).map (fun d => d.parameters.length) = some 2 := by decide +kernel
theorem q_Mo_stepsIn : y_Mo_stepsIn.cls ≠ "java/lang/invoke/MethodHandle" ∧ y_Mo_stepsIn.cls ≠ "java/lang/invoke/VarHandle" ∧ (parseMethodDescriptor y_Mo_stepsIn.desc).map (fun d => d.parameters.length) = some 2 := by decide +kernel
theorem q_Mo_satin : y_Mo_satin.cls ≠ "java/lang/invoke/MethodHandle" ∧ y_Mo_satin.cls ≠ "java/lang/invoke/VarHandle" ∧ (parseMethodDescriptor y_Mo_satin.desc).map (fun d => d.parameters.length) = some 1 := by decide +kernel
theorem q_Mo_outline : y_Mo_outline.cls ≠ "java/lang/invoke/MethodHandle" ∧ y_Mo_outline.cls ≠ "java/lang/invoke/VarHandle" ∧ (parseMethodDescriptor y_Mo_outline.desc).map (fun d => d.parameters.length) = some 1 := by decide +kernel
theorem q_Mo_count : y_Mo_count.cls ≠ "java/lang/invoke/MethodHandle" ∧ y_Mo_count.cls ≠ "java/lang/invoke/VarHandle" ∧ (parseMethodDescriptor y_Mo_count.desc).map (fun d => d.parameters.length) = some 1 := by decide +kernel
theorem q_Mo_stitch : y_Mo_stitch.cls ≠ "java/lang/invoke/MethodHandle" ∧ y_Mo_stitch.cls ≠ "java/lang/invoke/VarHandle" ∧ (parseMethodDescriptor y_Mo_stitch.desc).map (fun d => d.parameters.length) = some 0 := by decide +kernel
theorem q_Mo_record : y_Mo_record.cls ≠ "java/lang/invoke/MethodHandle" ∧ y_Mo_record.cls ≠ "java/lang/invoke/VarHandle" ∧ (parseMethodDescriptor y_Mo_record.desc).map (fun d => d.parameters.length) = some 2 := by decide +kernel
theorem q_Mo_byteAt : y_Mo_byteAt.cls ≠ "java/lang/invoke/MethodHandle" ∧ y_Mo_byteAt.cls ≠ "java/lang/invoke/VarHandle" ∧ (parseMethodDescriptor y_Mo_byteAt.desc).map (fun d => d.parameters.length) = some 1 := by decide +kernel
theorem q_Mo_digits : y_Mo_digits.cls ≠ "java/lang/invoke/MethodHandle" ∧ y_Mo_digits.cls ≠ "java/lang/invoke/VarHandle" ∧ (parseMethodDescriptor y_Mo_digits.desc).map (fun d => d.parameters.length) = some 1 := by decide +kernel
theorem q_Mo_load : y_Mo_load.cls ≠ "java/lang/invoke/MethodHandle" ∧ y_Mo_load.cls ≠ "java/lang/invoke/VarHandle" ∧ (parseMethodDescriptor y_Mo_load.desc).map (fun d => d.parameters.length) = some 2 := by decide +kernel
theorem q_Mo_decode : y_Mo_decode.cls ≠ "java/lang/invoke/MethodHandle" ∧ y_Mo_decode.cls ≠ "java/lang/invoke/VarHandle" ∧ (parseMethodDescriptor y_Mo_decode.desc).map (fun d => d.parameters.length) = some 0 := by decide +kernel
theorem q_Mo_group : y_Mo_group.cls ≠ "java/lang/invoke/MethodHandle" ∧ y_Mo_group.cls ≠ "java/lang/invoke/VarHandle" ∧ (parseMethodDescriptor y_Mo_group.desc).map (fun d => d.parameters.length) = some 1 := by decide +kernel
theorem q_Mo_number : y_Mo_number.cls ≠ "java/lang/invoke/MethodHandle" ∧ y_Mo_number.cls ≠ "java/lang/invoke/VarHandle" ∧ (parseMethodDescriptor y_Mo_number.desc).map (fun d => d.parameters.length) = some 1 := by decide +kernel
theorem q_Mo_reorder : y_Mo_reorder.cls ≠ "java/lang/invoke/MethodHandle" ∧ y_Mo_reorder.cls ≠ "java/lang/invoke/VarHandle" ∧ (parseMethodDescriptor y_Mo_reorder.desc).map (fun d => d.parameters.length) = some 0 := by decide +kernel
theorem q_Mo_findLeft : y_Mo_findLeft.cls ≠ "java/lang/invoke/MethodHandle" ∧ y_Mo_findLeft.cls ≠ "java/lang/invoke/VarHandle" ∧ (parseMethodDescriptor y_Mo_findLeft.desc).map (fun d => d.parameters.length) = some 0 := by decide +kernel
theorem q_Mo_mayCome : y_Mo_mayCome.cls ≠ "java/lang/invoke/MethodHandle" ∧ y_Mo_mayCome.cls ≠ "java/lang/invoke/VarHandle" ∧ (parseMethodDescriptor y_Mo_mayCome.desc).map (fun d => d.parameters.length) = some 2 := by decide +kernel
theorem q_Mo_meetBoxes : y_Mo_meetBoxes.cls ≠ "java/lang/invoke/MethodHandle" ∧ y_Mo_meetBoxes.cls ≠ "java/lang/invoke/VarHandle" ∧ (parseMethodDescriptor y_Mo_meetBoxes.desc).map (fun d => d.parameters.length) = some 2 := by decide +kernel
theorem q_Mo_costOf : y_Mo_costOf.cls ≠ "java/lang/invoke/MethodHandle" ∧ y_Mo_costOf.cls ≠ "java/lang/invoke/VarHandle" ∧ (parseMethodDescriptor y_Mo_costOf.desc).map (fun d => d.parameters.length) = some 3 := by decide +kernel
theorem q_Mo_order : y_Mo_order.cls ≠ "java/lang/invoke/MethodHandle" ∧ y_Mo_order.cls ≠ "java/lang/invoke/VarHandle" ∧ (parseMethodDescriptor y_Mo_order.desc).map (fun d => d.parameters.length) = some 1 := by decide +kernel
theorem q_Mo_thread : y_Mo_thread.cls ≠ "java/lang/invoke/MethodHandle" ∧ y_Mo_thread.cls ≠ "java/lang/invoke/VarHandle" ∧ (parseMethodDescriptor y_Mo_thread.desc).map (fun d => d.parameters.length) = some 1 := by decide +kernel
theorem q_Mo_rootUp : y_Mo_rootUp.cls ≠ "java/lang/invoke/MethodHandle" ∧ y_Mo_rootUp.cls ≠ "java/lang/invoke/VarHandle" ∧ (parseMethodDescriptor y_Mo_rootUp.desc).map (fun d => d.parameters.length) = some 1 := by decide +kernel
theorem q_Mo_under : y_Mo_under.cls ≠ "java/lang/invoke/MethodHandle" ∧ y_Mo_under.cls ≠ "java/lang/invoke/VarHandle" ∧ (parseMethodDescriptor y_Mo_under.desc).map (fun d => d.parameters.length) = some 2 := by decide +kernel
theorem q_Mo_needle : y_Mo_needle.cls ≠ "java/lang/invoke/MethodHandle" ∧ y_Mo_needle.cls ≠ "java/lang/invoke/VarHandle" ∧ (parseMethodDescriptor y_Mo_needle.desc).map (fun d => d.parameters.length) = some 2 := by decide +kernel
theorem q_Mo_hoop : y_Mo_hoop.cls ≠ "java/lang/invoke/MethodHandle" ∧ y_Mo_hoop.cls ≠ "java/lang/invoke/VarHandle" ∧ (parseMethodDescriptor y_Mo_hoop.desc).map (fun d => d.parameters.length) = some 2 := by decide +kernel
theorem q_Mo_stop : y_Mo_stop.cls ≠ "java/lang/invoke/MethodHandle" ∧ y_Mo_stop.cls ≠ "java/lang/invoke/VarHandle" ∧ (parseMethodDescriptor y_Mo_stop.desc).map (fun d => d.parameters.length) = some 1 := by decide +kernel
/-! CONTRACTS over the memory: cP reads; cI answers an int and changes the memory; cV changes it -/
def cP (y : MethodName) (cc : ByteArray) (mL : Nat) (ret : Option FieldType) (fr lo : Nat) (F : Nat → Nat → Int) (G : Nat → Int → Int) (av : (Nat → Nat) → List Value) (post : Int → Prop) : Prop :=
  ∀ (s0 : State) (a0 : Array Value) (D : va_G) (t : Nat → ClassId) (ad : Nat → Nat), gP s0 a0 D t y cc mL ret fr lo ad 265 (mem ad t F G) (av ad) post
def cI (y : MethodName) (cc : ByteArray) (mL : Nat) (ret : Option FieldType) (fr lo : Nat) (F : Nat → Nat → Int) (G : Nat → Int → Int) (av : (Nat → Nat) → List Value) (post : Int → (Nat → Nat → Int) → (Nat → Int → Int) → Prop) : Prop :=
  ∀ (s0 : State) (a0 : Array Value) (D : va_G) (t : Nat → ClassId) (ad : Nat → Nat), gI s0 a0 D t y cc mL ret fr lo ad 265 (mem ad t F G) (av ad) (fun z ce' => ∃ F' G', ce' = mem ad t F' G' ∧ post z F' G')
def cV (y : MethodName) (cc : ByteArray) (mL : Nat) (ret : Option FieldType) (fr lo : Nat) (F : Nat → Nat → Int) (G : Nat → Int → Int) (av : (Nat → Nat) → List Value) (post : (Nat → Nat → Int) → (Nat → Int → Int) → Prop) : Prop :=
  ∀ (s0 : State) (a0 : Array Value) (D : va_G) (t : Nat → ClassId) (ad : Nat → Nat), gV s0 a0 D t y cc mL ret fr lo ad 265 (mem ad t F G) (av ad) (fun ce' => ∃ F' G', ce' = mem ad t F' G' ∧ post F' G')
end
section
/-! the entry of a JDK method, by plainFor -/
section GPF
variable {s0 : State} {a0 : Array Value} {D : va_G} {t : Nat → ClassId} {ad : Nat → Nat} {n : Nat} {ce : Nat → va_E}
theorem metOfWF {l : Launch} {y : MethodName} {ws ws' : List Cond} {rm : Room} {Pc : Array Value → State → Prop} {Qc : Array Value → State → Outcome → State → Prop} {mc ms : Nat} {free : Addr → Prop} {cc : ByteArray} {maxL : Nat} {ret : Option FieldType}
    (hy : plainFor y = true) (hw : ws = Cond.code y cc maxL ret :: ws')
    (body : ∀ p e s m args below meth c s₁, BodyLoose p l y (headSpec ws rm) cc maxL ret e s m args below meth c s₁ → c.maxLocals = maxL → Pc args s →
      W p l e (headSpec ws rm).room s m args below meth c s.heap [] 0 0 (MQ below Qc args s mc ms free) (entryFrame m args maxL)) : Met l y ws rm Pc Qc mc ms free := by
  refine MetFree.of_bodySF (code := cc) (maxLocals := maxL) (ret := ret) hy ?_ ?_
  · intro args s m h hn
    obtain ⟨meth, c, h1, h2, h3, h4, h5, h6, -, -⟩ := Cond.code_spec hn (atoms_spec (ws := ws) h _ (by rw [hw]; exact List.mem_cons_self))
    exact ⟨meth, c, h1, h2, h3, h4, h5, h6⟩
  · intro p e s m args below meth c s₁ B hml hP _
    have hh0 : s₁.heap = s.heap := by rw [B.state]; rfl
    obtain ⟨t, a1, o, b1, b2, b3⟩ := body p e s m args below meth c s₁ B hml hP s₁ hh0 (Stand.of_body B)
    exact ⟨t, o, a1, b1, b2, ⟨b3.1, b3.2⟩⟩
theorem g_startPF {y : MethodName} {cy : ByteArray} {mL : Nat} {rt : Option FieldType} {fr lo : Nat} {av : List Value} {post : Int → Prop} (hy : plainFor y = true) (hav : (lg_sl av).length ≤ mL)
    (body : ∀ (p : Program) (l : Launch) (e : Env) (R : Room) (s : State) (m : MethodId) (args : Array Value) (below : List Frame) (meth : Method) (c : Code) (A : Nat → Prop), gOk s0 a0 D t p R s m meth c A y.cls cy mL rt y.name fr lo 0 0 →
      gW p l e R s m args below meth c (MQ below (gQp post) args s 0 0 (fun _ => False)) D A mL (gZ0 s) 0 0 ad n ce 0 (lv_args 0 av) []) : gP s0 a0 D t y cy mL rt fr lo ad n ce av post := by
  intro hG l sz
  refine metOfWF (cc := cy) (maxL := mL) (ret := rt) hy rfl ?_
  intro p e s m args below meth c s₁ B hml hv
  obtain ⟨rfl, hsz, hw, ⟨ho1, ho2, ho3⟩, hP, hD⟩ := hv
  have hl := lv_entry av (n := mL) hav
  rw [lg_entry_eq]
  refine body p l e _ s m _ below meth c (va_A (wW ad n ce) sz) ⟨B.exec, B.bytes, hml, findClass_of_methodNamed B.named, hw, hG, fun q h => Or.inr (by rw [← hsz]; exact h), ⟨by rw [hsz]; exact ho1, ho2, fun q h => ?_⟩, ⟨Nat.le_refl _, Nat.le_refl _, Nat.le_refl _, Nat.le_refl _⟩, B.notSynchronized, B.returns, (name_of_methodNamed B.named B.method).1⟩ s.heap [] _ ⟨rfl, rfl⟩ hP hD.self va_S.rf hl
  rcases h with ⟨k, x, h⟩ | h
  · obtain ⟨h1, h2⟩ := wW_of h
    cases h2
    exact ho3 k h1
  · exact Nat.le_trans ho1 h
end GPF
end
section
/-! division, remainder, bits: of iI -/
theorem tdiv_rng {x y : Int} (hx : -2147483648 ≤ x ∧ x < 2147483648) (hy : 0 < y) : -2147483648 ≤ x.tdiv y ∧ x.tdiv y < 2147483648 := by
  rw [Int.tdiv_eq_ediv]
  rcases Int.le_total 0 x with h | h
  · have h1 := Int.ediv_le_self y h
    have h2 : 0 ≤ x / y := Int.ediv_nonneg h (by omega)
    rw [if_pos (Or.inl h)]
    omega
  · have h1 : x ≤ x / y := by
      rw [Int.le_ediv_iff_mul_le hy]
      have : x * y ≤ x * 1 := Int.mul_le_mul_of_nonpos_left h (by omega)
      omega
    have h2 : x / y ≤ 0 := by
      have : x / y ≤ 0 / y := Int.ediv_le_ediv hy h
      simpa using this
    have h3 : y.sign = 1 := Int.sign_eq_one_of_pos hy
    split <;> omega
theorem iI_ne0 {y : Int} (hy : 0 < y ∧ y < 2147483648) : ¬ iI y = 0 := by
  rw [iI_zero, iI_eq (by omega) (by omega)]
  omega
theorem iI_div {x y : Int} (hx : -2147483648 ≤ x ∧ x < 2147483648) (hy : 0 < y ∧ y < 2147483648) : iI x / iI y = iI (x.tdiv y) := by
  apply Int32.toInt_inj.mp
  have hne : iI y ≠ -1 := by
    intro h
    have h2 : (iI y).toInt = (-1 : Int32).toInt := by rw [h]
    rw [iI_toInt (by omega)] at h2
    have : (-1 : Int32).toInt = -1 := by decide
    omega
  rw [Int32.toInt_div_of_ne_right _ _ hne, iI_toInt hx, iI_toInt (by omega), iI_toInt (tdiv_rng hx hy.1)]
theorem iI_rem {x y : Int} (hx : -2147483648 ≤ x ∧ x < 2147483648) (hy : 0 < y ∧ y < 2147483648) : iI x - iI x / iI y * iI y = iI (x.tmod y) := by
  rw [iI_div hx hy, iI_mul, iI_sub, Int.tmod_def, Int.mul_comm]
def zxor (a b : Int) : Int := (iI a ^^^ iI b).toInt
theorem iI_xor (a b : Int) : iI a ^^^ iI b = iI (zxor a b) := iI_of _
theorem zxor_rng (a b : Int) : -2147483648 ≤ zxor a b ∧ zxor a b < 2147483648 := iI_rng _
theorem neg_msb (x : Int32) : x.toBitVec.msb = decide (x.toInt < 0) := by
  rw [BitVec.msb_eq_toInt]
  rfl
theorem zxor_neg {a b : Int} (ha : -2147483648 ≤ a ∧ a < 2147483648) (hb : 0 ≤ b ∧ b < 2147483648) : zxor a b < 0 ↔ a < 0 := by
  have h := neg_msb (iI a ^^^ iI b)
  rw [Int32.toBitVec_xor, BitVec.msb_xor, neg_msb, neg_msb, iI_toInt ha, iI_toInt (by omega)] at h
  have hb' : decide (b < 0) = false := decide_eq_false (by omega)
  rw [hb', Bool.xor_false] at h
  unfold zxor
  exact (decide_eq_decide.mp h).symm
theorem fdiv_lo {a b : Int} (hb : 0 < b) (h : 0 ≤ a ∨ b ∣ a) : a.tdiv b = a / b := by
  rw [Int.tdiv_eq_ediv, if_pos h]; omega
theorem fdiv_hi {a b : Int} (hb : 0 < b) (h : ¬ (0 ≤ a ∨ b ∣ a)) : a.tdiv b - 1 = a / b := by
  rw [Int.tdiv_eq_ediv, if_neg h, Int.sign_eq_one_of_pos hb]; omega
theorem tdiv_mul_rng {a b : Int} (ha : -2147483648 ≤ a ∧ a < 2147483648) (hb : 0 < b) : -2147483648 ≤ a.tdiv b * b ∧ a.tdiv b * b < 2147483648 := by
  have h1 := Int.tmod_def a b
  have h2 : a.tdiv b * b = a - a.tmod b := by rw [Int.mul_comm]; omega
  rcases Int.le_total 0 a with h | h
  · have := Int.tmod_nonneg b h
    have h3 : a.tmod b ≤ a := by
      rw [Int.tmod_eq_emod_of_nonneg h]
      have h5 := Int.ediv_nonneg h (show (0 : Int) ≤ b by omega)
      have h4 := Int.emod_add_mul_ediv a b
      have : 0 ≤ b * (a / b) := Int.mul_nonneg (by omega) h5
      omega
    omega
  · have h3 : (-a).tmod b = -(a.tmod b) := Int.neg_tmod a b
    have h4 := Int.tmod_nonneg b (show 0 ≤ -a by omega)
    have h5 : (-a).tmod b ≤ -a := by
      rw [Int.tmod_eq_emod_of_nonneg (by omega)]
      have h6 := Int.ediv_nonneg (show 0 ≤ -a by omega) (show (0 : Int) ≤ b by omega)
      have h7 := Int.emod_add_mul_ediv (-a) b
      have : 0 ≤ b * (-a / b) := Int.mul_nonneg (by omega) h6
      omega
    omega
end
section
/-! bits of iI: and with a mask, shifts, or of parts that don't overlap -/
theorem iI_nI (n : Nat) : iI (n : Int) = nI n := (iI_nat n).symm
theorem iI_ofNN {c : Int} (h : 0 ≤ c) : iI c = nI c.toNat := by
  rw [← iI_nI, Int.toNat_of_nonneg h]
theorem nx_or (a b : Nat) : nI a ||| nI b = nI (a ||| b) := by
  apply Int32.toBitVec_inj.mp
  rw [Int32.toBitVec_or]
  show BitVec.ofNat 32 a ||| BitVec.ofNat 32 b = BitVec.ofNat 32 (a ||| b)
  rw [BitVec.ofNat_or]
theorem nx_and (a b : Nat) : nI a &&& nI b = nI (a &&& b) := by
  apply Int32.toBitVec_inj.mp
  rw [Int32.toBitVec_and]
  show BitVec.ofNat 32 a &&& BitVec.ofNat 32 b = BitVec.ofNat 32 (a &&& b)
  rw [BitVec.ofNat_and]
theorem s_l : ∀ n, n < 32 → ((nI n &&& 31).toBitVec.smod 32).toNat = n := by decide +kernel
theorem iI_mask {c : Int} (k : Nat) (h : 0 ≤ c ∧ c < 2147483648) {m : Int} (hm : m = 2 ^ k - 1) (hk : k ≤ 30) : iI c &&& iI m = iI (c % 2 ^ k) := by
  have h1 : m = ((2 ^ k - 1 : Nat) : Int) := by
    rw [hm, Int.natCast_sub Nat.one_le_two_pow]
    simp
  rw [iI_ofNN h.1, h1, iI_nI, nx_and, Nat.and_two_pow_sub_one_eq_mod, ← iI_nI]
  congr 1
  rw [Int.natCast_emod, Int.toNat_of_nonneg h.1]
  simp
theorem iI_shr {c : Int} (k : Nat) (hk : k < 32) (h : 0 ≤ c ∧ c < 2147483648) {y : Int} (hy : y = k) : iI c >>> (iI y &&& 31) = iI (c / 2 ^ k) := by
  rw [hy, iI_nI, iI_ofNN h.1, pk_shrN (by omega) _ k (s_l k hk), ← iI_nI]
  congr 1
  rw [Int.natCast_ediv, Int.toNat_of_nonneg h.1]
  simp
theorem iI_shl {c : Int} (k : Nat) (hk : k < 32) (h : 0 ≤ c) (h2 : c * 2 ^ k < 4294967296) {y : Int} (hy : y = k) : iI c <<< (iI y &&& 31) = iI (c * 2 ^ k) := by
  have h3 : c.toNat * 2 ^ k < 2 ^ 32 := by
    have : ((c.toNat * 2 ^ k : Nat) : Int) < 4294967296 := by
      rw [Int.natCast_mul, Int.toNat_of_nonneg h]
      simpa using h2
    omega
  rw [hy, iI_nI, iI_ofNN h, pk_shlN _ k (s_l k hk) h3, ← iI_nI]
  congr 1
  rw [Int.natCast_mul, Int.toNat_of_nonneg h]
  simp
theorem iI_or {a b : Int} (k : Nat) (ha : 0 ≤ a) (hb : 0 ≤ b ∧ b < 2 ^ k) : iI (a * 2 ^ k) ||| iI b = iI (a * 2 ^ k + b) := by
  have hp : (0 : Int) ≤ a * 2 ^ k := Int.mul_nonneg ha (by have := Int.pow_nonneg (n := 2) (m := k) (by decide : (0 : Int) ≤ 2); exact this)
  have e1 : (a * 2 ^ k).toNat = 2 ^ k * a.toNat := by
    have : ((a * 2 ^ k).toNat : Int) = ((2 ^ k * a.toNat : Nat) : Int) := by
      rw [Int.toNat_of_nonneg hp, Int.natCast_mul, Int.toNat_of_nonneg ha, Int.mul_comm]
      simp
    exact Int.ofNat.inj this
  have hb2 : b.toNat < 2 ^ k := by
    have : (b.toNat : Int) < ((2 ^ k : Nat) : Int) := by
      rw [Int.toNat_of_nonneg hb.1]
      simpa using hb.2
    omega
  rw [iI_ofNN hp, iI_ofNN hb.1, nx_or, e1, ← Nat.two_pow_add_eq_or_of_lt hb2, ← iI_nI]
  congr 1
  rw [Int.natCast_add, Int.toNat_of_nonneg hb.1, ← e1, Int.toNat_of_nonneg hp]
theorem iI_or0 {b : Int} : iI 0 ||| iI b = iI b := by
  rw [← iI_zero, Int32.zero_or]
end
section
theorem d_Rg_next_0 : decode b_Rg_next 0 = .ok (.iload_n 1, 1) := by decide +kernel
theorem d_Rg_next_1 : decode b_Rg_next 1 = .ok (.iconst 1, 1) := by decide +kernel
theorem d_Rg_next_2 : decode b_Rg_next 2 = .ok (.iadd, 1) := by decide +kernel
theorem d_Rg_next_3 : decode b_Rg_next 3 = .ok (.aload_n 0, 1) := by decide +kernel
theorem d_Rg_next_4 : decode b_Rg_next 4 = .ok (.getfield 16, 3) := by decide +kernel
theorem d_Rg_next_7 : decode b_Rg_next 7 = .ok (.if_icmp .ge 9, 3) := by decide +kernel
theorem d_Rg_next_10 : decode b_Rg_next 10 = .ok (.iload_n 1, 1) := by decide +kernel
theorem d_Rg_next_11 : decode b_Rg_next 11 = .ok (.iconst 1, 1) := by decide +kernel
theorem d_Rg_next_12 : decode b_Rg_next 12 = .ok (.iadd, 1) := by decide +kernel
theorem d_Rg_next_13 : decode b_Rg_next 13 = .ok (.goto 4, 3) := by decide +kernel
theorem d_Rg_next_16 : decode b_Rg_next 16 = .ok (.iconst 0, 1) := by decide +kernel
theorem d_Rg_next_17 : decode b_Rg_next 17 = .ok (.ireturn, 1) := by decide +kernel
set_option maxHeartbeats 4000000 in
set_option maxRecDepth 100000 in
theorem c_Rg_next (F : Nat → Nat → Int) (G : Nat → Int → Int) (k : Nat) (i : Int) (hK : isRg k) (hi : 0 ≤ i ∧ i < 1000) (hs : 0 ≤ F k 2 ∧ F k 2 < 1000) : cP y_Rg_next b_Rg_next 2 (some .int) 0 0 F G (fun ad => [.ref (ad k), .int (iI i)]) (fun r => r = if i + 1 < F k 2 then i + 1 else 0) := by
  intro s0 a0 D t ad
  refine g_startP (by decide +kernel) (Nat.le_of_ble_eq_true rfl) (fun p l e R s m args below meth c A ok => ?_)
  show gW p l e R s m args below meth c _ D A 2 (gZ0 s) 0 0 ad 265 (mem ad t F G) 0 [(0, .ref (ad k)), (1, .int (iI i))] []
  refine g_iload_n ok d_Rg_next_0 rfl 1 rfl ?_
  refine g_iconst ok d_Rg_next_1 ?_
  refine g_iadd ok d_Rg_next_2 ?_
  refine g_aload_n ok d_Rg_next_3 rfl 0 rfl ?_
  refine gI_Rg_size ok _ hK k_54 d_Rg_next_4 ?_
  refine g_icmp_ge ok 16 d_Rg_next_7 (by decide) (by omega) (by omega) (fun h1 => ?_) (fun h1 => ?_)
  · refine g_iconst ok d_Rg_next_16 ?_
    exact g_ipret ok d_Rg_next_17 (by split <;> omega)
  · refine g_iload_n ok d_Rg_next_10 rfl 1 rfl ?_
    refine g_iconst ok d_Rg_next_11 ?_
    refine g_iadd ok d_Rg_next_12 ?_
    refine g_goto ok 17 d_Rg_next_13 (by decide) ?_
    exact g_ipret ok d_Rg_next_17 (by split <;> omega)
theorem d_Rg_clear_0 : decode b_Rg_clear 0 = .ok (.aload_n 0, 1) := by decide +kernel
theorem d_Rg_clear_1 : decode b_Rg_clear 1 = .ok (.iconst 0, 1) := by decide +kernel
theorem d_Rg_clear_2 : decode b_Rg_clear 2 = .ok (.putfield 16, 3) := by decide +kernel
theorem d_Rg_clear_5 : decode b_Rg_clear 5 = .ok (.return_, 1) := by decide +kernel
set_option maxHeartbeats 4000000 in
set_option maxRecDepth 100000 in
theorem c_Rg_clear (F : Nat → Nat → Int) (G : Nat → Int → Int) (k : Nat) (hK : isRg k) : cV y_Rg_clear b_Rg_clear 1 none 0 0 F G (fun ad => [.ref (ad k)]) (fun F' G' => F' = fU F k 2 0 ∧ G' = G) := by
  intro s0 a0 D t ad
  refine g_startV (by decide +kernel) (Nat.le_of_ble_eq_true rfl) (fun p l e R s m args below meth c A ok => ?_)
  show gW p l e R s m args below meth c _ D A 1 (gZ0 s) 0 0 ad 265 (mem ad t F G) 0 [(0, .ref (ad k))] []
  refine g_aload_n ok d_Rg_clear_0 rfl 0 rfl ?_
  refine g_iconst ok d_Rg_clear_1 ?_
  refine pI_Rg_size ok _ hK k_54 d_Rg_clear_2 ?_
  exact g_vret ok d_Rg_clear_5 ⟨_, _, rfl, rfl, rfl⟩
theorem d_Dk_isBelow_0 : decode b_Dk_isBelow 0 = .ok (.iload_n 0, 1) := by decide +kernel
theorem d_Dk_isBelow_1 : decode b_Dk_isBelow 1 = .ok (.ifCond .lt 12, 3) := by decide +kernel
theorem d_Dk_isBelow_4 : decode b_Dk_isBelow 4 = .ok (.iload_n 0, 1) := by decide +kernel
theorem d_Dk_isBelow_5 : decode b_Dk_isBelow 5 = .ok (.iload_n 1, 1) := by decide +kernel
theorem d_Dk_isBelow_6 : decode b_Dk_isBelow 6 = .ok (.if_icmp .ge 7, 3) := by decide +kernel
theorem d_Dk_isBelow_9 : decode b_Dk_isBelow 9 = .ok (.iconst 1, 1) := by decide +kernel
theorem d_Dk_isBelow_10 : decode b_Dk_isBelow 10 = .ok (.goto 4, 3) := by decide +kernel
theorem d_Dk_isBelow_13 : decode b_Dk_isBelow 13 = .ok (.iconst 0, 1) := by decide +kernel
theorem d_Dk_isBelow_14 : decode b_Dk_isBelow 14 = .ok (.ireturn, 1) := by decide +kernel
set_option maxHeartbeats 4000000 in
set_option maxRecDepth 100000 in
theorem c_Dk_isBelow (F : Nat → Nat → Int) (G : Nat → Int → Int) (a b : Int) (ha : -2147483648 ≤ a ∧ a < 2147483648) (hb : -2147483648 ≤ b ∧ b < 2147483648) : cP y_Dk_isBelow b_Dk_isBelow 2 (some .boolean) 0 0 F G (fun ad => [.int (iI a), .int (iI b)]) (fun r => r = if 0 ≤ a ∧ a < b then 1 else 0) := by
  intro s0 a0 D t ad
  refine g_startP (by decide +kernel) (Nat.le_of_ble_eq_true rfl) (fun p l e R s m args below meth c A ok => ?_)
  show gW p l e R s m args below meth c _ D A 2 (gZ0 s) 0 0 ad 265 (mem ad t F G) 0 [(0, .int (iI a)), (1, .int (iI b))] []
  refine g_iload_n ok d_Dk_isBelow_0 rfl 0 rfl ?_
  refine g_if_lt ok 13 d_Dk_isBelow_1 (by decide) (by omega) (fun h1 => ?_) (fun h1 => ?_)
  · refine g_iconst ok d_Dk_isBelow_13 ?_
    exact g_zpret ok d_Dk_isBelow_14 (by first | exact Or.inl rfl | exact Or.inr rfl | omega) (by split <;> omega)
  · refine g_iload_n ok d_Dk_isBelow_4 rfl 0 rfl ?_
    refine g_iload_n ok d_Dk_isBelow_5 rfl 1 rfl ?_
    refine g_icmp_ge ok 13 d_Dk_isBelow_6 (by decide) (by omega) (by omega) (fun h2 => ?_) (fun h2 => ?_)
    · refine g_iconst ok d_Dk_isBelow_13 ?_
      exact g_zpret ok d_Dk_isBelow_14 (by first | exact Or.inl rfl | exact Or.inr rfl | omega) (by split <;> omega)
    · refine g_iconst ok d_Dk_isBelow_9 ?_
      refine g_goto ok 14 d_Dk_isBelow_10 (by decide) ?_
      exact g_zpret ok d_Dk_isBelow_14 (by first | exact Or.inl rfl | exact Or.inr rfl | omega) (by split <;> omega)
theorem d_Dk_isPlace_0 : decode b_Dk_isPlace 0 = .ok (.iload_n 0, 1) := by decide +kernel
theorem d_Dk_isPlace_1 : decode b_Dk_isPlace 1 = .ok (.ifCond .lt 25, 3) := by decide +kernel
theorem d_Dk_isPlace_4 : decode b_Dk_isPlace 4 = .ok (.iload_n 0, 1) := by decide +kernel
theorem d_Dk_isPlace_5 : decode b_Dk_isPlace 5 = .ok (.sipush 600, 3) := by decide +kernel
theorem d_Dk_isPlace_8 : decode b_Dk_isPlace 8 = .ok (.if_icmp .gt 18, 3) := by decide +kernel
theorem d_Dk_isPlace_11 : decode b_Dk_isPlace 11 = .ok (.iload_n 1, 1) := by decide +kernel
theorem d_Dk_isPlace_12 : decode b_Dk_isPlace 12 = .ok (.ifCond .lt 14, 3) := by decide +kernel
theorem d_Dk_isPlace_15 : decode b_Dk_isPlace 15 = .ok (.iload_n 1, 1) := by decide +kernel
theorem d_Dk_isPlace_16 : decode b_Dk_isPlace 16 = .ok (.sipush 600, 3) := by decide +kernel
theorem d_Dk_isPlace_19 : decode b_Dk_isPlace 19 = .ok (.if_icmp .gt 7, 3) := by decide +kernel
theorem d_Dk_isPlace_22 : decode b_Dk_isPlace 22 = .ok (.iconst 1, 1) := by decide +kernel
theorem d_Dk_isPlace_23 : decode b_Dk_isPlace 23 = .ok (.goto 4, 3) := by decide +kernel
theorem d_Dk_isPlace_26 : decode b_Dk_isPlace 26 = .ok (.iconst 0, 1) := by decide +kernel
theorem d_Dk_isPlace_27 : decode b_Dk_isPlace 27 = .ok (.ireturn, 1) := by decide +kernel
set_option maxHeartbeats 4000000 in
set_option maxRecDepth 100000 in
theorem c_Dk_isPlace (F : Nat → Nat → Int) (G : Nat → Int → Int) (x y : Int) (hx : -2147483648 ≤ x ∧ x < 2147483648) (hy : -2147483648 ≤ y ∧ y < 2147483648) : cP y_Dk_isPlace b_Dk_isPlace 2 (some .boolean) 0 0 F G (fun ad => [.int (iI x), .int (iI y)]) (fun r => r = if 0 ≤ x ∧ x ≤ 600 ∧ 0 ≤ y ∧ y ≤ 600 then 1 else 0) := by
  intro s0 a0 D t ad
  refine g_startP (by decide +kernel) (Nat.le_of_ble_eq_true rfl) (fun p l e R s m args below meth c A ok => ?_)
  show gW p l e R s m args below meth c _ D A 2 (gZ0 s) 0 0 ad 265 (mem ad t F G) 0 [(0, .int (iI x)), (1, .int (iI y))] []
  refine g_iload_n ok d_Dk_isPlace_0 rfl 0 rfl ?_
  refine g_if_lt ok 26 d_Dk_isPlace_1 (by decide) (by omega) (fun h1 => ?_) (fun h1 => ?_)
  · refine g_iconst ok d_Dk_isPlace_26 ?_
    exact g_zpret ok d_Dk_isPlace_27 (by first | exact Or.inl rfl | exact Or.inr rfl | omega) (by split <;> omega)
  · refine g_iload_n ok d_Dk_isPlace_4 rfl 0 rfl ?_
    refine g_sipush ok (by decide) d_Dk_isPlace_5 ?_
    refine g_icmp_gt ok 26 d_Dk_isPlace_8 (by decide) (by omega) (by omega) (fun h2 => ?_) (fun h2 => ?_)
    · refine g_iconst ok d_Dk_isPlace_26 ?_
      exact g_zpret ok d_Dk_isPlace_27 (by first | exact Or.inl rfl | exact Or.inr rfl | omega) (by split <;> omega)
    · refine g_iload_n ok d_Dk_isPlace_11 rfl 1 rfl ?_
      refine g_if_lt ok 26 d_Dk_isPlace_12 (by decide) (by omega) (fun h3 => ?_) (fun h3 => ?_)
      · refine g_iconst ok d_Dk_isPlace_26 ?_
        exact g_zpret ok d_Dk_isPlace_27 (by first | exact Or.inl rfl | exact Or.inr rfl | omega) (by split <;> omega)
      · refine g_iload_n ok d_Dk_isPlace_15 rfl 1 rfl ?_
        refine g_sipush ok (by decide) d_Dk_isPlace_16 ?_
        refine g_icmp_gt ok 26 d_Dk_isPlace_19 (by decide) (by omega) (by omega) (fun h4 => ?_) (fun h4 => ?_)
        · refine g_iconst ok d_Dk_isPlace_26 ?_
          exact g_zpret ok d_Dk_isPlace_27 (by first | exact Or.inl rfl | exact Or.inr rfl | omega) (by split <;> omega)
        · refine g_iconst ok d_Dk_isPlace_22 ?_
          refine g_goto ok 27 d_Dk_isPlace_23 (by decide) ?_
          exact g_zpret ok d_Dk_isPlace_27 (by first | exact Or.inl rfl | exact Or.inr rfl | omega) (by split <;> omega)
theorem d_Ma_max_0 : decode b_Ma_max 0 = .ok (.iload_n 0, 1) := by decide +kernel
theorem d_Ma_max_1 : decode b_Ma_max 1 = .ok (.iload_n 1, 1) := by decide +kernel
theorem d_Ma_max_2 : decode b_Ma_max 2 = .ok (.if_icmp .lt 7, 3) := by decide +kernel
theorem d_Ma_max_5 : decode b_Ma_max 5 = .ok (.iload_n 0, 1) := by decide +kernel
theorem d_Ma_max_6 : decode b_Ma_max 6 = .ok (.goto 4, 3) := by decide +kernel
theorem d_Ma_max_9 : decode b_Ma_max 9 = .ok (.iload_n 1, 1) := by decide +kernel
theorem d_Ma_max_10 : decode b_Ma_max 10 = .ok (.ireturn, 1) := by decide +kernel
set_option maxHeartbeats 4000000 in
set_option maxRecDepth 100000 in
theorem c_Ma_max (F : Nat → Nat → Int) (G : Nat → Int → Int) (a b : Int) (ha : -2147483648 ≤ a ∧ a < 2147483648) (hb : -2147483648 ≤ b ∧ b < 2147483648) : cP y_Ma_max b_Ma_max 2 (some .int) 0 0 F G (fun ad => [.int (iI a), .int (iI b)]) (fun r => r = max a b) := by
  intro s0 a0 D t ad
  refine g_startPF (by decide +kernel) (Nat.le_of_ble_eq_true rfl) (fun p l e R s m args below meth c A ok => ?_)
  show gW p l e R s m args below meth c _ D A 2 (gZ0 s) 0 0 ad 265 (mem ad t F G) 0 [(0, .int (iI a)), (1, .int (iI b))] []
  refine g_iload_n ok d_Ma_max_0 rfl 0 rfl ?_
  refine g_iload_n ok d_Ma_max_1 rfl 1 rfl ?_
  refine g_icmp_lt ok 9 d_Ma_max_2 (by decide) (by omega) (by omega) (fun h1 => ?_) (fun h1 => ?_)
  · refine g_iload_n ok d_Ma_max_9 rfl 1 rfl ?_
    exact g_ipret ok d_Ma_max_10 (by omega)
  · refine g_iload_n ok d_Ma_max_5 rfl 0 rfl ?_
    refine g_goto ok 10 d_Ma_max_6 (by decide) ?_
    exact g_ipret ok d_Ma_max_10 (by omega)
theorem d_Ma_min_0 : decode b_Ma_min 0 = .ok (.iload_n 0, 1) := by decide +kernel
theorem d_Ma_min_1 : decode b_Ma_min 1 = .ok (.iload_n 1, 1) := by decide +kernel
theorem d_Ma_min_2 : decode b_Ma_min 2 = .ok (.if_icmp .gt 7, 3) := by decide +kernel
theorem d_Ma_min_5 : decode b_Ma_min 5 = .ok (.iload_n 0, 1) := by decide +kernel
theorem d_Ma_min_6 : decode b_Ma_min 6 = .ok (.goto 4, 3) := by decide +kernel
theorem d_Ma_min_9 : decode b_Ma_min 9 = .ok (.iload_n 1, 1) := by decide +kernel
theorem d_Ma_min_10 : decode b_Ma_min 10 = .ok (.ireturn, 1) := by decide +kernel
set_option maxHeartbeats 4000000 in
set_option maxRecDepth 100000 in
theorem c_Ma_min (F : Nat → Nat → Int) (G : Nat → Int → Int) (a b : Int) (ha : -2147483648 ≤ a ∧ a < 2147483648) (hb : -2147483648 ≤ b ∧ b < 2147483648) : cP y_Ma_min b_Ma_min 2 (some .int) 0 0 F G (fun ad => [.int (iI a), .int (iI b)]) (fun r => r = min a b) := by
  intro s0 a0 D t ad
  refine g_startPF (by decide +kernel) (Nat.le_of_ble_eq_true rfl) (fun p l e R s m args below meth c A ok => ?_)
  show gW p l e R s m args below meth c _ D A 2 (gZ0 s) 0 0 ad 265 (mem ad t F G) 0 [(0, .int (iI a)), (1, .int (iI b))] []
  refine g_iload_n ok d_Ma_min_0 rfl 0 rfl ?_
  refine g_iload_n ok d_Ma_min_1 rfl 1 rfl ?_
  refine g_icmp_gt ok 9 d_Ma_min_2 (by decide) (by omega) (by omega) (fun h1 => ?_) (fun h1 => ?_)
  · refine g_iload_n ok d_Ma_min_9 rfl 1 rfl ?_
    exact g_ipret ok d_Ma_min_10 (by omega)
  · refine g_iload_n ok d_Ma_min_5 rfl 0 rfl ?_
    refine g_goto ok 10 d_Ma_min_6 (by decide) ?_
    exact g_ipret ok d_Ma_min_10 (by omega)
theorem d_Ma_abs_0 : decode b_Ma_abs 0 = .ok (.iload_n 0, 1) := by decide +kernel
theorem d_Ma_abs_1 : decode b_Ma_abs 1 = .ok (.ifCond .ge 8, 3) := by decide +kernel
theorem d_Ma_abs_4 : decode b_Ma_abs 4 = .ok (.iload_n 0, 1) := by decide +kernel
theorem d_Ma_abs_5 : decode b_Ma_abs 5 = .ok (.ineg, 1) := by decide +kernel
theorem d_Ma_abs_6 : decode b_Ma_abs 6 = .ok (.goto 4, 3) := by decide +kernel
theorem d_Ma_abs_9 : decode b_Ma_abs 9 = .ok (.iload_n 0, 1) := by decide +kernel
theorem d_Ma_abs_10 : decode b_Ma_abs 10 = .ok (.ireturn, 1) := by decide +kernel
set_option maxHeartbeats 4000000 in
set_option maxRecDepth 100000 in
theorem c_Ma_abs (F : Nat → Nat → Int) (G : Nat → Int → Int) (a : Int) (ha : -2147483648 < a ∧ a < 2147483648) : cP y_Ma_abs b_Ma_abs 1 (some .int) 0 0 F G (fun ad => [.int (iI a)]) (fun r => r = if a < 0 then -a else a) := by
  intro s0 a0 D t ad
  refine g_startPF (by decide +kernel) (Nat.le_of_ble_eq_true rfl) (fun p l e R s m args below meth c A ok => ?_)
  show gW p l e R s m args below meth c _ D A 1 (gZ0 s) 0 0 ad 265 (mem ad t F G) 0 [(0, .int (iI a))] []
  refine g_iload_n ok d_Ma_abs_0 rfl 0 rfl ?_
  refine g_if_ge ok 9 d_Ma_abs_1 (by decide) (by omega) (fun h1 => ?_) (fun h1 => ?_)
  · refine g_iload_n ok d_Ma_abs_9 rfl 0 rfl ?_
    exact g_ipret ok d_Ma_abs_10 (by split <;> omega)
  · refine g_iload_n ok d_Ma_abs_4 rfl 0 rfl ?_
    refine g_ineg ok d_Ma_abs_5 ?_
    refine g_goto ok 10 d_Ma_abs_6 (by decide) ?_
    exact g_ipret ok d_Ma_abs_10 (by split <;> omega)
theorem d_Rg_add_0 : decode b_Rg_add 0 = .ok (.aload_n 0, 1) := by decide +kernel
theorem d_Rg_add_1 : decode b_Rg_add 1 = .ok (.getfield 16, 3) := by decide +kernel
theorem d_Rg_add_4 : decode b_Rg_add 4 = .ok (.aload_n 0, 1) := by decide +kernel
theorem d_Rg_add_5 : decode b_Rg_add 5 = .ok (.getfield 7, 3) := by decide +kernel
theorem d_Rg_add_8 : decode b_Rg_add 8 = .ok (.arraylength, 1) := by decide +kernel
theorem d_Rg_add_9 : decode b_Rg_add 9 = .ok (.if_icmp .ge 33, 3) := by decide +kernel
theorem d_Rg_add_12 : decode b_Rg_add 12 = .ok (.aload_n 0, 1) := by decide +kernel
theorem d_Rg_add_13 : decode b_Rg_add 13 = .ok (.getfield 7, 3) := by decide +kernel
theorem d_Rg_add_16 : decode b_Rg_add 16 = .ok (.aload_n 0, 1) := by decide +kernel
theorem d_Rg_add_17 : decode b_Rg_add 17 = .ok (.getfield 16, 3) := by decide +kernel
theorem d_Rg_add_20 : decode b_Rg_add 20 = .ok (.iload_n 1, 1) := by decide +kernel
theorem d_Rg_add_21 : decode b_Rg_add 21 = .ok (.iastore, 1) := by decide +kernel
theorem d_Rg_add_22 : decode b_Rg_add 22 = .ok (.aload_n 0, 1) := by decide +kernel
theorem d_Rg_add_23 : decode b_Rg_add 23 = .ok (.getfield 13, 3) := by decide +kernel
theorem d_Rg_add_26 : decode b_Rg_add 26 = .ok (.aload_n 0, 1) := by decide +kernel
theorem d_Rg_add_27 : decode b_Rg_add 27 = .ok (.getfield 16, 3) := by decide +kernel
theorem d_Rg_add_30 : decode b_Rg_add 30 = .ok (.iload_n 2, 1) := by decide +kernel
theorem d_Rg_add_31 : decode b_Rg_add 31 = .ok (.iastore, 1) := by decide +kernel
theorem d_Rg_add_32 : decode b_Rg_add 32 = .ok (.aload_n 0, 1) := by decide +kernel
theorem d_Rg_add_33 : decode b_Rg_add 33 = .ok (.dup, 1) := by decide +kernel
theorem d_Rg_add_34 : decode b_Rg_add 34 = .ok (.getfield 16, 3) := by decide +kernel
theorem d_Rg_add_37 : decode b_Rg_add 37 = .ok (.iconst 1, 1) := by decide +kernel
theorem d_Rg_add_38 : decode b_Rg_add 38 = .ok (.iadd, 1) := by decide +kernel
theorem d_Rg_add_39 : decode b_Rg_add 39 = .ok (.putfield 16, 3) := by decide +kernel
theorem d_Rg_add_42 : decode b_Rg_add 42 = .ok (.return_, 1) := by decide +kernel
set_option maxHeartbeats 4000000 in
set_option maxRecDepth 100000 in
theorem c_Rg_add (F : Nat → Nat → Int) (G : Nat → Int → Int) (k N : Nat) (x y : Int) (hK : isRg k) (hN : N = rRoom ((k - 2) % 22)) (hs : 0 ≤ F k 2 ∧ F k 2 < N) : cV y_Rg_add b_Rg_add 3 none 0 0 F G (fun ad => [.ref (ad k), .int (iI x), .int (iI y)]) (fun F' G' => F' = fU F k 2 (F k 2 + 1) ∧ G' = gU (gU G (k + 1) (F k 2) x) (k + 2) (F k 2) y) := by
  have a1 : isA (k + 1) N := a_rg hK (Or.inl rfl) hN
  have a2 : isA (k + 2) N := a_rg hK (Or.inr rfl) hN
  have hN1 := a1.1.2
  intro s0 a0 D t ad
  refine g_startV (by decide +kernel) (Nat.le_of_ble_eq_true rfl) (fun p l e R s m args below meth c A ok => ?_)
  show gW p l e R s m args below meth c _ D A 3 (gZ0 s) 0 0 ad 265 (mem ad t F G) 0 [(0, .ref (ad k)), (1, .int (iI x)), (2, .int (iI y))] []
  refine g_aload_n ok d_Rg_add_0 rfl 0 rfl ?_
  refine gI_Rg_size ok _ hK k_54 d_Rg_add_1 ?_
  refine g_aload_n ok d_Rg_add_4 rfl 0 rfl ?_
  refine gI_Rg_xs ok _ hK k_44 d_Rg_add_5 ?_
  refine h_alen ok _ a1 d_Rg_add_8 ?_
  refine g_icmp_ge ok 42 d_Rg_add_9 (by decide) (by omega) (by omega) (fun h1 => ?_) (fun h1 => ?_)
  · exact absurd h1 (by omega)
  · refine g_aload_n ok d_Rg_add_12 rfl 0 rfl ?_
    refine gI_Rg_xs ok _ hK k_44 d_Rg_add_13 ?_
    refine g_aload_n ok d_Rg_add_16 rfl 0 rfl ?_
    refine gI_Rg_size ok _ hK k_54 d_Rg_add_17 ?_
    refine g_iload_n ok d_Rg_add_20 rfl 1 rfl ?_
    refine h_iast ok _ a1 (by omega) d_Rg_add_21 ?_
    refine g_aload_n ok d_Rg_add_22 rfl 0 rfl ?_
    refine gI_Rg_ys ok _ hK k_49 d_Rg_add_23 ?_
    refine g_aload_n ok d_Rg_add_26 rfl 0 rfl ?_
    refine gI_Rg_size ok _ hK k_54 d_Rg_add_27 ?_
    refine g_iload_n ok d_Rg_add_30 rfl 2 rfl ?_
    refine h_iast ok _ a2 (by omega) d_Rg_add_31 ?_
    refine g_aload_n ok d_Rg_add_32 rfl 0 rfl ?_
    refine g_dup ok d_Rg_add_33 rfl ?_
    refine gI_Rg_size ok _ hK k_54 d_Rg_add_34 ?_
    refine g_iconst ok d_Rg_add_37 ?_
    refine g_iadd ok d_Rg_add_38 ?_
    refine pI_Rg_size ok _ hK k_54 d_Rg_add_39 ?_
    exact g_vret ok d_Rg_add_42 ⟨_, _, rfl, rfl, rfl⟩
theorem d_Ma_floorDiv_0 : decode b_Ma_floorDiv 0 = .ok (.iload_n 0, 1) := by decide +kernel
theorem d_Ma_floorDiv_1 : decode b_Ma_floorDiv 1 = .ok (.iload_n 1, 1) := by decide +kernel
theorem d_Ma_floorDiv_2 : decode b_Ma_floorDiv 2 = .ok (.idiv, 1) := by decide +kernel
theorem d_Ma_floorDiv_3 : decode b_Ma_floorDiv 3 = .ok (.istore_n 2, 1) := by decide +kernel
theorem d_Ma_floorDiv_4 : decode b_Ma_floorDiv 4 = .ok (.iload_n 0, 1) := by decide +kernel
theorem d_Ma_floorDiv_5 : decode b_Ma_floorDiv 5 = .ok (.iload_n 1, 1) := by decide +kernel
theorem d_Ma_floorDiv_6 : decode b_Ma_floorDiv 6 = .ok (.ixor, 1) := by decide +kernel
theorem d_Ma_floorDiv_7 : decode b_Ma_floorDiv 7 = .ok (.ifCond .ge 14, 3) := by decide +kernel
theorem d_Ma_floorDiv_10 : decode b_Ma_floorDiv 10 = .ok (.iload_n 2, 1) := by decide +kernel
theorem d_Ma_floorDiv_11 : decode b_Ma_floorDiv 11 = .ok (.iload_n 1, 1) := by decide +kernel
theorem d_Ma_floorDiv_12 : decode b_Ma_floorDiv 12 = .ok (.imul, 1) := by decide +kernel
theorem d_Ma_floorDiv_13 : decode b_Ma_floorDiv 13 = .ok (.iload_n 0, 1) := by decide +kernel
theorem d_Ma_floorDiv_14 : decode b_Ma_floorDiv 14 = .ok (.if_icmp .eq 7, 3) := by decide +kernel
theorem d_Ma_floorDiv_17 : decode b_Ma_floorDiv 17 = .ok (.iload_n 2, 1) := by decide +kernel
theorem d_Ma_floorDiv_18 : decode b_Ma_floorDiv 18 = .ok (.iconst 1, 1) := by decide +kernel
theorem d_Ma_floorDiv_19 : decode b_Ma_floorDiv 19 = .ok (.isub, 1) := by decide +kernel
theorem d_Ma_floorDiv_20 : decode b_Ma_floorDiv 20 = .ok (.ireturn, 1) := by decide +kernel
theorem d_Ma_floorDiv_21 : decode b_Ma_floorDiv 21 = .ok (.iload_n 2, 1) := by decide +kernel
theorem d_Ma_floorDiv_22 : decode b_Ma_floorDiv 22 = .ok (.ireturn, 1) := by decide +kernel
set_option maxHeartbeats 4000000 in
set_option maxRecDepth 100000 in
theorem c_Ma_floorDiv (F : Nat → Nat → Int) (G : Nat → Int → Int) (a b : Int) (ha : -2147483648 ≤ a ∧ a < 2147483648) (hb : 0 < b ∧ b < 2147483648) : cP y_Ma_floorDiv b_Ma_floorDiv 3 (some .int) 0 0 F G (fun ad => [.int (iI a), .int (iI b)]) (fun r => r = a / b) := by
  have r1 := tdiv_rng ha hb.1
  have r2 := tdiv_mul_rng ha hb.1
  have r3 := zxor_rng a b
  have r4 := zxor_neg ha (b := b) (by omega)
  intro s0 a0 D t ad
  refine g_startPF (by decide +kernel) (Nat.le_of_ble_eq_true rfl) (fun p l e R s m args below meth c A ok => ?_)
  show gW p l e R s m args below meth c _ D A 3 (gZ0 s) 0 0 ad 265 (mem ad t F G) 0 [(0, .int (iI a)), (1, .int (iI b))] []
  refine g_iload_n ok d_Ma_floorDiv_0 rfl 0 rfl ?_
  refine g_iload_n ok d_Ma_floorDiv_1 rfl 1 rfl ?_
  refine g_idiv (z := Int.tdiv a b) ok (iI_ne0 hb) (iI_div ha hb) d_Ma_floorDiv_2 ?_
  refine g_istore_n (lv' := [(2, .int (iI (Int.tdiv a b))), (0, .int (iI a)), (1, .int (iI b))]) ok d_Ma_floorDiv_3 rfl (by decide) rfl ?_
  refine g_iload_n ok d_Ma_floorDiv_4 rfl 1 rfl ?_
  refine g_iload_n ok d_Ma_floorDiv_5 rfl 2 rfl ?_
  refine g_ixor (z := zxor a b) ok (iI_xor a b) d_Ma_floorDiv_6 ?_
  refine g_if_ge ok 21 d_Ma_floorDiv_7 (by decide) (by omega) (fun h1 => ?_) (fun h1 => ?_)
  · refine g_iload_n ok d_Ma_floorDiv_21 rfl 0 rfl ?_
    exact g_ipret ok d_Ma_floorDiv_22 (fdiv_lo hb.1 (Or.inl (by omega)))
  · refine g_iload_n ok d_Ma_floorDiv_10 rfl 0 rfl ?_
    refine g_iload_n ok d_Ma_floorDiv_11 rfl 2 rfl ?_
    refine g_imul ok d_Ma_floorDiv_12 ?_
    refine g_iload_n ok d_Ma_floorDiv_13 rfl 1 rfl ?_
    refine g_icmp_eq ok 21 d_Ma_floorDiv_14 (by decide) (by omega) (by omega) (fun h2 => ?_) (fun h2 => ?_)
    · refine g_iload_n ok d_Ma_floorDiv_21 rfl 0 rfl ?_
      exact g_ipret ok d_Ma_floorDiv_22 (fdiv_lo hb.1 (Or.inr ⟨a.tdiv b, by rw [Int.mul_comm]; exact h2.symm⟩))
    · refine g_iload_n ok d_Ma_floorDiv_17 rfl 0 rfl ?_
      refine g_iconst ok d_Ma_floorDiv_18 ?_
      refine g_isub ok d_Ma_floorDiv_19 ?_
      exact g_ipret ok d_Ma_floorDiv_20 (fdiv_hi hb.1 (fun q => q.elim (fun q => by omega) (fun q => h2 (by rw [Int.mul_comm]; exact Int.mul_tdiv_cancel_of_dvd q))))
end
section
theorem d_Pa_dx_0 : decode b_Pa_dx 0 = .ok (.aload_n 0, 1) := by decide +kernel
theorem d_Pa_dx_1 : decode b_Pa_dx 1 = .ok (.getfield 9, 3) := by decide +kernel
theorem d_Pa_dx_4 : decode b_Pa_dx 4 = .ok (.iload_n 1, 1) := by decide +kernel
theorem d_Pa_dx_5 : decode b_Pa_dx 5 = .ok (.iaload, 1) := by decide +kernel
theorem d_Pa_dx_6 : decode b_Pa_dx 6 = .ok (.sipush 255, 3) := by decide +kernel
theorem d_Pa_dx_9 : decode b_Pa_dx 9 = .ok (.iand, 1) := by decide +kernel
theorem d_Pa_dx_10 : decode b_Pa_dx 10 = .ok (.sipush 128, 3) := by decide +kernel
theorem d_Pa_dx_13 : decode b_Pa_dx 13 = .ok (.isub, 1) := by decide +kernel
theorem d_Pa_dx_14 : decode b_Pa_dx 14 = .ok (.ireturn, 1) := by decide +kernel
set_option maxHeartbeats 4000000 in
set_option maxRecDepth 100000 in
theorem c_Pa_dx (F : Nat → Nat → Int) (G : Nat → Int → Int) (i : Int) (hi : 0 ≤ i ∧ i < 4000) (hc : 0 ≤ G 237 i ∧ G 237 i < 262144) : cP y_Pa_dx b_Pa_dx 2 (some .int) 0 0 F G (fun ad => [.ref (ad 236), .int (iI i)]) (fun r => r = G 237 i % 256 - 128) := by
  intro s0 a0 D t ad
  refine g_startP (by decide +kernel) (Nat.le_of_ble_eq_true rfl) (fun p l e R s m args below meth c A ok => ?_)
  show gW p l e R s m args below meth c _ D A 2 (gZ0 s) 0 0 ad 265 (mem ad t F G) 0 [(0, .ref (ad 236)), (1, .int (iI i))] []
  refine g_aload_n ok d_Pa_dx_0 rfl 0 rfl ?_
  refine gI_Pa_codes ok _ rfl k_256 d_Pa_dx_1 ?_
  refine g_iload_n ok d_Pa_dx_4 rfl 1 rfl ?_
  refine h_iald ok _ a_237 (by omega) d_Pa_dx_5 ?_
  refine g_sipush ok (by decide) d_Pa_dx_6 ?_
  refine g_iand (z := (G 237 i) % 256) ok (iI_mask 8 (by omega) (by decide) (by decide)) d_Pa_dx_9 ?_
  refine g_sipush ok (by decide) d_Pa_dx_10 ?_
  refine g_isub ok d_Pa_dx_13 ?_
  exact g_ipret ok d_Pa_dx_14 (rfl)
theorem d_Pa_dy_0 : decode b_Pa_dy 0 = .ok (.aload_n 0, 1) := by decide +kernel
theorem d_Pa_dy_1 : decode b_Pa_dy 1 = .ok (.getfield 9, 3) := by decide +kernel
theorem d_Pa_dy_4 : decode b_Pa_dy 4 = .ok (.iload_n 1, 1) := by decide +kernel
theorem d_Pa_dy_5 : decode b_Pa_dy 5 = .ok (.iaload, 1) := by decide +kernel
theorem d_Pa_dy_6 : decode b_Pa_dy 6 = .ok (.bipush 8, 2) := by decide +kernel
theorem d_Pa_dy_8 : decode b_Pa_dy 8 = .ok (.ishr, 1) := by decide +kernel
theorem d_Pa_dy_9 : decode b_Pa_dy 9 = .ok (.sipush 255, 3) := by decide +kernel
theorem d_Pa_dy_12 : decode b_Pa_dy 12 = .ok (.iand, 1) := by decide +kernel
theorem d_Pa_dy_13 : decode b_Pa_dy 13 = .ok (.sipush 128, 3) := by decide +kernel
theorem d_Pa_dy_16 : decode b_Pa_dy 16 = .ok (.isub, 1) := by decide +kernel
theorem d_Pa_dy_17 : decode b_Pa_dy 17 = .ok (.ireturn, 1) := by decide +kernel
set_option maxHeartbeats 4000000 in
set_option maxRecDepth 100000 in
theorem c_Pa_dy (F : Nat → Nat → Int) (G : Nat → Int → Int) (i : Int) (hi : 0 ≤ i ∧ i < 4000) (hc : 0 ≤ G 237 i ∧ G 237 i < 262144) : cP y_Pa_dy b_Pa_dy 2 (some .int) 0 0 F G (fun ad => [.ref (ad 236), .int (iI i)]) (fun r => r = G 237 i / 256 % 256 - 128) := by
  intro s0 a0 D t ad
  refine g_startP (by decide +kernel) (Nat.le_of_ble_eq_true rfl) (fun p l e R s m args below meth c A ok => ?_)
  show gW p l e R s m args below meth c _ D A 2 (gZ0 s) 0 0 ad 265 (mem ad t F G) 0 [(0, .ref (ad 236)), (1, .int (iI i))] []
  refine g_aload_n ok d_Pa_dy_0 rfl 0 rfl ?_
  refine gI_Pa_codes ok _ rfl k_256 d_Pa_dy_1 ?_
  refine g_iload_n ok d_Pa_dy_4 rfl 1 rfl ?_
  refine h_iald ok _ a_237 (by omega) d_Pa_dy_5 ?_
  refine g_bipush ok (by decide) d_Pa_dy_6 ?_
  refine g_ishr (z := (G 237 i) / 256) ok (iI_shr 8 (by decide) (by omega) rfl) d_Pa_dy_8 ?_
  refine g_sipush ok (by decide) d_Pa_dy_9 ?_
  refine g_iand (z := ((G 237 i) / 256) % 256) ok (iI_mask 8 (by omega) (by decide) (by decide)) d_Pa_dy_12 ?_
  refine g_sipush ok (by decide) d_Pa_dy_13 ?_
  refine g_isub ok d_Pa_dy_16 ?_
  exact g_ipret ok d_Pa_dy_17 (rfl)
theorem d_Pa_kind_0 : decode b_Pa_kind 0 = .ok (.aload_n 0, 1) := by decide +kernel
theorem d_Pa_kind_1 : decode b_Pa_kind 1 = .ok (.getfield 9, 3) := by decide +kernel
theorem d_Pa_kind_4 : decode b_Pa_kind 4 = .ok (.iload_n 1, 1) := by decide +kernel
theorem d_Pa_kind_5 : decode b_Pa_kind 5 = .ok (.iaload, 1) := by decide +kernel
theorem d_Pa_kind_6 : decode b_Pa_kind 6 = .ok (.bipush 16, 2) := by decide +kernel
theorem d_Pa_kind_8 : decode b_Pa_kind 8 = .ok (.ishr, 1) := by decide +kernel
theorem d_Pa_kind_9 : decode b_Pa_kind 9 = .ok (.ireturn, 1) := by decide +kernel
set_option maxHeartbeats 4000000 in
set_option maxRecDepth 100000 in
theorem c_Pa_kind (F : Nat → Nat → Int) (G : Nat → Int → Int) (i : Int) (hi : 0 ≤ i ∧ i < 4000) (hc : 0 ≤ G 237 i ∧ G 237 i < 262144) : cP y_Pa_kind b_Pa_kind 2 (some .int) 0 0 F G (fun ad => [.ref (ad 236), .int (iI i)]) (fun r => r = G 237 i / 65536) := by
  intro s0 a0 D t ad
  refine g_startP (by decide +kernel) (Nat.le_of_ble_eq_true rfl) (fun p l e R s m args below meth c A ok => ?_)
  show gW p l e R s m args below meth c _ D A 2 (gZ0 s) 0 0 ad 265 (mem ad t F G) 0 [(0, .ref (ad 236)), (1, .int (iI i))] []
  refine g_aload_n ok d_Pa_kind_0 rfl 0 rfl ?_
  refine gI_Pa_codes ok _ rfl k_256 d_Pa_kind_1 ?_
  refine g_iload_n ok d_Pa_kind_4 rfl 1 rfl ?_
  refine h_iald ok _ a_237 (by omega) d_Pa_kind_5 ?_
  refine g_bipush ok (by decide) d_Pa_kind_6 ?_
  refine g_ishr (z := (G 237 i) / 65536) ok (iI_shr 16 (by decide) (by omega) rfl) d_Pa_kind_8 ?_
  exact g_ipret ok d_Pa_kind_9 (rfl)
theorem d_Pa_clear_0 : decode b_Pa_clear 0 = .ok (.aload_n 0, 1) := by decide +kernel
theorem d_Pa_clear_1 : decode b_Pa_clear 1 = .ok (.iconst 0, 1) := by decide +kernel
theorem d_Pa_clear_2 : decode b_Pa_clear 2 = .ok (.putfield 15, 3) := by decide +kernel
theorem d_Pa_clear_5 : decode b_Pa_clear 5 = .ok (.aload_n 0, 1) := by decide +kernel
theorem d_Pa_clear_6 : decode b_Pa_clear 6 = .ok (.iconst 0, 1) := by decide +kernel
theorem d_Pa_clear_7 : decode b_Pa_clear 7 = .ok (.putfield 19, 3) := by decide +kernel
theorem d_Pa_clear_10 : decode b_Pa_clear 10 = .ok (.return_, 1) := by decide +kernel
set_option maxHeartbeats 4000000 in
set_option maxRecDepth 100000 in
theorem c_Pa_clear (F : Nat → Nat → Int) (G : Nat → Int → Int) : cV y_Pa_clear b_Pa_clear 1 none 0 0 F G (fun ad => [.ref (ad 236)]) (fun F' G' => F' = fU (fU F 236 1 0) 236 2 0 ∧ G' = G) := by
  intro s0 a0 D t ad
  refine g_startV (by decide +kernel) (Nat.le_of_ble_eq_true rfl) (fun p l e R s m args below meth c A ok => ?_)
  show gW p l e R s m args below meth c _ D A 1 (gZ0 s) 0 0 ad 265 (mem ad t F G) 0 [(0, .ref (ad 236))] []
  refine g_aload_n ok d_Pa_clear_0 rfl 0 rfl ?_
  refine g_iconst ok d_Pa_clear_1 ?_
  refine pI_Pa_size ok _ rfl k_257 d_Pa_clear_2 ?_
  refine g_aload_n ok d_Pa_clear_5 rfl 0 rfl ?_
  refine g_iconst ok d_Pa_clear_6 ?_
  refine pI_Pa_overfull ok _ rfl k_259 (by first | exact Or.inl rfl | exact Or.inr rfl | omega) d_Pa_clear_7 ?_
  exact g_vret ok d_Pa_clear_10 ⟨_, _, rfl, rfl, rfl⟩
theorem d_Pa_add_0 : decode b_Pa_add 0 = .ok (.aload_n 0, 1) := by decide +kernel
theorem d_Pa_add_1 : decode b_Pa_add 1 = .ok (.getfield 15, 3) := by decide +kernel
theorem d_Pa_add_4 : decode b_Pa_add 4 = .ok (.sipush 4000, 3) := by decide +kernel
theorem d_Pa_add_7 : decode b_Pa_add 7 = .ok (.if_icmp .lt 9, 3) := by decide +kernel
theorem d_Pa_add_10 : decode b_Pa_add 10 = .ok (.aload_n 0, 1) := by decide +kernel
theorem d_Pa_add_11 : decode b_Pa_add 11 = .ok (.iconst 1, 1) := by decide +kernel
theorem d_Pa_add_12 : decode b_Pa_add 12 = .ok (.putfield 19, 3) := by decide +kernel
theorem d_Pa_add_15 : decode b_Pa_add 15 = .ok (.return_, 1) := by decide +kernel
theorem d_Pa_add_16 : decode b_Pa_add 16 = .ok (.aload_n 0, 1) := by decide +kernel
theorem d_Pa_add_17 : decode b_Pa_add 17 = .ok (.getfield 9, 3) := by decide +kernel
theorem d_Pa_add_20 : decode b_Pa_add 20 = .ok (.aload_n 0, 1) := by decide +kernel
theorem d_Pa_add_21 : decode b_Pa_add 21 = .ok (.getfield 15, 3) := by decide +kernel
theorem d_Pa_add_24 : decode b_Pa_add 24 = .ok (.iload_n 3, 1) := by decide +kernel
theorem d_Pa_add_25 : decode b_Pa_add 25 = .ok (.bipush 16, 2) := by decide +kernel
theorem d_Pa_add_27 : decode b_Pa_add 27 = .ok (.ishl, 1) := by decide +kernel
theorem d_Pa_add_28 : decode b_Pa_add 28 = .ok (.iload_n 2, 1) := by decide +kernel
theorem d_Pa_add_29 : decode b_Pa_add 29 = .ok (.sipush 128, 3) := by decide +kernel
theorem d_Pa_add_32 : decode b_Pa_add 32 = .ok (.iadd, 1) := by decide +kernel
theorem d_Pa_add_33 : decode b_Pa_add 33 = .ok (.bipush 8, 2) := by decide +kernel
theorem d_Pa_add_35 : decode b_Pa_add 35 = .ok (.ishl, 1) := by decide +kernel
theorem d_Pa_add_36 : decode b_Pa_add 36 = .ok (.ior, 1) := by decide +kernel
theorem d_Pa_add_37 : decode b_Pa_add 37 = .ok (.iload_n 1, 1) := by decide +kernel
theorem d_Pa_add_38 : decode b_Pa_add 38 = .ok (.sipush 128, 3) := by decide +kernel
theorem d_Pa_add_41 : decode b_Pa_add 41 = .ok (.iadd, 1) := by decide +kernel
theorem d_Pa_add_42 : decode b_Pa_add 42 = .ok (.ior, 1) := by decide +kernel
theorem d_Pa_add_43 : decode b_Pa_add 43 = .ok (.iastore, 1) := by decide +kernel
theorem d_Pa_add_44 : decode b_Pa_add 44 = .ok (.aload_n 0, 1) := by decide +kernel
theorem d_Pa_add_45 : decode b_Pa_add 45 = .ok (.dup, 1) := by decide +kernel
theorem d_Pa_add_46 : decode b_Pa_add 46 = .ok (.getfield 15, 3) := by decide +kernel
theorem d_Pa_add_49 : decode b_Pa_add 49 = .ok (.iconst 1, 1) := by decide +kernel
theorem d_Pa_add_50 : decode b_Pa_add 50 = .ok (.iadd, 1) := by decide +kernel
theorem d_Pa_add_51 : decode b_Pa_add 51 = .ok (.putfield 15, 3) := by decide +kernel
theorem d_Pa_add_54 : decode b_Pa_add 54 = .ok (.return_, 1) := by decide +kernel
set_option maxHeartbeats 4000000 in
set_option maxRecDepth 100000 in
theorem c_Pa_add (F : Nat → Nat → Int) (G : Nat → Int → Int) (x y z : Int) (hs : 0 ≤ F 236 1 ∧ F 236 1 ≤ 4000) (hx : -128 ≤ x ∧ x < 128) (hy : -128 ≤ y ∧ y < 128) (hz : 0 ≤ z ∧ z < 4) : cV y_Pa_add b_Pa_add 4 none 0 0 F G (fun ad => [.ref (ad 236), .int (iI x), .int (iI y), .int (iI z)]) (fun F' G' => F' = (if F 236 1 < 4000 then fU F 236 1 (F 236 1 + 1) else fU F 236 2 1) ∧ G' = (if F 236 1 < 4000 then gU G 237 (F 236 1) (z * 65536 + (y + 128) * 256 + (x + 128)) else G)) := by
  intro s0 a0 D t ad
  refine g_startV (by decide +kernel) (Nat.le_of_ble_eq_true rfl) (fun p l e R s m args below meth c A ok => ?_)
  show gW p l e R s m args below meth c _ D A 4 (gZ0 s) 0 0 ad 265 (mem ad t F G) 0 [(0, .ref (ad 236)), (1, .int (iI x)), (2, .int (iI y)), (3, .int (iI z))] []
  refine g_aload_n ok d_Pa_add_0 rfl 0 rfl ?_
  refine gI_Pa_size ok _ rfl k_257 d_Pa_add_1 ?_
  refine g_sipush ok (by decide) d_Pa_add_4 ?_
  refine g_icmp_lt ok 16 d_Pa_add_7 (by decide) (by omega) (by omega) (fun h1 => ?_) (fun h1 => ?_)
  · refine g_aload_n ok d_Pa_add_16 rfl 0 rfl ?_
    refine gI_Pa_codes ok _ rfl k_256 d_Pa_add_17 ?_
    refine g_aload_n ok d_Pa_add_20 rfl 0 rfl ?_
    refine gI_Pa_size ok _ rfl k_257 d_Pa_add_21 ?_
    refine g_iload_n ok d_Pa_add_24 rfl 3 rfl ?_
    refine g_bipush ok (by decide) d_Pa_add_25 ?_
    refine g_ishl (z := z * 65536) ok (iI_shl 16 (by decide) (by omega) (by omega) rfl) d_Pa_add_27 ?_
    refine g_iload_n ok d_Pa_add_28 rfl 2 rfl ?_
    refine g_sipush ok (by decide) d_Pa_add_29 ?_
    refine g_iadd ok d_Pa_add_32 ?_
    refine g_bipush ok (by decide) d_Pa_add_33 ?_
    refine g_ishl (z := (y + 128) * 256) ok (iI_shl 8 (by decide) (by omega) (by omega) rfl) d_Pa_add_35 ?_
    refine g_ior (z := z * 65536 + (y + 128) * 256) ok (iI_or (a := z) 16 (by omega) (by omega)) d_Pa_add_36 ?_
    refine g_iload_n ok d_Pa_add_37 rfl 1 rfl ?_
    refine g_sipush ok (by decide) d_Pa_add_38 ?_
    refine g_iadd ok d_Pa_add_41 ?_
    refine g_ior (z := z * 65536 + (y + 128) * 256 + (x + 128)) ok (by have h := iI_or (a := z * 256 + (y + 128)) (b := x + 128) 8 (by omega) (by omega); rw [show (z * 256 + (y + 128)) * 2 ^ 8 = z * 65536 + (y + 128) * 256 by omega] at h; exact h) d_Pa_add_42 ?_
    refine h_iast ok _ a_237 (by omega) d_Pa_add_43 ?_
    refine g_aload_n ok d_Pa_add_44 rfl 0 rfl ?_
    refine g_dup ok d_Pa_add_45 rfl ?_
    refine gI_Pa_size ok _ rfl k_257 d_Pa_add_46 ?_
    refine g_iconst ok d_Pa_add_49 ?_
    refine g_iadd ok d_Pa_add_50 ?_
    refine pI_Pa_size ok _ rfl k_257 d_Pa_add_51 ?_
    exact g_vret ok d_Pa_add_54 ⟨_, _, rfl, by rw [if_pos (by omega)], by rw [if_pos (by omega)]⟩
  · refine g_aload_n ok d_Pa_add_10 rfl 0 rfl ?_
    refine g_iconst ok d_Pa_add_11 ?_
    refine pI_Pa_overfull ok _ rfl k_259 (by first | exact Or.inl rfl | exact Or.inr rfl | omega) d_Pa_add_12 ?_
    exact g_vret ok d_Pa_add_15 ⟨_, _, rfl, by rw [if_neg (by omega)], by rw [if_neg (by omega)]⟩
theorem d_Dk_along_0 : decode b_Dk_along 0 = .ok (.iload_n 3, 1) := by decide +kernel
theorem d_Dk_along_1 : decode b_Dk_along 1 = .ok (.iconst 1, 1) := by decide +kernel
theorem d_Dk_along_2 : decode b_Dk_along 2 = .ok (.if_icmp .ge 7, 3) := by decide +kernel
theorem d_Dk_along_5 : decode b_Dk_along 5 = .ok (.iload_n 0, 1) := by decide +kernel
theorem d_Dk_along_6 : decode b_Dk_along 6 = .ok (.goto 14, 3) := by decide +kernel
theorem d_Dk_along_9 : decode b_Dk_along 9 = .ok (.iload_n 0, 1) := by decide +kernel
theorem d_Dk_along_10 : decode b_Dk_along 10 = .ok (.iload_n 2, 1) := by decide +kernel
theorem d_Dk_along_11 : decode b_Dk_along 11 = .ok (.iload_n 1, 1) := by decide +kernel
theorem d_Dk_along_12 : decode b_Dk_along 12 = .ok (.iload_n 0, 1) := by decide +kernel
theorem d_Dk_along_13 : decode b_Dk_along 13 = .ok (.isub, 1) := by decide +kernel
theorem d_Dk_along_14 : decode b_Dk_along 14 = .ok (.imul, 1) := by decide +kernel
theorem d_Dk_along_15 : decode b_Dk_along 15 = .ok (.iload_n 3, 1) := by decide +kernel
theorem d_Dk_along_16 : decode b_Dk_along 16 = .ok (.invokestatic 256, 3) := by decide +kernel
theorem d_Dk_along_19 : decode b_Dk_along 19 = .ok (.iadd, 1) := by decide +kernel
theorem d_Dk_along_20 : decode b_Dk_along 20 = .ok (.ireturn, 1) := by decide +kernel
set_option maxHeartbeats 4000000 in
set_option maxRecDepth 100000 in
theorem c_Dk_along (F : Nat → Nat → Int) (G : Nat → Int → Int) (a b k n : Int) (ha : 0 ≤ a ∧ a ≤ 600) (hb : 0 ≤ b ∧ b ≤ 600) (hk : 0 ≤ k ∧ k ≤ 1000) (hn : 0 ≤ n ∧ n ≤ 1000) (hm : -2147483648 ≤ k * (b - a) ∧ k * (b - a) < 2147483648) : cP y_Dk_along b_Dk_along 4 (some .int) 1 22 F G (fun ad => [.int (iI a), .int (iI b), .int (iI k), .int (iI n)]) (fun r => r = if n < 1 then a else a + k * (b - a) / n) := by
  intro s0 a0 D t ad
  refine g_startP (by decide +kernel) (Nat.le_of_ble_eq_true rfl) (fun p l e R s m args below meth c A ok => ?_)
  show gW p l e R s m args below meth c _ D A 4 (gZ0 s) 0 0 ad 265 (mem ad t F G) 0 [(0, .int (iI a)), (1, .int (iI b)), (2, .int (iI k)), (3, .int (iI n))] []
  refine g_iload_n ok d_Dk_along_0 rfl 3 rfl ?_
  refine g_iconst ok d_Dk_along_1 ?_
  refine g_icmp_ge ok 9 d_Dk_along_2 (by decide) (by omega) (by omega) (fun h1 => ?_) (fun h1 => ?_)
  · refine g_iload_n ok d_Dk_along_9 rfl 0 rfl ?_
    refine g_iload_n ok d_Dk_along_10 rfl 2 rfl ?_
    refine g_iload_n ok d_Dk_along_11 rfl 1 rfl ?_
    refine g_iload_n ok d_Dk_along_12 rfl 0 rfl ?_
    refine g_isub ok d_Dk_along_13 ?_
    refine g_imul ok d_Dk_along_14 ?_
    refine g_iload_n ok d_Dk_along_15 rfl 3 rfl ?_
    refine g_callPS (As := [.int (iI (k * (b - a))), .int (iI n)]) (st := [.int (iI a)]) ok (c_Ma_floorDiv F G (k * (b - a)) (n) (by omega) (by omega) s0 a0 D t ad) k_388 k_18 k_499 k_387 q_Ma_floorDiv (by decide) (Nat.le_of_ble_eq_true rfl) (by decide) d_Dk_along_16 (fun z2 hc2 => ?_)
    subst hc2
    refine g_iadd ok d_Dk_along_19 ?_
    exact g_ipret ok d_Dk_along_20 (by rw [if_neg (by omega)])
  · refine g_iload_n ok d_Dk_along_5 rfl 0 rfl ?_
    refine g_goto ok 20 d_Dk_along_6 (by decide) ?_
    exact g_ipret ok d_Dk_along_20 (by rw [if_pos (by omega)])
theorem d_Dk_groupAt_0 : decode b_Dk_groupAt 0 = .ok (.iload_n 1, 1) := by decide +kernel
theorem d_Dk_groupAt_1 : decode b_Dk_groupAt 1 = .ok (.ifCond .lt 12, 3) := by decide +kernel
theorem d_Dk_groupAt_4 : decode b_Dk_groupAt 4 = .ok (.iload_n 1, 1) := by decide +kernel
theorem d_Dk_groupAt_5 : decode b_Dk_groupAt 5 = .ok (.iconst 3, 1) := by decide +kernel
theorem d_Dk_groupAt_6 : decode b_Dk_groupAt 6 = .ok (.iadd, 1) := by decide +kernel
theorem d_Dk_groupAt_7 : decode b_Dk_groupAt 7 = .ok (.sipush 1500, 3) := by decide +kernel
theorem d_Dk_groupAt_10 : decode b_Dk_groupAt 10 = .ok (.if_icmp .le 5, 3) := by decide +kernel
theorem d_Dk_groupAt_13 : decode b_Dk_groupAt 13 = .ok (.iconst 0, 1) := by decide +kernel
theorem d_Dk_groupAt_14 : decode b_Dk_groupAt 14 = .ok (.ireturn, 1) := by decide +kernel
theorem d_Dk_groupAt_15 : decode b_Dk_groupAt 15 = .ok (.aload_n 0, 1) := by decide +kernel
theorem d_Dk_groupAt_16 : decode b_Dk_groupAt 16 = .ok (.getfield 20, 3) := by decide +kernel
theorem d_Dk_groupAt_19 : decode b_Dk_groupAt 19 = .ok (.iload_n 1, 1) := by decide +kernel
theorem d_Dk_groupAt_20 : decode b_Dk_groupAt 20 = .ok (.iaload, 1) := by decide +kernel
theorem d_Dk_groupAt_21 : decode b_Dk_groupAt 21 = .ok (.bipush 16, 2) := by decide +kernel
theorem d_Dk_groupAt_23 : decode b_Dk_groupAt 23 = .ok (.ishl, 1) := by decide +kernel
theorem d_Dk_groupAt_24 : decode b_Dk_groupAt 24 = .ok (.aload_n 0, 1) := by decide +kernel
theorem d_Dk_groupAt_25 : decode b_Dk_groupAt 25 = .ok (.getfield 20, 3) := by decide +kernel
theorem d_Dk_groupAt_28 : decode b_Dk_groupAt 28 = .ok (.iload_n 1, 1) := by decide +kernel
theorem d_Dk_groupAt_29 : decode b_Dk_groupAt 29 = .ok (.iconst 1, 1) := by decide +kernel
theorem d_Dk_groupAt_30 : decode b_Dk_groupAt 30 = .ok (.iadd, 1) := by decide +kernel
theorem d_Dk_groupAt_31 : decode b_Dk_groupAt 31 = .ok (.iaload, 1) := by decide +kernel
theorem d_Dk_groupAt_32 : decode b_Dk_groupAt 32 = .ok (.bipush 8, 2) := by decide +kernel
theorem d_Dk_groupAt_34 : decode b_Dk_groupAt 34 = .ok (.ishl, 1) := by decide +kernel
theorem d_Dk_groupAt_35 : decode b_Dk_groupAt 35 = .ok (.ior, 1) := by decide +kernel
theorem d_Dk_groupAt_36 : decode b_Dk_groupAt 36 = .ok (.aload_n 0, 1) := by decide +kernel
theorem d_Dk_groupAt_37 : decode b_Dk_groupAt 37 = .ok (.getfield 20, 3) := by decide +kernel
theorem d_Dk_groupAt_40 : decode b_Dk_groupAt 40 = .ok (.iload_n 1, 1) := by decide +kernel
theorem d_Dk_groupAt_41 : decode b_Dk_groupAt 41 = .ok (.iconst 2, 1) := by decide +kernel
theorem d_Dk_groupAt_42 : decode b_Dk_groupAt 42 = .ok (.iadd, 1) := by decide +kernel
theorem d_Dk_groupAt_43 : decode b_Dk_groupAt 43 = .ok (.iaload, 1) := by decide +kernel
theorem d_Dk_groupAt_44 : decode b_Dk_groupAt 44 = .ok (.ior, 1) := by decide +kernel
theorem d_Dk_groupAt_45 : decode b_Dk_groupAt 45 = .ok (.ireturn, 1) := by decide +kernel
set_option maxHeartbeats 4000000 in
set_option maxRecDepth 100000 in
theorem c_Dk_groupAt (F : Nat → Nat → Int) (G : Nat → Int → Int) (i : Int) (hi : 0 ≤ i ∧ i + 3 ≤ 1500) (h0 : 0 ≤ G 223 i ∧ G 223 i < 256) (h1 : 0 ≤ G 223 (i + 1) ∧ G 223 (i + 1) < 256) (h2 : 0 ≤ G 223 (i + 2) ∧ G 223 (i + 2) < 256) : cP y_Dk_groupAt b_Dk_groupAt 2 (some .int) 0 0 F G (fun ad => [.ref (ad 0), .int (iI i)]) (fun r => r = G 223 i * 65536 + G 223 (i + 1) * 256 + G 223 (i + 2)) := by
  intro s0 a0 D t ad
  refine g_startP (by decide +kernel) (Nat.le_of_ble_eq_true rfl) (fun p l e R s m args below meth c A ok => ?_)
  show gW p l e R s m args below meth c _ D A 2 (gZ0 s) 0 0 ad 265 (mem ad t F G) 0 [(0, .ref (ad 0)), (1, .int (iI i))] []
  refine g_iload_n ok d_Dk_groupAt_0 rfl 1 rfl ?_
  refine g_if_lt ok 13 d_Dk_groupAt_1 (by decide) (by omega) (fun h1 => ?_) (fun h1 => ?_)
  · exact absurd h1 (by omega)
  · refine g_iload_n ok d_Dk_groupAt_4 rfl 1 rfl ?_
    refine g_iconst ok d_Dk_groupAt_5 ?_
    refine g_iadd ok d_Dk_groupAt_6 ?_
    refine g_sipush ok (by decide) d_Dk_groupAt_7 ?_
    refine g_icmp_le ok 15 d_Dk_groupAt_10 (by decide) (by omega) (by omega) (fun h2 => ?_) (fun h2 => ?_)
    · refine g_aload_n ok d_Dk_groupAt_15 rfl 0 rfl ?_
      refine gI_Dk_loaded ok _ rfl k_319 d_Dk_groupAt_16 ?_
      refine g_iload_n ok d_Dk_groupAt_19 rfl 1 rfl ?_
      refine h_iald ok _ a_223 (by omega) d_Dk_groupAt_20 ?_
      refine g_bipush ok (by decide) d_Dk_groupAt_21 ?_
      refine g_ishl (z := G 223 i * 65536) ok (iI_shl 16 (by decide) (by omega) (by omega) rfl) d_Dk_groupAt_23 ?_
      refine g_aload_n ok d_Dk_groupAt_24 rfl 0 rfl ?_
      refine gI_Dk_loaded ok _ rfl k_319 d_Dk_groupAt_25 ?_
      refine g_iload_n ok d_Dk_groupAt_28 rfl 1 rfl ?_
      refine g_iconst ok d_Dk_groupAt_29 ?_
      refine g_iadd ok d_Dk_groupAt_30 ?_
      refine h_iald ok _ a_223 (by omega) d_Dk_groupAt_31 ?_
      refine g_bipush ok (by decide) d_Dk_groupAt_32 ?_
      refine g_ishl (z := G 223 (i + 1) * 256) ok (iI_shl 8 (by decide) (by omega) (by omega) rfl) d_Dk_groupAt_34 ?_
      refine g_ior (z := G 223 i * 65536 + G 223 (i + 1) * 256) ok (iI_or (a := G 223 i) 16 (by omega) (by omega)) d_Dk_groupAt_35 ?_
      refine g_aload_n ok d_Dk_groupAt_36 rfl 0 rfl ?_
      refine gI_Dk_loaded ok _ rfl k_319 d_Dk_groupAt_37 ?_
      refine g_iload_n ok d_Dk_groupAt_40 rfl 1 rfl ?_
      refine g_iconst ok d_Dk_groupAt_41 ?_
      refine g_iadd ok d_Dk_groupAt_42 ?_
      refine h_iald ok _ a_223 (by omega) d_Dk_groupAt_43 ?_
      refine g_ior (z := G 223 i * 65536 + G 223 (i + 1) * 256 + G 223 (i + 2)) ok (by have h := iI_or (a := G 223 i * 256 + G 223 (i + 1)) (b := G 223 (i + 2)) 8 (by omega) (by omega); rw [show (G 223 i * 256 + G 223 (i + 1)) * 2 ^ 8 = G 223 i * 65536 + G 223 (i + 1) * 256 by omega] at h; exact h) d_Dk_groupAt_44 ?_
      exact g_ipret ok d_Dk_groupAt_45 (rfl)
    · exfalso; omega
end
section
theorem mul_rng {a b : Int} (ha : -600 ≤ a ∧ a ≤ 600) (hb : -600 ≤ b ∧ b ≤ 600) : -360000 ≤ a * b ∧ a * b ≤ 360000 := by
  have h1 : 0 ≤ (600 - a) * (600 - b) := Int.mul_nonneg (by omega) (by omega)
  have h2 : 0 ≤ (600 + a) * (600 + b) := Int.mul_nonneg (by omega) (by omega)
  have h3 : 0 ≤ (600 - a) * (600 + b) := Int.mul_nonneg (by omega) (by omega)
  have h4 : 0 ≤ (600 + a) * (600 - b) := Int.mul_nonneg (by omega) (by omega)
  have e1 : (600 - a) * (600 - b) = 360000 - 600 * b - 600 * a + a * b := by rw [Int.sub_mul, Int.mul_sub, Int.mul_sub]; omega
  have e2 : (600 + a) * (600 + b) = 360000 + 600 * b + 600 * a + a * b := by rw [Int.add_mul, Int.mul_add, Int.mul_add]; omega
  have e3 : (600 - a) * (600 + b) = 360000 + 600 * b - 600 * a - a * b := by rw [Int.sub_mul, Int.mul_add, Int.mul_add]; omega
  have e4 : (600 + a) * (600 - b) = 360000 - 600 * b + 600 * a - a * b := by rw [Int.add_mul, Int.mul_sub, Int.mul_sub]; omega
  omega
/-- how corner j turns, seen from corner 0 by corner i -/
def rTurn (xs ys : Int → Int) (i j : Int) : Int := (xs i - xs 0) * (ys j - ys 0) - (ys i - ys 0) * (xs j - xs 0)
/-- the corners of the ring at k are places -/
def rIn (F : Nat → Nat → Int) (G : Nat → Int → Int) (k : Nat) : Prop := (0 ≤ F k 2 ∧ F k 2 ≤ rRoom ((k - 2) % 22)) ∧ ∀ i : Int, 0 ≤ i → i < F k 2 → (0 ≤ G (k + 1) i ∧ G (k + 1) i ≤ 600) ∧ (0 ≤ G (k + 2) i ∧ G (k + 2) i ≤ 600)
theorem rRoom_le (j : Nat) : rRoom j ≤ 32 := by
  unfold rRoom
  split
  · decide
  · split <;> decide
theorem d_Rg_isFlat_0 : decode b_Rg_isFlat 0 = .ok (.iconst 1, 1) := by decide +kernel
theorem d_Rg_isFlat_1 : decode b_Rg_isFlat 1 = .ok (.istore_n 1, 1) := by decide +kernel
theorem d_Rg_isFlat_2 : decode b_Rg_isFlat 2 = .ok (.iload_n 1, 1) := by decide +kernel
theorem d_Rg_isFlat_3 : decode b_Rg_isFlat 3 = .ok (.aload_n 0, 1) := by decide +kernel
theorem d_Rg_isFlat_4 : decode b_Rg_isFlat 4 = .ok (.getfield 16, 3) := by decide +kernel
theorem d_Rg_isFlat_7 : decode b_Rg_isFlat 7 = .ok (.if_icmp .ge 89, 3) := by decide +kernel
theorem d_Rg_isFlat_10 : decode b_Rg_isFlat 10 = .ok (.iload_n 1, 1) := by decide +kernel
theorem d_Rg_isFlat_11 : decode b_Rg_isFlat 11 = .ok (.iconst 1, 1) := by decide +kernel
theorem d_Rg_isFlat_12 : decode b_Rg_isFlat 12 = .ok (.iadd, 1) := by decide +kernel
theorem d_Rg_isFlat_13 : decode b_Rg_isFlat 13 = .ok (.istore_n 2, 1) := by decide +kernel
theorem d_Rg_isFlat_14 : decode b_Rg_isFlat 14 = .ok (.iload_n 2, 1) := by decide +kernel
theorem d_Rg_isFlat_15 : decode b_Rg_isFlat 15 = .ok (.aload_n 0, 1) := by decide +kernel
theorem d_Rg_isFlat_16 : decode b_Rg_isFlat 16 = .ok (.getfield 16, 3) := by decide +kernel
theorem d_Rg_isFlat_19 : decode b_Rg_isFlat 19 = .ok (.if_icmp .ge 71, 3) := by decide +kernel
theorem d_Rg_isFlat_22 : decode b_Rg_isFlat 22 = .ok (.aload_n 0, 1) := by decide +kernel
theorem d_Rg_isFlat_23 : decode b_Rg_isFlat 23 = .ok (.getfield 7, 3) := by decide +kernel
theorem d_Rg_isFlat_26 : decode b_Rg_isFlat 26 = .ok (.iload_n 1, 1) := by decide +kernel
theorem d_Rg_isFlat_27 : decode b_Rg_isFlat 27 = .ok (.iaload, 1) := by decide +kernel
theorem d_Rg_isFlat_28 : decode b_Rg_isFlat 28 = .ok (.aload_n 0, 1) := by decide +kernel
theorem d_Rg_isFlat_29 : decode b_Rg_isFlat 29 = .ok (.getfield 7, 3) := by decide +kernel
theorem d_Rg_isFlat_32 : decode b_Rg_isFlat 32 = .ok (.iconst 0, 1) := by decide +kernel
theorem d_Rg_isFlat_33 : decode b_Rg_isFlat 33 = .ok (.iaload, 1) := by decide +kernel
theorem d_Rg_isFlat_34 : decode b_Rg_isFlat 34 = .ok (.isub, 1) := by decide +kernel
theorem d_Rg_isFlat_35 : decode b_Rg_isFlat 35 = .ok (.aload_n 0, 1) := by decide +kernel
theorem d_Rg_isFlat_36 : decode b_Rg_isFlat 36 = .ok (.getfield 13, 3) := by decide +kernel
theorem d_Rg_isFlat_39 : decode b_Rg_isFlat 39 = .ok (.iload_n 2, 1) := by decide +kernel
theorem d_Rg_isFlat_40 : decode b_Rg_isFlat 40 = .ok (.iaload, 1) := by decide +kernel
theorem d_Rg_isFlat_41 : decode b_Rg_isFlat 41 = .ok (.aload_n 0, 1) := by decide +kernel
theorem d_Rg_isFlat_42 : decode b_Rg_isFlat 42 = .ok (.getfield 13, 3) := by decide +kernel
theorem d_Rg_isFlat_45 : decode b_Rg_isFlat 45 = .ok (.iconst 0, 1) := by decide +kernel
theorem d_Rg_isFlat_46 : decode b_Rg_isFlat 46 = .ok (.iaload, 1) := by decide +kernel
theorem d_Rg_isFlat_47 : decode b_Rg_isFlat 47 = .ok (.isub, 1) := by decide +kernel
theorem d_Rg_isFlat_48 : decode b_Rg_isFlat 48 = .ok (.imul, 1) := by decide +kernel
theorem d_Rg_isFlat_49 : decode b_Rg_isFlat 49 = .ok (.aload_n 0, 1) := by decide +kernel
theorem d_Rg_isFlat_50 : decode b_Rg_isFlat 50 = .ok (.getfield 13, 3) := by decide +kernel
theorem d_Rg_isFlat_53 : decode b_Rg_isFlat 53 = .ok (.iload_n 1, 1) := by decide +kernel
theorem d_Rg_isFlat_54 : decode b_Rg_isFlat 54 = .ok (.iaload, 1) := by decide +kernel
theorem d_Rg_isFlat_55 : decode b_Rg_isFlat 55 = .ok (.aload_n 0, 1) := by decide +kernel
theorem d_Rg_isFlat_56 : decode b_Rg_isFlat 56 = .ok (.getfield 13, 3) := by decide +kernel
theorem d_Rg_isFlat_59 : decode b_Rg_isFlat 59 = .ok (.iconst 0, 1) := by decide +kernel
theorem d_Rg_isFlat_60 : decode b_Rg_isFlat 60 = .ok (.iaload, 1) := by decide +kernel
theorem d_Rg_isFlat_61 : decode b_Rg_isFlat 61 = .ok (.isub, 1) := by decide +kernel
theorem d_Rg_isFlat_62 : decode b_Rg_isFlat 62 = .ok (.aload_n 0, 1) := by decide +kernel
theorem d_Rg_isFlat_63 : decode b_Rg_isFlat 63 = .ok (.getfield 7, 3) := by decide +kernel
theorem d_Rg_isFlat_66 : decode b_Rg_isFlat 66 = .ok (.iload_n 2, 1) := by decide +kernel
theorem d_Rg_isFlat_67 : decode b_Rg_isFlat 67 = .ok (.iaload, 1) := by decide +kernel
theorem d_Rg_isFlat_68 : decode b_Rg_isFlat 68 = .ok (.aload_n 0, 1) := by decide +kernel
theorem d_Rg_isFlat_69 : decode b_Rg_isFlat 69 = .ok (.getfield 7, 3) := by decide +kernel
theorem d_Rg_isFlat_72 : decode b_Rg_isFlat 72 = .ok (.iconst 0, 1) := by decide +kernel
theorem d_Rg_isFlat_73 : decode b_Rg_isFlat 73 = .ok (.iaload, 1) := by decide +kernel
theorem d_Rg_isFlat_74 : decode b_Rg_isFlat 74 = .ok (.isub, 1) := by decide +kernel
theorem d_Rg_isFlat_75 : decode b_Rg_isFlat 75 = .ok (.imul, 1) := by decide +kernel
theorem d_Rg_isFlat_76 : decode b_Rg_isFlat 76 = .ok (.isub, 1) := by decide +kernel
theorem d_Rg_isFlat_77 : decode b_Rg_isFlat 77 = .ok (.istore_n 3, 1) := by decide +kernel
theorem d_Rg_isFlat_78 : decode b_Rg_isFlat 78 = .ok (.iload_n 3, 1) := by decide +kernel
theorem d_Rg_isFlat_79 : decode b_Rg_isFlat 79 = .ok (.ifCond .eq 5, 3) := by decide +kernel
theorem d_Rg_isFlat_82 : decode b_Rg_isFlat 82 = .ok (.iconst 0, 1) := by decide +kernel
theorem d_Rg_isFlat_83 : decode b_Rg_isFlat 83 = .ok (.ireturn, 1) := by decide +kernel
theorem d_Rg_isFlat_84 : decode b_Rg_isFlat 84 = .ok (.iinc 2 1, 3) := by decide +kernel
theorem d_Rg_isFlat_87 : decode b_Rg_isFlat 87 = .ok (.goto (-73), 3) := by decide +kernel
theorem d_Rg_isFlat_90 : decode b_Rg_isFlat 90 = .ok (.iinc 1 1, 3) := by decide +kernel
theorem d_Rg_isFlat_93 : decode b_Rg_isFlat 93 = .ok (.goto (-91), 3) := by decide +kernel
theorem d_Rg_isFlat_96 : decode b_Rg_isFlat 96 = .ok (.iconst 1, 1) := by decide +kernel
theorem d_Rg_isFlat_97 : decode b_Rg_isFlat 97 = .ok (.ireturn, 1) := by decide +kernel
set_option maxHeartbeats 4000000 in
set_option maxRecDepth 100000 in
theorem c_Rg_isFlat (F : Nat → Nat → Int) (G : Nat → Int → Int) (k : Nat) (hK : isRg k) (hR : rIn F G k) : cP y_Rg_isFlat b_Rg_isFlat 4 (some .boolean) 0 0 F G (fun ad => [.ref (ad k)]) (fun r => (r = 0 ∨ r = 1) ∧ (r = 1 ↔ ∀ a b : Int, 1 ≤ a → a < b → b < F k 2 → rTurn (G (k + 1)) (G (k + 2)) a b = 0)) := by
  have a1 : isA (k + 1) (rRoom ((k - 2) % 22)) := a_rg hK (Or.inl rfl) rfl
  have a2 : isA (k + 2) (rRoom ((k - 2) % 22)) := a_rg hK (Or.inr rfl) rfl
  have hr32 := rRoom_le ((k - 2) % 22)
  obtain ⟨hs, hX⟩ := hR
  intro s0 a0 D t ad
  refine g_startP (by decide +kernel) (Nat.le_of_ble_eq_true rfl) (fun p l e R s m args below meth c A ok => ?_)
  show gW p l e R s m args below meth c _ D A 4 (gZ0 s) 0 0 ad 265 (mem ad t F G) 0 [(0, .ref (ad k))] []
  refine g_iconst ok d_Rg_isFlat_0 ?_
  refine g_istore_n (lv' := [(1, .int (iI 1)), (0, .ref (ad k))]) ok d_Rg_isFlat_1 rfl (by decide) rfl ?_
  have L_o : ∀ (n_o : Nat) (i : Int), (1 ≤ i ∧ i ≤ F k 2 + 1) → (∀ a b : Int, 1 ≤ a → a < i → a < b → b < F k 2 → rTurn (G (k + 1)) (G (k + 2)) a b = 0) → (F k 2 + 1 - i) < (n_o : Int) → gW p l e R s m args below meth c (MQ below (gQp (fun r => (r = 0 ∨ r = 1) ∧ (r = 1 ↔ ∀ a b : Int, 1 ≤ a → a < b → b < F k 2 → rTurn (G (k + 1)) (G (k + 2)) a b = 0))) args s 0 0 (fun _ => False)) D A 4 (gZ0 s) 0 0 ad 265 (mem ad t F G) 2 [(0, .ref (ad k)), (1, .int (iI i))] [] := by
    intro n_o
    induction n_o with
    | zero =>
      intro i hi ho hm_o
      exact absurd hm_o (by omega)
    | succ n_o ih_o =>
      intro i hi ho hm_o
      refine g_iload_n ok d_Rg_isFlat_2 rfl 1 rfl ?_
      refine g_aload_n ok d_Rg_isFlat_3 rfl 0 rfl ?_
      refine gI_Rg_size ok _ hK k_54 d_Rg_isFlat_4 ?_
      refine g_icmp_ge ok 96 d_Rg_isFlat_7 (by decide) (by omega) (by omega) (fun h1 => ?_) (fun h1 => ?_)
      · refine g_iconst ok d_Rg_isFlat_96 ?_
        exact g_zpret ok d_Rg_isFlat_97 (Or.inr rfl) ⟨Or.inr rfl, ⟨fun _ a b q1 q2 q3 => ho a b q1 (by omega) q2 q3, fun _ => rfl⟩⟩
      · refine g_iload_n ok d_Rg_isFlat_10 rfl 1 rfl ?_
        refine g_iconst ok d_Rg_isFlat_11 ?_
        refine g_iadd ok d_Rg_isFlat_12 ?_
        refine g_istore_n (lv' := [(2, .int (iI (i + 1))), (0, .ref (ad k)), (1, .int (iI i))]) ok d_Rg_isFlat_13 rfl (by decide) rfl ?_
        have L_n : ∀ (n_n : Nat) (j : Int), (i < j ∧ j ≤ F k 2) → (∀ b : Int, i < b → b < j → rTurn (G (k + 1)) (G (k + 2)) i b = 0) → (F k 2 + 1 - j) < (n_n : Int) → gW p l e R s m args below meth c (MQ below (gQp (fun r => (r = 0 ∨ r = 1) ∧ (r = 1 ↔ ∀ a b : Int, 1 ≤ a → a < b → b < F k 2 → rTurn (G (k + 1)) (G (k + 2)) a b = 0))) args s 0 0 (fun _ => False)) D A 4 (gZ0 s) 0 0 ad 265 (mem ad t F G) 14 [(0, .ref (ad k)), (1, .int (iI i)), (2, .int (iI j))] [] := by
          intro n_n
          induction n_n with
          | zero =>
            intro j hj hj2 hm_n
            exact absurd hm_n (by omega)
          | succ n_n ih_n =>
            intro j hj hj2 hm_n
            refine g_iload_n ok d_Rg_isFlat_14 rfl 2 rfl ?_
            refine g_aload_n ok d_Rg_isFlat_15 rfl 0 rfl ?_
            refine gI_Rg_size ok _ hK k_54 d_Rg_isFlat_16 ?_
            refine g_icmp_ge ok 90 d_Rg_isFlat_19 (by decide) (by omega) (by omega) (fun h2 => ?_) (fun h2 => ?_)
            · refine g_iinc (lv' := [(1, .int (iI (i + 1))), (0, .ref (ad k)), (2, .int (iI j))]) ok d_Rg_isFlat_90 1 rfl (by decide) rfl ?_
              refine g_goto ok 2 d_Rg_isFlat_93 (by decide) ?_
              refine g_lv [1, 0] rfl ?_
              exact ih_o (i + 1) (by omega) (fun a b q1 q2 q3 q4 => (Int.lt_or_eq_of_le (show a ≤ i by omega)).elim (fun q => ho a b q1 q q3 q4) (fun q => by subst q; exact hj2 b q3 (by omega))) (by omega)
            · have x0 := hX 0 (by omega) (by omega)
              have xi := hX i (by omega) (by omega)
              have xj := hX j (by omega) (by omega)
              have p1 := mul_rng (a := G (k + 1) i - G (k + 1) 0) (b := G (k + 2) j - G (k + 2) 0) (by omega) (by omega)
              have p2 := mul_rng (a := G (k + 2) i - G (k + 2) 0) (b := G (k + 1) j - G (k + 1) 0) (by omega) (by omega)
              refine g_aload_n ok d_Rg_isFlat_22 rfl 0 rfl ?_
              refine gI_Rg_xs ok _ hK k_44 d_Rg_isFlat_23 ?_
              refine g_iload_n ok d_Rg_isFlat_26 rfl 1 rfl ?_
              refine h_iald ok _ a1 (by omega) d_Rg_isFlat_27 ?_
              refine g_aload_n ok d_Rg_isFlat_28 rfl 0 rfl ?_
              refine gI_Rg_xs ok _ hK k_44 d_Rg_isFlat_29 ?_
              refine g_iconst ok d_Rg_isFlat_32 ?_
              refine h_iald ok _ a1 (by omega) d_Rg_isFlat_33 ?_
              refine g_isub ok d_Rg_isFlat_34 ?_
              refine g_aload_n ok d_Rg_isFlat_35 rfl 0 rfl ?_
              refine gI_Rg_ys ok _ hK k_49 d_Rg_isFlat_36 ?_
              refine g_iload_n ok d_Rg_isFlat_39 rfl 2 rfl ?_
              refine h_iald ok _ a2 (by omega) d_Rg_isFlat_40 ?_
              refine g_aload_n ok d_Rg_isFlat_41 rfl 0 rfl ?_
              refine gI_Rg_ys ok _ hK k_49 d_Rg_isFlat_42 ?_
              refine g_iconst ok d_Rg_isFlat_45 ?_
              refine h_iald ok _ a2 (by omega) d_Rg_isFlat_46 ?_
              refine g_isub ok d_Rg_isFlat_47 ?_
              refine g_imul ok d_Rg_isFlat_48 ?_
              refine g_aload_n ok d_Rg_isFlat_49 rfl 0 rfl ?_
              refine gI_Rg_ys ok _ hK k_49 d_Rg_isFlat_50 ?_
              refine g_iload_n ok d_Rg_isFlat_53 rfl 1 rfl ?_
              refine h_iald ok _ a2 (by omega) d_Rg_isFlat_54 ?_
              refine g_aload_n ok d_Rg_isFlat_55 rfl 0 rfl ?_
              refine gI_Rg_ys ok _ hK k_49 d_Rg_isFlat_56 ?_
              refine g_iconst ok d_Rg_isFlat_59 ?_
              refine h_iald ok _ a2 (by omega) d_Rg_isFlat_60 ?_
              refine g_isub ok d_Rg_isFlat_61 ?_
              refine g_aload_n ok d_Rg_isFlat_62 rfl 0 rfl ?_
              refine gI_Rg_xs ok _ hK k_44 d_Rg_isFlat_63 ?_
              refine g_iload_n ok d_Rg_isFlat_66 rfl 2 rfl ?_
              refine h_iald ok _ a1 (by omega) d_Rg_isFlat_67 ?_
              refine g_aload_n ok d_Rg_isFlat_68 rfl 0 rfl ?_
              refine gI_Rg_xs ok _ hK k_44 d_Rg_isFlat_69 ?_
              refine g_iconst ok d_Rg_isFlat_72 ?_
              refine h_iald ok _ a1 (by omega) d_Rg_isFlat_73 ?_
              refine g_isub ok d_Rg_isFlat_74 ?_
              refine g_imul ok d_Rg_isFlat_75 ?_
              refine g_isub ok d_Rg_isFlat_76 ?_
              refine g_istore_n (lv' := [(3, .int (iI ((((G (k + 1) i) - (G (k + 1) 0)) * ((G (k + 2) j) - (G (k + 2) 0))) - (((G (k + 2) i) - (G (k + 2) 0)) * ((G (k + 1) j) - (G (k + 1) 0)))))), (0, .ref (ad k)), (1, .int (iI i)), (2, .int (iI j))]) ok d_Rg_isFlat_77 rfl (by decide) rfl ?_
              refine g_iload_n ok d_Rg_isFlat_78 rfl 0 rfl ?_
              refine g_if_eq ok 84 d_Rg_isFlat_79 (by decide) (by omega) (fun h3 => ?_) (fun h3 => ?_)
              · refine g_iinc (lv' := [(2, .int (iI (j + 1))), (3, .int (iI ((((G (k + 1) i) - (G (k + 1) 0)) * ((G (k + 2) j) - (G (k + 2) 0))) - (((G (k + 2) i) - (G (k + 2) 0)) * ((G (k + 1) j) - (G (k + 1) 0)))))), (0, .ref (ad k)), (1, .int (iI i))]) ok d_Rg_isFlat_84 3 rfl (by decide) rfl ?_
                refine g_goto ok 14 d_Rg_isFlat_87 (by decide) ?_
                refine g_lv [2, 3, 0] rfl ?_
                exact ih_n (j + 1) (by omega) (fun b q1 q2 => (Int.lt_or_eq_of_le (show b ≤ j by omega)).elim (fun q => hj2 b q1 q) (fun q => by subst q; exact h3)) (by omega)
              · refine g_iconst ok d_Rg_isFlat_82 ?_
                exact g_zpret ok d_Rg_isFlat_83 (Or.inl rfl) ⟨Or.inl rfl, ⟨fun q => by omega, fun q => absurd (q i j hi.1 hj.1 (by omega)) h3⟩⟩
        refine g_lv [1, 2, 0] rfl ?_
        exact L_n ((F k 2 + 1 - (i + 1)).toNat + 1) (i + 1) (by omega) (fun b h1 h2 => by omega) (by omega)
  refine g_lv [1, 0] rfl ?_
  exact L_o ((F k 2 + 1 - 1).toNat + 1) 1 (by omega) (fun a b h1 h2 => by omega) (by omega)
end
section
/-- the turn of (x, y) at the edge from (x1, y1) to (x2, y2); on it; it passes to the right -/
def eTurn (x1 y1 x2 y2 x y : Int) : Int := (x2 - x1) * (y - y1) - (x - x1) * (y2 - y1)
def eOn (x1 y1 x2 y2 x y : Int) : Prop := eTurn x1 y1 x2 y2 x y = 0 ∧ (x - x1) * (x - x2) ≤ 0 ∧ (y - y1) * (y - y2) ≤ 0
def eCr (x1 y1 x2 y2 x y : Int) : Prop := ((y < y1 ∧ ¬ y < y2) ∨ (¬ y < y1 ∧ y < y2)) ∧ ((y1 < y2 ∧ 0 < eTurn x1 y1 x2 y2 x y) ∨ (¬ y1 < y2 ∧ eTurn x1 y1 x2 y2 x y < 0))
/-- an odd number of the first n have P -/
def oddN (P : Int → Prop) : Nat → Prop
  | 0 => False
  | n + 1 => (oddN P n ∧ ¬ P (n : Int)) ∨ (¬ oddN P n ∧ P (n : Int))
theorem oddN_step {P : Int → Prop} {i : Int} (h : 0 ≤ i) : oddN P (i + 1).toNat ↔ ((oddN P i.toNat ∧ ¬ P i) ∨ (¬ oddN P i.toNat ∧ P i)) := by
  have e : (i + 1).toNat = i.toNat + 1 := by omega
  have e2 : ((i.toNat : Nat) : Int) = i := Int.toNat_of_nonneg h
  rw [e]
  show ((oddN P i.toNat ∧ ¬ P ((i.toNat : Nat) : Int)) ∨ (¬ oddN P i.toNat ∧ P ((i.toNat : Nat) : Int))) ↔ _
  rw [e2]
theorem odd_no {O C : Prop} {d : Int} (h : (d = 0 ∨ d = 1) ∧ (d = 1 ↔ O)) (hC : ¬ C) : (d = 0 ∨ d = 1) ∧ (d = 1 ↔ ((O ∧ ¬ C) ∨ (¬ O ∧ C))) :=
  ⟨h.1, fun q => Or.inl ⟨h.2.mp q, hC⟩, fun q => q.elim (fun q => h.2.mpr q.1) (fun q => absurd q.2 hC)⟩
theorem odd_y1 {O C : Prop} {d : Int} (h : (d = 0 ∨ d = 1) ∧ (d = 1 ↔ O)) (hC : C) (hd : d = 0) : ((1 : Int) = 0 ∨ (1 : Int) = 1) ∧ ((1 : Int) = 1 ↔ ((O ∧ ¬ C) ∨ (¬ O ∧ C))) :=
  ⟨Or.inr rfl, fun _ => Or.inr ⟨fun q => absurd (h.2.mpr q) (by omega), hC⟩, fun _ => rfl⟩
theorem odd_y0 {O C : Prop} {d : Int} (h : (d = 0 ∨ d = 1) ∧ (d = 1 ↔ O)) (hC : C) (hd : ¬ d = 0) : ((0 : Int) = 0 ∨ (0 : Int) = 1) ∧ ((0 : Int) = 1 ↔ ((O ∧ ¬ C) ∨ (¬ O ∧ C))) :=
  ⟨Or.inl rfl, fun q => absurd q (by decide), fun q => q.elim (fun q => absurd hC q.2) (fun q => absurd (h.2.mp (by omega)) q.1)⟩
def rJ (sz i : Int) : Int := if i + 1 < sz then i + 1 else 0
def rOn (xs ys : Int → Int) (sz x y i : Int) : Prop := eOn (xs i) (ys i) (xs (rJ sz i)) (ys (rJ sz i)) x y
def rCr (xs ys : Int → Int) (sz x y i : Int) : Prop := eCr (xs i) (ys i) (xs (rJ sz i)) (ys (rJ sz i)) x y
/-- where a place lies to a ring: 2 on an edge, 1 inside, 0 away -/
def rSide (xs ys : Int → Int) (sz x y r : Int) : Prop := (r = 2 ∧ ∃ i : Int, 0 ≤ i ∧ i < sz ∧ rOn xs ys sz x y i) ∨ ((∀ i : Int, 0 ≤ i → i < sz → ¬ rOn xs ys sz x y i) ∧ ((r = 1 ∧ oddN (rCr xs ys sz x y) sz.toNat) ∨ (r = 0 ∧ ¬ oddN (rCr xs ys sz x y) sz.toNat)))
theorem d_Rg_sideOf_0 : decode b_Rg_sideOf 0 = .ok (.iconst 0, 1) := by decide +kernel
theorem d_Rg_sideOf_1 : decode b_Rg_sideOf 1 = .ok (.istore_n 3, 1) := by decide +kernel
theorem d_Rg_sideOf_2 : decode b_Rg_sideOf 2 = .ok (.iconst 0, 1) := by decide +kernel
theorem d_Rg_sideOf_3 : decode b_Rg_sideOf 3 = .ok (.istore 4, 2) := by decide +kernel
theorem d_Rg_sideOf_5 : decode b_Rg_sideOf 5 = .ok (.iload 4, 2) := by decide +kernel
theorem d_Rg_sideOf_7 : decode b_Rg_sideOf 7 = .ok (.aload_n 0, 1) := by decide +kernel
theorem d_Rg_sideOf_8 : decode b_Rg_sideOf 8 = .ok (.getfield 16, 3) := by decide +kernel
theorem d_Rg_sideOf_11 : decode b_Rg_sideOf 11 = .ok (.if_icmp .ge 192, 3) := by decide +kernel
theorem d_Rg_sideOf_14 : decode b_Rg_sideOf 14 = .ok (.iload 4, 2) := by decide +kernel
theorem d_Rg_sideOf_16 : decode b_Rg_sideOf 16 = .ok (.iconst 1, 1) := by decide +kernel
theorem d_Rg_sideOf_17 : decode b_Rg_sideOf 17 = .ok (.iadd, 1) := by decide +kernel
theorem d_Rg_sideOf_18 : decode b_Rg_sideOf 18 = .ok (.aload_n 0, 1) := by decide +kernel
theorem d_Rg_sideOf_19 : decode b_Rg_sideOf 19 = .ok (.getfield 16, 3) := by decide +kernel
theorem d_Rg_sideOf_22 : decode b_Rg_sideOf 22 = .ok (.if_icmp .ge 10, 3) := by decide +kernel
theorem d_Rg_sideOf_25 : decode b_Rg_sideOf 25 = .ok (.iload 4, 2) := by decide +kernel
theorem d_Rg_sideOf_27 : decode b_Rg_sideOf 27 = .ok (.iconst 1, 1) := by decide +kernel
theorem d_Rg_sideOf_28 : decode b_Rg_sideOf 28 = .ok (.iadd, 1) := by decide +kernel
theorem d_Rg_sideOf_29 : decode b_Rg_sideOf 29 = .ok (.goto 4, 3) := by decide +kernel
theorem d_Rg_sideOf_32 : decode b_Rg_sideOf 32 = .ok (.iconst 0, 1) := by decide +kernel
theorem d_Rg_sideOf_33 : decode b_Rg_sideOf 33 = .ok (.istore 5, 2) := by decide +kernel
theorem d_Rg_sideOf_35 : decode b_Rg_sideOf 35 = .ok (.aload_n 0, 1) := by decide +kernel
theorem d_Rg_sideOf_36 : decode b_Rg_sideOf 36 = .ok (.getfield 7, 3) := by decide +kernel
theorem d_Rg_sideOf_39 : decode b_Rg_sideOf 39 = .ok (.iload 4, 2) := by decide +kernel
theorem d_Rg_sideOf_41 : decode b_Rg_sideOf 41 = .ok (.iaload, 1) := by decide +kernel
theorem d_Rg_sideOf_42 : decode b_Rg_sideOf 42 = .ok (.istore 6, 2) := by decide +kernel
theorem d_Rg_sideOf_44 : decode b_Rg_sideOf 44 = .ok (.aload_n 0, 1) := by decide +kernel
theorem d_Rg_sideOf_45 : decode b_Rg_sideOf 45 = .ok (.getfield 13, 3) := by decide +kernel
theorem d_Rg_sideOf_48 : decode b_Rg_sideOf 48 = .ok (.iload 4, 2) := by decide +kernel
theorem d_Rg_sideOf_50 : decode b_Rg_sideOf 50 = .ok (.iaload, 1) := by decide +kernel
theorem d_Rg_sideOf_51 : decode b_Rg_sideOf 51 = .ok (.istore 7, 2) := by decide +kernel
theorem d_Rg_sideOf_53 : decode b_Rg_sideOf 53 = .ok (.aload_n 0, 1) := by decide +kernel
theorem d_Rg_sideOf_54 : decode b_Rg_sideOf 54 = .ok (.getfield 7, 3) := by decide +kernel
theorem d_Rg_sideOf_57 : decode b_Rg_sideOf 57 = .ok (.iload 5, 2) := by decide +kernel
theorem d_Rg_sideOf_59 : decode b_Rg_sideOf 59 = .ok (.iaload, 1) := by decide +kernel
theorem d_Rg_sideOf_60 : decode b_Rg_sideOf 60 = .ok (.istore 8, 2) := by decide +kernel
theorem d_Rg_sideOf_62 : decode b_Rg_sideOf 62 = .ok (.aload_n 0, 1) := by decide +kernel
theorem d_Rg_sideOf_63 : decode b_Rg_sideOf 63 = .ok (.getfield 13, 3) := by decide +kernel
theorem d_Rg_sideOf_66 : decode b_Rg_sideOf 66 = .ok (.iload 5, 2) := by decide +kernel
theorem d_Rg_sideOf_68 : decode b_Rg_sideOf 68 = .ok (.iaload, 1) := by decide +kernel
theorem d_Rg_sideOf_69 : decode b_Rg_sideOf 69 = .ok (.istore 9, 2) := by decide +kernel
theorem d_Rg_sideOf_71 : decode b_Rg_sideOf 71 = .ok (.iload 8, 2) := by decide +kernel
theorem d_Rg_sideOf_73 : decode b_Rg_sideOf 73 = .ok (.iload 6, 2) := by decide +kernel
theorem d_Rg_sideOf_75 : decode b_Rg_sideOf 75 = .ok (.isub, 1) := by decide +kernel
theorem d_Rg_sideOf_76 : decode b_Rg_sideOf 76 = .ok (.iload_n 2, 1) := by decide +kernel
theorem d_Rg_sideOf_77 : decode b_Rg_sideOf 77 = .ok (.iload 7, 2) := by decide +kernel
theorem d_Rg_sideOf_79 : decode b_Rg_sideOf 79 = .ok (.isub, 1) := by decide +kernel
theorem d_Rg_sideOf_80 : decode b_Rg_sideOf 80 = .ok (.imul, 1) := by decide +kernel
theorem d_Rg_sideOf_81 : decode b_Rg_sideOf 81 = .ok (.iload_n 1, 1) := by decide +kernel
theorem d_Rg_sideOf_82 : decode b_Rg_sideOf 82 = .ok (.iload 6, 2) := by decide +kernel
theorem d_Rg_sideOf_84 : decode b_Rg_sideOf 84 = .ok (.isub, 1) := by decide +kernel
theorem d_Rg_sideOf_85 : decode b_Rg_sideOf 85 = .ok (.iload 9, 2) := by decide +kernel
theorem d_Rg_sideOf_87 : decode b_Rg_sideOf 87 = .ok (.iload 7, 2) := by decide +kernel
theorem d_Rg_sideOf_89 : decode b_Rg_sideOf 89 = .ok (.isub, 1) := by decide +kernel
theorem d_Rg_sideOf_90 : decode b_Rg_sideOf 90 = .ok (.imul, 1) := by decide +kernel
theorem d_Rg_sideOf_91 : decode b_Rg_sideOf 91 = .ok (.isub, 1) := by decide +kernel
theorem d_Rg_sideOf_92 : decode b_Rg_sideOf 92 = .ok (.istore 10, 2) := by decide +kernel
theorem d_Rg_sideOf_94 : decode b_Rg_sideOf 94 = .ok (.iload 10, 2) := by decide +kernel
theorem d_Rg_sideOf_96 : decode b_Rg_sideOf 96 = .ok (.ifCond .ne 29, 3) := by decide +kernel
theorem d_Rg_sideOf_99 : decode b_Rg_sideOf 99 = .ok (.iload_n 1, 1) := by decide +kernel
theorem d_Rg_sideOf_100 : decode b_Rg_sideOf 100 = .ok (.iload 6, 2) := by decide +kernel
theorem d_Rg_sideOf_102 : decode b_Rg_sideOf 102 = .ok (.isub, 1) := by decide +kernel
theorem d_Rg_sideOf_103 : decode b_Rg_sideOf 103 = .ok (.iload_n 1, 1) := by decide +kernel
theorem d_Rg_sideOf_104 : decode b_Rg_sideOf 104 = .ok (.iload 8, 2) := by decide +kernel
theorem d_Rg_sideOf_106 : decode b_Rg_sideOf 106 = .ok (.isub, 1) := by decide +kernel
theorem d_Rg_sideOf_107 : decode b_Rg_sideOf 107 = .ok (.imul, 1) := by decide +kernel
theorem d_Rg_sideOf_108 : decode b_Rg_sideOf 108 = .ok (.ifCond .gt 17, 3) := by decide +kernel
theorem d_Rg_sideOf_111 : decode b_Rg_sideOf 111 = .ok (.iload_n 2, 1) := by decide +kernel
theorem d_Rg_sideOf_112 : decode b_Rg_sideOf 112 = .ok (.iload 7, 2) := by decide +kernel
theorem d_Rg_sideOf_114 : decode b_Rg_sideOf 114 = .ok (.isub, 1) := by decide +kernel
theorem d_Rg_sideOf_115 : decode b_Rg_sideOf 115 = .ok (.iload_n 2, 1) := by decide +kernel
theorem d_Rg_sideOf_116 : decode b_Rg_sideOf 116 = .ok (.iload 9, 2) := by decide +kernel
theorem d_Rg_sideOf_118 : decode b_Rg_sideOf 118 = .ok (.isub, 1) := by decide +kernel
theorem d_Rg_sideOf_119 : decode b_Rg_sideOf 119 = .ok (.imul, 1) := by decide +kernel
theorem d_Rg_sideOf_120 : decode b_Rg_sideOf 120 = .ok (.ifCond .gt 5, 3) := by decide +kernel
theorem d_Rg_sideOf_123 : decode b_Rg_sideOf 123 = .ok (.iconst 2, 1) := by decide +kernel
theorem d_Rg_sideOf_124 : decode b_Rg_sideOf 124 = .ok (.ireturn, 1) := by decide +kernel
theorem d_Rg_sideOf_125 : decode b_Rg_sideOf 125 = .ok (.iload 9, 2) := by decide +kernel
theorem d_Rg_sideOf_127 : decode b_Rg_sideOf 127 = .ok (.iload 7, 2) := by decide +kernel
theorem d_Rg_sideOf_129 : decode b_Rg_sideOf 129 = .ok (.if_icmp .le 16, 3) := by decide +kernel
theorem d_Rg_sideOf_132 : decode b_Rg_sideOf 132 = .ok (.iload 10, 2) := by decide +kernel
theorem d_Rg_sideOf_134 : decode b_Rg_sideOf 134 = .ok (.ifCond .le 7, 3) := by decide +kernel
theorem d_Rg_sideOf_137 : decode b_Rg_sideOf 137 = .ok (.iconst 1, 1) := by decide +kernel
theorem d_Rg_sideOf_138 : decode b_Rg_sideOf 138 = .ok (.goto 17, 3) := by decide +kernel
theorem d_Rg_sideOf_141 : decode b_Rg_sideOf 141 = .ok (.iconst 0, 1) := by decide +kernel
theorem d_Rg_sideOf_142 : decode b_Rg_sideOf 142 = .ok (.goto 13, 3) := by decide +kernel
theorem d_Rg_sideOf_145 : decode b_Rg_sideOf 145 = .ok (.iload 10, 2) := by decide +kernel
theorem d_Rg_sideOf_147 : decode b_Rg_sideOf 147 = .ok (.ifCond .ge 7, 3) := by decide +kernel
theorem d_Rg_sideOf_150 : decode b_Rg_sideOf 150 = .ok (.iconst 1, 1) := by decide +kernel
theorem d_Rg_sideOf_151 : decode b_Rg_sideOf 151 = .ok (.goto 4, 3) := by decide +kernel
theorem d_Rg_sideOf_154 : decode b_Rg_sideOf 154 = .ok (.iconst 0, 1) := by decide +kernel
theorem d_Rg_sideOf_155 : decode b_Rg_sideOf 155 = .ok (.istore 11, 2) := by decide +kernel
theorem d_Rg_sideOf_157 : decode b_Rg_sideOf 157 = .ok (.iload 7, 2) := by decide +kernel
theorem d_Rg_sideOf_159 : decode b_Rg_sideOf 159 = .ok (.iload_n 2, 1) := by decide +kernel
theorem d_Rg_sideOf_160 : decode b_Rg_sideOf 160 = .ok (.if_icmp .le 7, 3) := by decide +kernel
theorem d_Rg_sideOf_163 : decode b_Rg_sideOf 163 = .ok (.iconst 1, 1) := by decide +kernel
theorem d_Rg_sideOf_164 : decode b_Rg_sideOf 164 = .ok (.goto 4, 3) := by decide +kernel
theorem d_Rg_sideOf_167 : decode b_Rg_sideOf 167 = .ok (.iconst 0, 1) := by decide +kernel
theorem d_Rg_sideOf_168 : decode b_Rg_sideOf 168 = .ok (.iload 9, 2) := by decide +kernel
theorem d_Rg_sideOf_170 : decode b_Rg_sideOf 170 = .ok (.iload_n 2, 1) := by decide +kernel
theorem d_Rg_sideOf_171 : decode b_Rg_sideOf 171 = .ok (.if_icmp .le 7, 3) := by decide +kernel
theorem d_Rg_sideOf_174 : decode b_Rg_sideOf 174 = .ok (.iconst 1, 1) := by decide +kernel
theorem d_Rg_sideOf_175 : decode b_Rg_sideOf 175 = .ok (.goto 4, 3) := by decide +kernel
theorem d_Rg_sideOf_178 : decode b_Rg_sideOf 178 = .ok (.iconst 0, 1) := by decide +kernel
theorem d_Rg_sideOf_179 : decode b_Rg_sideOf 179 = .ok (.if_icmp .eq 18, 3) := by decide +kernel
theorem d_Rg_sideOf_182 : decode b_Rg_sideOf 182 = .ok (.iload 11, 2) := by decide +kernel
theorem d_Rg_sideOf_184 : decode b_Rg_sideOf 184 = .ok (.ifCond .eq 13, 3) := by decide +kernel
theorem d_Rg_sideOf_187 : decode b_Rg_sideOf 187 = .ok (.iload_n 3, 1) := by decide +kernel
theorem d_Rg_sideOf_188 : decode b_Rg_sideOf 188 = .ok (.ifCond .ne 7, 3) := by decide +kernel
theorem d_Rg_sideOf_191 : decode b_Rg_sideOf 191 = .ok (.iconst 1, 1) := by decide +kernel
theorem d_Rg_sideOf_192 : decode b_Rg_sideOf 192 = .ok (.goto 4, 3) := by decide +kernel
theorem d_Rg_sideOf_195 : decode b_Rg_sideOf 195 = .ok (.iconst 0, 1) := by decide +kernel
theorem d_Rg_sideOf_196 : decode b_Rg_sideOf 196 = .ok (.istore_n 3, 1) := by decide +kernel
theorem d_Rg_sideOf_197 : decode b_Rg_sideOf 197 = .ok (.iinc 4 1, 3) := by decide +kernel
theorem d_Rg_sideOf_200 : decode b_Rg_sideOf 200 = .ok (.goto (-195), 3) := by decide +kernel
theorem d_Rg_sideOf_203 : decode b_Rg_sideOf 203 = .ok (.iload_n 3, 1) := by decide +kernel
theorem d_Rg_sideOf_204 : decode b_Rg_sideOf 204 = .ok (.ifCond .eq 7, 3) := by decide +kernel
theorem d_Rg_sideOf_207 : decode b_Rg_sideOf 207 = .ok (.iconst 1, 1) := by decide +kernel
theorem d_Rg_sideOf_208 : decode b_Rg_sideOf 208 = .ok (.goto 4, 3) := by decide +kernel
theorem d_Rg_sideOf_211 : decode b_Rg_sideOf 211 = .ok (.iconst 0, 1) := by decide +kernel
theorem d_Rg_sideOf_212 : decode b_Rg_sideOf 212 = .ok (.ireturn, 1) := by decide +kernel
set_option maxHeartbeats 4000000 in
set_option maxRecDepth 100000 in
theorem c_Rg_sideOf (F : Nat → Nat → Int) (G : Nat → Int → Int) (k : Nat) (x y : Int) (hK : isRg k) (hR : rIn F G k) (hx : 0 ≤ x ∧ x ≤ 600) (hy : 0 ≤ y ∧ y ≤ 600) : cP y_Rg_sideOf b_Rg_sideOf 12 (some .int) 0 0 F G (fun ad => [.ref (ad k), .int (iI x), .int (iI y)]) (fun r => rSide (G (k + 1)) (G (k + 2)) (F k 2) x y r) := by
  have a1 : isA (k + 1) (rRoom ((k - 2) % 22)) := a_rg hK (Or.inl rfl) rfl
  have a2 : isA (k + 2) (rRoom ((k - 2) % 22)) := a_rg hK (Or.inr rfl) rfl
  have hr32 := rRoom_le ((k - 2) % 22)
  obtain ⟨hs, hX⟩ := hR
  intro s0 a0 D t ad
  refine g_startP (by decide +kernel) (Nat.le_of_ble_eq_true rfl) (fun p l e R s m args below meth c A ok => ?_)
  show gW p l e R s m args below meth c _ D A 12 (gZ0 s) 0 0 ad 265 (mem ad t F G) 0 [(0, .ref (ad k)), (1, .int (iI x)), (2, .int (iI y))] []
  refine g_iconst ok d_Rg_sideOf_0 ?_
  refine g_istore_n (lv' := [(3, .int (iI 0)), (0, .ref (ad k)), (1, .int (iI x)), (2, .int (iI y))]) ok d_Rg_sideOf_1 rfl (by decide) rfl ?_
  refine g_iconst ok d_Rg_sideOf_2 ?_
  refine g_istore (lv' := [(4, .int (iI 0)), (3, .int (iI 0)), (0, .ref (ad k)), (1, .int (iI x)), (2, .int (iI y))]) ok d_Rg_sideOf_3 (by decide) rfl ?_
  have L_o : ∀ (n_o : Nat) (d : Int) (i : Int), (0 ≤ i ∧ i ≤ F k 2) → ((d = 0 ∨ d = 1) ∧ (d = 1 ↔ oddN (rCr (G (k + 1)) (G (k + 2)) (F k 2) x y) i.toNat)) → (∀ a : Int, 0 ≤ a → a < i → ¬ rOn (G (k + 1)) (G (k + 2)) (F k 2) x y a) → (F k 2 + 1 - i) < (n_o : Int) → gW p l e R s m args below meth c (MQ below (gQp (fun r => rSide (G (k + 1)) (G (k + 2)) (F k 2) x y r)) args s 0 0 (fun _ => False)) D A 12 (gZ0 s) 0 0 ad 265 (mem ad t F G) 5 [(0, .ref (ad k)), (1, .int (iI x)), (2, .int (iI y)), (3, .int (iI d)), (4, .int (iI i))] [] := by
    intro n_o
    induction n_o with
    | zero =>
      intro d i hi hdd ho hm_o
      exact absurd hm_o (by omega)
    | succ n_o ih_o =>
      intro d i hi hdd ho hm_o
      refine g_iload ok d_Rg_sideOf_5 4 rfl ?_
      refine g_aload_n ok d_Rg_sideOf_7 rfl 0 rfl ?_
      refine gI_Rg_size ok _ hK k_54 d_Rg_sideOf_8 ?_
      refine g_icmp_ge ok 203 d_Rg_sideOf_11 (by decide) (by omega) (by omega) (fun h1 => ?_) (fun h1 => ?_)
      · refine g_iload_n ok d_Rg_sideOf_203 rfl 3 rfl ?_
        refine g_if_eq ok 211 d_Rg_sideOf_204 (by decide) (by omega) (fun h2 => ?_) (fun h2 => ?_)
        · refine g_iconst ok d_Rg_sideOf_211 ?_
          exact g_ipret ok d_Rg_sideOf_212 (Or.inr ⟨fun a q1 q2 => ho a q1 (by omega), Or.inr ⟨rfl, by rw [show (F k 2).toNat = i.toNat by omega]; exact fun q => absurd (hdd.2.mpr q) (by omega)⟩⟩)
        · refine g_iconst ok d_Rg_sideOf_207 ?_
          refine g_goto ok 212 d_Rg_sideOf_208 (by decide) ?_
          exact g_ipret ok d_Rg_sideOf_212 (Or.inr ⟨fun a q1 q2 => ho a q1 (by omega), Or.inl ⟨rfl, by rw [show (F k 2).toNat = i.toNat by omega]; exact hdd.2.mp (by omega)⟩⟩)
      · have J_33 : ∀ (j : Int), (j = rJ (F k 2) i) → gW p l e R s m args below meth c (MQ below (gQp (fun r => rSide (G (k + 1)) (G (k + 2)) (F k 2) x y r)) args s 0 0 (fun _ => False)) D A 12 (gZ0 s) 0 0 ad 265 (mem ad t F G) 33 [(0, .ref (ad k)), (1, .int (iI x)), (2, .int (iI y)), (3, .int (iI d)), (4, .int (iI i))] [.int (iI j)] := by
          intro j hj
          subst hj
          refine g_istore (lv' := [(5, .int (iI (rJ (F k 2) i))), (0, .ref (ad k)), (1, .int (iI x)), (2, .int (iI y)), (3, .int (iI d)), (4, .int (iI i))]) ok d_Rg_sideOf_33 (by decide) rfl ?_
          have hJ : 0 ≤ rJ (F k 2) i ∧ rJ (F k 2) i < F k 2 := by unfold rJ; split <;> omega
          have xi := hX i (by omega) (by omega)
          have xj := hX (rJ (F k 2) i) (by omega) (by omega)
          refine g_aload_n ok d_Rg_sideOf_35 rfl 1 rfl ?_
          refine gI_Rg_xs ok _ hK k_44 d_Rg_sideOf_36 ?_
          refine g_iload ok d_Rg_sideOf_39 5 rfl ?_
          refine h_iald ok _ a1 (by omega) d_Rg_sideOf_41 ?_
          refine g_istore (lv' := [(6, .int (iI (G (k + 1) i))), (5, .int (iI (rJ (F k 2) i))), (0, .ref (ad k)), (1, .int (iI x)), (2, .int (iI y)), (3, .int (iI d)), (4, .int (iI i))]) ok d_Rg_sideOf_42 (by decide) rfl ?_
          refine g_aload_n ok d_Rg_sideOf_44 rfl 2 rfl ?_
          refine gI_Rg_ys ok _ hK k_49 d_Rg_sideOf_45 ?_
          refine g_iload ok d_Rg_sideOf_48 6 rfl ?_
          refine h_iald ok _ a2 (by omega) d_Rg_sideOf_50 ?_
          refine g_istore (lv' := [(7, .int (iI (G (k + 2) i))), (6, .int (iI (G (k + 1) i))), (5, .int (iI (rJ (F k 2) i))), (0, .ref (ad k)), (1, .int (iI x)), (2, .int (iI y)), (3, .int (iI d)), (4, .int (iI i))]) ok d_Rg_sideOf_51 (by decide) rfl ?_
          refine g_aload_n ok d_Rg_sideOf_53 rfl 3 rfl ?_
          refine gI_Rg_xs ok _ hK k_44 d_Rg_sideOf_54 ?_
          refine g_iload ok d_Rg_sideOf_57 2 rfl ?_
          refine h_iald ok _ a1 (by omega) d_Rg_sideOf_59 ?_
          refine g_istore (lv' := [(8, .int (iI (G (k + 1) (rJ (F k 2) i)))), (7, .int (iI (G (k + 2) i))), (6, .int (iI (G (k + 1) i))), (5, .int (iI (rJ (F k 2) i))), (0, .ref (ad k)), (1, .int (iI x)), (2, .int (iI y)), (3, .int (iI d)), (4, .int (iI i))]) ok d_Rg_sideOf_60 (by decide) rfl ?_
          refine g_aload_n ok d_Rg_sideOf_62 rfl 4 rfl ?_
          refine gI_Rg_ys ok _ hK k_49 d_Rg_sideOf_63 ?_
          refine g_iload ok d_Rg_sideOf_66 3 rfl ?_
          refine h_iald ok _ a2 (by omega) d_Rg_sideOf_68 ?_
          refine g_istore (lv' := [(9, .int (iI (G (k + 2) (rJ (F k 2) i)))), (8, .int (iI (G (k + 1) (rJ (F k 2) i)))), (7, .int (iI (G (k + 2) i))), (6, .int (iI (G (k + 1) i))), (5, .int (iI (rJ (F k 2) i))), (0, .ref (ad k)), (1, .int (iI x)), (2, .int (iI y)), (3, .int (iI d)), (4, .int (iI i))]) ok d_Rg_sideOf_69 (by decide) rfl ?_
          have p1 := mul_rng (a := G (k + 1) (rJ (F k 2) i) - G (k + 1) i) (b := y - G (k + 2) i) (by omega) (by omega)
          have p2 := mul_rng (a := x - G (k + 1) i) (b := G (k + 2) (rJ (F k 2) i) - G (k + 2) i) (by omega) (by omega)
          have p3 := mul_rng (a := x - G (k + 1) i) (b := x - G (k + 1) (rJ (F k 2) i)) (by omega) (by omega)
          have p4 := mul_rng (a := y - G (k + 2) i) (b := y - G (k + 2) (rJ (F k 2) i)) (by omega) (by omega)
          have tr : -720000 ≤ eTurn (G (k + 1) i) (G (k + 2) i) (G (k + 1) (rJ (F k 2) i)) (G (k + 2) (rJ (F k 2) i)) x y ∧ eTurn (G (k + 1) i) (G (k + 2) i) (G (k + 1) (rJ (F k 2) i)) (G (k + 2) (rJ (F k 2) i)) x y ≤ 720000 := by unfold eTurn; omega
          refine g_iload ok d_Rg_sideOf_71 1 rfl ?_
          refine g_iload ok d_Rg_sideOf_73 3 rfl ?_
          refine g_isub ok d_Rg_sideOf_75 ?_
          refine g_iload_n ok d_Rg_sideOf_76 rfl 7 rfl ?_
          refine g_iload ok d_Rg_sideOf_77 2 rfl ?_
          refine g_isub ok d_Rg_sideOf_79 ?_
          refine g_imul ok d_Rg_sideOf_80 ?_
          refine g_iload_n ok d_Rg_sideOf_81 rfl 6 rfl ?_
          refine g_iload ok d_Rg_sideOf_82 3 rfl ?_
          refine g_isub ok d_Rg_sideOf_84 ?_
          refine g_iload ok d_Rg_sideOf_85 0 rfl ?_
          refine g_iload ok d_Rg_sideOf_87 2 rfl ?_
          refine g_isub ok d_Rg_sideOf_89 ?_
          refine g_imul ok d_Rg_sideOf_90 ?_
          refine g_isub ok d_Rg_sideOf_91 ?_
          refine g_istore (lv' := [(10, .int (iI ((((G (k + 1) (rJ (F k 2) i)) - (G (k + 1) i)) * (y - (G (k + 2) i))) - ((x - (G (k + 1) i)) * ((G (k + 2) (rJ (F k 2) i)) - (G (k + 2) i)))))), (9, .int (iI (G (k + 2) (rJ (F k 2) i)))), (8, .int (iI (G (k + 1) (rJ (F k 2) i)))), (7, .int (iI (G (k + 2) i))), (6, .int (iI (G (k + 1) i))), (5, .int (iI (rJ (F k 2) i))), (0, .ref (ad k)), (1, .int (iI x)), (2, .int (iI y)), (3, .int (iI d)), (4, .int (iI i))]) ok d_Rg_sideOf_92 (by decide) rfl ?_
          refine g_lv [6, 7, 8, 9, 10, 4, 3, 2, 1, 0] rfl ?_
          show gW p l e R s m args below meth c _ D A 12 (gZ0 s) 0 0 ad 265 (mem ad t F G) 94 [(0, .ref (ad k)), (1, .int (iI x)), (2, .int (iI y)), (3, .int (iI d)), (4, .int (iI i)), (6, .int (iI (G (k + 1) i))), (7, .int (iI (G (k + 2) i))), (8, .int (iI (G (k + 1) (rJ (F k 2) i)))), (9, .int (iI (G (k + 2) (rJ (F k 2) i)))), (10, .int (iI (eTurn (G (k + 1) i) (G (k + 2) i) (G (k + 1) (rJ (F k 2) i)) (G (k + 2) (rJ (F k 2) i)) x y)))] []
          have J_125 : (¬ rOn (G (k + 1)) (G (k + 2)) (F k 2) x y i) → gW p l e R s m args below meth c (MQ below (gQp (fun r => rSide (G (k + 1)) (G (k + 2)) (F k 2) x y r)) args s 0 0 (fun _ => False)) D A 12 (gZ0 s) 0 0 ad 265 (mem ad t F G) 125 [(0, .ref (ad k)), (1, .int (iI x)), (2, .int (iI y)), (3, .int (iI d)), (4, .int (iI i)), (6, .int (iI (G (k + 1) i))), (7, .int (iI (G (k + 2) i))), (8, .int (iI (G (k + 1) (rJ (F k 2) i)))), (9, .int (iI (G (k + 2) (rJ (F k 2) i)))), (10, .int (iI (eTurn (G (k + 1) i) (G (k + 2) i) (G (k + 1) (rJ (F k 2) i)) (G (k + 2) (rJ (F k 2) i)) x y)))] [] := by
            intro hno
            have J_155 : ∀ (b : Int), ((b = 0 ∨ b = 1) ∧ (b = 1 ↔ ((G (k + 2) i < G (k + 2) (rJ (F k 2) i) ∧ 0 < eTurn (G (k + 1) i) (G (k + 2) i) (G (k + 1) (rJ (F k 2) i)) (G (k + 2) (rJ (F k 2) i)) x y) ∨ (¬ G (k + 2) i < G (k + 2) (rJ (F k 2) i) ∧ eTurn (G (k + 1) i) (G (k + 2) i) (G (k + 1) (rJ (F k 2) i)) (G (k + 2) (rJ (F k 2) i)) x y < 0)))) → gW p l e R s m args below meth c (MQ below (gQp (fun r => rSide (G (k + 1)) (G (k + 2)) (F k 2) x y r)) args s 0 0 (fun _ => False)) D A 12 (gZ0 s) 0 0 ad 265 (mem ad t F G) 155 [(0, .ref (ad k)), (1, .int (iI x)), (2, .int (iI y)), (3, .int (iI d)), (4, .int (iI i)), (6, .int (iI (G (k + 1) i))), (7, .int (iI (G (k + 2) i))), (8, .int (iI (G (k + 1) (rJ (F k 2) i)))), (9, .int (iI (G (k + 2) (rJ (F k 2) i)))), (10, .int (iI (eTurn (G (k + 1) i) (G (k + 2) i) (G (k + 1) (rJ (F k 2) i)) (G (k + 2) (rJ (F k 2) i)) x y)))] [.int (iI b)] := by
              intro b hb
              refine g_istore (lv' := [(11, .int (iI b)), (0, .ref (ad k)), (1, .int (iI x)), (2, .int (iI y)), (3, .int (iI d)), (4, .int (iI i)), (6, .int (iI (G (k + 1) i))), (7, .int (iI (G (k + 2) i))), (8, .int (iI (G (k + 1) (rJ (F k 2) i)))), (9, .int (iI (G (k + 2) (rJ (F k 2) i)))), (10, .int (iI (eTurn (G (k + 1) i) (G (k + 2) i) (G (k + 1) (rJ (F k 2) i)) (G (k + 2) (rJ (F k 2) i)) x y)))]) ok d_Rg_sideOf_155 (by decide) rfl ?_
              have J_197 : ∀ (d2 : Int), ((d2 = 0 ∨ d2 = 1) ∧ (d2 = 1 ↔ oddN (rCr (G (k + 1)) (G (k + 2)) (F k 2) x y) (i + 1).toNat)) → gW p l e R s m args below meth c (MQ below (gQp (fun r => rSide (G (k + 1)) (G (k + 2)) (F k 2) x y r)) args s 0 0 (fun _ => False)) D A 12 (gZ0 s) 0 0 ad 265 (mem ad t F G) 197 [(0, .ref (ad k)), (1, .int (iI x)), (2, .int (iI y)), (3, .int (iI d2)), (4, .int (iI i))] [] := by
                intro d2 hd2
                refine g_iinc (lv' := [(4, .int (iI (i + 1))), (0, .ref (ad k)), (1, .int (iI x)), (2, .int (iI y)), (3, .int (iI d2))]) ok d_Rg_sideOf_197 4 rfl (by decide) rfl ?_
                refine g_goto ok 5 d_Rg_sideOf_200 (by decide) ?_
                refine g_lv [1, 2, 3, 4, 0] rfl ?_
                exact ih_o d2 (i + 1) (by omega) (hd2) (fun a q1 q2 => (Int.lt_or_eq_of_le (show a ≤ i by omega)).elim (fun q => ho a q1 q) (fun q => by subst q; exact hno)) (by omega)
              refine g_iload ok d_Rg_sideOf_157 7 rfl ?_
              refine g_iload_n ok d_Rg_sideOf_159 rfl 3 rfl ?_
              refine g_icmp_le ok 167 d_Rg_sideOf_160 (by decide) (by omega) (by omega) (fun h3 => ?_) (fun h3 => ?_)
              · refine g_iconst ok d_Rg_sideOf_167 ?_
                refine g_iload ok d_Rg_sideOf_168 9 rfl ?_
                refine g_iload_n ok d_Rg_sideOf_170 rfl 3 rfl ?_
                refine g_icmp_le ok 178 d_Rg_sideOf_171 (by decide) (by omega) (by omega) (fun h4 => ?_) (fun h4 => ?_)
                · refine g_iconst ok d_Rg_sideOf_178 ?_
                  refine g_icmp_eq ok 197 d_Rg_sideOf_179 (by decide) (by omega) (by omega) (fun h5 => ?_) (fun h5 => ?_)
                  · refine g_lv [1, 2, 3, 4, 5] rfl ?_
                    exact J_197 d (by rw [oddN_step hi.1]; exact odd_no hdd (by unfold rCr eCr; omega))
                  · exact absurd h5 (by decide)
                · refine g_iconst ok d_Rg_sideOf_174 ?_
                  refine g_goto ok 179 d_Rg_sideOf_175 (by decide) ?_
                  refine g_icmp_eq ok 197 d_Rg_sideOf_179 (by decide) (by omega) (by omega) (fun h6 => ?_) (fun h6 => ?_)
                  · exact absurd h6 (by decide)
                  · refine g_iload ok d_Rg_sideOf_182 0 rfl ?_
                    refine g_if_eq ok 197 d_Rg_sideOf_184 (by decide) (by omega) (fun h7 => ?_) (fun h7 => ?_)
                    · refine g_lv [1, 2, 3, 4, 5] rfl ?_
                      exact J_197 d (by rw [oddN_step hi.1]; exact odd_no hdd (by unfold rCr eCr; omega))
                    · refine g_iload_n ok d_Rg_sideOf_187 rfl 4 rfl ?_
                      refine g_if_ne ok 195 d_Rg_sideOf_188 (by decide) (by omega) (fun h8 => ?_) (fun h8 => ?_)
                      · refine g_iconst ok d_Rg_sideOf_195 ?_
                        refine g_istore_n (lv' := [(3, .int (iI 0)), (11, .int (iI b)), (0, .ref (ad k)), (1, .int (iI x)), (2, .int (iI y)), (4, .int (iI i)), (6, .int (iI (G (k + 1) i))), (7, .int (iI (G (k + 2) i))), (8, .int (iI (G (k + 1) (rJ (F k 2) i)))), (9, .int (iI (G (k + 2) (rJ (F k 2) i)))), (10, .int (iI (eTurn (G (k + 1) i) (G (k + 2) i) (G (k + 1) (rJ (F k 2) i)) (G (k + 2) (rJ (F k 2) i)) x y)))]) ok d_Rg_sideOf_196 rfl (by decide) rfl ?_
                        refine g_lv [2, 3, 4, 0, 5] rfl ?_
                        exact J_197 0 (by rw [oddN_step hi.1]; exact odd_y0 hdd (by unfold rCr eCr; omega) (by omega))
                      · refine g_iconst ok d_Rg_sideOf_191 ?_
                        refine g_goto ok 196 d_Rg_sideOf_192 (by decide) ?_
                        refine g_istore_n (lv' := [(3, .int (iI 1)), (11, .int (iI b)), (0, .ref (ad k)), (1, .int (iI x)), (2, .int (iI y)), (4, .int (iI i)), (6, .int (iI (G (k + 1) i))), (7, .int (iI (G (k + 2) i))), (8, .int (iI (G (k + 1) (rJ (F k 2) i)))), (9, .int (iI (G (k + 2) (rJ (F k 2) i)))), (10, .int (iI (eTurn (G (k + 1) i) (G (k + 2) i) (G (k + 1) (rJ (F k 2) i)) (G (k + 2) (rJ (F k 2) i)) x y)))]) ok d_Rg_sideOf_196 rfl (by decide) rfl ?_
                        refine g_lv [2, 3, 4, 0, 5] rfl ?_
                        exact J_197 1 (by rw [oddN_step hi.1]; exact odd_y1 hdd (by unfold rCr eCr; omega) (by omega))
              · refine g_iconst ok d_Rg_sideOf_163 ?_
                refine g_goto ok 168 d_Rg_sideOf_164 (by decide) ?_
                refine g_iload ok d_Rg_sideOf_168 9 rfl ?_
                refine g_iload_n ok d_Rg_sideOf_170 rfl 3 rfl ?_
                refine g_icmp_le ok 178 d_Rg_sideOf_171 (by decide) (by omega) (by omega) (fun h9 => ?_) (fun h9 => ?_)
                · refine g_iconst ok d_Rg_sideOf_178 ?_
                  refine g_icmp_eq ok 197 d_Rg_sideOf_179 (by decide) (by omega) (by omega) (fun h10 => ?_) (fun h10 => ?_)
                  · exact absurd h10 (by decide)
                  · refine g_iload ok d_Rg_sideOf_182 0 rfl ?_
                    refine g_if_eq ok 197 d_Rg_sideOf_184 (by decide) (by omega) (fun h11 => ?_) (fun h11 => ?_)
                    · refine g_lv [1, 2, 3, 4, 5] rfl ?_
                      exact J_197 d (by rw [oddN_step hi.1]; exact odd_no hdd (by unfold rCr eCr; omega))
                    · refine g_iload_n ok d_Rg_sideOf_187 rfl 4 rfl ?_
                      refine g_if_ne ok 195 d_Rg_sideOf_188 (by decide) (by omega) (fun h12 => ?_) (fun h12 => ?_)
                      · refine g_iconst ok d_Rg_sideOf_195 ?_
                        refine g_istore_n (lv' := [(3, .int (iI 0)), (11, .int (iI b)), (0, .ref (ad k)), (1, .int (iI x)), (2, .int (iI y)), (4, .int (iI i)), (6, .int (iI (G (k + 1) i))), (7, .int (iI (G (k + 2) i))), (8, .int (iI (G (k + 1) (rJ (F k 2) i)))), (9, .int (iI (G (k + 2) (rJ (F k 2) i)))), (10, .int (iI (eTurn (G (k + 1) i) (G (k + 2) i) (G (k + 1) (rJ (F k 2) i)) (G (k + 2) (rJ (F k 2) i)) x y)))]) ok d_Rg_sideOf_196 rfl (by decide) rfl ?_
                        refine g_lv [2, 3, 4, 0, 5] rfl ?_
                        exact J_197 0 (by rw [oddN_step hi.1]; exact odd_y0 hdd (by unfold rCr eCr; omega) (by omega))
                      · refine g_iconst ok d_Rg_sideOf_191 ?_
                        refine g_goto ok 196 d_Rg_sideOf_192 (by decide) ?_
                        refine g_istore_n (lv' := [(3, .int (iI 1)), (11, .int (iI b)), (0, .ref (ad k)), (1, .int (iI x)), (2, .int (iI y)), (4, .int (iI i)), (6, .int (iI (G (k + 1) i))), (7, .int (iI (G (k + 2) i))), (8, .int (iI (G (k + 1) (rJ (F k 2) i)))), (9, .int (iI (G (k + 2) (rJ (F k 2) i)))), (10, .int (iI (eTurn (G (k + 1) i) (G (k + 2) i) (G (k + 1) (rJ (F k 2) i)) (G (k + 2) (rJ (F k 2) i)) x y)))]) ok d_Rg_sideOf_196 rfl (by decide) rfl ?_
                        refine g_lv [2, 3, 4, 0, 5] rfl ?_
                        exact J_197 1 (by rw [oddN_step hi.1]; exact odd_y1 hdd (by unfold rCr eCr; omega) (by omega))
                · refine g_iconst ok d_Rg_sideOf_174 ?_
                  refine g_goto ok 179 d_Rg_sideOf_175 (by decide) ?_
                  refine g_icmp_eq ok 197 d_Rg_sideOf_179 (by decide) (by omega) (by omega) (fun h13 => ?_) (fun h13 => ?_)
                  · refine g_lv [1, 2, 3, 4, 5] rfl ?_
                    exact J_197 d (by rw [oddN_step hi.1]; exact odd_no hdd (by unfold rCr eCr; omega))
                  · exact absurd h13 (by decide)
            refine g_iload ok d_Rg_sideOf_125 8 rfl ?_
            refine g_iload ok d_Rg_sideOf_127 6 rfl ?_
            refine g_icmp_le ok 145 d_Rg_sideOf_129 (by decide) (by omega) (by omega) (fun h14 => ?_) (fun h14 => ?_)
            · refine g_iload ok d_Rg_sideOf_145 9 rfl ?_
              refine g_if_ge ok 154 d_Rg_sideOf_147 (by decide) (by omega) (fun h15 => ?_) (fun h15 => ?_)
              · refine g_iconst ok d_Rg_sideOf_154 ?_
                exact J_155 0 (by omega)
              · refine g_iconst ok d_Rg_sideOf_150 ?_
                refine g_goto ok 155 d_Rg_sideOf_151 (by decide) ?_
                exact J_155 1 (by omega)
            · refine g_iload ok d_Rg_sideOf_132 9 rfl ?_
              refine g_if_le ok 141 d_Rg_sideOf_134 (by decide) (by omega) (fun h16 => ?_) (fun h16 => ?_)
              · refine g_iconst ok d_Rg_sideOf_141 ?_
                refine g_goto ok 155 d_Rg_sideOf_142 (by decide) ?_
                exact J_155 0 (by omega)
              · refine g_iconst ok d_Rg_sideOf_137 ?_
                refine g_goto ok 155 d_Rg_sideOf_138 (by decide) ?_
                exact J_155 1 (by omega)
          refine g_iload ok d_Rg_sideOf_94 9 rfl ?_
          refine g_if_ne ok 125 d_Rg_sideOf_96 (by decide) (by omega) (fun h17 => ?_) (fun h17 => ?_)
          · have hq := h17
            exact J_125  (fun q => by first | exact hq q.1 | (have q2 := q.2; omega))
          · refine g_iload_n ok d_Rg_sideOf_99 rfl 1 rfl ?_
            refine g_iload ok d_Rg_sideOf_100 5 rfl ?_
            refine g_isub ok d_Rg_sideOf_102 ?_
            refine g_iload_n ok d_Rg_sideOf_103 rfl 1 rfl ?_
            refine g_iload ok d_Rg_sideOf_104 7 rfl ?_
            refine g_isub ok d_Rg_sideOf_106 ?_
            refine g_imul ok d_Rg_sideOf_107 ?_
            refine g_if_gt ok 125 d_Rg_sideOf_108 (by decide) (by omega) (fun h18 => ?_) (fun h18 => ?_)
            · have hq : ¬ (0 = 1) := by decide
              exact J_125  (fun q => by first | exact hq q.1 | (have q2 := q.2; omega))
            · refine g_iload_n ok d_Rg_sideOf_111 rfl 2 rfl ?_
              refine g_iload ok d_Rg_sideOf_112 6 rfl ?_
              refine g_isub ok d_Rg_sideOf_114 ?_
              refine g_iload_n ok d_Rg_sideOf_115 rfl 2 rfl ?_
              refine g_iload ok d_Rg_sideOf_116 8 rfl ?_
              refine g_isub ok d_Rg_sideOf_118 ?_
              refine g_imul ok d_Rg_sideOf_119 ?_
              refine g_if_gt ok 125 d_Rg_sideOf_120 (by decide) (by omega) (fun h19 => ?_) (fun h19 => ?_)
              · have hq : ¬ (0 = 1) := by decide
                exact J_125  (fun q => by first | exact hq q.1 | (have q2 := q.2; omega))
              · refine g_iconst ok d_Rg_sideOf_123 ?_
                exact g_ipret ok d_Rg_sideOf_124 (Or.inl ⟨rfl, i, hi.1, by omega, by unfold rOn eOn; omega⟩)
        refine g_iload ok d_Rg_sideOf_14 4 rfl ?_
        refine g_iconst ok d_Rg_sideOf_16 ?_
        refine g_iadd ok d_Rg_sideOf_17 ?_
        refine g_aload_n ok d_Rg_sideOf_18 rfl 0 rfl ?_
        refine gI_Rg_size ok _ hK k_54 d_Rg_sideOf_19 ?_
        refine g_icmp_ge ok 32 d_Rg_sideOf_22 (by decide) (by omega) (by omega) (fun h20 => ?_) (fun h20 => ?_)
        · refine g_iconst ok d_Rg_sideOf_32 ?_
          exact J_33 0 (by unfold rJ; rw [if_neg (by omega)])
        · refine g_iload ok d_Rg_sideOf_25 4 rfl ?_
          refine g_iconst ok d_Rg_sideOf_27 ?_
          refine g_iadd ok d_Rg_sideOf_28 ?_
          refine g_goto ok 33 d_Rg_sideOf_29 (by decide) ?_
          exact J_33 (i + 1) (by unfold rJ; rw [if_pos (by omega)])
  refine g_lv [2, 3, 4, 1, 0] rfl ?_
  exact L_o ((F k 2 + 1 - 0).toNat + 1) 0 0 (by omega) (⟨Or.inl rfl, ⟨fun q => by omega, fun q => q.elim⟩⟩) (fun a q1 q2 => by omega) (by omega)
end
section
theorem rSide_rng {xs ys : Int → Int} {sz x y r : Int} (h : rSide xs ys sz x y r) : 0 ≤ r ∧ r ≤ 2 := by
  rcases h with h | ⟨-, h | h⟩ <;> omega
theorem rSide_1 {xs ys : Int → Int} {sz x y r : Int} (h : rSide xs ys sz x y r) (hr : r = 1) : oddN (rCr xs ys sz x y) sz.toNat := by
  rcases h with h | ⟨-, h | h⟩
  · omega
  · exact h.2
  · omega
theorem rSide_0 {xs ys : Int → Int} {sz x y r : Int} (h : rSide xs ys sz x y r) (hr : ¬ r = 1) (h2 : ¬ r = 2) : ¬ oddN (rCr xs ys sz x y) sz.toNat := by
  rcases h with h | ⟨-, h | h⟩
  · omega
  · omega
  · exact h.2
theorem rSide_2 {xs ys : Int → Int} {sz x y r : Int} (h : rSide xs ys sz x y r) (hr : r = 2) : ∃ i : Int, 0 ≤ i ∧ i < sz ∧ rOn xs ys sz x y i := by
  rcases h with h | ⟨-, h | h⟩
  · exact h.2
  · omega
  · omega
theorem rSide_n {xs ys : Int → Int} {sz x y r : Int} (h : rSide xs ys sz x y r) (hr : ¬ r = 2) : ¬ ∃ i : Int, 0 ≤ i ∧ i < sz ∧ rOn xs ys sz x y i := by
  rcases h with h | ⟨h, -⟩
  · omega
  · exact fun ⟨i, h1, h2, h3⟩ => h i h1 h2 h3
theorem odd_n1 {O C : Prop} {d : Int} (h : (d = 0 ∨ d = 1) ∧ (d = 1 ↔ O)) (hC : ¬ C) (hd : ¬ d = 0) : ((1 : Int) = 0 ∨ (1 : Int) = 1) ∧ ((1 : Int) = 1 ↔ ((O ∧ ¬ C) ∨ (¬ O ∧ C))) :=
  ⟨Or.inr rfl, fun _ => Or.inl ⟨h.2.mp (by omega), hC⟩, fun _ => rfl⟩
theorem odd_n0 {O C : Prop} {d : Int} (h : (d = 0 ∨ d = 1) ∧ (d = 1 ↔ O)) (hC : ¬ C) (hd : d = 0) : ((0 : Int) = 0 ∨ (0 : Int) = 1) ∧ ((0 : Int) = 1 ↔ ((O ∧ ¬ C) ∨ (¬ O ∧ C))) :=
  ⟨Or.inl rfl, fun q => absurd q (by decide), fun q => q.elim (fun q => absurd (h.2.mpr q.1) (by omega)) (fun q => absurd q.2 hC)⟩
-- rings of the shape at k
def sOn (F : Nat → Nat → Int) (G : Nat → Int → Int) (k : Nat) (x y q : Int) : Prop := ∃ i : Int, 0 ≤ i ∧ i < F (k + 3 + 3 * q.toNat) 2 ∧ rOn (G (k + 3 + 3 * q.toNat + 1)) (G (k + 3 + 3 * q.toNat + 2)) (F (k + 3 + 3 * q.toNat) 2) x y i
def sIn (F : Nat → Nat → Int) (G : Nat → Int → Int) (k : Nat) (x y q : Int) : Prop := oddN (rCr (G (k + 3 + 3 * q.toNat + 1)) (G (k + 3 + 3 * q.toNat + 2)) (F (k + 3 + 3 * q.toNat) 2) x y) (F (k + 3 + 3 * q.toNat) 2).toNat
def sBox (F : Nat → Nat → Int) (k : Nat) (x y : Int) : Prop := F k 7 ≤ x ∧ x ≤ F k 9 ∧ F k 8 ≤ y ∧ y ≤ F k 10
def sHas (F : Nat → Nat → Int) (G : Nat → Int → Int) (k : Nat) (x y : Int) : Prop := sBox F k x y ∧ ((∃ q : Int, 0 ≤ q ∧ q < 4 ∧ sOn F G k x y q) ∨ ((∀ q : Int, 0 ≤ q → q < 4 → ¬ sOn F G k x y q) ∧ oddN (sIn F G k x y) 4))
def sRg (F : Nat → Nat → Int) (G : Nat → Int → Int) (k : Nat) : Prop := ∀ q : Nat, q < 4 → rIn F G (k + 3 + 3 * q)
theorem rg_of {k : Nat} {q : Nat} (h : isSh k) (hq : q < 6) : isRg (k + 3 + 3 * q) := by
  unfold isSh at h
  unfold isRg
  have : (k - 2) / 22 < 10 := by omega
  have e : (k + 3 + 3 * q - 2) % 22 = 3 + 3 * q := by omega
  rw [e]
  omega
theorem d_Ty_clear_0 : decode b_Ty_clear 0 = .ok (.aload_n 0, 1) := by decide +kernel
theorem d_Ty_clear_1 : decode b_Ty_clear 1 = .ok (.iconst 0, 1) := by decide +kernel
theorem d_Ty_clear_2 : decode b_Ty_clear 2 = .ok (.putfield 7, 3) := by decide +kernel
theorem d_Ty_clear_5 : decode b_Ty_clear 5 = .ok (.aload_n 0, 1) := by decide +kernel
theorem d_Ty_clear_6 : decode b_Ty_clear 6 = .ok (.iconst 0, 1) := by decide +kernel
theorem d_Ty_clear_7 : decode b_Ty_clear 7 = .ok (.putfield 13, 3) := by decide +kernel
theorem d_Ty_clear_10 : decode b_Ty_clear 10 = .ok (.return_, 1) := by decide +kernel
set_option maxHeartbeats 4000000 in
set_option maxRecDepth 100000 in
theorem c_Ty_clear (F : Nat → Nat → Int) (G : Nat → Int → Int) (k : Nat) (hK : isTy k) : cV y_Ty_clear b_Ty_clear 1 none 0 0 F G (fun ad => [.ref (ad k)]) (fun F' G' => F' = fU (fU F k 0 0) k 1 0 ∧ G' = G) := by
  intro s0 a0 D t ad
  refine g_startV (by decide +kernel) (Nat.le_of_ble_eq_true rfl) (fun p l e R s m args below meth c A ok => ?_)
  show gW p l e R s m args below meth c _ D A 1 (gZ0 s) 0 0 ad 265 (mem ad t F G) 0 [(0, .ref (ad k))] []
  refine g_aload_n ok d_Ty_clear_0 rfl 0 rfl ?_
  refine g_iconst ok d_Ty_clear_1 ?_
  refine pI_Ty_runs ok _ hK k_74 d_Ty_clear_2 ?_
  refine g_aload_n ok d_Ty_clear_5 rfl 0 rfl ?_
  refine g_iconst ok d_Ty_clear_6 ?_
  refine pI_Ty_places ok _ hK k_76 d_Ty_clear_7 ?_
  exact g_vret ok d_Ty_clear_10 ⟨_, _, rfl, rfl, rfl⟩
theorem d_Ty_beginRun_0 : decode b_Ty_beginRun 0 = .ok (.aload_n 0, 1) := by decide +kernel
theorem d_Ty_beginRun_1 : decode b_Ty_beginRun 1 = .ok (.dup, 1) := by decide +kernel
theorem d_Ty_beginRun_2 : decode b_Ty_beginRun 2 = .ok (.getfield 7, 3) := by decide +kernel
theorem d_Ty_beginRun_5 : decode b_Ty_beginRun 5 = .ok (.iconst 1, 1) := by decide +kernel
theorem d_Ty_beginRun_6 : decode b_Ty_beginRun 6 = .ok (.iadd, 1) := by decide +kernel
theorem d_Ty_beginRun_7 : decode b_Ty_beginRun 7 = .ok (.putfield 7, 3) := by decide +kernel
theorem d_Ty_beginRun_10 : decode b_Ty_beginRun 10 = .ok (.return_, 1) := by decide +kernel
set_option maxHeartbeats 4000000 in
set_option maxRecDepth 100000 in
theorem c_Ty_beginRun (F : Nat → Nat → Int) (G : Nat → Int → Int) (k : Nat) (hK : isTy k) : cV y_Ty_beginRun b_Ty_beginRun 1 none 0 0 F G (fun ad => [.ref (ad k)]) (fun F' G' => F' = fU F k 0 (F k 0 + 1) ∧ G' = G) := by
  intro s0 a0 D t ad
  refine g_startV (by decide +kernel) (Nat.le_of_ble_eq_true rfl) (fun p l e R s m args below meth c A ok => ?_)
  show gW p l e R s m args below meth c _ D A 1 (gZ0 s) 0 0 ad 265 (mem ad t F G) 0 [(0, .ref (ad k))] []
  refine g_aload_n ok d_Ty_beginRun_0 rfl 0 rfl ?_
  refine g_dup ok d_Ty_beginRun_1 rfl ?_
  refine gI_Ty_runs ok _ hK k_74 d_Ty_beginRun_2 ?_
  refine g_iconst ok d_Ty_beginRun_5 ?_
  refine g_iadd ok d_Ty_beginRun_6 ?_
  refine pI_Ty_runs ok _ hK k_74 d_Ty_beginRun_7 ?_
  exact g_vret ok d_Ty_beginRun_10 ⟨_, _, rfl, rfl, rfl⟩
theorem d_Ty_take_0 : decode b_Ty_take 0 = .ok (.aload_n 0, 1) := by decide +kernel
theorem d_Ty_take_1 : decode b_Ty_take 1 = .ok (.dup, 1) := by decide +kernel
theorem d_Ty_take_2 : decode b_Ty_take 2 = .ok (.getfield 13, 3) := by decide +kernel
theorem d_Ty_take_5 : decode b_Ty_take 5 = .ok (.iconst 1, 1) := by decide +kernel
theorem d_Ty_take_6 : decode b_Ty_take 6 = .ok (.iadd, 1) := by decide +kernel
theorem d_Ty_take_7 : decode b_Ty_take 7 = .ok (.putfield 13, 3) := by decide +kernel
theorem d_Ty_take_10 : decode b_Ty_take 10 = .ok (.return_, 1) := by decide +kernel
set_option maxHeartbeats 4000000 in
set_option maxRecDepth 100000 in
theorem c_Ty_take (F : Nat → Nat → Int) (G : Nat → Int → Int) (k : Nat) (x y : Int) (hK : isTy k) : cV y_Ty_take b_Ty_take 3 none 0 0 F G (fun ad => [.ref (ad k), .int (iI x), .int (iI y)]) (fun F' G' => F' = fU F k 1 (F k 1 + 1) ∧ G' = G) := by
  intro s0 a0 D t ad
  refine g_startV (by decide +kernel) (Nat.le_of_ble_eq_true rfl) (fun p l e R s m args below meth c A ok => ?_)
  show gW p l e R s m args below meth c _ D A 3 (gZ0 s) 0 0 ad 265 (mem ad t F G) 0 [(0, .ref (ad k)), (1, .int (iI x)), (2, .int (iI y))] []
  refine g_aload_n ok d_Ty_take_0 rfl 0 rfl ?_
  refine g_dup ok d_Ty_take_1 rfl ?_
  refine gI_Ty_places ok _ hK k_76 d_Ty_take_2 ?_
  refine g_iconst ok d_Ty_take_5 ?_
  refine g_iadd ok d_Ty_take_6 ?_
  refine pI_Ty_places ok _ hK k_76 d_Ty_take_7 ?_
  exact g_vret ok d_Ty_take_10 ⟨_, _, rfl, rfl, rfl⟩
theorem d_Sh_meets_0 : decode b_Sh_meets 0 = .ok (.aload_n 0, 1) := by decide +kernel
theorem d_Sh_meets_1 : decode b_Sh_meets 1 = .ok (.getfield 67, 3) := by decide +kernel
theorem d_Sh_meets_4 : decode b_Sh_meets 4 = .ok (.aload_n 1, 1) := by decide +kernel
theorem d_Sh_meets_5 : decode b_Sh_meets 5 = .ok (.getfield 73, 3) := by decide +kernel
theorem d_Sh_meets_8 : decode b_Sh_meets 8 = .ok (.if_icmp .gt 40, 3) := by decide +kernel
theorem d_Sh_meets_11 : decode b_Sh_meets 11 = .ok (.aload_n 1, 1) := by decide +kernel
theorem d_Sh_meets_12 : decode b_Sh_meets 12 = .ok (.getfield 67, 3) := by decide +kernel
theorem d_Sh_meets_15 : decode b_Sh_meets 15 = .ok (.aload_n 0, 1) := by decide +kernel
theorem d_Sh_meets_16 : decode b_Sh_meets 16 = .ok (.getfield 73, 3) := by decide +kernel
theorem d_Sh_meets_19 : decode b_Sh_meets 19 = .ok (.if_icmp .gt 29, 3) := by decide +kernel
theorem d_Sh_meets_22 : decode b_Sh_meets 22 = .ok (.aload_n 0, 1) := by decide +kernel
theorem d_Sh_meets_23 : decode b_Sh_meets 23 = .ok (.getfield 70, 3) := by decide +kernel
theorem d_Sh_meets_26 : decode b_Sh_meets 26 = .ok (.aload_n 1, 1) := by decide +kernel
theorem d_Sh_meets_27 : decode b_Sh_meets 27 = .ok (.getfield 76, 3) := by decide +kernel
theorem d_Sh_meets_30 : decode b_Sh_meets 30 = .ok (.if_icmp .gt 18, 3) := by decide +kernel
theorem d_Sh_meets_33 : decode b_Sh_meets 33 = .ok (.aload_n 1, 1) := by decide +kernel
theorem d_Sh_meets_34 : decode b_Sh_meets 34 = .ok (.getfield 70, 3) := by decide +kernel
theorem d_Sh_meets_37 : decode b_Sh_meets 37 = .ok (.aload_n 0, 1) := by decide +kernel
theorem d_Sh_meets_38 : decode b_Sh_meets 38 = .ok (.getfield 76, 3) := by decide +kernel
theorem d_Sh_meets_41 : decode b_Sh_meets 41 = .ok (.if_icmp .gt 7, 3) := by decide +kernel
theorem d_Sh_meets_44 : decode b_Sh_meets 44 = .ok (.iconst 1, 1) := by decide +kernel
theorem d_Sh_meets_45 : decode b_Sh_meets 45 = .ok (.goto 4, 3) := by decide +kernel
theorem d_Sh_meets_48 : decode b_Sh_meets 48 = .ok (.iconst 0, 1) := by decide +kernel
theorem d_Sh_meets_49 : decode b_Sh_meets 49 = .ok (.ireturn, 1) := by decide +kernel
set_option maxHeartbeats 4000000 in
set_option maxRecDepth 100000 in
theorem c_Sh_meets (F : Nat → Nat → Int) (G : Nat → Int → Int) (k j : Nat) (hK : isSh k) (hJ : isSh j) (hk : (0 ≤ F k 7 ∧ F k 7 ≤ 600) ∧ (0 ≤ F k 8 ∧ F k 8 ≤ 600) ∧ (0 ≤ F k 9 ∧ F k 9 ≤ 600) ∧ (0 ≤ F k 10 ∧ F k 10 ≤ 600)) (hj : (0 ≤ F j 7 ∧ F j 7 ≤ 600) ∧ (0 ≤ F j 8 ∧ F j 8 ≤ 600) ∧ (0 ≤ F j 9 ∧ F j 9 ≤ 600) ∧ (0 ≤ F j 10 ∧ F j 10 ≤ 600)) : cP y_Sh_meets b_Sh_meets 2 (some .boolean) 0 0 F G (fun ad => [.ref (ad k), .ref (ad j)]) (fun r => r = if F k 7 ≤ F j 9 ∧ F j 7 ≤ F k 9 ∧ F k 8 ≤ F j 10 ∧ F j 8 ≤ F k 10 then 1 else 0) := by
  intro s0 a0 D t ad
  refine g_startP (by decide +kernel) (Nat.le_of_ble_eq_true rfl) (fun p l e R s m args below meth c A ok => ?_)
  show gW p l e R s m args below meth c _ D A 2 (gZ0 s) 0 0 ad 265 (mem ad t F G) 0 [(0, .ref (ad k)), (1, .ref (ad j))] []
  refine g_aload_n ok d_Sh_meets_0 rfl 0 rfl ?_
  refine gI_Sh_left ok _ hK k_110 d_Sh_meets_1 ?_
  refine g_aload_n ok d_Sh_meets_4 rfl 1 rfl ?_
  refine gI_Sh_right ok _ hJ k_118 d_Sh_meets_5 ?_
  refine g_icmp_gt ok 48 d_Sh_meets_8 (by decide) (by omega) (by omega) (fun h1 => ?_) (fun h1 => ?_)
  · refine g_iconst ok d_Sh_meets_48 ?_
    exact g_zpret ok d_Sh_meets_49 (by first | exact Or.inl rfl | exact Or.inr rfl | omega) (by split <;> omega)
  · refine g_aload_n ok d_Sh_meets_11 rfl 1 rfl ?_
    refine gI_Sh_left ok _ hJ k_110 d_Sh_meets_12 ?_
    refine g_aload_n ok d_Sh_meets_15 rfl 0 rfl ?_
    refine gI_Sh_right ok _ hK k_118 d_Sh_meets_16 ?_
    refine g_icmp_gt ok 48 d_Sh_meets_19 (by decide) (by omega) (by omega) (fun h2 => ?_) (fun h2 => ?_)
    · refine g_iconst ok d_Sh_meets_48 ?_
      exact g_zpret ok d_Sh_meets_49 (by first | exact Or.inl rfl | exact Or.inr rfl | omega) (by split <;> omega)
    · refine g_aload_n ok d_Sh_meets_22 rfl 0 rfl ?_
      refine gI_Sh_top ok _ hK k_114 d_Sh_meets_23 ?_
      refine g_aload_n ok d_Sh_meets_26 rfl 1 rfl ?_
      refine gI_Sh_bottom ok _ hJ k_122 d_Sh_meets_27 ?_
      refine g_icmp_gt ok 48 d_Sh_meets_30 (by decide) (by omega) (by omega) (fun h3 => ?_) (fun h3 => ?_)
      · refine g_iconst ok d_Sh_meets_48 ?_
        exact g_zpret ok d_Sh_meets_49 (by first | exact Or.inl rfl | exact Or.inr rfl | omega) (by split <;> omega)
      · refine g_aload_n ok d_Sh_meets_33 rfl 1 rfl ?_
        refine gI_Sh_top ok _ hJ k_114 d_Sh_meets_34 ?_
        refine g_aload_n ok d_Sh_meets_37 rfl 0 rfl ?_
        refine gI_Sh_bottom ok _ hK k_122 d_Sh_meets_38 ?_
        refine g_icmp_gt ok 48 d_Sh_meets_41 (by decide) (by omega) (by omega) (fun h4 => ?_) (fun h4 => ?_)
        · refine g_iconst ok d_Sh_meets_48 ?_
          exact g_zpret ok d_Sh_meets_49 (by first | exact Or.inl rfl | exact Or.inr rfl | omega) (by split <;> omega)
        · refine g_iconst ok d_Sh_meets_44 ?_
          refine g_goto ok 49 d_Sh_meets_45 (by decide) ?_
          exact g_zpret ok d_Sh_meets_49 (by first | exact Or.inl rfl | exact Or.inr rfl | omega) (by split <;> omega)
theorem d_Sh_has_0 : decode b_Sh_has 0 = .ok (.iload_n 1, 1) := by decide +kernel
theorem d_Sh_has_1 : decode b_Sh_has 1 = .ok (.aload_n 0, 1) := by decide +kernel
theorem d_Sh_has_2 : decode b_Sh_has 2 = .ok (.getfield 67, 3) := by decide +kernel
theorem d_Sh_has_5 : decode b_Sh_has 5 = .ok (.if_icmp .lt 27, 3) := by decide +kernel
theorem d_Sh_has_8 : decode b_Sh_has 8 = .ok (.iload_n 1, 1) := by decide +kernel
theorem d_Sh_has_9 : decode b_Sh_has 9 = .ok (.aload_n 0, 1) := by decide +kernel
theorem d_Sh_has_10 : decode b_Sh_has 10 = .ok (.getfield 73, 3) := by decide +kernel
theorem d_Sh_has_13 : decode b_Sh_has 13 = .ok (.if_icmp .gt 19, 3) := by decide +kernel
theorem d_Sh_has_16 : decode b_Sh_has 16 = .ok (.iload_n 2, 1) := by decide +kernel
theorem d_Sh_has_17 : decode b_Sh_has 17 = .ok (.aload_n 0, 1) := by decide +kernel
theorem d_Sh_has_18 : decode b_Sh_has 18 = .ok (.getfield 70, 3) := by decide +kernel
theorem d_Sh_has_21 : decode b_Sh_has 21 = .ok (.if_icmp .lt 11, 3) := by decide +kernel
theorem d_Sh_has_24 : decode b_Sh_has 24 = .ok (.iload_n 2, 1) := by decide +kernel
theorem d_Sh_has_25 : decode b_Sh_has 25 = .ok (.aload_n 0, 1) := by decide +kernel
theorem d_Sh_has_26 : decode b_Sh_has 26 = .ok (.getfield 76, 3) := by decide +kernel
theorem d_Sh_has_29 : decode b_Sh_has 29 = .ok (.if_icmp .le 5, 3) := by decide +kernel
theorem d_Sh_has_32 : decode b_Sh_has 32 = .ok (.iconst 0, 1) := by decide +kernel
theorem d_Sh_has_33 : decode b_Sh_has 33 = .ok (.ireturn, 1) := by decide +kernel
theorem d_Sh_has_34 : decode b_Sh_has 34 = .ok (.iconst 0, 1) := by decide +kernel
theorem d_Sh_has_35 : decode b_Sh_has 35 = .ok (.istore_n 3, 1) := by decide +kernel
theorem d_Sh_has_36 : decode b_Sh_has 36 = .ok (.iconst 0, 1) := by decide +kernel
theorem d_Sh_has_37 : decode b_Sh_has 37 = .ok (.istore 4, 2) := by decide +kernel
theorem d_Sh_has_39 : decode b_Sh_has 39 = .ok (.iload 4, 2) := by decide +kernel
theorem d_Sh_has_41 : decode b_Sh_has 41 = .ok (.iconst 4, 1) := by decide +kernel
theorem d_Sh_has_42 : decode b_Sh_has 42 = .ok (.if_icmp .ge 52, 3) := by decide +kernel
theorem d_Sh_has_45 : decode b_Sh_has 45 = .ok (.aload_n 0, 1) := by decide +kernel
theorem d_Sh_has_46 : decode b_Sh_has 46 = .ok (.getfield 11, 3) := by decide +kernel
theorem d_Sh_has_49 : decode b_Sh_has 49 = .ok (.iload 4, 2) := by decide +kernel
theorem d_Sh_has_51 : decode b_Sh_has 51 = .ok (.aaload, 1) := by decide +kernel
theorem d_Sh_has_52 : decode b_Sh_has 52 = .ok (.iload_n 1, 1) := by decide +kernel
theorem d_Sh_has_53 : decode b_Sh_has 53 = .ok (.iload_n 2, 1) := by decide +kernel
theorem d_Sh_has_54 : decode b_Sh_has 54 = .ok (.invokevirtual 88, 3) := by decide +kernel
theorem d_Sh_has_57 : decode b_Sh_has 57 = .ok (.istore 5, 2) := by decide +kernel
theorem d_Sh_has_59 : decode b_Sh_has 59 = .ok (.iload 5, 2) := by decide +kernel
theorem d_Sh_has_61 : decode b_Sh_has 61 = .ok (.iconst 2, 1) := by decide +kernel
theorem d_Sh_has_62 : decode b_Sh_has 62 = .ok (.if_icmp .ne 5, 3) := by decide +kernel
theorem d_Sh_has_65 : decode b_Sh_has 65 = .ok (.iconst 1, 1) := by decide +kernel
theorem d_Sh_has_66 : decode b_Sh_has 66 = .ok (.ireturn, 1) := by decide +kernel
theorem d_Sh_has_67 : decode b_Sh_has 67 = .ok (.iload_n 3, 1) := by decide +kernel
theorem d_Sh_has_68 : decode b_Sh_has 68 = .ok (.iload 5, 2) := by decide +kernel
theorem d_Sh_has_70 : decode b_Sh_has 70 = .ok (.iconst 1, 1) := by decide +kernel
theorem d_Sh_has_71 : decode b_Sh_has 71 = .ok (.if_icmp .ne 7, 3) := by decide +kernel
theorem d_Sh_has_74 : decode b_Sh_has 74 = .ok (.iconst 1, 1) := by decide +kernel
theorem d_Sh_has_75 : decode b_Sh_has 75 = .ok (.goto 4, 3) := by decide +kernel
theorem d_Sh_has_78 : decode b_Sh_has 78 = .ok (.iconst 0, 1) := by decide +kernel
theorem d_Sh_has_79 : decode b_Sh_has 79 = .ok (.if_icmp .eq 7, 3) := by decide +kernel
theorem d_Sh_has_82 : decode b_Sh_has 82 = .ok (.iconst 1, 1) := by decide +kernel
theorem d_Sh_has_83 : decode b_Sh_has 83 = .ok (.goto 4, 3) := by decide +kernel
theorem d_Sh_has_86 : decode b_Sh_has 86 = .ok (.iconst 0, 1) := by decide +kernel
theorem d_Sh_has_87 : decode b_Sh_has 87 = .ok (.istore_n 3, 1) := by decide +kernel
theorem d_Sh_has_88 : decode b_Sh_has 88 = .ok (.iinc 4 1, 3) := by decide +kernel
theorem d_Sh_has_91 : decode b_Sh_has 91 = .ok (.goto (-52), 3) := by decide +kernel
theorem d_Sh_has_94 : decode b_Sh_has 94 = .ok (.iload_n 3, 1) := by decide +kernel
theorem d_Sh_has_95 : decode b_Sh_has 95 = .ok (.ireturn, 1) := by decide +kernel
set_option maxHeartbeats 4000000 in
set_option maxRecDepth 100000 in
theorem c_Sh_has (F : Nat → Nat → Int) (G : Nat → Int → Int) (k : Nat) (x y : Int) (hK : isSh k) (hRs : sRg F G k) (hk : (0 ≤ F k 7 ∧ F k 7 ≤ 600) ∧ (0 ≤ F k 8 ∧ F k 8 ≤ 600) ∧ (0 ≤ F k 9 ∧ F k 9 ≤ 600) ∧ (0 ≤ F k 10 ∧ F k 10 ≤ 600)) (hx : 0 ≤ x ∧ x ≤ 600) (hy : 0 ≤ y ∧ y ≤ 600) : cP y_Sh_has b_Sh_has 6 (some .boolean) 1 31 F G (fun ad => [.ref (ad k), .int (iI x), .int (iI y)]) (fun r => (r = 0 ∨ r = 1) ∧ (r = 1 ↔ sHas F G k x y)) := by
  intro s0 a0 D t ad
  refine g_startP (by decide +kernel) (Nat.le_of_ble_eq_true rfl) (fun p l e R s m args below meth c A ok => ?_)
  show gW p l e R s m args below meth c _ D A 6 (gZ0 s) 0 0 ad 265 (mem ad t F G) 0 [(0, .ref (ad k)), (1, .int (iI x)), (2, .int (iI y))] []
  refine g_iload_n ok d_Sh_has_0 rfl 1 rfl ?_
  refine g_aload_n ok d_Sh_has_1 rfl 0 rfl ?_
  refine gI_Sh_left ok _ hK k_110 d_Sh_has_2 ?_
  refine g_icmp_lt ok 32 d_Sh_has_5 (by decide) (by omega) (by omega) (fun h1 => ?_) (fun h1 => ?_)
  · refine g_iconst ok d_Sh_has_32 ?_
    exact g_zpret ok d_Sh_has_33 (Or.inl rfl) ⟨Or.inl rfl, ⟨fun q => by omega, fun q => by have := q.1; unfold sBox at this; omega⟩⟩
  · refine g_iload_n ok d_Sh_has_8 rfl 1 rfl ?_
    refine g_aload_n ok d_Sh_has_9 rfl 0 rfl ?_
    refine gI_Sh_right ok _ hK k_118 d_Sh_has_10 ?_
    refine g_icmp_gt ok 32 d_Sh_has_13 (by decide) (by omega) (by omega) (fun h2 => ?_) (fun h2 => ?_)
    · refine g_iconst ok d_Sh_has_32 ?_
      exact g_zpret ok d_Sh_has_33 (Or.inl rfl) ⟨Or.inl rfl, ⟨fun q => by omega, fun q => by have := q.1; unfold sBox at this; omega⟩⟩
    · refine g_iload_n ok d_Sh_has_16 rfl 2 rfl ?_
      refine g_aload_n ok d_Sh_has_17 rfl 0 rfl ?_
      refine gI_Sh_top ok _ hK k_114 d_Sh_has_18 ?_
      refine g_icmp_lt ok 32 d_Sh_has_21 (by decide) (by omega) (by omega) (fun h3 => ?_) (fun h3 => ?_)
      · refine g_iconst ok d_Sh_has_32 ?_
        exact g_zpret ok d_Sh_has_33 (Or.inl rfl) ⟨Or.inl rfl, ⟨fun q => by omega, fun q => by have := q.1; unfold sBox at this; omega⟩⟩
      · refine g_iload_n ok d_Sh_has_24 rfl 2 rfl ?_
        refine g_aload_n ok d_Sh_has_25 rfl 0 rfl ?_
        refine gI_Sh_bottom ok _ hK k_122 d_Sh_has_26 ?_
        refine g_icmp_le ok 34 d_Sh_has_29 (by decide) (by omega) (by omega) (fun h4 => ?_) (fun h4 => ?_)
        · refine g_iconst ok d_Sh_has_34 ?_
          refine g_istore_n (lv' := [(3, .int (iI 0)), (0, .ref (ad k)), (1, .int (iI x)), (2, .int (iI y))]) ok d_Sh_has_35 rfl (by decide) rfl ?_
          refine g_iconst ok d_Sh_has_36 ?_
          refine g_istore (lv' := [(4, .int (iI 0)), (3, .int (iI 0)), (0, .ref (ad k)), (1, .int (iI x)), (2, .int (iI y))]) ok d_Sh_has_37 (by decide) rfl ?_
          have L_r : ∀ (n_r : Nat) (d : Int) (r : Int), (0 ≤ r ∧ r ≤ 4) → ((d = 0 ∨ d = 1) ∧ (d = 1 ↔ oddN (sIn F G k x y) r.toNat)) → (∀ a : Int, 0 ≤ a → a < r → ¬ sOn F G k x y a) → (5 - r) < (n_r : Int) → gW p l e R s m args below meth c (MQ below (gQp (fun r => (r = 0 ∨ r = 1) ∧ (r = 1 ↔ sHas F G k x y))) args s 0 0 (fun _ => False)) D A 6 (gZ0 s) 0 0 ad 265 (mem ad t F G) 39 [(0, .ref (ad k)), (1, .int (iI x)), (2, .int (iI y)), (3, .int (iI d)), (4, .int (iI r))] [] := by
            intro n_r
            induction n_r with
            | zero =>
              intro d r hr hdd ho hm_r
              exact absurd hm_r (by omega)
            | succ n_r ih_r =>
              intro d r hr hdd ho hm_r
              refine g_iload ok d_Sh_has_39 4 rfl ?_
              refine g_iconst ok d_Sh_has_41 ?_
              refine g_icmp_ge ok 94 d_Sh_has_42 (by decide) (by omega) (by omega) (fun h5 => ?_) (fun h5 => ?_)
              · refine g_iload_n ok d_Sh_has_94 rfl 3 rfl ?_
                exact g_zpret ok d_Sh_has_95 (hdd.1) ⟨hdd.1, ⟨fun q => ⟨by unfold sBox; omega, Or.inr ⟨fun a q1 q2 => ho a q1 (by omega), by rw [show 4 = r.toNat by omega]; exact hdd.2.mp q⟩⟩, fun q => hdd.2.mpr (q.2.elim (fun ⟨a, q1, q2, q3⟩ => absurd q3 (ho a q1 (by omega))) (fun q => by have := q.2; rw [show 4 = r.toNat by omega] at this; exact this))⟩⟩
              · refine g_aload_n ok d_Sh_has_45 rfl 0 rfl ?_
                refine gI_Sh_rings ok _ hK k_83 d_Sh_has_46 ?_
                refine g_iload ok d_Sh_has_49 4 rfl ?_
                refine h_rings ok _ hK (by omega) d_Sh_has_51 ?_
                refine g_iload_n ok d_Sh_has_52 rfl 1 rfl ?_
                refine g_iload_n ok d_Sh_has_53 rfl 2 rfl ?_
                refine g_callPVN (As := [.int (iI x), .int (iI y)]) (st := []) ok _ (c_Rg_sideOf F G _ x y (rg_of hK (by omega)) (hRs _ (by omega)) hx hy s0 a0 D t ad) k_523 k_3 k_520 cl_Rg (m_Rg (ad := ad) (t := t) (F := F) (G := G) (rg_of hK (by omega))).1 (m_Rg (rg_of hK (by omega))).2 k_522 s_Rg_sideOf q_Rg_sideOf (by decide) (Nat.le_of_ble_eq_true rfl) (by decide) d_Sh_has_54 (fun z6 hc6 => ?_)
                have hz := rSide_rng hc6
                refine g_istore (lv' := [(5, .int (iI z6)), (0, .ref (ad k)), (1, .int (iI x)), (2, .int (iI y)), (3, .int (iI d)), (4, .int (iI r))]) ok d_Sh_has_57 (by decide) rfl ?_
                refine g_iload ok d_Sh_has_59 0 rfl ?_
                refine g_iconst ok d_Sh_has_61 ?_
                refine g_icmp_ne ok 67 d_Sh_has_62 (by decide) (by omega) (by omega) (fun h7 => ?_) (fun h7 => ?_)
                · refine g_iload_n ok d_Sh_has_67 rfl 4 rfl ?_
                  refine g_iload ok d_Sh_has_68 0 rfl ?_
                  refine g_iconst ok d_Sh_has_70 ?_
                  refine g_icmp_ne ok 78 d_Sh_has_71 (by decide) (by omega) (by omega) (fun h8 => ?_) (fun h8 => ?_)
                  · refine g_iconst ok d_Sh_has_78 ?_
                    refine g_icmp_eq ok 86 d_Sh_has_79 (by decide) (by omega) (by omega) (fun h9 => ?_) (fun h9 => ?_)
                    · refine g_iconst ok d_Sh_has_86 ?_
                      refine g_istore_n (lv' := [(3, .int (iI 0)), (5, .int (iI z6)), (0, .ref (ad k)), (1, .int (iI x)), (2, .int (iI y)), (4, .int (iI r))]) ok d_Sh_has_87 rfl (by decide) rfl ?_
                      refine g_iinc (lv' := [(4, .int (iI (r + 1))), (3, .int (iI 0)), (5, .int (iI z6)), (0, .ref (ad k)), (1, .int (iI x)), (2, .int (iI y))]) ok d_Sh_has_88 5 rfl (by decide) rfl ?_
                      refine g_goto ok 39 d_Sh_has_91 (by decide) ?_
                      refine g_lv [3, 4, 5, 1, 0] rfl ?_
                      exact ih_r 0 (r + 1) (by omega) (by rw [oddN_step hr.1]; first | exact odd_y1 hdd (rSide_1 hc6 (by omega)) (by omega) | exact odd_y0 hdd (rSide_1 hc6 (by omega)) (by omega) | exact odd_n1 hdd (rSide_0 hc6 (by omega) (by omega)) (by omega) | exact odd_n0 hdd (rSide_0 hc6 (by omega) (by omega)) (by omega)) (fun a q1 q2 => (Int.lt_or_eq_of_le (show a ≤ r by omega)).elim (fun q => ho a q1 q) (fun q => by subst q; exact rSide_n hc6 (by omega))) (by omega)
                    · refine g_iconst ok d_Sh_has_82 ?_
                      refine g_goto ok 87 d_Sh_has_83 (by decide) ?_
                      refine g_istore_n (lv' := [(3, .int (iI 1)), (5, .int (iI z6)), (0, .ref (ad k)), (1, .int (iI x)), (2, .int (iI y)), (4, .int (iI r))]) ok d_Sh_has_87 rfl (by decide) rfl ?_
                      refine g_iinc (lv' := [(4, .int (iI (r + 1))), (3, .int (iI 1)), (5, .int (iI z6)), (0, .ref (ad k)), (1, .int (iI x)), (2, .int (iI y))]) ok d_Sh_has_88 5 rfl (by decide) rfl ?_
                      refine g_goto ok 39 d_Sh_has_91 (by decide) ?_
                      refine g_lv [3, 4, 5, 1, 0] rfl ?_
                      exact ih_r 1 (r + 1) (by omega) (by rw [oddN_step hr.1]; first | exact odd_y1 hdd (rSide_1 hc6 (by omega)) (by omega) | exact odd_y0 hdd (rSide_1 hc6 (by omega)) (by omega) | exact odd_n1 hdd (rSide_0 hc6 (by omega) (by omega)) (by omega) | exact odd_n0 hdd (rSide_0 hc6 (by omega) (by omega)) (by omega)) (fun a q1 q2 => (Int.lt_or_eq_of_le (show a ≤ r by omega)).elim (fun q => ho a q1 q) (fun q => by subst q; exact rSide_n hc6 (by omega))) (by omega)
                  · refine g_iconst ok d_Sh_has_74 ?_
                    refine g_goto ok 79 d_Sh_has_75 (by decide) ?_
                    refine g_icmp_eq ok 86 d_Sh_has_79 (by decide) (by omega) (by omega) (fun h10 => ?_) (fun h10 => ?_)
                    · refine g_iconst ok d_Sh_has_86 ?_
                      refine g_istore_n (lv' := [(3, .int (iI 0)), (5, .int (iI z6)), (0, .ref (ad k)), (1, .int (iI x)), (2, .int (iI y)), (4, .int (iI r))]) ok d_Sh_has_87 rfl (by decide) rfl ?_
                      refine g_iinc (lv' := [(4, .int (iI (r + 1))), (3, .int (iI 0)), (5, .int (iI z6)), (0, .ref (ad k)), (1, .int (iI x)), (2, .int (iI y))]) ok d_Sh_has_88 5 rfl (by decide) rfl ?_
                      refine g_goto ok 39 d_Sh_has_91 (by decide) ?_
                      refine g_lv [3, 4, 5, 1, 0] rfl ?_
                      exact ih_r 0 (r + 1) (by omega) (by rw [oddN_step hr.1]; first | exact odd_y1 hdd (rSide_1 hc6 (by omega)) (by omega) | exact odd_y0 hdd (rSide_1 hc6 (by omega)) (by omega) | exact odd_n1 hdd (rSide_0 hc6 (by omega) (by omega)) (by omega) | exact odd_n0 hdd (rSide_0 hc6 (by omega) (by omega)) (by omega)) (fun a q1 q2 => (Int.lt_or_eq_of_le (show a ≤ r by omega)).elim (fun q => ho a q1 q) (fun q => by subst q; exact rSide_n hc6 (by omega))) (by omega)
                    · refine g_iconst ok d_Sh_has_82 ?_
                      refine g_goto ok 87 d_Sh_has_83 (by decide) ?_
                      refine g_istore_n (lv' := [(3, .int (iI 1)), (5, .int (iI z6)), (0, .ref (ad k)), (1, .int (iI x)), (2, .int (iI y)), (4, .int (iI r))]) ok d_Sh_has_87 rfl (by decide) rfl ?_
                      refine g_iinc (lv' := [(4, .int (iI (r + 1))), (3, .int (iI 1)), (5, .int (iI z6)), (0, .ref (ad k)), (1, .int (iI x)), (2, .int (iI y))]) ok d_Sh_has_88 5 rfl (by decide) rfl ?_
                      refine g_goto ok 39 d_Sh_has_91 (by decide) ?_
                      refine g_lv [3, 4, 5, 1, 0] rfl ?_
                      exact ih_r 1 (r + 1) (by omega) (by rw [oddN_step hr.1]; first | exact odd_y1 hdd (rSide_1 hc6 (by omega)) (by omega) | exact odd_y0 hdd (rSide_1 hc6 (by omega)) (by omega) | exact odd_n1 hdd (rSide_0 hc6 (by omega) (by omega)) (by omega) | exact odd_n0 hdd (rSide_0 hc6 (by omega) (by omega)) (by omega)) (fun a q1 q2 => (Int.lt_or_eq_of_le (show a ≤ r by omega)).elim (fun q => ho a q1 q) (fun q => by subst q; exact rSide_n hc6 (by omega))) (by omega)
                · refine g_iconst ok d_Sh_has_65 ?_
                  exact g_zpret ok d_Sh_has_66 (Or.inr rfl) ⟨Or.inr rfl, ⟨fun _ => ⟨by unfold sBox; omega, Or.inl ⟨r, hr.1, by omega, rSide_2 hc6 (by omega)⟩⟩, fun _ => rfl⟩⟩
          refine g_lv [2, 3, 4, 1, 0] rfl ?_
          exact L_r ((5 - 0 : Int).toNat + 1) 0 0 (by omega) (⟨Or.inl rfl, ⟨fun q => by omega, fun q => q.elim⟩⟩) (fun a q1 q2 => by omega) (by omega)
        · refine g_iconst ok d_Sh_has_32 ?_
          exact g_zpret ok d_Sh_has_33 (Or.inl rfl) ⟨Or.inl rfl, ⟨fun q => by omega, fun q => by have := q.1; unfold sBox at this; omega⟩⟩
end
section
section GU
variable {s0 : State} {a0 : Array Value} {D : va_G} {t : Nat → ClassId} {p : Program} {l : Launch} {e : Env} {R : Room} {s : State} {m : MethodId} {args : Array Value} {below : List Frame} {meth : Method} {c : Code} {Q : State → Prop} {Z : Heap → List Loc → Prop} {A : Nat → Prop} {own : String} {cc : ByteArray} {nL : Nat} {ret : Option FieldType} {mn : String} {fr lo mc ms : Nat} {cells slots : Nat} {ad : Nat → Nat} {n : Nat} {ce : Nat → va_E} {pc : Nat} {lv lv' : List (Nat × Value)} {st : List Value}
theorem g_iushr (ok : gOk s0 a0 D t p R s m meth c A own cc nL ret mn fr lo mc ms) {x y z : Int} (hz : ((iI x).toUInt32 >>> ((iI y).toUInt32 &&& Int32.toUInt32 31)).toInt32 = iI z) (hd : decode cc pc = .ok (.iushr, 1)) (kk : gW p l e R s m args below meth c Q D A nL Z cells slots ad n ce (pc + 1) lv (.int (iI z) :: st)) : gW p l e R s m args below meth c Q D A nL Z cells slots ad n ce pc lv (.int (iI y) :: .int (iI x) :: st) :=
  fun H locs ls hZ hP hD hS hl => lv_iushr ok.x ok.b hd hz (kk H locs ls hZ hP hD hS hl)
end GU
def sgn (a : Int) : Int := if a < 0 then -1 else if a = 0 then 0 else 1
theorem iI_sar {c : Int} (k : Nat) (hk : k < 32) (h : -2147483648 ≤ c ∧ c < 2147483648) {y : Int} (hy : y = k) : iI c >>> (iI y &&& 31) = iI (c / 2 ^ k) := by
  apply Int32.toInt_inj.mp
  have hp : (1 : Int) ≤ 2 ^ k := by
    have := Nat.one_le_two_pow (n := k)
    have h2 : ((2 ^ k : Nat) : Int) = (2 : Int) ^ k := by simp
    omega
  have hr : -2147483648 ≤ c / 2 ^ k ∧ c / 2 ^ k < 2147483648 := by
    rcases Int.le_total 0 c with q | q
    · have h1 := Int.ediv_le_self (2 ^ k) q
      have h2 : 0 ≤ c / 2 ^ k := Int.ediv_nonneg q (by omega)
      omega
    · have h1 : c ≤ c / 2 ^ k := by
        rw [Int.le_ediv_iff_mul_le (by omega)]
        have : c * 2 ^ k ≤ c * 1 := Int.mul_le_mul_of_nonpos_left q hp
        omega
      have h2 : c / 2 ^ k ≤ 0 / 2 ^ k := Int.ediv_le_ediv (by omega) q
      rw [Int.zero_ediv] at h2
      omega
  rw [hy, iI_nI, pk_shr _ _ k (s_l k hk), iI_toInt h, iI_toInt hr, Int.shiftRight_eq_div_pow]
  simp
theorem iI_tn (z : Int) : (iI z).toBitVec.toNat = (z % 4294967296).toNat := by
  show (BitVec.ofInt 32 z).toNat = _
  rw [BitVec.toNat_ofInt]
  rfl
theorem iI_ushr31 {c : Int} (h : -2147483648 < c ∧ c < 2147483648) : ((iI c).toUInt32 >>> ((iI 31).toUInt32 &&& Int32.toUInt32 31)).toInt32 = iI (if c < 0 then 1 else 0) := by
  have h1 := pk_ushr (iI c) (iI 31) 31 (by decide +kernel)
  rw [iI_tn] at h1
  apply Int32.toBitVec_inj.mp
  apply BitVec.eq_of_toNat_eq
  rw [h1, iI_tn]
  split <;> omega
theorem sgn_or {a : Int} (h : -2147483648 < a ∧ a < 2147483648) : iI (a / 2147483648) ||| iI (if -a < 0 then 1 else 0) = iI (sgn a) := by
  unfold sgn
  by_cases h1 : a < 0
  · rw [show a / 2147483648 = -1 by omega, if_neg (by omega), if_pos h1]
    decide
  · rw [show a / 2147483648 = 0 by omega, if_neg h1]
    by_cases h2 : a = 0
    · rw [if_neg (by omega), if_pos h2]
      decide
    · rw [if_pos (by omega), if_neg h2]
      decide
theorem sgn_mul (a b : Int) : -1 ≤ sgn a * sgn b ∧ sgn a * sgn b ≤ 1 := by
  have h : ∀ a : Int, sgn a = -1 ∨ sgn a = 0 ∨ sgn a = 1 := fun a => by unfold sgn; split <;> (try split) <;> simp
  rcases h a with ha | ha | ha <;> rcases h b with hb | hb | hb <;> rw [ha, hb] <;> decide
theorem d_Ig_signum_0 : decode b_Ig_signum 0 = .ok (.iload_n 0, 1) := by decide +kernel
theorem d_Ig_signum_1 : decode b_Ig_signum 1 = .ok (.bipush 31, 2) := by decide +kernel
theorem d_Ig_signum_3 : decode b_Ig_signum 3 = .ok (.ishr, 1) := by decide +kernel
theorem d_Ig_signum_4 : decode b_Ig_signum 4 = .ok (.iload_n 0, 1) := by decide +kernel
theorem d_Ig_signum_5 : decode b_Ig_signum 5 = .ok (.ineg, 1) := by decide +kernel
theorem d_Ig_signum_6 : decode b_Ig_signum 6 = .ok (.bipush 31, 2) := by decide +kernel
theorem d_Ig_signum_8 : decode b_Ig_signum 8 = .ok (.iushr, 1) := by decide +kernel
theorem d_Ig_signum_9 : decode b_Ig_signum 9 = .ok (.ior, 1) := by decide +kernel
theorem d_Ig_signum_10 : decode b_Ig_signum 10 = .ok (.ireturn, 1) := by decide +kernel
set_option maxHeartbeats 4000000 in
set_option maxRecDepth 100000 in
theorem c_Ig_signum (F : Nat → Nat → Int) (G : Nat → Int → Int) (a : Int) (ha : -2147483648 < a ∧ a < 2147483648) : cP y_Ig_signum b_Ig_signum 1 (some .int) 0 0 F G (fun ad => [.int (iI a)]) (fun r => r = sgn a) := by
  intro s0 a0 D t ad
  refine g_startPF (by decide +kernel) (Nat.le_of_ble_eq_true rfl) (fun p l e R s m args below meth c A ok => ?_)
  show gW p l e R s m args below meth c _ D A 1 (gZ0 s) 0 0 ad 265 (mem ad t F G) 0 [(0, .int (iI a))] []
  refine g_iload_n ok d_Ig_signum_0 rfl 0 rfl ?_
  refine g_bipush ok (by decide) d_Ig_signum_1 ?_
  refine g_ishr (z := a / 2147483648) ok (iI_sar 31 (by decide) (by omega) rfl) d_Ig_signum_3 ?_
  refine g_iload_n ok d_Ig_signum_4 rfl 0 rfl ?_
  refine g_ineg ok d_Ig_signum_5 ?_
  refine g_bipush ok (by decide) d_Ig_signum_6 ?_
  refine g_iushr (z := (if -a < 0 then 1 else 0)) ok (iI_ushr31 (by omega)) d_Ig_signum_8 ?_
  refine g_ior (z := sgn a) ok (sgn_or ha) d_Ig_signum_9 ?_
  exact g_ipret ok d_Ig_signum_10 (rfl)
-- two edges
def eBack (a1 b1 a2 b2 c1 d1 c2 d2 : Int) : Prop := (a1 - a2) * (d2 - d1) = (b1 - b2) * (c2 - c1) ∧ 0 < (a1 - a2) * (c2 - c1) + (b1 - b2) * (d2 - d1)
def eApart (a1 a2 c1 c2 : Int) : Prop := max a1 a2 < min c1 c2 ∨ max c1 c2 < min a1 a2
def eShare (a1 b1 a2 b2 c1 d1 c2 d2 : Int) : Prop := ¬ eApart a1 a2 c1 c2 ∧ ¬ eApart b1 b2 d1 d2 ∧ sgn (eTurn a1 b1 a2 b2 c1 d1) * sgn (eTurn a1 b1 a2 b2 c2 d2) ≤ 0 ∧ sgn (eTurn c1 d1 c2 d2 a1 b1) * sgn (eTurn c1 d1 c2 d2 a2 b2) ≤ 0
-- edges i and j of the inspector
def iBack (G : Nat → Int → Int) (i j : Int) : Prop := eBack (G 225 i) (G 226 i) (G 227 i) (G 228 i) (G 225 j) (G 226 j) (G 227 j) (G 228 j)
def iShare (G : Nat → Int → Int) (i j : Int) : Prop := eShare (G 225 i) (G 226 i) (G 227 i) (G 228 i) (G 225 j) (G 226 j) (G 227 j) (G 228 j)
def iCross (G : Nat → Int → Int) (i j : Int) : Prop := if G 229 i = j then iBack G i j else if G 229 j = i then iBack G j i else iShare G i j
/-- the first n edges of the inspector are edges between places -/
def iE (G : Nat → Int → Int) (n : Int) : Prop := ∀ e : Int, 0 ≤ e → e < n → (0 ≤ G 225 e ∧ G 225 e ≤ 600) ∧ (0 ≤ G 226 e ∧ G 226 e ≤ 600) ∧ (0 ≤ G 227 e ∧ G 227 e ≤ 600) ∧ (0 ≤ G 228 e ∧ G 228 e ≤ 600) ∧ (0 ≤ G 229 e ∧ G 229 e ≤ 96)
theorem eTurn_rng {a1 b1 a2 b2 x y : Int} (h1 : 0 ≤ a1 ∧ a1 ≤ 600) (h2 : 0 ≤ b1 ∧ b1 ≤ 600) (h3 : 0 ≤ a2 ∧ a2 ≤ 600) (h4 : 0 ≤ b2 ∧ b2 ≤ 600) (h5 : 0 ≤ x ∧ x ≤ 600) (h6 : 0 ≤ y ∧ y ≤ 600) : -720000 ≤ eTurn a1 b1 a2 b2 x y ∧ eTurn a1 b1 a2 b2 x y ≤ 720000 := by
  have p1 := mul_rng (a := a2 - a1) (b := y - b1) (by omega) (by omega)
  have p2 := mul_rng (a := x - a1) (b := b2 - b1) (by omega) (by omega)
  unfold eTurn
  omega
theorem d_In_turn_0 : decode b_In_turn 0 = .ok (.aload_n 0, 1) := by decide +kernel
theorem d_In_turn_1 : decode b_In_turn 1 = .ok (.getfield 18, 3) := by decide +kernel
theorem d_In_turn_4 : decode b_In_turn 4 = .ok (.iload_n 1, 1) := by decide +kernel
theorem d_In_turn_5 : decode b_In_turn 5 = .ok (.iaload, 1) := by decide +kernel
theorem d_In_turn_6 : decode b_In_turn 6 = .ok (.aload_n 0, 1) := by decide +kernel
theorem d_In_turn_7 : decode b_In_turn 7 = .ok (.getfield 9, 3) := by decide +kernel
theorem d_In_turn_10 : decode b_In_turn 10 = .ok (.iload_n 1, 1) := by decide +kernel
theorem d_In_turn_11 : decode b_In_turn 11 = .ok (.iaload, 1) := by decide +kernel
theorem d_In_turn_12 : decode b_In_turn 12 = .ok (.isub, 1) := by decide +kernel
theorem d_In_turn_13 : decode b_In_turn 13 = .ok (.iload_n 3, 1) := by decide +kernel
theorem d_In_turn_14 : decode b_In_turn 14 = .ok (.aload_n 0, 1) := by decide +kernel
theorem d_In_turn_15 : decode b_In_turn 15 = .ok (.getfield 15, 3) := by decide +kernel
theorem d_In_turn_18 : decode b_In_turn 18 = .ok (.iload_n 1, 1) := by decide +kernel
theorem d_In_turn_19 : decode b_In_turn 19 = .ok (.iaload, 1) := by decide +kernel
theorem d_In_turn_20 : decode b_In_turn 20 = .ok (.isub, 1) := by decide +kernel
theorem d_In_turn_21 : decode b_In_turn 21 = .ok (.imul, 1) := by decide +kernel
theorem d_In_turn_22 : decode b_In_turn 22 = .ok (.iload_n 2, 1) := by decide +kernel
theorem d_In_turn_23 : decode b_In_turn 23 = .ok (.aload_n 0, 1) := by decide +kernel
theorem d_In_turn_24 : decode b_In_turn 24 = .ok (.getfield 9, 3) := by decide +kernel
theorem d_In_turn_27 : decode b_In_turn 27 = .ok (.iload_n 1, 1) := by decide +kernel
theorem d_In_turn_28 : decode b_In_turn 28 = .ok (.iaload, 1) := by decide +kernel
theorem d_In_turn_29 : decode b_In_turn 29 = .ok (.isub, 1) := by decide +kernel
theorem d_In_turn_30 : decode b_In_turn 30 = .ok (.aload_n 0, 1) := by decide +kernel
theorem d_In_turn_31 : decode b_In_turn 31 = .ok (.getfield 21, 3) := by decide +kernel
theorem d_In_turn_34 : decode b_In_turn 34 = .ok (.iload_n 1, 1) := by decide +kernel
theorem d_In_turn_35 : decode b_In_turn 35 = .ok (.iaload, 1) := by decide +kernel
theorem d_In_turn_36 : decode b_In_turn 36 = .ok (.aload_n 0, 1) := by decide +kernel
theorem d_In_turn_37 : decode b_In_turn 37 = .ok (.getfield 15, 3) := by decide +kernel
theorem d_In_turn_40 : decode b_In_turn 40 = .ok (.iload_n 1, 1) := by decide +kernel
theorem d_In_turn_41 : decode b_In_turn 41 = .ok (.iaload, 1) := by decide +kernel
theorem d_In_turn_42 : decode b_In_turn 42 = .ok (.isub, 1) := by decide +kernel
theorem d_In_turn_43 : decode b_In_turn 43 = .ok (.imul, 1) := by decide +kernel
theorem d_In_turn_44 : decode b_In_turn 44 = .ok (.isub, 1) := by decide +kernel
theorem d_In_turn_45 : decode b_In_turn 45 = .ok (.invokestatic 118, 3) := by decide +kernel
theorem d_In_turn_48 : decode b_In_turn 48 = .ok (.ireturn, 1) := by decide +kernel
set_option maxHeartbeats 4000000 in
set_option maxRecDepth 100000 in
theorem c_In_turn (F : Nat → Nat → Int) (G : Nat → Int → Int) (n : Int) (hn : 0 ≤ n ∧ n ≤ 96) (hE : iE G n) (i x y : Int) (hi : 0 ≤ i ∧ i < n) (hx : 0 ≤ x ∧ x ≤ 600) (hy : 0 ≤ y ∧ y ≤ 600) : cP y_In_turn b_In_turn 4 (some .int) 1 20 F G (fun ad => [.ref (ad 224), .int (iI i), .int (iI x), .int (iI y)]) (fun r => r = sgn (eTurn (G 225 i) (G 226 i) (G 227 i) (G 228 i) x y)) := by
  obtain ⟨e1, e2, e3, e4, e5⟩ := hE i hi.1 hi.2
  have tr := eTurn_rng e1 e2 e3 e4 hx hy
  intro s0 a0 D t ad
  refine g_startP (by decide +kernel) (Nat.le_of_ble_eq_true rfl) (fun p l e R s m args below meth c A ok => ?_)
  show gW p l e R s m args below meth c _ D A 4 (gZ0 s) 0 0 ad 265 (mem ad t F G) 0 [(0, .ref (ad 224)), (1, .int (iI i)), (2, .int (iI x)), (3, .int (iI y))] []
  refine g_aload_n ok d_In_turn_0 rfl 0 rfl ?_
  refine gI_In_x2 ok _ rfl k_156 d_In_turn_1 ?_
  refine g_iload_n ok d_In_turn_4 rfl 1 rfl ?_
  refine h_iald ok _ a_227 (by omega) d_In_turn_5 ?_
  refine g_aload_n ok d_In_turn_6 rfl 0 rfl ?_
  refine gI_In_x1 ok _ rfl k_154 d_In_turn_7 ?_
  refine g_iload_n ok d_In_turn_10 rfl 1 rfl ?_
  refine h_iald ok _ a_225 (by omega) d_In_turn_11 ?_
  refine g_isub ok d_In_turn_12 ?_
  refine g_iload_n ok d_In_turn_13 rfl 3 rfl ?_
  refine g_aload_n ok d_In_turn_14 rfl 0 rfl ?_
  refine gI_In_y1 ok _ rfl k_155 d_In_turn_15 ?_
  refine g_iload_n ok d_In_turn_18 rfl 1 rfl ?_
  refine h_iald ok _ a_226 (by omega) d_In_turn_19 ?_
  refine g_isub ok d_In_turn_20 ?_
  refine g_imul ok d_In_turn_21 ?_
  refine g_iload_n ok d_In_turn_22 rfl 2 rfl ?_
  refine g_aload_n ok d_In_turn_23 rfl 0 rfl ?_
  refine gI_In_x1 ok _ rfl k_154 d_In_turn_24 ?_
  refine g_iload_n ok d_In_turn_27 rfl 1 rfl ?_
  refine h_iald ok _ a_225 (by omega) d_In_turn_28 ?_
  refine g_isub ok d_In_turn_29 ?_
  refine g_aload_n ok d_In_turn_30 rfl 0 rfl ?_
  refine gI_In_y2 ok _ rfl k_157 d_In_turn_31 ?_
  refine g_iload_n ok d_In_turn_34 rfl 1 rfl ?_
  refine h_iald ok _ a_228 (by omega) d_In_turn_35 ?_
  refine g_aload_n ok d_In_turn_36 rfl 0 rfl ?_
  refine gI_In_y1 ok _ rfl k_155 d_In_turn_37 ?_
  refine g_iload_n ok d_In_turn_40 rfl 1 rfl ?_
  refine h_iald ok _ a_226 (by omega) d_In_turn_41 ?_
  refine g_isub ok d_In_turn_42 ?_
  refine g_imul ok d_In_turn_43 ?_
  refine g_isub ok d_In_turn_44 ?_
  refine g_callPS (As := [.int (iI ((((G 227 i) - (G 225 i)) * (y - (G 226 i))) - ((x - (G 225 i)) * ((G 228 i) - (G 226 i)))))]) (st := []) ok (c_Ig_signum F G _ (by unfold eTurn at tr; omega) s0 a0 D t ad) k_863 k_19 k_861 k_862 q_Ig_signum (by decide) (Nat.le_of_ble_eq_true rfl) (by decide) d_In_turn_45 (fun z1 hc1 => ?_)
  subst hc1
  exact g_ipret ok d_In_turn_48 (rfl)
theorem d_In_turnsBack_0 : decode b_In_turnsBack 0 = .ok (.aload_n 0, 1) := by decide +kernel
theorem d_In_turnsBack_1 : decode b_In_turnsBack 1 = .ok (.getfield 9, 3) := by decide +kernel
theorem d_In_turnsBack_4 : decode b_In_turnsBack 4 = .ok (.iload_n 1, 1) := by decide +kernel
theorem d_In_turnsBack_5 : decode b_In_turnsBack 5 = .ok (.iaload, 1) := by decide +kernel
theorem d_In_turnsBack_6 : decode b_In_turnsBack 6 = .ok (.aload_n 0, 1) := by decide +kernel
theorem d_In_turnsBack_7 : decode b_In_turnsBack 7 = .ok (.getfield 18, 3) := by decide +kernel
theorem d_In_turnsBack_10 : decode b_In_turnsBack 10 = .ok (.iload_n 1, 1) := by decide +kernel
theorem d_In_turnsBack_11 : decode b_In_turnsBack 11 = .ok (.iaload, 1) := by decide +kernel
theorem d_In_turnsBack_12 : decode b_In_turnsBack 12 = .ok (.isub, 1) := by decide +kernel
theorem d_In_turnsBack_13 : decode b_In_turnsBack 13 = .ok (.istore_n 3, 1) := by decide +kernel
theorem d_In_turnsBack_14 : decode b_In_turnsBack 14 = .ok (.aload_n 0, 1) := by decide +kernel
theorem d_In_turnsBack_15 : decode b_In_turnsBack 15 = .ok (.getfield 15, 3) := by decide +kernel
theorem d_In_turnsBack_18 : decode b_In_turnsBack 18 = .ok (.iload_n 1, 1) := by decide +kernel
theorem d_In_turnsBack_19 : decode b_In_turnsBack 19 = .ok (.iaload, 1) := by decide +kernel
theorem d_In_turnsBack_20 : decode b_In_turnsBack 20 = .ok (.aload_n 0, 1) := by decide +kernel
theorem d_In_turnsBack_21 : decode b_In_turnsBack 21 = .ok (.getfield 21, 3) := by decide +kernel
theorem d_In_turnsBack_24 : decode b_In_turnsBack 24 = .ok (.iload_n 1, 1) := by decide +kernel
theorem d_In_turnsBack_25 : decode b_In_turnsBack 25 = .ok (.iaload, 1) := by decide +kernel
theorem d_In_turnsBack_26 : decode b_In_turnsBack 26 = .ok (.isub, 1) := by decide +kernel
theorem d_In_turnsBack_27 : decode b_In_turnsBack 27 = .ok (.istore 4, 2) := by decide +kernel
theorem d_In_turnsBack_29 : decode b_In_turnsBack 29 = .ok (.aload_n 0, 1) := by decide +kernel
theorem d_In_turnsBack_30 : decode b_In_turnsBack 30 = .ok (.getfield 18, 3) := by decide +kernel
theorem d_In_turnsBack_33 : decode b_In_turnsBack 33 = .ok (.iload_n 2, 1) := by decide +kernel
theorem d_In_turnsBack_34 : decode b_In_turnsBack 34 = .ok (.iaload, 1) := by decide +kernel
theorem d_In_turnsBack_35 : decode b_In_turnsBack 35 = .ok (.aload_n 0, 1) := by decide +kernel
theorem d_In_turnsBack_36 : decode b_In_turnsBack 36 = .ok (.getfield 9, 3) := by decide +kernel
theorem d_In_turnsBack_39 : decode b_In_turnsBack 39 = .ok (.iload_n 2, 1) := by decide +kernel
theorem d_In_turnsBack_40 : decode b_In_turnsBack 40 = .ok (.iaload, 1) := by decide +kernel
theorem d_In_turnsBack_41 : decode b_In_turnsBack 41 = .ok (.isub, 1) := by decide +kernel
theorem d_In_turnsBack_42 : decode b_In_turnsBack 42 = .ok (.istore 5, 2) := by decide +kernel
theorem d_In_turnsBack_44 : decode b_In_turnsBack 44 = .ok (.aload_n 0, 1) := by decide +kernel
theorem d_In_turnsBack_45 : decode b_In_turnsBack 45 = .ok (.getfield 21, 3) := by decide +kernel
theorem d_In_turnsBack_48 : decode b_In_turnsBack 48 = .ok (.iload_n 2, 1) := by decide +kernel
theorem d_In_turnsBack_49 : decode b_In_turnsBack 49 = .ok (.iaload, 1) := by decide +kernel
theorem d_In_turnsBack_50 : decode b_In_turnsBack 50 = .ok (.aload_n 0, 1) := by decide +kernel
theorem d_In_turnsBack_51 : decode b_In_turnsBack 51 = .ok (.getfield 15, 3) := by decide +kernel
theorem d_In_turnsBack_54 : decode b_In_turnsBack 54 = .ok (.iload_n 2, 1) := by decide +kernel
theorem d_In_turnsBack_55 : decode b_In_turnsBack 55 = .ok (.iaload, 1) := by decide +kernel
theorem d_In_turnsBack_56 : decode b_In_turnsBack 56 = .ok (.isub, 1) := by decide +kernel
theorem d_In_turnsBack_57 : decode b_In_turnsBack 57 = .ok (.istore 6, 2) := by decide +kernel
theorem d_In_turnsBack_59 : decode b_In_turnsBack 59 = .ok (.iload_n 3, 1) := by decide +kernel
theorem d_In_turnsBack_60 : decode b_In_turnsBack 60 = .ok (.iload 6, 2) := by decide +kernel
theorem d_In_turnsBack_62 : decode b_In_turnsBack 62 = .ok (.imul, 1) := by decide +kernel
theorem d_In_turnsBack_63 : decode b_In_turnsBack 63 = .ok (.iload 4, 2) := by decide +kernel
theorem d_In_turnsBack_65 : decode b_In_turnsBack 65 = .ok (.iload 5, 2) := by decide +kernel
theorem d_In_turnsBack_67 : decode b_In_turnsBack 67 = .ok (.imul, 1) := by decide +kernel
theorem d_In_turnsBack_68 : decode b_In_turnsBack 68 = .ok (.if_icmp .ne 20, 3) := by decide +kernel
theorem d_In_turnsBack_71 : decode b_In_turnsBack 71 = .ok (.iload_n 3, 1) := by decide +kernel
theorem d_In_turnsBack_72 : decode b_In_turnsBack 72 = .ok (.iload 5, 2) := by decide +kernel
theorem d_In_turnsBack_74 : decode b_In_turnsBack 74 = .ok (.imul, 1) := by decide +kernel
theorem d_In_turnsBack_75 : decode b_In_turnsBack 75 = .ok (.iload 4, 2) := by decide +kernel
theorem d_In_turnsBack_77 : decode b_In_turnsBack 77 = .ok (.iload 6, 2) := by decide +kernel
theorem d_In_turnsBack_79 : decode b_In_turnsBack 79 = .ok (.imul, 1) := by decide +kernel
theorem d_In_turnsBack_80 : decode b_In_turnsBack 80 = .ok (.iadd, 1) := by decide +kernel
theorem d_In_turnsBack_81 : decode b_In_turnsBack 81 = .ok (.ifCond .le 7, 3) := by decide +kernel
theorem d_In_turnsBack_84 : decode b_In_turnsBack 84 = .ok (.iconst 1, 1) := by decide +kernel
theorem d_In_turnsBack_85 : decode b_In_turnsBack 85 = .ok (.goto 4, 3) := by decide +kernel
theorem d_In_turnsBack_88 : decode b_In_turnsBack 88 = .ok (.iconst 0, 1) := by decide +kernel
theorem d_In_turnsBack_89 : decode b_In_turnsBack 89 = .ok (.ireturn, 1) := by decide +kernel
set_option maxHeartbeats 4000000 in
set_option maxRecDepth 100000 in
theorem c_In_turnsBack (F : Nat → Nat → Int) (G : Nat → Int → Int) (n : Int) (hn : 0 ≤ n ∧ n ≤ 96) (hE : iE G n) (i j : Int) (hi : 0 ≤ i ∧ i < n) (hj : 0 ≤ j ∧ j < n) : cP y_In_turnsBack b_In_turnsBack 7 (some .boolean) 0 0 F G (fun ad => [.ref (ad 224), .int (iI i), .int (iI j)]) (fun r => (r = 0 ∨ r = 1) ∧ (r = 1 ↔ iBack G i j)) := by
  obtain ⟨e1, e2, e3, e4, e5⟩ := hE i hi.1 hi.2
  obtain ⟨f1, f2, f3, f4, f5⟩ := hE j hj.1 hj.2
  have p1 := mul_rng (a := G 225 i - G 227 i) (b := G 228 j - G 226 j) (by omega) (by omega)
  have p2 := mul_rng (a := G 226 i - G 228 i) (b := G 227 j - G 225 j) (by omega) (by omega)
  have p3 := mul_rng (a := G 225 i - G 227 i) (b := G 227 j - G 225 j) (by omega) (by omega)
  have p4 := mul_rng (a := G 226 i - G 228 i) (b := G 228 j - G 226 j) (by omega) (by omega)
  intro s0 a0 D t ad
  refine g_startP (by decide +kernel) (Nat.le_of_ble_eq_true rfl) (fun p l e R s m args below meth c A ok => ?_)
  show gW p l e R s m args below meth c _ D A 7 (gZ0 s) 0 0 ad 265 (mem ad t F G) 0 [(0, .ref (ad 224)), (1, .int (iI i)), (2, .int (iI j))] []
  refine g_aload_n ok d_In_turnsBack_0 rfl 0 rfl ?_
  refine gI_In_x1 ok _ rfl k_154 d_In_turnsBack_1 ?_
  refine g_iload_n ok d_In_turnsBack_4 rfl 1 rfl ?_
  refine h_iald ok _ a_225 (by omega) d_In_turnsBack_5 ?_
  refine g_aload_n ok d_In_turnsBack_6 rfl 0 rfl ?_
  refine gI_In_x2 ok _ rfl k_156 d_In_turnsBack_7 ?_
  refine g_iload_n ok d_In_turnsBack_10 rfl 1 rfl ?_
  refine h_iald ok _ a_227 (by omega) d_In_turnsBack_11 ?_
  refine g_isub ok d_In_turnsBack_12 ?_
  refine g_istore_n (lv' := [(3, .int (iI ((G 225 i) - (G 227 i)))), (0, .ref (ad 224)), (1, .int (iI i)), (2, .int (iI j))]) ok d_In_turnsBack_13 rfl (by decide) rfl ?_
  refine g_aload_n ok d_In_turnsBack_14 rfl 1 rfl ?_
  refine gI_In_y1 ok _ rfl k_155 d_In_turnsBack_15 ?_
  refine g_iload_n ok d_In_turnsBack_18 rfl 2 rfl ?_
  refine h_iald ok _ a_226 (by omega) d_In_turnsBack_19 ?_
  refine g_aload_n ok d_In_turnsBack_20 rfl 1 rfl ?_
  refine gI_In_y2 ok _ rfl k_157 d_In_turnsBack_21 ?_
  refine g_iload_n ok d_In_turnsBack_24 rfl 2 rfl ?_
  refine h_iald ok _ a_228 (by omega) d_In_turnsBack_25 ?_
  refine g_isub ok d_In_turnsBack_26 ?_
  refine g_istore (lv' := [(4, .int (iI ((G 226 i) - (G 228 i)))), (3, .int (iI ((G 225 i) - (G 227 i)))), (0, .ref (ad 224)), (1, .int (iI i)), (2, .int (iI j))]) ok d_In_turnsBack_27 (by decide) rfl ?_
  refine g_aload_n ok d_In_turnsBack_29 rfl 2 rfl ?_
  refine gI_In_x2 ok _ rfl k_156 d_In_turnsBack_30 ?_
  refine g_iload_n ok d_In_turnsBack_33 rfl 4 rfl ?_
  refine h_iald ok _ a_227 (by omega) d_In_turnsBack_34 ?_
  refine g_aload_n ok d_In_turnsBack_35 rfl 2 rfl ?_
  refine gI_In_x1 ok _ rfl k_154 d_In_turnsBack_36 ?_
  refine g_iload_n ok d_In_turnsBack_39 rfl 4 rfl ?_
  refine h_iald ok _ a_225 (by omega) d_In_turnsBack_40 ?_
  refine g_isub ok d_In_turnsBack_41 ?_
  refine g_istore (lv' := [(5, .int (iI ((G 227 j) - (G 225 j)))), (4, .int (iI ((G 226 i) - (G 228 i)))), (3, .int (iI ((G 225 i) - (G 227 i)))), (0, .ref (ad 224)), (1, .int (iI i)), (2, .int (iI j))]) ok d_In_turnsBack_42 (by decide) rfl ?_
  refine g_aload_n ok d_In_turnsBack_44 rfl 3 rfl ?_
  refine gI_In_y2 ok _ rfl k_157 d_In_turnsBack_45 ?_
  refine g_iload_n ok d_In_turnsBack_48 rfl 5 rfl ?_
  refine h_iald ok _ a_228 (by omega) d_In_turnsBack_49 ?_
  refine g_aload_n ok d_In_turnsBack_50 rfl 3 rfl ?_
  refine gI_In_y1 ok _ rfl k_155 d_In_turnsBack_51 ?_
  refine g_iload_n ok d_In_turnsBack_54 rfl 5 rfl ?_
  refine h_iald ok _ a_226 (by omega) d_In_turnsBack_55 ?_
  refine g_isub ok d_In_turnsBack_56 ?_
  refine g_istore (lv' := [(6, .int (iI ((G 228 j) - (G 226 j)))), (5, .int (iI ((G 227 j) - (G 225 j)))), (4, .int (iI ((G 226 i) - (G 228 i)))), (3, .int (iI ((G 225 i) - (G 227 i)))), (0, .ref (ad 224)), (1, .int (iI i)), (2, .int (iI j))]) ok d_In_turnsBack_57 (by decide) rfl ?_
  refine g_iload_n ok d_In_turnsBack_59 rfl 3 rfl ?_
  refine g_iload ok d_In_turnsBack_60 0 rfl ?_
  refine g_imul ok d_In_turnsBack_62 ?_
  refine g_iload ok d_In_turnsBack_63 2 rfl ?_
  refine g_iload ok d_In_turnsBack_65 1 rfl ?_
  refine g_imul ok d_In_turnsBack_67 ?_
  refine g_icmp_ne ok 88 d_In_turnsBack_68 (by decide) (by omega) (by omega) (fun h1 => ?_) (fun h1 => ?_)
  · refine g_iconst ok d_In_turnsBack_88 ?_
    exact g_zpret ok d_In_turnsBack_89 (by first | exact Or.inl rfl | exact Or.inr rfl | omega) (by unfold iBack eBack; omega)
  · refine g_iload_n ok d_In_turnsBack_71 rfl 3 rfl ?_
    refine g_iload ok d_In_turnsBack_72 1 rfl ?_
    refine g_imul ok d_In_turnsBack_74 ?_
    refine g_iload ok d_In_turnsBack_75 2 rfl ?_
    refine g_iload ok d_In_turnsBack_77 0 rfl ?_
    refine g_imul ok d_In_turnsBack_79 ?_
    refine g_iadd ok d_In_turnsBack_80 ?_
    refine g_if_le ok 88 d_In_turnsBack_81 (by decide) (by omega) (fun h2 => ?_) (fun h2 => ?_)
    · refine g_iconst ok d_In_turnsBack_88 ?_
      exact g_zpret ok d_In_turnsBack_89 (by first | exact Or.inl rfl | exact Or.inr rfl | omega) (by unfold iBack eBack; omega)
    · refine g_iconst ok d_In_turnsBack_84 ?_
      refine g_goto ok 89 d_In_turnsBack_85 (by decide) ?_
      exact g_zpret ok d_In_turnsBack_89 (by first | exact Or.inl rfl | exact Or.inr rfl | omega) (by unfold iBack eBack; omega)
theorem d_In_sharePoint_0 : decode b_In_sharePoint 0 = .ok (.aload_n 0, 1) := by decide +kernel
theorem d_In_sharePoint_1 : decode b_In_sharePoint 1 = .ok (.getfield 9, 3) := by decide +kernel
theorem d_In_sharePoint_4 : decode b_In_sharePoint 4 = .ok (.iload_n 1, 1) := by decide +kernel
theorem d_In_sharePoint_5 : decode b_In_sharePoint 5 = .ok (.iaload, 1) := by decide +kernel
theorem d_In_sharePoint_6 : decode b_In_sharePoint 6 = .ok (.aload_n 0, 1) := by decide +kernel
theorem d_In_sharePoint_7 : decode b_In_sharePoint 7 = .ok (.getfield 18, 3) := by decide +kernel
theorem d_In_sharePoint_10 : decode b_In_sharePoint 10 = .ok (.iload_n 1, 1) := by decide +kernel
theorem d_In_sharePoint_11 : decode b_In_sharePoint 11 = .ok (.iaload, 1) := by decide +kernel
theorem d_In_sharePoint_12 : decode b_In_sharePoint 12 = .ok (.invokestatic 105, 3) := by decide +kernel
theorem d_In_sharePoint_15 : decode b_In_sharePoint 15 = .ok (.aload_n 0, 1) := by decide +kernel
theorem d_In_sharePoint_16 : decode b_In_sharePoint 16 = .ok (.getfield 9, 3) := by decide +kernel
theorem d_In_sharePoint_19 : decode b_In_sharePoint 19 = .ok (.iload_n 2, 1) := by decide +kernel
theorem d_In_sharePoint_20 : decode b_In_sharePoint 20 = .ok (.iaload, 1) := by decide +kernel
theorem d_In_sharePoint_21 : decode b_In_sharePoint 21 = .ok (.aload_n 0, 1) := by decide +kernel
theorem d_In_sharePoint_22 : decode b_In_sharePoint 22 = .ok (.getfield 18, 3) := by decide +kernel
theorem d_In_sharePoint_25 : decode b_In_sharePoint 25 = .ok (.iload_n 2, 1) := by decide +kernel
theorem d_In_sharePoint_26 : decode b_In_sharePoint 26 = .ok (.iaload, 1) := by decide +kernel
theorem d_In_sharePoint_27 : decode b_In_sharePoint 27 = .ok (.invokestatic 111, 3) := by decide +kernel
theorem d_In_sharePoint_30 : decode b_In_sharePoint 30 = .ok (.if_icmp .lt 36, 3) := by decide +kernel
theorem d_In_sharePoint_33 : decode b_In_sharePoint 33 = .ok (.aload_n 0, 1) := by decide +kernel
theorem d_In_sharePoint_34 : decode b_In_sharePoint 34 = .ok (.getfield 9, 3) := by decide +kernel
theorem d_In_sharePoint_37 : decode b_In_sharePoint 37 = .ok (.iload_n 2, 1) := by decide +kernel
theorem d_In_sharePoint_38 : decode b_In_sharePoint 38 = .ok (.iaload, 1) := by decide +kernel
theorem d_In_sharePoint_39 : decode b_In_sharePoint 39 = .ok (.aload_n 0, 1) := by decide +kernel
theorem d_In_sharePoint_40 : decode b_In_sharePoint 40 = .ok (.getfield 18, 3) := by decide +kernel
theorem d_In_sharePoint_43 : decode b_In_sharePoint 43 = .ok (.iload_n 2, 1) := by decide +kernel
theorem d_In_sharePoint_44 : decode b_In_sharePoint 44 = .ok (.iaload, 1) := by decide +kernel
theorem d_In_sharePoint_45 : decode b_In_sharePoint 45 = .ok (.invokestatic 105, 3) := by decide +kernel
theorem d_In_sharePoint_48 : decode b_In_sharePoint 48 = .ok (.aload_n 0, 1) := by decide +kernel
theorem d_In_sharePoint_49 : decode b_In_sharePoint 49 = .ok (.getfield 9, 3) := by decide +kernel
theorem d_In_sharePoint_52 : decode b_In_sharePoint 52 = .ok (.iload_n 1, 1) := by decide +kernel
theorem d_In_sharePoint_53 : decode b_In_sharePoint 53 = .ok (.iaload, 1) := by decide +kernel
theorem d_In_sharePoint_54 : decode b_In_sharePoint 54 = .ok (.aload_n 0, 1) := by decide +kernel
theorem d_In_sharePoint_55 : decode b_In_sharePoint 55 = .ok (.getfield 18, 3) := by decide +kernel
theorem d_In_sharePoint_58 : decode b_In_sharePoint 58 = .ok (.iload_n 1, 1) := by decide +kernel
theorem d_In_sharePoint_59 : decode b_In_sharePoint 59 = .ok (.iaload, 1) := by decide +kernel
theorem d_In_sharePoint_60 : decode b_In_sharePoint 60 = .ok (.invokestatic 111, 3) := by decide +kernel
theorem d_In_sharePoint_63 : decode b_In_sharePoint 63 = .ok (.if_icmp .ge 7, 3) := by decide +kernel
theorem d_In_sharePoint_66 : decode b_In_sharePoint 66 = .ok (.iconst 1, 1) := by decide +kernel
theorem d_In_sharePoint_67 : decode b_In_sharePoint 67 = .ok (.goto 4, 3) := by decide +kernel
theorem d_In_sharePoint_70 : decode b_In_sharePoint 70 = .ok (.iconst 0, 1) := by decide +kernel
theorem d_In_sharePoint_71 : decode b_In_sharePoint 71 = .ok (.istore_n 3, 1) := by decide +kernel
theorem d_In_sharePoint_72 : decode b_In_sharePoint 72 = .ok (.aload_n 0, 1) := by decide +kernel
theorem d_In_sharePoint_73 : decode b_In_sharePoint 73 = .ok (.getfield 15, 3) := by decide +kernel
theorem d_In_sharePoint_76 : decode b_In_sharePoint 76 = .ok (.iload_n 1, 1) := by decide +kernel
theorem d_In_sharePoint_77 : decode b_In_sharePoint 77 = .ok (.iaload, 1) := by decide +kernel
theorem d_In_sharePoint_78 : decode b_In_sharePoint 78 = .ok (.aload_n 0, 1) := by decide +kernel
theorem d_In_sharePoint_79 : decode b_In_sharePoint 79 = .ok (.getfield 21, 3) := by decide +kernel
theorem d_In_sharePoint_82 : decode b_In_sharePoint 82 = .ok (.iload_n 1, 1) := by decide +kernel
theorem d_In_sharePoint_83 : decode b_In_sharePoint 83 = .ok (.iaload, 1) := by decide +kernel
theorem d_In_sharePoint_84 : decode b_In_sharePoint 84 = .ok (.invokestatic 105, 3) := by decide +kernel
theorem d_In_sharePoint_87 : decode b_In_sharePoint 87 = .ok (.aload_n 0, 1) := by decide +kernel
theorem d_In_sharePoint_88 : decode b_In_sharePoint 88 = .ok (.getfield 15, 3) := by decide +kernel
theorem d_In_sharePoint_91 : decode b_In_sharePoint 91 = .ok (.iload_n 2, 1) := by decide +kernel
theorem d_In_sharePoint_92 : decode b_In_sharePoint 92 = .ok (.iaload, 1) := by decide +kernel
theorem d_In_sharePoint_93 : decode b_In_sharePoint 93 = .ok (.aload_n 0, 1) := by decide +kernel
theorem d_In_sharePoint_94 : decode b_In_sharePoint 94 = .ok (.getfield 21, 3) := by decide +kernel
theorem d_In_sharePoint_97 : decode b_In_sharePoint 97 = .ok (.iload_n 2, 1) := by decide +kernel
theorem d_In_sharePoint_98 : decode b_In_sharePoint 98 = .ok (.iaload, 1) := by decide +kernel
theorem d_In_sharePoint_99 : decode b_In_sharePoint 99 = .ok (.invokestatic 111, 3) := by decide +kernel
theorem d_In_sharePoint_102 : decode b_In_sharePoint 102 = .ok (.if_icmp .lt 36, 3) := by decide +kernel
theorem d_In_sharePoint_105 : decode b_In_sharePoint 105 = .ok (.aload_n 0, 1) := by decide +kernel
theorem d_In_sharePoint_106 : decode b_In_sharePoint 106 = .ok (.getfield 15, 3) := by decide +kernel
theorem d_In_sharePoint_109 : decode b_In_sharePoint 109 = .ok (.iload_n 2, 1) := by decide +kernel
theorem d_In_sharePoint_110 : decode b_In_sharePoint 110 = .ok (.iaload, 1) := by decide +kernel
theorem d_In_sharePoint_111 : decode b_In_sharePoint 111 = .ok (.aload_n 0, 1) := by decide +kernel
theorem d_In_sharePoint_112 : decode b_In_sharePoint 112 = .ok (.getfield 21, 3) := by decide +kernel
theorem d_In_sharePoint_115 : decode b_In_sharePoint 115 = .ok (.iload_n 2, 1) := by decide +kernel
theorem d_In_sharePoint_116 : decode b_In_sharePoint 116 = .ok (.iaload, 1) := by decide +kernel
theorem d_In_sharePoint_117 : decode b_In_sharePoint 117 = .ok (.invokestatic 105, 3) := by decide +kernel
theorem d_In_sharePoint_120 : decode b_In_sharePoint 120 = .ok (.aload_n 0, 1) := by decide +kernel
theorem d_In_sharePoint_121 : decode b_In_sharePoint 121 = .ok (.getfield 15, 3) := by decide +kernel
theorem d_In_sharePoint_124 : decode b_In_sharePoint 124 = .ok (.iload_n 1, 1) := by decide +kernel
theorem d_In_sharePoint_125 : decode b_In_sharePoint 125 = .ok (.iaload, 1) := by decide +kernel
theorem d_In_sharePoint_126 : decode b_In_sharePoint 126 = .ok (.aload_n 0, 1) := by decide +kernel
theorem d_In_sharePoint_127 : decode b_In_sharePoint 127 = .ok (.getfield 21, 3) := by decide +kernel
theorem d_In_sharePoint_130 : decode b_In_sharePoint 130 = .ok (.iload_n 1, 1) := by decide +kernel
theorem d_In_sharePoint_131 : decode b_In_sharePoint 131 = .ok (.iaload, 1) := by decide +kernel
theorem d_In_sharePoint_132 : decode b_In_sharePoint 132 = .ok (.invokestatic 111, 3) := by decide +kernel
theorem d_In_sharePoint_135 : decode b_In_sharePoint 135 = .ok (.if_icmp .ge 7, 3) := by decide +kernel
theorem d_In_sharePoint_138 : decode b_In_sharePoint 138 = .ok (.iconst 1, 1) := by decide +kernel
theorem d_In_sharePoint_139 : decode b_In_sharePoint 139 = .ok (.goto 4, 3) := by decide +kernel
theorem d_In_sharePoint_142 : decode b_In_sharePoint 142 = .ok (.iconst 0, 1) := by decide +kernel
theorem d_In_sharePoint_143 : decode b_In_sharePoint 143 = .ok (.istore 4, 2) := by decide +kernel
theorem d_In_sharePoint_145 : decode b_In_sharePoint 145 = .ok (.iload_n 3, 1) := by decide +kernel
theorem d_In_sharePoint_146 : decode b_In_sharePoint 146 = .ok (.ifCond .ne 8, 3) := by decide +kernel
theorem d_In_sharePoint_149 : decode b_In_sharePoint 149 = .ok (.iload 4, 2) := by decide +kernel
theorem d_In_sharePoint_151 : decode b_In_sharePoint 151 = .ok (.ifCond .eq 5, 3) := by decide +kernel
theorem d_In_sharePoint_154 : decode b_In_sharePoint 154 = .ok (.iconst 0, 1) := by decide +kernel
theorem d_In_sharePoint_155 : decode b_In_sharePoint 155 = .ok (.ireturn, 1) := by decide +kernel
theorem d_In_sharePoint_156 : decode b_In_sharePoint 156 = .ok (.aload_n 0, 1) := by decide +kernel
theorem d_In_sharePoint_157 : decode b_In_sharePoint 157 = .ok (.iload_n 1, 1) := by decide +kernel
theorem d_In_sharePoint_158 : decode b_In_sharePoint 158 = .ok (.aload_n 0, 1) := by decide +kernel
theorem d_In_sharePoint_159 : decode b_In_sharePoint 159 = .ok (.getfield 9, 3) := by decide +kernel
theorem d_In_sharePoint_162 : decode b_In_sharePoint 162 = .ok (.iload_n 2, 1) := by decide +kernel
theorem d_In_sharePoint_163 : decode b_In_sharePoint 163 = .ok (.iaload, 1) := by decide +kernel
theorem d_In_sharePoint_164 : decode b_In_sharePoint 164 = .ok (.aload_n 0, 1) := by decide +kernel
theorem d_In_sharePoint_165 : decode b_In_sharePoint 165 = .ok (.getfield 15, 3) := by decide +kernel
theorem d_In_sharePoint_168 : decode b_In_sharePoint 168 = .ok (.iload_n 2, 1) := by decide +kernel
theorem d_In_sharePoint_169 : decode b_In_sharePoint 169 = .ok (.iaload, 1) := by decide +kernel
theorem d_In_sharePoint_170 : decode b_In_sharePoint 170 = .ok (.invokevirtual 114, 3) := by decide +kernel
theorem d_In_sharePoint_173 : decode b_In_sharePoint 173 = .ok (.aload_n 0, 1) := by decide +kernel
theorem d_In_sharePoint_174 : decode b_In_sharePoint 174 = .ok (.iload_n 1, 1) := by decide +kernel
theorem d_In_sharePoint_175 : decode b_In_sharePoint 175 = .ok (.aload_n 0, 1) := by decide +kernel
theorem d_In_sharePoint_176 : decode b_In_sharePoint 176 = .ok (.getfield 18, 3) := by decide +kernel
theorem d_In_sharePoint_179 : decode b_In_sharePoint 179 = .ok (.iload_n 2, 1) := by decide +kernel
theorem d_In_sharePoint_180 : decode b_In_sharePoint 180 = .ok (.iaload, 1) := by decide +kernel
theorem d_In_sharePoint_181 : decode b_In_sharePoint 181 = .ok (.aload_n 0, 1) := by decide +kernel
theorem d_In_sharePoint_182 : decode b_In_sharePoint 182 = .ok (.getfield 21, 3) := by decide +kernel
theorem d_In_sharePoint_185 : decode b_In_sharePoint 185 = .ok (.iload_n 2, 1) := by decide +kernel
theorem d_In_sharePoint_186 : decode b_In_sharePoint 186 = .ok (.iaload, 1) := by decide +kernel
theorem d_In_sharePoint_187 : decode b_In_sharePoint 187 = .ok (.invokevirtual 114, 3) := by decide +kernel
theorem d_In_sharePoint_190 : decode b_In_sharePoint 190 = .ok (.imul, 1) := by decide +kernel
theorem d_In_sharePoint_191 : decode b_In_sharePoint 191 = .ok (.ifCond .gt 45, 3) := by decide +kernel
theorem d_In_sharePoint_194 : decode b_In_sharePoint 194 = .ok (.aload_n 0, 1) := by decide +kernel
theorem d_In_sharePoint_195 : decode b_In_sharePoint 195 = .ok (.iload_n 2, 1) := by decide +kernel
theorem d_In_sharePoint_196 : decode b_In_sharePoint 196 = .ok (.aload_n 0, 1) := by decide +kernel
theorem d_In_sharePoint_197 : decode b_In_sharePoint 197 = .ok (.getfield 9, 3) := by decide +kernel
theorem d_In_sharePoint_200 : decode b_In_sharePoint 200 = .ok (.iload_n 1, 1) := by decide +kernel
theorem d_In_sharePoint_201 : decode b_In_sharePoint 201 = .ok (.iaload, 1) := by decide +kernel
theorem d_In_sharePoint_202 : decode b_In_sharePoint 202 = .ok (.aload_n 0, 1) := by decide +kernel
theorem d_In_sharePoint_203 : decode b_In_sharePoint 203 = .ok (.getfield 15, 3) := by decide +kernel
theorem d_In_sharePoint_206 : decode b_In_sharePoint 206 = .ok (.iload_n 1, 1) := by decide +kernel
theorem d_In_sharePoint_207 : decode b_In_sharePoint 207 = .ok (.iaload, 1) := by decide +kernel
theorem d_In_sharePoint_208 : decode b_In_sharePoint 208 = .ok (.invokevirtual 114, 3) := by decide +kernel
theorem d_In_sharePoint_211 : decode b_In_sharePoint 211 = .ok (.aload_n 0, 1) := by decide +kernel
theorem d_In_sharePoint_212 : decode b_In_sharePoint 212 = .ok (.iload_n 2, 1) := by decide +kernel
theorem d_In_sharePoint_213 : decode b_In_sharePoint 213 = .ok (.aload_n 0, 1) := by decide +kernel
theorem d_In_sharePoint_214 : decode b_In_sharePoint 214 = .ok (.getfield 18, 3) := by decide +kernel
theorem d_In_sharePoint_217 : decode b_In_sharePoint 217 = .ok (.iload_n 1, 1) := by decide +kernel
theorem d_In_sharePoint_218 : decode b_In_sharePoint 218 = .ok (.iaload, 1) := by decide +kernel
theorem d_In_sharePoint_219 : decode b_In_sharePoint 219 = .ok (.aload_n 0, 1) := by decide +kernel
theorem d_In_sharePoint_220 : decode b_In_sharePoint 220 = .ok (.getfield 21, 3) := by decide +kernel
theorem d_In_sharePoint_223 : decode b_In_sharePoint 223 = .ok (.iload_n 1, 1) := by decide +kernel
theorem d_In_sharePoint_224 : decode b_In_sharePoint 224 = .ok (.iaload, 1) := by decide +kernel
theorem d_In_sharePoint_225 : decode b_In_sharePoint 225 = .ok (.invokevirtual 114, 3) := by decide +kernel
theorem d_In_sharePoint_228 : decode b_In_sharePoint 228 = .ok (.imul, 1) := by decide +kernel
theorem d_In_sharePoint_229 : decode b_In_sharePoint 229 = .ok (.ifCond .gt 7, 3) := by decide +kernel
theorem d_In_sharePoint_232 : decode b_In_sharePoint 232 = .ok (.iconst 1, 1) := by decide +kernel
theorem d_In_sharePoint_233 : decode b_In_sharePoint 233 = .ok (.goto 4, 3) := by decide +kernel
theorem d_In_sharePoint_236 : decode b_In_sharePoint 236 = .ok (.iconst 0, 1) := by decide +kernel
theorem d_In_sharePoint_237 : decode b_In_sharePoint 237 = .ok (.ireturn, 1) := by decide +kernel
set_option maxHeartbeats 4000000 in
set_option maxRecDepth 100000 in
theorem c_In_sharePoint (F : Nat → Nat → Int) (G : Nat → Int → Int) (n : Int) (hn : 0 ≤ n ∧ n ≤ 96) (hE : iE G n) (i j : Int) (hi : 0 ≤ i ∧ i < n) (hj : 0 ≤ j ∧ j < n) : cP y_In_sharePoint b_In_sharePoint 5 (some .boolean) 2 43 F G (fun ad => [.ref (ad 224), .int (iI i), .int (iI j)]) (fun r => (r = 0 ∨ r = 1) ∧ (r = 1 ↔ iShare G i j)) := by
  obtain ⟨e1, e2, e3, e4, e5⟩ := hE i hi.1 hi.2
  obtain ⟨f1, f2, f3, f4, f5⟩ := hE j hj.1 hj.2
  have q1 := sgn_mul (eTurn (G 225 i) (G 226 i) (G 227 i) (G 228 i) (G 225 j) (G 226 j)) (eTurn (G 225 i) (G 226 i) (G 227 i) (G 228 i) (G 227 j) (G 228 j))
  have q2 := sgn_mul (eTurn (G 225 j) (G 226 j) (G 227 j) (G 228 j) (G 225 i) (G 226 i)) (eTurn (G 225 j) (G 226 j) (G 227 j) (G 228 j) (G 227 i) (G 228 i))
  intro s0 a0 D t ad
  refine g_startP (by decide +kernel) (Nat.le_of_ble_eq_true rfl) (fun p l e R s m args below meth c A ok => ?_)
  show gW p l e R s m args below meth c _ D A 5 (gZ0 s) 0 0 ad 265 (mem ad t F G) 0 [(0, .ref (ad 224)), (1, .int (iI i)), (2, .int (iI j))] []
  have J_71 : ∀ (b : Int), ((b = 0 ∨ b = 1) ∧ (b = 1 ↔ eApart (G 225 i) (G 227 i) (G 225 j) (G 227 j))) → gW p l e R s m args below meth c (MQ below (gQp (fun r => (r = 0 ∨ r = 1) ∧ (r = 1 ↔ iShare G i j))) args s 0 0 (fun _ => False)) D A 5 (gZ0 s) 0 0 ad 265 (mem ad t F G) 71 [(0, .ref (ad 224)), (1, .int (iI i)), (2, .int (iI j))] [.int (iI b)] := by
    intro b hb
    refine g_istore_n (lv' := [(3, .int (iI b)), (0, .ref (ad 224)), (1, .int (iI i)), (2, .int (iI j))]) ok d_In_sharePoint_71 rfl (by decide) rfl ?_
    have J_143 : ∀ (b2 : Int), ((b2 = 0 ∨ b2 = 1) ∧ (b2 = 1 ↔ eApart (G 226 i) (G 228 i) (G 226 j) (G 228 j))) → gW p l e R s m args below meth c (MQ below (gQp (fun r => (r = 0 ∨ r = 1) ∧ (r = 1 ↔ iShare G i j))) args s 0 0 (fun _ => False)) D A 5 (gZ0 s) 0 0 ad 265 (mem ad t F G) 143 [(0, .ref (ad 224)), (1, .int (iI i)), (2, .int (iI j)), (3, .int (iI b))] [.int (iI b2)] := by
      intro b2 hb2
      refine g_istore (lv' := [(4, .int (iI b2)), (0, .ref (ad 224)), (1, .int (iI i)), (2, .int (iI j)), (3, .int (iI b))]) ok d_In_sharePoint_143 (by decide) rfl ?_
      refine g_iload_n ok d_In_sharePoint_145 rfl 4 rfl ?_
      refine g_if_ne ok 154 d_In_sharePoint_146 (by decide) (by omega) (fun h1 => ?_) (fun h1 => ?_)
      · refine g_iconst ok d_In_sharePoint_154 ?_
        exact g_zpret ok d_In_sharePoint_155 (Or.inl rfl) (by unfold iShare eShare; unfold eApart at hb hb2 ⊢; omega)
      · refine g_iload ok d_In_sharePoint_149 0 rfl ?_
        refine g_if_eq ok 156 d_In_sharePoint_151 (by decide) (by omega) (fun h2 => ?_) (fun h2 => ?_)
        · refine g_aload_n ok d_In_sharePoint_156 rfl 1 rfl ?_
          refine g_iload_n ok d_In_sharePoint_157 rfl 2 rfl ?_
          refine g_aload_n ok d_In_sharePoint_158 rfl 1 rfl ?_
          refine gI_In_x1 ok _ rfl k_154 d_In_sharePoint_159 ?_
          refine g_iload_n ok d_In_sharePoint_162 rfl 3 rfl ?_
          refine h_iald ok _ a_225 (by omega) d_In_sharePoint_163 ?_
          refine g_aload_n ok d_In_sharePoint_164 rfl 1 rfl ?_
          refine gI_In_y1 ok _ rfl k_155 d_In_sharePoint_165 ?_
          refine g_iload_n ok d_In_sharePoint_168 rfl 3 rfl ?_
          refine h_iald ok _ a_226 (by omega) d_In_sharePoint_169 ?_
          refine g_callPV (As := [.int (iI i), .int (iI (G 225 j)), .int (iI (G 226 j))]) (st := []) ok _ (c_In_turn F G n hn hE _ _ _ (by omega) (by omega) (by omega) s0 a0 D t ad) k_860 k_5 k_857 cl_In (m_In (ad := ad) (t := t) (F := F) (G := G) rfl).1 (m_In rfl).2 k_859 s_In_turn q_In_turn (by decide) (Nat.le_of_ble_eq_true rfl) (by decide) d_In_sharePoint_170 (fun z3 hc3 => ?_)
          subst hc3
          refine g_aload_n ok d_In_sharePoint_173 rfl 1 rfl ?_
          refine g_iload_n ok d_In_sharePoint_174 rfl 2 rfl ?_
          refine g_aload_n ok d_In_sharePoint_175 rfl 1 rfl ?_
          refine gI_In_x2 ok _ rfl k_156 d_In_sharePoint_176 ?_
          refine g_iload_n ok d_In_sharePoint_179 rfl 3 rfl ?_
          refine h_iald ok _ a_227 (by omega) d_In_sharePoint_180 ?_
          refine g_aload_n ok d_In_sharePoint_181 rfl 1 rfl ?_
          refine gI_In_y2 ok _ rfl k_157 d_In_sharePoint_182 ?_
          refine g_iload_n ok d_In_sharePoint_185 rfl 3 rfl ?_
          refine h_iald ok _ a_228 (by omega) d_In_sharePoint_186 ?_
          refine g_callPV (As := [.int (iI i), .int (iI (G 227 j)), .int (iI (G 228 j))]) (st := [.int (iI (sgn (eTurn (G 225 i) (G 226 i) (G 227 i) (G 228 i) (G 225 j) (G 226 j))))]) ok _ (c_In_turn F G n hn hE _ _ _ (by omega) (by omega) (by omega) s0 a0 D t ad) k_860 k_5 k_857 cl_In (m_In (ad := ad) (t := t) (F := F) (G := G) rfl).1 (m_In rfl).2 k_859 s_In_turn q_In_turn (by decide) (Nat.le_of_ble_eq_true rfl) (by decide) d_In_sharePoint_187 (fun z4 hc4 => ?_)
          subst hc4
          refine g_imul ok d_In_sharePoint_190 ?_
          refine g_if_gt ok 236 d_In_sharePoint_191 (by decide) (by omega) (fun h5 => ?_) (fun h5 => ?_)
          · refine g_iconst ok d_In_sharePoint_236 ?_
            exact g_zpret ok d_In_sharePoint_237 (Or.inl rfl) (by unfold iShare eShare; unfold eApart at hb hb2 ⊢; omega)
          · refine g_aload_n ok d_In_sharePoint_194 rfl 1 rfl ?_
            refine g_iload_n ok d_In_sharePoint_195 rfl 3 rfl ?_
            refine g_aload_n ok d_In_sharePoint_196 rfl 1 rfl ?_
            refine gI_In_x1 ok _ rfl k_154 d_In_sharePoint_197 ?_
            refine g_iload_n ok d_In_sharePoint_200 rfl 2 rfl ?_
            refine h_iald ok _ a_225 (by omega) d_In_sharePoint_201 ?_
            refine g_aload_n ok d_In_sharePoint_202 rfl 1 rfl ?_
            refine gI_In_y1 ok _ rfl k_155 d_In_sharePoint_203 ?_
            refine g_iload_n ok d_In_sharePoint_206 rfl 2 rfl ?_
            refine h_iald ok _ a_226 (by omega) d_In_sharePoint_207 ?_
            refine g_callPV (As := [.int (iI j), .int (iI (G 225 i)), .int (iI (G 226 i))]) (st := []) ok _ (c_In_turn F G n hn hE _ _ _ (by omega) (by omega) (by omega) s0 a0 D t ad) k_860 k_5 k_857 cl_In (m_In (ad := ad) (t := t) (F := F) (G := G) rfl).1 (m_In rfl).2 k_859 s_In_turn q_In_turn (by decide) (Nat.le_of_ble_eq_true rfl) (by decide) d_In_sharePoint_208 (fun z6 hc6 => ?_)
            subst hc6
            refine g_aload_n ok d_In_sharePoint_211 rfl 1 rfl ?_
            refine g_iload_n ok d_In_sharePoint_212 rfl 3 rfl ?_
            refine g_aload_n ok d_In_sharePoint_213 rfl 1 rfl ?_
            refine gI_In_x2 ok _ rfl k_156 d_In_sharePoint_214 ?_
            refine g_iload_n ok d_In_sharePoint_217 rfl 2 rfl ?_
            refine h_iald ok _ a_227 (by omega) d_In_sharePoint_218 ?_
            refine g_aload_n ok d_In_sharePoint_219 rfl 1 rfl ?_
            refine gI_In_y2 ok _ rfl k_157 d_In_sharePoint_220 ?_
            refine g_iload_n ok d_In_sharePoint_223 rfl 2 rfl ?_
            refine h_iald ok _ a_228 (by omega) d_In_sharePoint_224 ?_
            refine g_callPV (As := [.int (iI j), .int (iI (G 227 i)), .int (iI (G 228 i))]) (st := [.int (iI (sgn (eTurn (G 225 j) (G 226 j) (G 227 j) (G 228 j) (G 225 i) (G 226 i))))]) ok _ (c_In_turn F G n hn hE _ _ _ (by omega) (by omega) (by omega) s0 a0 D t ad) k_860 k_5 k_857 cl_In (m_In (ad := ad) (t := t) (F := F) (G := G) rfl).1 (m_In rfl).2 k_859 s_In_turn q_In_turn (by decide) (Nat.le_of_ble_eq_true rfl) (by decide) d_In_sharePoint_225 (fun z7 hc7 => ?_)
            subst hc7
            refine g_imul ok d_In_sharePoint_228 ?_
            refine g_if_gt ok 236 d_In_sharePoint_229 (by decide) (by omega) (fun h8 => ?_) (fun h8 => ?_)
            · refine g_iconst ok d_In_sharePoint_236 ?_
              exact g_zpret ok d_In_sharePoint_237 (Or.inl rfl) (by unfold iShare eShare; unfold eApart at hb hb2 ⊢; omega)
            · refine g_iconst ok d_In_sharePoint_232 ?_
              refine g_goto ok 237 d_In_sharePoint_233 (by decide) ?_
              exact g_zpret ok d_In_sharePoint_237 (Or.inr rfl) (by unfold iShare eShare; unfold eApart at hb hb2 ⊢; omega)
        · refine g_iconst ok d_In_sharePoint_154 ?_
          exact g_zpret ok d_In_sharePoint_155 (Or.inl rfl) (by unfold iShare eShare; unfold eApart at hb hb2 ⊢; omega)
    refine g_aload_n ok d_In_sharePoint_72 rfl 1 rfl ?_
    refine gI_In_y1 ok _ rfl k_155 d_In_sharePoint_73 ?_
    refine g_iload_n ok d_In_sharePoint_76 rfl 2 rfl ?_
    refine h_iald ok _ a_226 (by omega) d_In_sharePoint_77 ?_
    refine g_aload_n ok d_In_sharePoint_78 rfl 1 rfl ?_
    refine gI_In_y2 ok _ rfl k_157 d_In_sharePoint_79 ?_
    refine g_iload_n ok d_In_sharePoint_82 rfl 2 rfl ?_
    refine h_iald ok _ a_228 (by omega) d_In_sharePoint_83 ?_
    refine g_callPS (As := [.int (iI (G 226 i)), .int (iI (G 228 i))]) (st := []) ok (c_Ma_max F G _ _ (by omega) (by omega) s0 a0 D t ad) k_414 k_18 k_855 k_413 q_Ma_max (by decide) (Nat.le_of_ble_eq_true rfl) (by decide) d_In_sharePoint_84 (fun z9 hc9 => ?_)
    subst hc9
    refine g_aload_n ok d_In_sharePoint_87 rfl 1 rfl ?_
    refine gI_In_y1 ok _ rfl k_155 d_In_sharePoint_88 ?_
    refine g_iload_n ok d_In_sharePoint_91 rfl 3 rfl ?_
    refine h_iald ok _ a_226 (by omega) d_In_sharePoint_92 ?_
    refine g_aload_n ok d_In_sharePoint_93 rfl 1 rfl ?_
    refine gI_In_y2 ok _ rfl k_157 d_In_sharePoint_94 ?_
    refine g_iload_n ok d_In_sharePoint_97 rfl 3 rfl ?_
    refine h_iald ok _ a_228 (by omega) d_In_sharePoint_98 ?_
    refine g_callPS (As := [.int (iI (G 226 j)), .int (iI (G 228 j))]) (st := [.int (iI (max (G 226 i) (G 228 i)))]) ok (c_Ma_min F G _ _ (by omega) (by omega) s0 a0 D t ad) k_417 k_18 k_856 k_416 q_Ma_min (by decide) (Nat.le_of_ble_eq_true rfl) (by decide) d_In_sharePoint_99 (fun z10 hc10 => ?_)
    subst hc10
    refine g_icmp_lt ok 138 d_In_sharePoint_102 (by decide) (by omega) (by omega) (fun h11 => ?_) (fun h11 => ?_)
    · refine g_iconst ok d_In_sharePoint_138 ?_
      refine g_goto ok 143 d_In_sharePoint_139 (by decide) ?_
      refine g_lv [1, 2, 3, 0] rfl ?_
      exact J_143 1 (by unfold eApart; omega)
    · refine g_aload_n ok d_In_sharePoint_105 rfl 1 rfl ?_
      refine gI_In_y1 ok _ rfl k_155 d_In_sharePoint_106 ?_
      refine g_iload_n ok d_In_sharePoint_109 rfl 3 rfl ?_
      refine h_iald ok _ a_226 (by omega) d_In_sharePoint_110 ?_
      refine g_aload_n ok d_In_sharePoint_111 rfl 1 rfl ?_
      refine gI_In_y2 ok _ rfl k_157 d_In_sharePoint_112 ?_
      refine g_iload_n ok d_In_sharePoint_115 rfl 3 rfl ?_
      refine h_iald ok _ a_228 (by omega) d_In_sharePoint_116 ?_
      refine g_callPS (As := [.int (iI (G 226 j)), .int (iI (G 228 j))]) (st := []) ok (c_Ma_max F G _ _ (by omega) (by omega) s0 a0 D t ad) k_414 k_18 k_855 k_413 q_Ma_max (by decide) (Nat.le_of_ble_eq_true rfl) (by decide) d_In_sharePoint_117 (fun z12 hc12 => ?_)
      subst hc12
      refine g_aload_n ok d_In_sharePoint_120 rfl 1 rfl ?_
      refine gI_In_y1 ok _ rfl k_155 d_In_sharePoint_121 ?_
      refine g_iload_n ok d_In_sharePoint_124 rfl 2 rfl ?_
      refine h_iald ok _ a_226 (by omega) d_In_sharePoint_125 ?_
      refine g_aload_n ok d_In_sharePoint_126 rfl 1 rfl ?_
      refine gI_In_y2 ok _ rfl k_157 d_In_sharePoint_127 ?_
      refine g_iload_n ok d_In_sharePoint_130 rfl 2 rfl ?_
      refine h_iald ok _ a_228 (by omega) d_In_sharePoint_131 ?_
      refine g_callPS (As := [.int (iI (G 226 i)), .int (iI (G 228 i))]) (st := [.int (iI (max (G 226 j) (G 228 j)))]) ok (c_Ma_min F G _ _ (by omega) (by omega) s0 a0 D t ad) k_417 k_18 k_856 k_416 q_Ma_min (by decide) (Nat.le_of_ble_eq_true rfl) (by decide) d_In_sharePoint_132 (fun z13 hc13 => ?_)
      subst hc13
      refine g_icmp_ge ok 142 d_In_sharePoint_135 (by decide) (by omega) (by omega) (fun h14 => ?_) (fun h14 => ?_)
      · refine g_iconst ok d_In_sharePoint_142 ?_
        refine g_lv [1, 2, 3, 0] rfl ?_
        exact J_143 0 (by unfold eApart; omega)
      · refine g_iconst ok d_In_sharePoint_138 ?_
        refine g_goto ok 143 d_In_sharePoint_139 (by decide) ?_
        refine g_lv [1, 2, 3, 0] rfl ?_
        exact J_143 1 (by unfold eApart; omega)
  refine g_aload_n ok d_In_sharePoint_0 rfl 0 rfl ?_
  refine gI_In_x1 ok _ rfl k_154 d_In_sharePoint_1 ?_
  refine g_iload_n ok d_In_sharePoint_4 rfl 1 rfl ?_
  refine h_iald ok _ a_225 (by omega) d_In_sharePoint_5 ?_
  refine g_aload_n ok d_In_sharePoint_6 rfl 0 rfl ?_
  refine gI_In_x2 ok _ rfl k_156 d_In_sharePoint_7 ?_
  refine g_iload_n ok d_In_sharePoint_10 rfl 1 rfl ?_
  refine h_iald ok _ a_227 (by omega) d_In_sharePoint_11 ?_
  refine g_callPS (As := [.int (iI (G 225 i)), .int (iI (G 227 i))]) (st := []) ok (c_Ma_max F G _ _ (by omega) (by omega) s0 a0 D t ad) k_414 k_18 k_855 k_413 q_Ma_max (by decide) (Nat.le_of_ble_eq_true rfl) (by decide) d_In_sharePoint_12 (fun z15 hc15 => ?_)
  subst hc15
  refine g_aload_n ok d_In_sharePoint_15 rfl 0 rfl ?_
  refine gI_In_x1 ok _ rfl k_154 d_In_sharePoint_16 ?_
  refine g_iload_n ok d_In_sharePoint_19 rfl 2 rfl ?_
  refine h_iald ok _ a_225 (by omega) d_In_sharePoint_20 ?_
  refine g_aload_n ok d_In_sharePoint_21 rfl 0 rfl ?_
  refine gI_In_x2 ok _ rfl k_156 d_In_sharePoint_22 ?_
  refine g_iload_n ok d_In_sharePoint_25 rfl 2 rfl ?_
  refine h_iald ok _ a_227 (by omega) d_In_sharePoint_26 ?_
  refine g_callPS (As := [.int (iI (G 225 j)), .int (iI (G 227 j))]) (st := [.int (iI (max (G 225 i) (G 227 i)))]) ok (c_Ma_min F G _ _ (by omega) (by omega) s0 a0 D t ad) k_417 k_18 k_856 k_416 q_Ma_min (by decide) (Nat.le_of_ble_eq_true rfl) (by decide) d_In_sharePoint_27 (fun z16 hc16 => ?_)
  subst hc16
  refine g_icmp_lt ok 66 d_In_sharePoint_30 (by decide) (by omega) (by omega) (fun h17 => ?_) (fun h17 => ?_)
  · refine g_iconst ok d_In_sharePoint_66 ?_
    refine g_goto ok 71 d_In_sharePoint_67 (by decide) ?_
    exact J_71 1 (by unfold eApart; omega)
  · refine g_aload_n ok d_In_sharePoint_33 rfl 0 rfl ?_
    refine gI_In_x1 ok _ rfl k_154 d_In_sharePoint_34 ?_
    refine g_iload_n ok d_In_sharePoint_37 rfl 2 rfl ?_
    refine h_iald ok _ a_225 (by omega) d_In_sharePoint_38 ?_
    refine g_aload_n ok d_In_sharePoint_39 rfl 0 rfl ?_
    refine gI_In_x2 ok _ rfl k_156 d_In_sharePoint_40 ?_
    refine g_iload_n ok d_In_sharePoint_43 rfl 2 rfl ?_
    refine h_iald ok _ a_227 (by omega) d_In_sharePoint_44 ?_
    refine g_callPS (As := [.int (iI (G 225 j)), .int (iI (G 227 j))]) (st := []) ok (c_Ma_max F G _ _ (by omega) (by omega) s0 a0 D t ad) k_414 k_18 k_855 k_413 q_Ma_max (by decide) (Nat.le_of_ble_eq_true rfl) (by decide) d_In_sharePoint_45 (fun z18 hc18 => ?_)
    subst hc18
    refine g_aload_n ok d_In_sharePoint_48 rfl 0 rfl ?_
    refine gI_In_x1 ok _ rfl k_154 d_In_sharePoint_49 ?_
    refine g_iload_n ok d_In_sharePoint_52 rfl 1 rfl ?_
    refine h_iald ok _ a_225 (by omega) d_In_sharePoint_53 ?_
    refine g_aload_n ok d_In_sharePoint_54 rfl 0 rfl ?_
    refine gI_In_x2 ok _ rfl k_156 d_In_sharePoint_55 ?_
    refine g_iload_n ok d_In_sharePoint_58 rfl 1 rfl ?_
    refine h_iald ok _ a_227 (by omega) d_In_sharePoint_59 ?_
    refine g_callPS (As := [.int (iI (G 225 i)), .int (iI (G 227 i))]) (st := [.int (iI (max (G 225 j) (G 227 j)))]) ok (c_Ma_min F G _ _ (by omega) (by omega) s0 a0 D t ad) k_417 k_18 k_856 k_416 q_Ma_min (by decide) (Nat.le_of_ble_eq_true rfl) (by decide) d_In_sharePoint_60 (fun z19 hc19 => ?_)
    subst hc19
    refine g_icmp_ge ok 70 d_In_sharePoint_63 (by decide) (by omega) (by omega) (fun h20 => ?_) (fun h20 => ?_)
    · refine g_iconst ok d_In_sharePoint_70 ?_
      exact J_71 0 (by unfold eApart; omega)
    · refine g_iconst ok d_In_sharePoint_66 ?_
      refine g_goto ok 71 d_In_sharePoint_67 (by decide) ?_
      exact J_71 1 (by unfold eApart; omega)
theorem d_In_areCrossed_0 : decode b_In_areCrossed 0 = .ok (.aload_n 0, 1) := by decide +kernel
theorem d_In_areCrossed_1 : decode b_In_areCrossed 1 = .ok (.getfield 24, 3) := by decide +kernel
theorem d_In_areCrossed_4 : decode b_In_areCrossed 4 = .ok (.iload_n 1, 1) := by decide +kernel
theorem d_In_areCrossed_5 : decode b_In_areCrossed 5 = .ok (.iaload, 1) := by decide +kernel
theorem d_In_areCrossed_6 : decode b_In_areCrossed 6 = .ok (.iload_n 2, 1) := by decide +kernel
theorem d_In_areCrossed_7 : decode b_In_areCrossed 7 = .ok (.if_icmp .ne 10, 3) := by decide +kernel
theorem d_In_areCrossed_10 : decode b_In_areCrossed 10 = .ok (.aload_n 0, 1) := by decide +kernel
theorem d_In_areCrossed_11 : decode b_In_areCrossed 11 = .ok (.iload_n 1, 1) := by decide +kernel
theorem d_In_areCrossed_12 : decode b_In_areCrossed 12 = .ok (.iload_n 2, 1) := by decide +kernel
theorem d_In_areCrossed_13 : decode b_In_areCrossed 13 = .ok (.invokevirtual 99, 3) := by decide +kernel
theorem d_In_areCrossed_16 : decode b_In_areCrossed 16 = .ok (.ireturn, 1) := by decide +kernel
theorem d_In_areCrossed_17 : decode b_In_areCrossed 17 = .ok (.aload_n 0, 1) := by decide +kernel
theorem d_In_areCrossed_18 : decode b_In_areCrossed 18 = .ok (.getfield 24, 3) := by decide +kernel
theorem d_In_areCrossed_21 : decode b_In_areCrossed 21 = .ok (.iload_n 2, 1) := by decide +kernel
theorem d_In_areCrossed_22 : decode b_In_areCrossed 22 = .ok (.iaload, 1) := by decide +kernel
theorem d_In_areCrossed_23 : decode b_In_areCrossed 23 = .ok (.iload_n 1, 1) := by decide +kernel
theorem d_In_areCrossed_24 : decode b_In_areCrossed 24 = .ok (.if_icmp .ne 10, 3) := by decide +kernel
theorem d_In_areCrossed_27 : decode b_In_areCrossed 27 = .ok (.aload_n 0, 1) := by decide +kernel
theorem d_In_areCrossed_28 : decode b_In_areCrossed 28 = .ok (.iload_n 2, 1) := by decide +kernel
theorem d_In_areCrossed_29 : decode b_In_areCrossed 29 = .ok (.iload_n 1, 1) := by decide +kernel
theorem d_In_areCrossed_30 : decode b_In_areCrossed 30 = .ok (.invokevirtual 99, 3) := by decide +kernel
theorem d_In_areCrossed_33 : decode b_In_areCrossed 33 = .ok (.ireturn, 1) := by decide +kernel
theorem d_In_areCrossed_34 : decode b_In_areCrossed 34 = .ok (.aload_n 0, 1) := by decide +kernel
theorem d_In_areCrossed_35 : decode b_In_areCrossed 35 = .ok (.iload_n 1, 1) := by decide +kernel
theorem d_In_areCrossed_36 : decode b_In_areCrossed 36 = .ok (.iload_n 2, 1) := by decide +kernel
theorem d_In_areCrossed_37 : decode b_In_areCrossed 37 = .ok (.invokevirtual 102, 3) := by decide +kernel
theorem d_In_areCrossed_40 : decode b_In_areCrossed 40 = .ok (.ireturn, 1) := by decide +kernel
set_option maxHeartbeats 4000000 in
set_option maxRecDepth 100000 in
theorem c_In_areCrossed (F : Nat → Nat → Int) (G : Nat → Int → Int) (n : Int) (hn : 0 ≤ n ∧ n ≤ 96) (hE : iE G n) (i j : Int) (hi : 0 ≤ i ∧ i < n) (hj : 0 ≤ j ∧ j < n) : cP y_In_areCrossed b_In_areCrossed 3 (some .boolean) 3 67 F G (fun ad => [.ref (ad 224), .int (iI i), .int (iI j)]) (fun r => (r = 0 ∨ r = 1) ∧ (r = 1 ↔ iCross G i j)) := by
  obtain ⟨e1, e2, e3, e4, e5⟩ := hE i hi.1 hi.2
  obtain ⟨f1, f2, f3, f4, f5⟩ := hE j hj.1 hj.2
  intro s0 a0 D t ad
  refine g_startP (by decide +kernel) (Nat.le_of_ble_eq_true rfl) (fun p l e R s m args below meth c A ok => ?_)
  show gW p l e R s m args below meth c _ D A 3 (gZ0 s) 0 0 ad 265 (mem ad t F G) 0 [(0, .ref (ad 224)), (1, .int (iI i)), (2, .int (iI j))] []
  refine g_aload_n ok d_In_areCrossed_0 rfl 0 rfl ?_
  refine gI_In_follower ok _ rfl k_158 d_In_areCrossed_1 ?_
  refine g_iload_n ok d_In_areCrossed_4 rfl 1 rfl ?_
  refine h_iald ok _ a_229 (by omega) d_In_areCrossed_5 ?_
  refine g_iload_n ok d_In_areCrossed_6 rfl 2 rfl ?_
  refine g_icmp_ne ok 17 d_In_areCrossed_7 (by decide) (by omega) (by omega) (fun h1 => ?_) (fun h1 => ?_)
  · refine g_aload_n ok d_In_areCrossed_17 rfl 0 rfl ?_
    refine gI_In_follower ok _ rfl k_158 d_In_areCrossed_18 ?_
    refine g_iload_n ok d_In_areCrossed_21 rfl 2 rfl ?_
    refine h_iald ok _ a_229 (by omega) d_In_areCrossed_22 ?_
    refine g_iload_n ok d_In_areCrossed_23 rfl 1 rfl ?_
    refine g_icmp_ne ok 34 d_In_areCrossed_24 (by decide) (by omega) (by omega) (fun h2 => ?_) (fun h2 => ?_)
    · refine g_aload_n ok d_In_areCrossed_34 rfl 0 rfl ?_
      refine g_iload_n ok d_In_areCrossed_35 rfl 1 rfl ?_
      refine g_iload_n ok d_In_areCrossed_36 rfl 2 rfl ?_
      refine g_callPV (As := [.int (iI i), .int (iI j)]) (st := []) ok _ (c_In_sharePoint F G n hn hE _ _ (by omega) (by omega) s0 a0 D t ad) k_854 k_5 k_851 cl_In (m_In (ad := ad) (t := t) (F := F) (G := G) rfl).1 (m_In rfl).2 k_853 s_In_sharePoint q_In_sharePoint (by decide) (Nat.le_of_ble_eq_true rfl) (by decide) d_In_areCrossed_37 (fun z3 hc3 => ?_)
      exact g_zpret ok d_In_areCrossed_40 (hc3.1) (by unfold iCross; rw [if_neg (by omega), if_neg (by omega)]; exact hc3)
    · refine g_aload_n ok d_In_areCrossed_27 rfl 0 rfl ?_
      refine g_iload_n ok d_In_areCrossed_28 rfl 2 rfl ?_
      refine g_iload_n ok d_In_areCrossed_29 rfl 1 rfl ?_
      refine g_callPV (As := [.int (iI j), .int (iI i)]) (st := []) ok _ (c_In_turnsBack F G n hn hE _ _ (by omega) (by omega) s0 a0 D t ad) k_850 k_5 k_847 cl_In (m_In (ad := ad) (t := t) (F := F) (G := G) rfl).1 (m_In rfl).2 k_849 s_In_turnsBack q_In_turnsBack (by decide) (Nat.le_of_ble_eq_true rfl) (by decide) d_In_areCrossed_30 (fun z4 hc4 => ?_)
      exact g_zpret ok d_In_areCrossed_33 (hc4.1) (by unfold iCross; rw [if_neg (by omega), if_pos (by omega)]; exact hc4)
  · refine g_aload_n ok d_In_areCrossed_10 rfl 0 rfl ?_
    refine g_iload_n ok d_In_areCrossed_11 rfl 1 rfl ?_
    refine g_iload_n ok d_In_areCrossed_12 rfl 2 rfl ?_
    refine g_callPV (As := [.int (iI i), .int (iI j)]) (st := []) ok _ (c_In_turnsBack F G n hn hE _ _ (by omega) (by omega) s0 a0 D t ad) k_850 k_5 k_847 cl_In (m_In (ad := ad) (t := t) (F := F) (G := G) rfl).1 (m_In rfl).2 k_849 s_In_turnsBack q_In_turnsBack (by decide) (Nat.le_of_ble_eq_true rfl) (by decide) d_In_areCrossed_13 (fun z5 hc5 => ?_)
    exact g_zpret ok d_In_areCrossed_16 (hc5.1) (by unfold iCross; rw [if_pos (by omega)]; exact hc5)
end
