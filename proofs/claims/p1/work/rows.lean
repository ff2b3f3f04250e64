section
-- ===== PART A: goes FIRST, ahead of the names: the tables' words, and 'selects' of the private methods out of them =====
/-- a private method of a class that the tables say can be made, by its rows of tables_1 -/
def lw_okq (q : MethodName × Nat) : Prop := (q.1.cls ≠ "java/lang/invoke/MethodHandle" ∧ q.1.cls ≠ "java/lang/invoke/VarHandle") ∧ Cond.instantiable q.1.cls q.2 ∈ tables_1 ∧ Cond.privateMethod q.1 ∈ tables_1 ∧ Cond.instanceMethod q.1 ∈ tables_1
theorem lw_p0 : lw_okq (⟨"LuteFingers", "instrumentChanged", "()V"⟩, 15) := ⟨⟨by decide +kernel, by decide +kernel⟩, List.mem_of_getElem? (i := 18) (by decide +kernel), List.mem_of_getElem? (i := 310) (by decide +kernel), List.mem_of_getElem? (i := 311) (by decide +kernel)⟩
theorem lw_p1 : lw_okq (⟨"LuteFingers", "forgetAnswers", "()V"⟩, 15) := ⟨⟨by decide +kernel, by decide +kernel⟩, List.mem_of_getElem? (i := 18) (by decide +kernel), List.mem_of_getElem? (i := 314) (by decide +kernel), List.mem_of_getElem? (i := 315) (by decide +kernel)⟩
theorem lw_p2 : lw_okq (⟨"LuteFingers$WayList", "drop", "()V"⟩, 5) := ⟨⟨by decide +kernel, by decide +kernel⟩, List.mem_of_getElem? (i := 230) (by decide +kernel), List.mem_of_getElem? (i := 318) (by decide +kernel), List.mem_of_getElem? (i := 319) (by decide +kernel)⟩
theorem lw_p3 : lw_okq (⟨"LuteFingers$GripBook", "forgetAll", "()V"⟩, 4) := ⟨⟨by decide +kernel, by decide +kernel⟩, List.mem_of_getElem? (i := 178) (by decide +kernel), List.mem_of_getElem? (i := 322) (by decide +kernel), List.mem_of_getElem? (i := 323) (by decide +kernel)⟩
theorem lw_p4 : lw_okq (⟨"LuteFingers$Lute", "addCourse", "(II)I"⟩, 7) := ⟨⟨by decide +kernel, by decide +kernel⟩, List.mem_of_getElem? (i := 26) (by decide +kernel), List.mem_of_getElem? (i := 326) (by decide +kernel), List.mem_of_getElem? (i := 327) (by decide +kernel)⟩
theorem lw_p5 : lw_okq (⟨"LuteFingers$Lute", "hasCourse", "(I)Z"⟩, 7) := ⟨⟨by decide +kernel, by decide +kernel⟩, List.mem_of_getElem? (i := 26) (by decide +kernel), List.mem_of_getElem? (i := 334) (by decide +kernel), List.mem_of_getElem? (i := 335) (by decide +kernel)⟩
theorem lw_p6 : lw_okq (⟨"LuteFingers$Piece", "noteOfPitch", "(II)I"⟩, 7) := ⟨⟨by decide +kernel, by decide +kernel⟩, List.mem_of_getElem? (i := 70) (by decide +kernel), List.mem_of_getElem? (i := 357) (by decide +kernel), List.mem_of_getElem? (i := 358) (by decide +kernel)⟩
theorem lw_p7 : lw_okq (⟨"LuteFingers$Piece", "foreOf", "(II)I"⟩, 7) := ⟨⟨by decide +kernel, by decide +kernel⟩, List.mem_of_getElem? (i := 70) (by decide +kernel), List.mem_of_getElem? (i := 361) (by decide +kernel), List.mem_of_getElem? (i := 362) (by decide +kernel)⟩
theorem lw_p8 : lw_okq (⟨"LuteFingers$Piece", "addNote", "(IIIII)I"⟩, 7) := ⟨⟨by decide +kernel, by decide +kernel⟩, List.mem_of_getElem? (i := 70) (by decide +kernel), List.mem_of_getElem? (i := 370) (by decide +kernel), List.mem_of_getElem? (i := 371) (by decide +kernel)⟩
theorem lw_p9 : lw_okq (⟨"LuteFingers$Piece", "closeTick", "()I"⟩, 7) := ⟨⟨by decide +kernel, by decide +kernel⟩, List.mem_of_getElem? (i := 70) (by decide +kernel), List.mem_of_getElem? (i := 378) (by decide +kernel), List.mem_of_getElem? (i := 379) (by decide +kernel)⟩
theorem lw_p10 : lw_okq (⟨"LuteFingers$GripBook", "forget", "(I)V"⟩, 4) := ⟨⟨by decide +kernel, by decide +kernel⟩, List.mem_of_getElem? (i := 178) (by decide +kernel), List.mem_of_getElem? (i := 382) (by decide +kernel), List.mem_of_getElem? (i := 383) (by decide +kernel)⟩
theorem lw_p11 : lw_okq (⟨"LuteFingers$Piece", "removeAll", "()V"⟩, 7) := ⟨⟨by decide +kernel, by decide +kernel⟩, List.mem_of_getElem? (i := 70) (by decide +kernel), List.mem_of_getElem? (i := 390) (by decide +kernel), List.mem_of_getElem? (i := 391) (by decide +kernel)⟩
theorem lw_p12 : lw_okq (⟨"LuteFingers$Piece", "hasNote", "(II)Z"⟩, 7) := ⟨⟨by decide +kernel, by decide +kernel⟩, List.mem_of_getElem? (i := 70) (by decide +kernel), List.mem_of_getElem? (i := 398) (by decide +kernel), List.mem_of_getElem? (i := 399) (by decide +kernel)⟩
theorem lw_p13 : lw_okq (⟨"LuteFingers$Piece", "hasTick", "(I)Z"⟩, 7) := ⟨⟨by decide +kernel, by decide +kernel⟩, List.mem_of_getElem? (i := 70) (by decide +kernel), List.mem_of_getElem? (i := 402) (by decide +kernel), List.mem_of_getElem? (i := 403) (by decide +kernel)⟩
theorem lw_p14 : lw_okq (⟨"LuteFingers$GripBook", "keep", "(I)V"⟩, 4) := ⟨⟨by decide +kernel, by decide +kernel⟩, List.mem_of_getElem? (i := 178) (by decide +kernel), List.mem_of_getElem? (i := 415) (by decide +kernel), List.mem_of_getElem? (i := 416) (by decide +kernel)⟩
theorem lw_p15 : lw_okq (⟨"LuteFingers$Piece", "allNotes", "(I)I"⟩, 7) := ⟨⟨by decide +kernel, by decide +kernel⟩, List.mem_of_getElem? (i := 70) (by decide +kernel), List.mem_of_getElem? (i := 419) (by decide +kernel), List.mem_of_getElem? (i := 420) (by decide +kernel)⟩
def lw_privs_1 : List (MethodName × Nat) := [(⟨"LuteFingers", "instrumentChanged", "()V"⟩, 15), (⟨"LuteFingers", "forgetAnswers", "()V"⟩, 15), (⟨"LuteFingers$WayList", "drop", "()V"⟩, 5), (⟨"LuteFingers$GripBook", "forgetAll", "()V"⟩, 4), (⟨"LuteFingers$Lute", "addCourse", "(II)I"⟩, 7), (⟨"LuteFingers$Lute", "hasCourse", "(I)Z"⟩, 7), (⟨"LuteFingers$Piece", "noteOfPitch", "(II)I"⟩, 7), (⟨"LuteFingers$Piece", "foreOf", "(II)I"⟩, 7), (⟨"LuteFingers$Piece", "addNote", "(IIIII)I"⟩, 7), (⟨"LuteFingers$Piece", "closeTick", "()I"⟩, 7), (⟨"LuteFingers$GripBook", "forget", "(I)V"⟩, 4), (⟨"LuteFingers$Piece", "removeAll", "()V"⟩, 7), (⟨"LuteFingers$Piece", "hasNote", "(II)Z"⟩, 7), (⟨"LuteFingers$Piece", "hasTick", "(I)Z"⟩, 7), (⟨"LuteFingers$GripBook", "keep", "(I)V"⟩, 4), (⟨"LuteFingers$Piece", "allNotes", "(I)I"⟩, 7)]
theorem lw_r1 : ∀ q ∈ lw_privs_1, lw_okq q := List.forall_mem_cons.mpr ⟨lw_p0, List.forall_mem_cons.mpr ⟨lw_p1, List.forall_mem_cons.mpr ⟨lw_p2, List.forall_mem_cons.mpr ⟨lw_p3, List.forall_mem_cons.mpr ⟨lw_p4, List.forall_mem_cons.mpr ⟨lw_p5, List.forall_mem_cons.mpr ⟨lw_p6, List.forall_mem_cons.mpr ⟨lw_p7, List.forall_mem_cons.mpr ⟨lw_p8, List.forall_mem_cons.mpr ⟨lw_p9, List.forall_mem_cons.mpr ⟨lw_p10, List.forall_mem_cons.mpr ⟨lw_p11, List.forall_mem_cons.mpr ⟨lw_p12, List.forall_mem_cons.mpr ⟨lw_p13, List.forall_mem_cons.mpr ⟨lw_p14, List.forall_mem_cons.mpr ⟨lw_p15, fun _ h => absurd h List.not_mem_nil⟩⟩⟩⟩⟩⟩⟩⟩⟩⟩⟩⟩⟩⟩⟩⟩
theorem lw_p16 : lw_okq (⟨"LuteFingers$GripBook", "list", "(II)V"⟩, 4) := ⟨⟨by decide +kernel, by decide +kernel⟩, List.mem_of_getElem? (i := 178) (by decide +kernel), List.mem_of_getElem? (i := 423) (by decide +kernel), List.mem_of_getElem? (i := 424) (by decide +kernel)⟩
theorem lw_p17 : lw_okq (⟨"LuteFingers$GripSearch", "search", "(II[JII)I"⟩, 12) := ⟨⟨by decide +kernel, by decide +kernel⟩, List.mem_of_getElem? (i := 135) (by decide +kernel), List.mem_of_getElem? (i := 427) (by decide +kernel), List.mem_of_getElem? (i := 428) (by decide +kernel)⟩
theorem lw_p18 : lw_okq (⟨"LuteFingers$GripSearch", "isIn", "(I)Z"⟩, 12) := ⟨⟨by decide +kernel, by decide +kernel⟩, List.mem_of_getElem? (i := 135) (by decide +kernel), List.mem_of_getElem? (i := 431) (by decide +kernel), List.mem_of_getElem? (i := 432) (by decide +kernel)⟩
theorem lw_p19 : lw_okq (⟨"LuteFingers$GripSearch", "gatherChoices", "(II)I"⟩, 12) := ⟨⟨by decide +kernel, by decide +kernel⟩, List.mem_of_getElem? (i := 135) (by decide +kernel), List.mem_of_getElem? (i := 435) (by decide +kernel), List.mem_of_getElem? (i := 436) (by decide +kernel)⟩
theorem lw_p20 : lw_okq (⟨"LuteFingers$Lute", "fretFor", "(II)I"⟩, 7) := ⟨⟨by decide +kernel, by decide +kernel⟩, List.mem_of_getElem? (i := 26) (by decide +kernel), List.mem_of_getElem? (i := 439) (by decide +kernel), List.mem_of_getElem? (i := 440) (by decide +kernel)⟩
theorem lw_p21 : lw_okq (⟨"LuteFingers$Lute", "placesFor", "(I)I"⟩, 7) := ⟨⟨by decide +kernel, by decide +kernel⟩, List.mem_of_getElem? (i := 26) (by decide +kernel), List.mem_of_getElem? (i := 444) (by decide +kernel), List.mem_of_getElem? (i := 445) (by decide +kernel)⟩
theorem lw_p22 : lw_okq (⟨"LuteFingers$GripSearch", "layNote", "(IJI)V"⟩, 12) := ⟨⟨by decide +kernel, by decide +kernel⟩, List.mem_of_getElem? (i := 135) (by decide +kernel), List.mem_of_getElem? (i := 448) (by decide +kernel), List.mem_of_getElem? (i := 449) (by decide +kernel)⟩
theorem lw_p23 : lw_okq (⟨"LuteFingers$GripSearch", "takeGrip", "(J)V"⟩, 12) := ⟨⟨by decide +kernel, by decide +kernel⟩, List.mem_of_getElem? (i := 135) (by decide +kernel), List.mem_of_getElem? (i := 452) (by decide +kernel), List.mem_of_getElem? (i := 453) (by decide +kernel)⟩
theorem lw_p24 : lw_okq (⟨"LuteFingers$GripSearch", "layOn", "(IIJI)V"⟩, 12) := ⟨⟨by decide +kernel, by decide +kernel⟩, List.mem_of_getElem? (i := 135) (by decide +kernel), List.mem_of_getElem? (i := 479) (by decide +kernel), List.mem_of_getElem? (i := 480) (by decide +kernel)⟩
theorem lw_p25 : lw_okq (⟨"LuteFingers$Lute", "reaches", "(III)Z"⟩, 7) := ⟨⟨by decide +kernel, by decide +kernel⟩, List.mem_of_getElem? (i := 26) (by decide +kernel), List.mem_of_getElem? (i := 486) (by decide +kernel), List.mem_of_getElem? (i := 487) (by decide +kernel)⟩
theorem lw_p26 : lw_okq (⟨"LuteFingers$GripSearch", "agrees", "(IJIII)Z"⟩, 12) := ⟨⟨by decide +kernel, by decide +kernel⟩, List.mem_of_getElem? (i := 135) (by decide +kernel), List.mem_of_getElem? (i := 490) (by decide +kernel), List.mem_of_getElem? (i := 491) (by decide +kernel)⟩
theorem lw_p27 : lw_okq (⟨"LuteFingers$GripBook", "isSpent", "(I)Z"⟩, 4) := ⟨⟨by decide +kernel, by decide +kernel⟩, List.mem_of_getElem? (i := 178) (by decide +kernel), List.mem_of_getElem? (i := 500) (by decide +kernel), List.mem_of_getElem? (i := 501) (by decide +kernel)⟩
theorem lw_p28 : lw_okq (⟨"LuteFingers$GripBook", "size", "(I)I"⟩, 4) := ⟨⟨by decide +kernel, by decide +kernel⟩, List.mem_of_getElem? (i := 178) (by decide +kernel), List.mem_of_getElem? (i := 504) (by decide +kernel), List.mem_of_getElem? (i := 505) (by decide +kernel)⟩
theorem lw_p29 : lw_okq (⟨"LuteFingers$GripBook", "get", "(II)J"⟩, 4) := ⟨⟨by decide +kernel, by decide +kernel⟩, List.mem_of_getElem? (i := 178) (by decide +kernel), List.mem_of_getElem? (i := 514) (by decide +kernel), List.mem_of_getElem? (i := 515) (by decide +kernel)⟩
theorem lw_p30 : lw_okq (⟨"LuteFingers", "hasGrip", "(II)Z"⟩, 15) := ⟨⟨by decide +kernel, by decide +kernel⟩, List.mem_of_getElem? (i := 18) (by decide +kernel), List.mem_of_getElem? (i := 541) (by decide +kernel), List.mem_of_getElem? (i := 542) (by decide +kernel)⟩
theorem lw_p31 : lw_okq (⟨"LuteFingers$WayList", "atHand", "()Z"⟩, 5) := ⟨⟨by decide +kernel, by decide +kernel⟩, List.mem_of_getElem? (i := 230) (by decide +kernel), List.mem_of_getElem? (i := 552) (by decide +kernel), List.mem_of_getElem? (i := 553) (by decide +kernel)⟩
def lw_privs_2 : List (MethodName × Nat) := [(⟨"LuteFingers$GripBook", "list", "(II)V"⟩, 4), (⟨"LuteFingers$GripSearch", "search", "(II[JII)I"⟩, 12), (⟨"LuteFingers$GripSearch", "isIn", "(I)Z"⟩, 12), (⟨"LuteFingers$GripSearch", "gatherChoices", "(II)I"⟩, 12), (⟨"LuteFingers$Lute", "fretFor", "(II)I"⟩, 7), (⟨"LuteFingers$Lute", "placesFor", "(I)I"⟩, 7), (⟨"LuteFingers$GripSearch", "layNote", "(IJI)V"⟩, 12), (⟨"LuteFingers$GripSearch", "takeGrip", "(J)V"⟩, 12), (⟨"LuteFingers$GripSearch", "layOn", "(IIJI)V"⟩, 12), (⟨"LuteFingers$Lute", "reaches", "(III)Z"⟩, 7), (⟨"LuteFingers$GripSearch", "agrees", "(IJIII)Z"⟩, 12), (⟨"LuteFingers$GripBook", "isSpent", "(I)Z"⟩, 4), (⟨"LuteFingers$GripBook", "size", "(I)I"⟩, 4), (⟨"LuteFingers$GripBook", "get", "(II)J"⟩, 4), (⟨"LuteFingers", "hasGrip", "(II)Z"⟩, 15), (⟨"LuteFingers$WayList", "atHand", "()Z"⟩, 5)]
theorem lw_r2 : ∀ q ∈ lw_privs_2, lw_okq q := List.forall_mem_cons.mpr ⟨lw_p16, List.forall_mem_cons.mpr ⟨lw_p17, List.forall_mem_cons.mpr ⟨lw_p18, List.forall_mem_cons.mpr ⟨lw_p19, List.forall_mem_cons.mpr ⟨lw_p20, List.forall_mem_cons.mpr ⟨lw_p21, List.forall_mem_cons.mpr ⟨lw_p22, List.forall_mem_cons.mpr ⟨lw_p23, List.forall_mem_cons.mpr ⟨lw_p24, List.forall_mem_cons.mpr ⟨lw_p25, List.forall_mem_cons.mpr ⟨lw_p26, List.forall_mem_cons.mpr ⟨lw_p27, List.forall_mem_cons.mpr ⟨lw_p28, List.forall_mem_cons.mpr ⟨lw_p29, List.forall_mem_cons.mpr ⟨lw_p30, List.forall_mem_cons.mpr ⟨lw_p31, fun _ h => absurd h List.not_mem_nil⟩⟩⟩⟩⟩⟩⟩⟩⟩⟩⟩⟩⟩⟩⟩⟩
theorem lw_p32 : lw_okq (⟨"LuteFingers$GripBook", "keepAll", "()V"⟩, 4) := ⟨⟨by decide +kernel, by decide +kernel⟩, List.mem_of_getElem? (i := 178) (by decide +kernel), List.mem_of_getElem? (i := 556) (by decide +kernel), List.mem_of_getElem? (i := 557) (by decide +kernel)⟩
theorem lw_p33 : lw_okq (⟨"LuteFingers$WaySearch", "lookThrough", "(LLuteFingers$GripBook;)I"⟩, 8) := ⟨⟨by decide +kernel, by decide +kernel⟩, List.mem_of_getElem? (i := 199) (by decide +kernel), List.mem_of_getElem? (i := 560) (by decide +kernel), List.mem_of_getElem? (i := 561) (by decide +kernel)⟩
theorem lw_p34 : lw_okq (⟨"LuteFingers$WaySearch", "allGrips", "(I)I"⟩, 8) := ⟨⟨by decide +kernel, by decide +kernel⟩, List.mem_of_getElem? (i := 199) (by decide +kernel), List.mem_of_getElem? (i := 564) (by decide +kernel), List.mem_of_getElem? (i := 565) (by decide +kernel)⟩
theorem lw_p35 : lw_okq (⟨"LuteFingers$WaySearch", "joinTicks", "(I)I"⟩, 8) := ⟨⟨by decide +kernel, by decide +kernel⟩, List.mem_of_getElem? (i := 199) (by decide +kernel), List.mem_of_getElem? (i := 569) (by decide +kernel), List.mem_of_getElem? (i := 570) (by decide +kernel)⟩
theorem lw_p36 : lw_okq (⟨"LuteFingers$Piece", "tieMask", "(IJ)J"⟩, 7) := ⟨⟨by decide +kernel, by decide +kernel⟩, List.mem_of_getElem? (i := 70) (by decide +kernel), List.mem_of_getElem? (i := 580) (by decide +kernel), List.mem_of_getElem? (i := 581) (by decide +kernel)⟩
theorem lw_p37 : lw_okq (⟨"LuteFingers$Piece", "tieBits", "(IJ)J"⟩, 7) := ⟨⟨by decide +kernel, by decide +kernel⟩, List.mem_of_getElem? (i := 70) (by decide +kernel), List.mem_of_getElem? (i := 592) (by decide +kernel), List.mem_of_getElem? (i := 593) (by decide +kernel)⟩
theorem lw_p38 : lw_okq (⟨"LuteFingers$WaySearch", "isAlive", "(II)Z"⟩, 8) := ⟨⟨by decide +kernel, by decide +kernel⟩, List.mem_of_getElem? (i := 199) (by decide +kernel), List.mem_of_getElem? (i := 597) (by decide +kernel), List.mem_of_getElem? (i := 598) (by decide +kernel)⟩
theorem lw_p39 : lw_okq (⟨"LuteFingers$WaySearch", "placesBehind", "(I)I"⟩, 8) := ⟨⟨by decide +kernel, by decide +kernel⟩, List.mem_of_getElem? (i := 199) (by decide +kernel), List.mem_of_getElem? (i := 601) (by decide +kernel), List.mem_of_getElem? (i := 602) (by decide +kernel)⟩
theorem lw_p40 : lw_okq (⟨"LuteFingers", "takeWays", "(I)V"⟩, 15) := ⟨⟨by decide +kernel, by decide +kernel⟩, List.mem_of_getElem? (i := 18) (by decide +kernel), List.mem_of_getElem? (i := 606) (by decide +kernel), List.mem_of_getElem? (i := 607) (by decide +kernel)⟩
theorem lw_p41 : lw_okq (⟨"LuteFingers$WaySearch", "findBest", "(I)I"⟩, 8) := ⟨⟨by decide +kernel, by decide +kernel⟩, List.mem_of_getElem? (i := 199) (by decide +kernel), List.mem_of_getElem? (i := 610) (by decide +kernel), List.mem_of_getElem? (i := 611) (by decide +kernel)⟩
theorem lw_p42 : lw_okq (⟨"LuteFingers$WaySearch", "fillTick", "(I)V"⟩, 8) := ⟨⟨by decide +kernel, by decide +kernel⟩, List.mem_of_getElem? (i := 199) (by decide +kernel), List.mem_of_getElem? (i := 616) (by decide +kernel), List.mem_of_getElem? (i := 617) (by decide +kernel)⟩
theorem lw_p43 : lw_okq (⟨"LuteFingers$WaySearch", "fillSlot", "(III)V"⟩, 8) := ⟨⟨by decide +kernel, by decide +kernel⟩, List.mem_of_getElem? (i := 199) (by decide +kernel), List.mem_of_getElem? (i := 620) (by decide +kernel), List.mem_of_getElem? (i := 621) (by decide +kernel)⟩
theorem lw_p44 : lw_okq (⟨"LuteFingers$WaySearch", "slot", "(III)I"⟩, 8) := ⟨⟨by decide +kernel, by decide +kernel⟩, List.mem_of_getElem? (i := 199) (by decide +kernel), List.mem_of_getElem? (i := 624) (by decide +kernel), List.mem_of_getElem? (i := 625) (by decide +kernel)⟩
theorem lw_p45 : lw_okq (⟨"LuteFingers$Lute", "stepCost", "(JJI)I"⟩, 7) := ⟨⟨by decide +kernel, by decide +kernel⟩, List.mem_of_getElem? (i := 26) (by decide +kernel), List.mem_of_getElem? (i := 630) (by decide +kernel), List.mem_of_getElem? (i := 631) (by decide +kernel)⟩
theorem lw_p46 : lw_okq (⟨"LuteFingers$WaySearch", "merge", "(IIII)V"⟩, 8) := ⟨⟨by decide +kernel, by decide +kernel⟩, List.mem_of_getElem? (i := 199) (by decide +kernel), List.mem_of_getElem? (i := 641) (by decide +kernel), List.mem_of_getElem? (i := 642) (by decide +kernel)⟩
theorem lw_p47 : lw_okq (⟨"LuteFingers$WaySearch", "insert", "(II)Z"⟩, 8) := ⟨⟨by decide +kernel, by decide +kernel⟩, List.mem_of_getElem? (i := 199) (by decide +kernel), List.mem_of_getElem? (i := 645) (by decide +kernel), List.mem_of_getElem? (i := 646) (by decide +kernel)⟩
def lw_privs_3 : List (MethodName × Nat) := [(⟨"LuteFingers$GripBook", "keepAll", "()V"⟩, 4), (⟨"LuteFingers$WaySearch", "lookThrough", "(LLuteFingers$GripBook;)I"⟩, 8), (⟨"LuteFingers$WaySearch", "allGrips", "(I)I"⟩, 8), (⟨"LuteFingers$WaySearch", "joinTicks", "(I)I"⟩, 8), (⟨"LuteFingers$Piece", "tieMask", "(IJ)J"⟩, 7), (⟨"LuteFingers$Piece", "tieBits", "(IJ)J"⟩, 7), (⟨"LuteFingers$WaySearch", "isAlive", "(II)Z"⟩, 8), (⟨"LuteFingers$WaySearch", "placesBehind", "(I)I"⟩, 8), (⟨"LuteFingers", "takeWays", "(I)V"⟩, 15), (⟨"LuteFingers$WaySearch", "findBest", "(I)I"⟩, 8), (⟨"LuteFingers$WaySearch", "fillTick", "(I)V"⟩, 8), (⟨"LuteFingers$WaySearch", "fillSlot", "(III)V"⟩, 8), (⟨"LuteFingers$WaySearch", "slot", "(III)I"⟩, 8), (⟨"LuteFingers$Lute", "stepCost", "(JJI)I"⟩, 7), (⟨"LuteFingers$WaySearch", "merge", "(IIII)V"⟩, 8), (⟨"LuteFingers$WaySearch", "insert", "(II)Z"⟩, 8)]
theorem lw_r3 : ∀ q ∈ lw_privs_3, lw_okq q := List.forall_mem_cons.mpr ⟨lw_p32, List.forall_mem_cons.mpr ⟨lw_p33, List.forall_mem_cons.mpr ⟨lw_p34, List.forall_mem_cons.mpr ⟨lw_p35, List.forall_mem_cons.mpr ⟨lw_p36, List.forall_mem_cons.mpr ⟨lw_p37, List.forall_mem_cons.mpr ⟨lw_p38, List.forall_mem_cons.mpr ⟨lw_p39, List.forall_mem_cons.mpr ⟨lw_p40, List.forall_mem_cons.mpr ⟨lw_p41, List.forall_mem_cons.mpr ⟨lw_p42, List.forall_mem_cons.mpr ⟨lw_p43, List.forall_mem_cons.mpr ⟨lw_p44, List.forall_mem_cons.mpr ⟨lw_p45, List.forall_mem_cons.mpr ⟨lw_p46, List.forall_mem_cons.mpr ⟨lw_p47, fun _ h => absurd h List.not_mem_nil⟩⟩⟩⟩⟩⟩⟩⟩⟩⟩⟩⟩⟩⟩⟩⟩
theorem lw_p48 : lw_okq (⟨"LuteFingers$WaySearch", "head", "()I"⟩, 8) := ⟨⟨by decide +kernel, by decide +kernel⟩, List.mem_of_getElem? (i := 199) (by decide +kernel), List.mem_of_getElem? (i := 649) (by decide +kernel), List.mem_of_getElem? (i := 650) (by decide +kernel)⟩
theorem lw_p49 : lw_okq (⟨"LuteFingers$WaySearch", "trace", "(I[II)I"⟩, 8) := ⟨⟨by decide +kernel, by decide +kernel⟩, List.mem_of_getElem? (i := 199) (by decide +kernel), List.mem_of_getElem? (i := 653) (by decide +kernel), List.mem_of_getElem? (i := 654) (by decide +kernel)⟩
theorem lw_p50 : lw_okq (⟨"LuteFingers$WayList", "start", "()I"⟩, 5) := ⟨⟨by decide +kernel, by decide +kernel⟩, List.mem_of_getElem? (i := 230) (by decide +kernel), List.mem_of_getElem? (i := 665) (by decide +kernel), List.mem_of_getElem? (i := 666) (by decide +kernel)⟩
theorem lw_p51 : lw_okq (⟨"LuteFingers$WaySearch", "costOfSpan", "(LLuteFingers$GripBook;[IIII)I"⟩, 8) := ⟨⟨by decide +kernel, by decide +kernel⟩, List.mem_of_getElem? (i := 199) (by decide +kernel), List.mem_of_getElem? (i := 673) (by decide +kernel), List.mem_of_getElem? (i := 674) (by decide +kernel)⟩
theorem lw_p52 : lw_okq (⟨"LuteFingers", "goesOn", "(I)Z"⟩, 15) := ⟨⟨by decide +kernel, by decide +kernel⟩, List.mem_of_getElem? (i := 18) (by decide +kernel), List.mem_of_getElem? (i := 686) (by decide +kernel), List.mem_of_getElem? (i := 687) (by decide +kernel)⟩
theorem lw_p53 : lw_okq (⟨"LuteFingers$Arranger", "listGrips", "()Z"⟩, 10) := ⟨⟨by decide +kernel, by decide +kernel⟩, List.mem_of_getElem? (i := 696) (by decide +kernel), List.mem_of_getElem? (i := 734) (by decide +kernel), List.mem_of_getElem? (i := 735) (by decide +kernel)⟩
theorem lw_p54 : lw_okq (⟨"LuteFingers$Arranger", "chooseLeft", "()I"⟩, 10) := ⟨⟨by decide +kernel, by decide +kernel⟩, List.mem_of_getElem? (i := 696) (by decide +kernel), List.mem_of_getElem? (i := 740) (by decide +kernel), List.mem_of_getElem? (i := 741) (by decide +kernel)⟩
theorem lw_p55 : lw_okq (⟨"LuteFingers$Arranger", "addAsk", "(JJI)V"⟩, 10) := ⟨⟨by decide +kernel, by decide +kernel⟩, List.mem_of_getElem? (i := 696) (by decide +kernel), List.mem_of_getElem? (i := 744) (by decide +kernel), List.mem_of_getElem? (i := 745) (by decide +kernel)⟩
theorem lw_p56 : lw_okq (⟨"LuteFingers$Arranger", "valueTick", "(I)V"⟩, 10) := ⟨⟨by decide +kernel, by decide +kernel⟩, List.mem_of_getElem? (i := 696) (by decide +kernel), List.mem_of_getElem? (i := 749) (by decide +kernel), List.mem_of_getElem? (i := 750) (by decide +kernel)⟩
theorem lw_p57 : lw_okq (⟨"LuteFingers$Arranger", "ownValue", "(II)I"⟩, 10) := ⟨⟨by decide +kernel, by decide +kernel⟩, List.mem_of_getElem? (i := 696) (by decide +kernel), List.mem_of_getElem? (i := 753) (by decide +kernel), List.mem_of_getElem? (i := 754) (by decide +kernel)⟩
theorem lw_p58 : lw_okq (⟨"LuteFingers$Arranger", "valueBehind", "(J)I"⟩, 10) := ⟨⟨by decide +kernel, by decide +kernel⟩, List.mem_of_getElem? (i := 696) (by decide +kernel), List.mem_of_getElem? (i := 758) (by decide +kernel), List.mem_of_getElem? (i := 759) (by decide +kernel)⟩
theorem lw_p59 : lw_okq (⟨"LuteFingers$Arranger", "collectAsks", "(I)V"⟩, 10) := ⟨⟨by decide +kernel, by decide +kernel⟩, List.mem_of_getElem? (i := 696) (by decide +kernel), List.mem_of_getElem? (i := 763) (by decide +kernel), List.mem_of_getElem? (i := 764) (by decide +kernel)⟩
theorem lw_p60 : lw_okq (⟨"LuteFingers$Arranger", "leastValue", "(I)I"⟩, 10) := ⟨⟨by decide +kernel, by decide +kernel⟩, List.mem_of_getElem? (i := 696) (by decide +kernel), List.mem_of_getElem? (i := 770) (by decide +kernel), List.mem_of_getElem? (i := 771) (by decide +kernel)⟩
theorem lw_p61 : lw_okq (⟨"LuteFingers$Arranger", "walk", "(I)V"⟩, 10) := ⟨⟨by decide +kernel, by decide +kernel⟩, List.mem_of_getElem? (i := 696) (by decide +kernel), List.mem_of_getElem? (i := 774) (by decide +kernel), List.mem_of_getElem? (i := 775) (by decide +kernel)⟩
theorem lw_p62 : lw_okq (⟨"LuteFingers$Arranger", "gripsWith", "(IIIII)I"⟩, 10) := ⟨⟨by decide +kernel, by decide +kernel⟩, List.mem_of_getElem? (i := 696) (by decide +kernel), List.mem_of_getElem? (i := 778) (by decide +kernel), List.mem_of_getElem? (i := 779) (by decide +kernel)⟩
theorem lw_p63 : lw_okq (⟨"LuteFingers$Arranger", "follows", "(IJII)Z"⟩, 10) := ⟨⟨by decide +kernel, by decide +kernel⟩, List.mem_of_getElem? (i := 696) (by decide +kernel), List.mem_of_getElem? (i := 782) (by decide +kernel), List.mem_of_getElem? (i := 783) (by decide +kernel)⟩
def lw_privs_4 : List (MethodName × Nat) := [(⟨"LuteFingers$WaySearch", "head", "()I"⟩, 8), (⟨"LuteFingers$WaySearch", "trace", "(I[II)I"⟩, 8), (⟨"LuteFingers$WayList", "start", "()I"⟩, 5), (⟨"LuteFingers$WaySearch", "costOfSpan", "(LLuteFingers$GripBook;[IIII)I"⟩, 8), (⟨"LuteFingers", "goesOn", "(I)Z"⟩, 15), (⟨"LuteFingers$Arranger", "listGrips", "()Z"⟩, 10), (⟨"LuteFingers$Arranger", "chooseLeft", "()I"⟩, 10), (⟨"LuteFingers$Arranger", "addAsk", "(JJI)V"⟩, 10), (⟨"LuteFingers$Arranger", "valueTick", "(I)V"⟩, 10), (⟨"LuteFingers$Arranger", "ownValue", "(II)I"⟩, 10), (⟨"LuteFingers$Arranger", "valueBehind", "(J)I"⟩, 10), (⟨"LuteFingers$Arranger", "collectAsks", "(I)V"⟩, 10), (⟨"LuteFingers$Arranger", "leastValue", "(I)I"⟩, 10), (⟨"LuteFingers$Arranger", "walk", "(I)V"⟩, 10), (⟨"LuteFingers$Arranger", "gripsWith", "(IIIII)I"⟩, 10), (⟨"LuteFingers$Arranger", "follows", "(IJII)Z"⟩, 10)]
theorem lw_r4 : ∀ q ∈ lw_privs_4, lw_okq q := List.forall_mem_cons.mpr ⟨lw_p48, List.forall_mem_cons.mpr ⟨lw_p49, List.forall_mem_cons.mpr ⟨lw_p50, List.forall_mem_cons.mpr ⟨lw_p51, List.forall_mem_cons.mpr ⟨lw_p52, List.forall_mem_cons.mpr ⟨lw_p53, List.forall_mem_cons.mpr ⟨lw_p54, List.forall_mem_cons.mpr ⟨lw_p55, List.forall_mem_cons.mpr ⟨lw_p56, List.forall_mem_cons.mpr ⟨lw_p57, List.forall_mem_cons.mpr ⟨lw_p58, List.forall_mem_cons.mpr ⟨lw_p59, List.forall_mem_cons.mpr ⟨lw_p60, List.forall_mem_cons.mpr ⟨lw_p61, List.forall_mem_cons.mpr ⟨lw_p62, List.forall_mem_cons.mpr ⟨lw_p63, fun _ h => absurd h List.not_mem_nil⟩⟩⟩⟩⟩⟩⟩⟩⟩⟩⟩⟩⟩⟩⟩⟩
theorem lw_p64 : lw_okq (⟨"LuteFingers", "firstCost", "(LLuteFingers$GripBook;)I"⟩, 15) := ⟨⟨by decide +kernel, by decide +kernel⟩, List.mem_of_getElem? (i := 18) (by decide +kernel), List.mem_of_getElem? (i := 787) (by decide +kernel), List.mem_of_getElem? (i := 788) (by decide +kernel)⟩
theorem lw_p65 : lw_okq (⟨"LuteFingers$WaySearch", "headCost", "(I)I"⟩, 8) := ⟨⟨by decide +kernel, by decide +kernel⟩, List.mem_of_getElem? (i := 199) (by decide +kernel), List.mem_of_getElem? (i := 791) (by decide +kernel), List.mem_of_getElem? (i := 792) (by decide +kernel)⟩
theorem lw_p66 : lw_okq (⟨"LuteFingers", "costWithTuning", "(I)I"⟩, 15) := ⟨⟨by decide +kernel, by decide +kernel⟩, List.mem_of_getElem? (i := 18) (by decide +kernel), List.mem_of_getElem? (i := 811) (by decide +kernel), List.mem_of_getElem? (i := 812) (by decide +kernel)⟩
theorem lw_p67 : lw_okq (⟨"LuteFingers$Lute", "swapTuning", "(I)V"⟩, 7) := ⟨⟨by decide +kernel, by decide +kernel⟩, List.mem_of_getElem? (i := 26) (by decide +kernel), List.mem_of_getElem? (i := 815) (by decide +kernel), List.mem_of_getElem? (i := 816) (by decide +kernel)⟩
theorem lw_p68 : lw_okq (⟨"LuteFingers$Tape", "append", "(I)V"⟩, 2) := ⟨⟨by decide +kernel, by decide +kernel⟩, List.mem_of_getElem? (i := 118) (by decide +kernel), List.mem_of_getElem? (i := 824) (by decide +kernel), List.mem_of_getElem? (i := 825) (by decide +kernel)⟩
theorem lw_p69 : lw_okq (⟨"LuteFingers$Tape", "appendLine", "(JI)V"⟩, 2) := ⟨⟨by decide +kernel, by decide +kernel⟩, List.mem_of_getElem? (i := 118) (by decide +kernel), List.mem_of_getElem? (i := 840) (by decide +kernel), List.mem_of_getElem? (i := 841) (by decide +kernel)⟩
theorem lw_p70 : lw_okq (⟨"LuteFingers$TapeReader", "findFault", "()I"⟩, 4) := ⟨⟨by decide +kernel, by decide +kernel⟩, List.mem_of_getElem? (i := 855) (by decide +kernel), List.mem_of_getElem? (i := 874) (by decide +kernel), List.mem_of_getElem? (i := 875) (by decide +kernel)⟩
theorem lw_p71 : lw_okq (⟨"LuteFingers$TapeReader", "readLine", "()Z"⟩, 4) := ⟨⟨by decide +kernel, by decide +kernel⟩, List.mem_of_getElem? (i := 855) (by decide +kernel), List.mem_of_getElem? (i := 879) (by decide +kernel), List.mem_of_getElem? (i := 880) (by decide +kernel)⟩
theorem lw_p72 : lw_okq (⟨"LuteFingers$TapeReader", "readCourse", "(I)Z"⟩, 4) := ⟨⟨by decide +kernel, by decide +kernel⟩, List.mem_of_getElem? (i := 855) (by decide +kernel), List.mem_of_getElem? (i := 883) (by decide +kernel), List.mem_of_getElem? (i := 884) (by decide +kernel)⟩
theorem lw_p73 : lw_okq (⟨"LuteFingers$TapeReader", "readByte", "(I)Z"⟩, 4) := ⟨⟨by decide +kernel, by decide +kernel⟩, List.mem_of_getElem? (i := 855) (by decide +kernel), List.mem_of_getElem? (i := 887) (by decide +kernel), List.mem_of_getElem? (i := 888) (by decide +kernel)⟩
theorem lw_p74 : lw_okq (⟨"LuteFingers$TapeReader", "here", "()I"⟩, 4) := ⟨⟨by decide +kernel, by decide +kernel⟩, List.mem_of_getElem? (i := 855) (by decide +kernel), List.mem_of_getElem? (i := 891) (by decide +kernel), List.mem_of_getElem? (i := 892) (by decide +kernel)⟩
theorem lw_p75 : lw_okq (⟨"LuteFingers$TapeReader", "readFinger", "(I)Z"⟩, 4) := ⟨⟨by decide +kernel, by decide +kernel⟩, List.mem_of_getElem? (i := 855) (by decide +kernel), List.mem_of_getElem? (i := 898) (by decide +kernel), List.mem_of_getElem? (i := 899) (by decide +kernel)⟩
theorem lw_p76 : lw_okq (⟨"LuteFingers$Piece", "copyFrom", "(LLuteFingers$Piece;)V"⟩, 7) := ⟨⟨by decide +kernel, by decide +kernel⟩, List.mem_of_getElem? (i := 70) (by decide +kernel), List.mem_of_getElem? (i := 903) (by decide +kernel), List.mem_of_getElem? (i := 904) (by decide +kernel)⟩
theorem lw_p77 : lw_okq (⟨"LuteFingers$Piece", "notesOfTicks", "()I"⟩, 7) := ⟨⟨by decide +kernel, by decide +kernel⟩, List.mem_of_getElem? (i := 70) (by decide +kernel), List.mem_of_getElem? (i := 914) (by decide +kernel), List.mem_of_getElem? (i := 915) (by decide +kernel)⟩
theorem lw_p78 : lw_okq (⟨"LuteFingersModel", "in", "(III)Z"⟩, 47) := ⟨⟨by decide +kernel, by decide +kernel⟩, List.mem_of_getElem? (i := 918) (by decide +kernel), List.mem_of_getElem? (i := 1073) (by decide +kernel), List.mem_of_getElem? (i := 1074) (by decide +kernel)⟩
theorem lw_p79 : lw_okq (⟨"LuteFingersModel", "forget", "()V"⟩, 47) := ⟨⟨by decide +kernel, by decide +kernel⟩, List.mem_of_getElem? (i := 918) (by decide +kernel), List.mem_of_getElem? (i := 1077) (by decide +kernel), List.mem_of_getElem? (i := 1078) (by decide +kernel)⟩
def lw_privs_5 : List (MethodName × Nat) := [(⟨"LuteFingers", "firstCost", "(LLuteFingers$GripBook;)I"⟩, 15), (⟨"LuteFingers$WaySearch", "headCost", "(I)I"⟩, 8), (⟨"LuteFingers", "costWithTuning", "(I)I"⟩, 15), (⟨"LuteFingers$Lute", "swapTuning", "(I)V"⟩, 7), (⟨"LuteFingers$Tape", "append", "(I)V"⟩, 2), (⟨"LuteFingers$Tape", "appendLine", "(JI)V"⟩, 2), (⟨"LuteFingers$TapeReader", "findFault", "()I"⟩, 4), (⟨"LuteFingers$TapeReader", "readLine", "()Z"⟩, 4), (⟨"LuteFingers$TapeReader", "readCourse", "(I)Z"⟩, 4), (⟨"LuteFingers$TapeReader", "readByte", "(I)Z"⟩, 4), (⟨"LuteFingers$TapeReader", "here", "()I"⟩, 4), (⟨"LuteFingers$TapeReader", "readFinger", "(I)Z"⟩, 4), (⟨"LuteFingers$Piece", "copyFrom", "(LLuteFingers$Piece;)V"⟩, 7), (⟨"LuteFingers$Piece", "notesOfTicks", "()I"⟩, 7), (⟨"LuteFingersModel", "in", "(III)Z"⟩, 47), (⟨"LuteFingersModel", "forget", "()V"⟩, 47)]
theorem lw_r5 : ∀ q ∈ lw_privs_5, lw_okq q := List.forall_mem_cons.mpr ⟨lw_p64, List.forall_mem_cons.mpr ⟨lw_p65, List.forall_mem_cons.mpr ⟨lw_p66, List.forall_mem_cons.mpr ⟨lw_p67, List.forall_mem_cons.mpr ⟨lw_p68, List.forall_mem_cons.mpr ⟨lw_p69, List.forall_mem_cons.mpr ⟨lw_p70, List.forall_mem_cons.mpr ⟨lw_p71, List.forall_mem_cons.mpr ⟨lw_p72, List.forall_mem_cons.mpr ⟨lw_p73, List.forall_mem_cons.mpr ⟨lw_p74, List.forall_mem_cons.mpr ⟨lw_p75, List.forall_mem_cons.mpr ⟨lw_p76, List.forall_mem_cons.mpr ⟨lw_p77, List.forall_mem_cons.mpr ⟨lw_p78, List.forall_mem_cons.mpr ⟨lw_p79, fun _ h => absurd h List.not_mem_nil⟩⟩⟩⟩⟩⟩⟩⟩⟩⟩⟩⟩⟩⟩⟩⟩
theorem lw_p80 : lw_okq (⟨"LuteFingersModel", "isCourse", "(I)Z"⟩, 47) := ⟨⟨by decide +kernel, by decide +kernel⟩, List.mem_of_getElem? (i := 918) (by decide +kernel), List.mem_of_getElem? (i := 1085) (by decide +kernel), List.mem_of_getElem? (i := 1086) (by decide +kernel)⟩
theorem lw_p81 : lw_okq (⟨"LuteFingersModel", "spot", "(II)I"⟩, 47) := ⟨⟨by decide +kernel, by decide +kernel⟩, List.mem_of_getElem? (i := 918) (by decide +kernel), List.mem_of_getElem? (i := 1105) (by decide +kernel), List.mem_of_getElem? (i := 1106) (by decide +kernel)⟩
theorem lw_p82 : lw_okq (⟨"LuteFingersModel", "noteOf", "(II)I"⟩, 47) := ⟨⟨by decide +kernel, by decide +kernel⟩, List.mem_of_getElem? (i := 918) (by decide +kernel), List.mem_of_getElem? (i := 1109) (by decide +kernel), List.mem_of_getElem? (i := 1110) (by decide +kernel)⟩
theorem lw_p83 : lw_okq (⟨"LuteFingersModel", "isNote", "(II)Z"⟩, 47) := ⟨⟨by decide +kernel, by decide +kernel⟩, List.mem_of_getElem? (i := 918) (by decide +kernel), List.mem_of_getElem? (i := 1125) (by decide +kernel), List.mem_of_getElem? (i := 1126) (by decide +kernel)⟩
theorem lw_p84 : lw_okq (⟨"LuteFingersModel", "isTick", "(I)Z"⟩, 47) := ⟨⟨by decide +kernel, by decide +kernel⟩, List.mem_of_getElem? (i := 918) (by decide +kernel), List.mem_of_getElem? (i := 1129) (by decide +kernel), List.mem_of_getElem? (i := 1130) (by decide +kernel)⟩
theorem lw_p85 : lw_okq (⟨"LuteFingersModel", "fore", "(II)I"⟩, 47) := ⟨⟨by decide +kernel, by decide +kernel⟩, List.mem_of_getElem? (i := 918) (by decide +kernel), List.mem_of_getElem? (i := 1137) (by decide +kernel), List.mem_of_getElem? (i := 1138) (by decide +kernel)⟩
theorem lw_p86 : lw_okq (⟨"LuteFingersModel", "findGrips", "(II)V"⟩, 47) := ⟨⟨by decide +kernel, by decide +kernel⟩, List.mem_of_getElem? (i := 918) (by decide +kernel), List.mem_of_getElem? (i := 1145) (by decide +kernel), List.mem_of_getElem? (i := 1146) (by decide +kernel)⟩
theorem lw_p87 : lw_okq (⟨"LuteFingersModel", "walk", "(III)V"⟩, 47) := ⟨⟨by decide +kernel, by decide +kernel⟩, List.mem_of_getElem? (i := 918) (by decide +kernel), List.mem_of_getElem? (i := 1149) (by decide +kernel), List.mem_of_getElem? (i := 1150) (by decide +kernel)⟩
theorem lw_p88 : lw_okq (⟨"LuteFingersModel", "step", "(III)I"⟩, 47) := ⟨⟨by decide +kernel, by decide +kernel⟩, List.mem_of_getElem? (i := 918) (by decide +kernel), List.mem_of_getElem? (i := 1153) (by decide +kernel), List.mem_of_getElem? (i := 1154) (by decide +kernel)⟩
theorem lw_p89 : lw_okq (⟨"LuteFingersModel", "keep", "(III)V"⟩, 47) := ⟨⟨by decide +kernel, by decide +kernel⟩, List.mem_of_getElem? (i := 918) (by decide +kernel), List.mem_of_getElem? (i := 1157) (by decide +kernel), List.mem_of_getElem? (i := 1158) (by decide +kernel)⟩
theorem lw_p90 : lw_okq (⟨"LuteFingersModel", "gripAt", "(III)I"⟩, 47) := ⟨⟨by decide +kernel, by decide +kernel⟩, List.mem_of_getElem? (i := 918) (by decide +kernel), List.mem_of_getElem? (i := 1161) (by decide +kernel), List.mem_of_getElem? (i := 1162) (by decide +kernel)⟩
theorem lw_p91 : lw_okq (⟨"LuteFingersModel", "fret", "(III)I"⟩, 47) := ⟨⟨by decide +kernel, by decide +kernel⟩, List.mem_of_getElem? (i := 918) (by decide +kernel), List.mem_of_getElem? (i := 1165) (by decide +kernel), List.mem_of_getElem? (i := 1166) (by decide +kernel)⟩
theorem lw_p92 : lw_okq (⟨"LuteFingersModel", "mayBe", "(IIII)Z"⟩, 47) := ⟨⟨by decide +kernel, by decide +kernel⟩, List.mem_of_getElem? (i := 918) (by decide +kernel), List.mem_of_getElem? (i := 1169) (by decide +kernel), List.mem_of_getElem? (i := 1170) (by decide +kernel)⟩
theorem lw_p93 : lw_okq (⟨"LuteFingersModel", "goWith", "(IIII)Z"⟩, 47) := ⟨⟨by decide +kernel, by decide +kernel⟩, List.mem_of_getElem? (i := 918) (by decide +kernel), List.mem_of_getElem? (i := 1173) (by decide +kernel), List.mem_of_getElem? (i := 1174) (by decide +kernel)⟩
theorem lw_p94 : lw_okq (⟨"LuteFingersModel", "usesFinger", "(II)Z"⟩, 47) := ⟨⟨by decide +kernel, by decide +kernel⟩, List.mem_of_getElem? (i := 918) (by decide +kernel), List.mem_of_getElem? (i := 1177) (by decide +kernel), List.mem_of_getElem? (i := 1178) (by decide +kernel)⟩
theorem lw_p95 : lw_okq (⟨"LuteFingersModel", "isSpent", "(II)Z"⟩, 47) := ⟨⟨by decide +kernel, by decide +kernel⟩, List.mem_of_getElem? (i := 918) (by decide +kernel), List.mem_of_getElem? (i := 1181) (by decide +kernel), List.mem_of_getElem? (i := 1182) (by decide +kernel)⟩
def lw_privs_6 : List (MethodName × Nat) := [(⟨"LuteFingersModel", "isCourse", "(I)Z"⟩, 47), (⟨"LuteFingersModel", "spot", "(II)I"⟩, 47), (⟨"LuteFingersModel", "noteOf", "(II)I"⟩, 47), (⟨"LuteFingersModel", "isNote", "(II)Z"⟩, 47), (⟨"LuteFingersModel", "isTick", "(I)Z"⟩, 47), (⟨"LuteFingersModel", "fore", "(II)I"⟩, 47), (⟨"LuteFingersModel", "findGrips", "(II)V"⟩, 47), (⟨"LuteFingersModel", "walk", "(III)V"⟩, 47), (⟨"LuteFingersModel", "step", "(III)I"⟩, 47), (⟨"LuteFingersModel", "keep", "(III)V"⟩, 47), (⟨"LuteFingersModel", "gripAt", "(III)I"⟩, 47), (⟨"LuteFingersModel", "fret", "(III)I"⟩, 47), (⟨"LuteFingersModel", "mayBe", "(IIII)Z"⟩, 47), (⟨"LuteFingersModel", "goWith", "(IIII)Z"⟩, 47), (⟨"LuteFingersModel", "usesFinger", "(II)Z"⟩, 47), (⟨"LuteFingersModel", "isSpent", "(II)Z"⟩, 47)]
theorem lw_r6 : ∀ q ∈ lw_privs_6, lw_okq q := List.forall_mem_cons.mpr ⟨lw_p80, List.forall_mem_cons.mpr ⟨lw_p81, List.forall_mem_cons.mpr ⟨lw_p82, List.forall_mem_cons.mpr ⟨lw_p83, List.forall_mem_cons.mpr ⟨lw_p84, List.forall_mem_cons.mpr ⟨lw_p85, List.forall_mem_cons.mpr ⟨lw_p86, List.forall_mem_cons.mpr ⟨lw_p87, List.forall_mem_cons.mpr ⟨lw_p88, List.forall_mem_cons.mpr ⟨lw_p89, List.forall_mem_cons.mpr ⟨lw_p90, List.forall_mem_cons.mpr ⟨lw_p91, List.forall_mem_cons.mpr ⟨lw_p92, List.forall_mem_cons.mpr ⟨lw_p93, List.forall_mem_cons.mpr ⟨lw_p94, List.forall_mem_cons.mpr ⟨lw_p95, fun _ h => absurd h List.not_mem_nil⟩⟩⟩⟩⟩⟩⟩⟩⟩⟩⟩⟩⟩⟩⟩⟩
theorem lw_p96 : lw_okq (⟨"LuteFingersModel", "count", "(II)I"⟩, 47) := ⟨⟨by decide +kernel, by decide +kernel⟩, List.mem_of_getElem? (i := 918) (by decide +kernel), List.mem_of_getElem? (i := 1189) (by decide +kernel), List.mem_of_getElem? (i := 1190) (by decide +kernel)⟩
theorem lw_p97 : lw_okq (⟨"LuteFingersModel", "bits", "(I)I"⟩, 47) := ⟨⟨by decide +kernel, by decide +kernel⟩, List.mem_of_getElem? (i := 918) (by decide +kernel), List.mem_of_getElem? (i := 1197) (by decide +kernel), List.mem_of_getElem? (i := 1198) (by decide +kernel)⟩
theorem lw_p98 : lw_okq (⟨"LuteFingersModel", "fill", "()V"⟩, 47) := ⟨⟨by decide +kernel, by decide +kernel⟩, List.mem_of_getElem? (i := 918) (by decide +kernel), List.mem_of_getElem? (i := 1205) (by decide +kernel), List.mem_of_getElem? (i := 1206) (by decide +kernel)⟩
theorem lw_p99 : lw_okq (⟨"LuteFingersModel", "ways", "(I)V"⟩, 47) := ⟨⟨by decide +kernel, by decide +kernel⟩, List.mem_of_getElem? (i := 918) (by decide +kernel), List.mem_of_getElem? (i := 1209) (by decide +kernel), List.mem_of_getElem? (i := 1210) (by decide +kernel)⟩
theorem lw_p100 : lw_okq (⟨"LuteFingersModel", "on", "(IIII)V"⟩, 47) := ⟨⟨by decide +kernel, by decide +kernel⟩, List.mem_of_getElem? (i := 918) (by decide +kernel), List.mem_of_getElem? (i := 1213) (by decide +kernel), List.mem_of_getElem? (i := 1214) (by decide +kernel)⟩
theorem lw_p101 : lw_okq (⟨"LuteFingersModel", "state", "(III)I"⟩, 47) := ⟨⟨by decide +kernel, by decide +kernel⟩, List.mem_of_getElem? (i := 918) (by decide +kernel), List.mem_of_getElem? (i := 1217) (by decide +kernel), List.mem_of_getElem? (i := 1218) (by decide +kernel)⟩
theorem lw_p102 : lw_okq (⟨"LuteFingersModel", "shift", "(II)I"⟩, 47) := ⟨⟨by decide +kernel, by decide +kernel⟩, List.mem_of_getElem? (i := 918) (by decide +kernel), List.mem_of_getElem? (i := 1221) (by decide +kernel), List.mem_of_getElem? (i := 1222) (by decide +kernel)⟩
theorem lw_p103 : lw_okq (⟨"LuteFingersModel", "goesOn", "(IIIII)Z"⟩, 47) := ⟨⟨by decide +kernel, by decide +kernel⟩, List.mem_of_getElem? (i := 918) (by decide +kernel), List.mem_of_getElem? (i := 1225) (by decide +kernel), List.mem_of_getElem? (i := 1226) (by decide +kernel)⟩
theorem lw_p104 : lw_okq (⟨"LuteFingersModel", "crossing", "(III)I"⟩, 47) := ⟨⟨by decide +kernel, by decide +kernel⟩, List.mem_of_getElem? (i := 918) (by decide +kernel), List.mem_of_getElem? (i := 1229) (by decide +kernel), List.mem_of_getElem? (i := 1230) (by decide +kernel)⟩
theorem lw_p105 : lw_okq (⟨"LuteFingersModel", "firstNote", "(II)I"⟩, 47) := ⟨⟨by decide +kernel, by decide +kernel⟩, List.mem_of_getElem? (i := 918) (by decide +kernel), List.mem_of_getElem? (i := 1233) (by decide +kernel), List.mem_of_getElem? (i := 1234) (by decide +kernel)⟩
theorem lw_p106 : lw_okq (⟨"LuteFingersModel", "picks", "(I)Z"⟩, 47) := ⟨⟨by decide +kernel, by decide +kernel⟩, List.mem_of_getElem? (i := 918) (by decide +kernel), List.mem_of_getElem? (i := 1237) (by decide +kernel), List.mem_of_getElem? (i := 1238) (by decide +kernel)⟩
theorem lw_p107 : lw_okq (⟨"LuteFingersModel", "breakAt", "()I"⟩, 47) := ⟨⟨by decide +kernel, by decide +kernel⟩, List.mem_of_getElem? (i := 918) (by decide +kernel), List.mem_of_getElem? (i := 1241) (by decide +kernel), List.mem_of_getElem? (i := 1242) (by decide +kernel)⟩
theorem lw_p108 : lw_okq (⟨"LuteFingersModel", "takeWay", "(I)V"⟩, 47) := ⟨⟨by decide +kernel, by decide +kernel⟩, List.mem_of_getElem? (i := 918) (by decide +kernel), List.mem_of_getElem? (i := 1245) (by decide +kernel), List.mem_of_getElem? (i := 1246) (by decide +kernel)⟩
theorem lw_p109 : lw_okq (⟨"LuteFingersModel", "costOf", "([III)I"⟩, 47) := ⟨⟨by decide +kernel, by decide +kernel⟩, List.mem_of_getElem? (i := 918) (by decide +kernel), List.mem_of_getElem? (i := 1261) (by decide +kernel), List.mem_of_getElem? (i := 1262) (by decide +kernel)⟩
theorem lw_p110 : lw_okq (⟨"LuteFingersModel", "least", "(III)I"⟩, 47) := ⟨⟨by decide +kernel, by decide +kernel⟩, List.mem_of_getElem? (i := 918) (by decide +kernel), List.mem_of_getElem? (i := 1277) (by decide +kernel), List.mem_of_getElem? (i := 1278) (by decide +kernel)⟩
theorem lw_p111 : lw_okq (⟨"LuteFingersModel", "mayLeave", "(III)Z"⟩, 47) := ⟨⟨by decide +kernel, by decide +kernel⟩, List.mem_of_getElem? (i := 918) (by decide +kernel), List.mem_of_getElem? (i := 1281) (by decide +kernel), List.mem_of_getElem? (i := 1282) (by decide +kernel)⟩
def lw_privs_7 : List (MethodName × Nat) := [(⟨"LuteFingersModel", "count", "(II)I"⟩, 47), (⟨"LuteFingersModel", "bits", "(I)I"⟩, 47), (⟨"LuteFingersModel", "fill", "()V"⟩, 47), (⟨"LuteFingersModel", "ways", "(I)V"⟩, 47), (⟨"LuteFingersModel", "on", "(IIII)V"⟩, 47), (⟨"LuteFingersModel", "state", "(III)I"⟩, 47), (⟨"LuteFingersModel", "shift", "(II)I"⟩, 47), (⟨"LuteFingersModel", "goesOn", "(IIIII)Z"⟩, 47), (⟨"LuteFingersModel", "crossing", "(III)I"⟩, 47), (⟨"LuteFingersModel", "firstNote", "(II)I"⟩, 47), (⟨"LuteFingersModel", "picks", "(I)Z"⟩, 47), (⟨"LuteFingersModel", "breakAt", "()I"⟩, 47), (⟨"LuteFingersModel", "takeWay", "(I)V"⟩, 47), (⟨"LuteFingersModel", "costOf", "([III)I"⟩, 47), (⟨"LuteFingersModel", "least", "(III)I"⟩, 47), (⟨"LuteFingersModel", "mayLeave", "(III)Z"⟩, 47)]
theorem lw_r7 : ∀ q ∈ lw_privs_7, lw_okq q := List.forall_mem_cons.mpr ⟨lw_p96, List.forall_mem_cons.mpr ⟨lw_p97, List.forall_mem_cons.mpr ⟨lw_p98, List.forall_mem_cons.mpr ⟨lw_p99, List.forall_mem_cons.mpr ⟨lw_p100, List.forall_mem_cons.mpr ⟨lw_p101, List.forall_mem_cons.mpr ⟨lw_p102, List.forall_mem_cons.mpr ⟨lw_p103, List.forall_mem_cons.mpr ⟨lw_p104, List.forall_mem_cons.mpr ⟨lw_p105, List.forall_mem_cons.mpr ⟨lw_p106, List.forall_mem_cons.mpr ⟨lw_p107, List.forall_mem_cons.mpr ⟨lw_p108, List.forall_mem_cons.mpr ⟨lw_p109, List.forall_mem_cons.mpr ⟨lw_p110, List.forall_mem_cons.mpr ⟨lw_p111, fun _ h => absurd h List.not_mem_nil⟩⟩⟩⟩⟩⟩⟩⟩⟩⟩⟩⟩⟩⟩⟩⟩
theorem lw_p112 : lw_okq (⟨"LuteFingersModel", "own", "(II)I"⟩, 47) := ⟨⟨by decide +kernel, by decide +kernel⟩, List.mem_of_getElem? (i := 918) (by decide +kernel), List.mem_of_getElem? (i := 1285) (by decide +kernel), List.mem_of_getElem? (i := 1286) (by decide +kernel)⟩
theorem lw_p113 : lw_okq (⟨"LuteFingersModel", "masks", "()V"⟩, 47) := ⟨⟨by decide +kernel, by decide +kernel⟩, List.mem_of_getElem? (i := 918) (by decide +kernel), List.mem_of_getElem? (i := 1289) (by decide +kernel), List.mem_of_getElem? (i := 1290) (by decide +kernel)⟩
theorem lw_p114 : lw_okq (⟨"LuteFingersModel", "better", "(II)I"⟩, 47) := ⟨⟨by decide +kernel, by decide +kernel⟩, List.mem_of_getElem? (i := 918) (by decide +kernel), List.mem_of_getElem? (i := 1293) (by decide +kernel), List.mem_of_getElem? (i := 1294) (by decide +kernel)⟩
theorem lw_p115 : lw_okq (⟨"LuteFingersModel", "alive", "(III)Z"⟩, 47) := ⟨⟨by decide +kernel, by decide +kernel⟩, List.mem_of_getElem? (i := 918) (by decide +kernel), List.mem_of_getElem? (i := 1297) (by decide +kernel), List.mem_of_getElem? (i := 1298) (by decide +kernel)⟩
theorem lw_p116 : lw_okq (⟨"LuteFingersModel", "noteOn", "(III)I"⟩, 47) := ⟨⟨by decide +kernel, by decide +kernel⟩, List.mem_of_getElem? (i := 918) (by decide +kernel), List.mem_of_getElem? (i := 1333) (by decide +kernel), List.mem_of_getElem? (i := 1334) (by decide +kernel)⟩
theorem lw_p117 : lw_okq (⟨"LuteFingersModel", "say", "(CI)V"⟩, 47) := ⟨⟨by decide +kernel, by decide +kernel⟩, List.mem_of_getElem? (i := 918) (by decide +kernel), List.mem_of_getElem? (i := 1337) (by decide +kernel), List.mem_of_getElem? (i := 1338) (by decide +kernel)⟩
theorem lw_p118 : lw_okq (⟨"LuteFingersModel", "line", "(II)I"⟩, 47) := ⟨⟨by decide +kernel, by decide +kernel⟩, List.mem_of_getElem? (i := 918) (by decide +kernel), List.mem_of_getElem? (i := 1345) (by decide +kernel), List.mem_of_getElem? (i := 1346) (by decide +kernel)⟩
def lw_privs_8 : List (MethodName × Nat) := [(⟨"LuteFingersModel", "own", "(II)I"⟩, 47), (⟨"LuteFingersModel", "masks", "()V"⟩, 47), (⟨"LuteFingersModel", "better", "(II)I"⟩, 47), (⟨"LuteFingersModel", "alive", "(III)Z"⟩, 47), (⟨"LuteFingersModel", "noteOn", "(III)I"⟩, 47), (⟨"LuteFingersModel", "say", "(CI)V"⟩, 47), (⟨"LuteFingersModel", "line", "(II)I"⟩, 47)]
theorem lw_r8 : ∀ q ∈ lw_privs_8, lw_okq q := List.forall_mem_cons.mpr ⟨lw_p112, List.forall_mem_cons.mpr ⟨lw_p113, List.forall_mem_cons.mpr ⟨lw_p114, List.forall_mem_cons.mpr ⟨lw_p115, List.forall_mem_cons.mpr ⟨lw_p116, List.forall_mem_cons.mpr ⟨lw_p117, List.forall_mem_cons.mpr ⟨lw_p118, fun _ h => absurd h List.not_mem_nil⟩⟩⟩⟩⟩⟩⟩
def lw_privs : List (MethodName × Nat) := lw_privs_1 ++ (lw_privs_2 ++ (lw_privs_3 ++ (lw_privs_4 ++ (lw_privs_5 ++ (lw_privs_6 ++ (lw_privs_7 ++ (lw_privs_8)))))))
def lw_tbl : List Cond := k2_sels lw_privs ++ tables_1
theorem lw_privs_ok : ∀ q ∈ lw_privs, lw_okq q := by
  show ∀ q ∈ lw_privs_1 ++ (lw_privs_2 ++ (lw_privs_3 ++ (lw_privs_4 ++ (lw_privs_5 ++ (lw_privs_6 ++ (lw_privs_7 ++ (lw_privs_8))))))), lw_okq q
  exact List.forall_mem_append.mpr ⟨lw_r1, List.forall_mem_append.mpr ⟨lw_r2, List.forall_mem_append.mpr ⟨lw_r3, List.forall_mem_append.mpr ⟨lw_r4, List.forall_mem_append.mpr ⟨lw_r5, List.forall_mem_append.mpr ⟨lw_r6, List.forall_mem_append.mpr ⟨lw_r7, lw_r8⟩⟩⟩⟩⟩⟩⟩
end
section
def RX0 : String := "LuteFingers$Arranger"
def TX0 : u_T := fun k => match k with
  | 0 => ("LuteFingers$Arranger", "piece", "LLuteFingers$Piece;", true)
  | 1 => ("LuteFingers$Arranger", "search", "LLuteFingers$GripSearch;", true)
  | 2 => ("LuteFingers$Arranger", "rows", "[J", true)
  | 3 => ("LuteFingers$Arranger", "sizes", "[I", true)
  | 4 => ("LuteFingers$Arranger", "values", "[I", true)
  | 5 => ("LuteFingers$Arranger", "askMasks", "[J", true)
  | 6 => ("LuteFingers$Arranger", "askBits", "[J", true)
  | 7 => ("LuteFingers$Arranger", "askValues", "[I", true)
  | 8 => ("LuteFingers$Arranger", "asks", "I", false)
  | _ => ("LuteFingers$Arranger", "leftMasks", "[I", true)
def tyX0 : Nat → FieldType := fun k => match k with
  | 0 => .object "LuteFingers$Piece"
  | 1 => .object "LuteFingers$GripSearch"
  | 2 => .array .long
  | 3 => .array .int
  | 4 => .array .int
  | 5 => .array .long
  | 6 => .array .long
  | 7 => .array .int
  | 8 => .int
  | _ => .array .int
abbrev wsX00 : List Cond := u_ws RX0 TX0 10
theorem nmX0 : ∀ a, a < 10 → ∀ b, b < 10 → a ≠ b → (TX0 a).2.1 ≠ (TX0 b).2.1 := by decide +kernel
theorem tyX0_ok : ∀ k, k < 10 → parseFieldDescriptor (TX0 k).2.2.1 = some (tyX0 k) := by decide +kernel
abbrev cX0_init : ByteArray := prog_2_method_1_code
def yX0_init : MethodName := ⟨RX0, "<init>", "(LLuteFingers$Piece;LLuteFingers$GripSearch;)V"⟩
abbrev cX0_listGrips : ByteArray := prog_2_method_2_code
def yX0_listGrips : MethodName := ⟨RX0, "listGrips", "()Z"⟩
abbrev cX0_chooseLeft : ByteArray := prog_2_method_3_code
def yX0_chooseLeft : MethodName := ⟨RX0, "chooseLeft", "()I"⟩
abbrev cX0_addAsk : ByteArray := prog_2_method_4_code
def yX0_addAsk : MethodName := ⟨RX0, "addAsk", "(JJI)V"⟩
abbrev cX0_valueTick : ByteArray := prog_2_method_5_code
def yX0_valueTick : MethodName := ⟨RX0, "valueTick", "(I)V"⟩
abbrev cX0_ownValue : ByteArray := prog_2_method_6_code
def yX0_ownValue : MethodName := ⟨RX0, "ownValue", "(II)I"⟩
abbrev cX0_valueBehind : ByteArray := prog_2_method_7_code
def yX0_valueBehind : MethodName := ⟨RX0, "valueBehind", "(J)I"⟩
abbrev cX0_collectAsks : ByteArray := prog_2_method_8_code
def yX0_collectAsks : MethodName := ⟨RX0, "collectAsks", "(I)V"⟩
abbrev cX0_leastValue : ByteArray := prog_2_method_9_code
def yX0_leastValue : MethodName := ⟨RX0, "leastValue", "(I)I"⟩
abbrev cX0_walk : ByteArray := prog_2_method_10_code
def yX0_walk : MethodName := ⟨RX0, "walk", "(I)V"⟩
abbrev cX0_gripsWith : ByteArray := prog_2_method_11_code
def yX0_gripsWith : MethodName := ⟨RX0, "gripsWith", "(IIIII)I"⟩
abbrev cX0_follows : ByteArray := prog_2_method_12_code
def yX0_follows : MethodName := ⟨RX0, "follows", "(IJII)Z"⟩
def RX1 : String := "LuteFingers$Grip"
def TX1 : u_T := fun k => match k with
  | _ => ("", "", "", false)
def tyX1 : Nat → FieldType := fun k => match k with
  | _ => .int
abbrev wsX10 : List Cond := u_ws RX1 TX1 0
theorem nmX1 : ∀ a, a < 0 → ∀ b, b < 0 → a ≠ b → (TX1 a).2.1 ≠ (TX1 b).2.1 := by decide +kernel
theorem tyX1_ok : ∀ k, k < 0 → parseFieldDescriptor (TX1 k).2.2.1 = some (tyX1 k) := by decide +kernel
abbrev cX1_partOf : ByteArray := prog_3_method_2_code
def yX1_partOf : MethodName := ⟨RX1, "partOf", "(IIII)J"⟩
abbrev cX1_wholeOf : ByteArray := prog_3_method_3_code
def yX1_wholeOf : MethodName := ⟨RX1, "wholeOf", "(III)J"⟩
abbrev cX1_hasNote : ByteArray := prog_3_method_4_code
def yX1_hasNote : MethodName := ⟨RX1, "hasNote", "(JI)Z"⟩
abbrev cX1_courseAt : ByteArray := prog_3_method_5_code
def yX1_courseAt : MethodName := ⟨RX1, "courseAt", "(JI)I"⟩
abbrev cX1_finger : ByteArray := prog_3_method_6_code
def yX1_finger : MethodName := ⟨RX1, "finger", "(JI)I"⟩
abbrev cX1_fret : ByteArray := prog_3_method_7_code
def yX1_fret : MethodName := ⟨RX1, "fret", "(JI)I"⟩
abbrev cX1_place : ByteArray := prog_3_method_8_code
def yX1_place : MethodName := ⟨RX1, "place", "(J)I"⟩
abbrev cX1_bar : ByteArray := prog_3_method_9_code
def yX1_bar : MethodName := ⟨RX1, "bar", "(J)I"⟩
abbrev cX1_cost : ByteArray := prog_3_method_10_code
def yX1_cost : MethodName := ⟨RX1, "cost", "(J)I"⟩
abbrev cX1_leadCourse : ByteArray := prog_3_method_11_code
def yX1_leadCourse : MethodName := ⟨RX1, "leadCourse", "(J)I"⟩
abbrev cX1_ofNote : ByteArray := prog_3_method_12_code
def yX1_ofNote : MethodName := ⟨RX1, "ofNote", "(JII)I"⟩
abbrev cX1_ofAll : ByteArray := prog_3_method_13_code
def yX1_ofAll : MethodName := ⟨RX1, "ofAll", "(JI)I"⟩
def RX2 : String := "LuteFingers$GripBook"
def TX2 : u_T := fun k => match k with
  | 0 => ("LuteFingers$GripBook", "piece", "LLuteFingers$Piece;", true)
  | 1 => ("LuteFingers$GripBook", "search", "LLuteFingers$GripSearch;", true)
  | 2 => ("LuteFingers$GripBook", "rows", "[J", true)
  | _ => ("LuteFingers$GripBook", "sizes", "[I", true)
def tyX2 : Nat → FieldType := fun k => match k with
  | 0 => .object "LuteFingers$Piece"
  | 1 => .object "LuteFingers$GripSearch"
  | 2 => .array .long
  | _ => .array .int
abbrev wsX20 : List Cond := u_ws RX2 TX2 4
theorem nmX2 : ∀ a, a < 4 → ∀ b, b < 4 → a ≠ b → (TX2 a).2.1 ≠ (TX2 b).2.1 := by decide +kernel
theorem tyX2_ok : ∀ k, k < 4 → parseFieldDescriptor (TX2 k).2.2.1 = some (tyX2 k) := by decide +kernel
abbrev cX2_init : ByteArray := prog_4_method_1_code
def yX2_init : MethodName := ⟨RX2, "<init>", "(LLuteFingers$Piece;LLuteFingers$GripSearch;)V"⟩
abbrev cX2_forget : ByteArray := prog_4_method_2_code
def yX2_forget : MethodName := ⟨RX2, "forget", "(I)V"⟩
abbrev cX2_forgetAll : ByteArray := prog_4_method_3_code
def yX2_forgetAll : MethodName := ⟨RX2, "forgetAll", "()V"⟩
abbrev cX2_list : ByteArray := prog_4_method_4_code
def yX2_list : MethodName := ⟨RX2, "list", "(II)V"⟩
abbrev cX2_keep : ByteArray := prog_4_method_5_code
def yX2_keep : MethodName := ⟨RX2, "keep", "(I)V"⟩
abbrev cX2_keepAll : ByteArray := prog_4_method_6_code
def yX2_keepAll : MethodName := ⟨RX2, "keepAll", "()V"⟩
abbrev cX2_isSpent : ByteArray := prog_4_method_7_code
def yX2_isSpent : MethodName := ⟨RX2, "isSpent", "(I)Z"⟩
abbrev cX2_size : ByteArray := prog_4_method_8_code
def yX2_size : MethodName := ⟨RX2, "size", "(I)I"⟩
abbrev cX2_get : ByteArray := prog_4_method_9_code
def yX2_get : MethodName := ⟨RX2, "get", "(II)J"⟩
def RX3 : String := "LuteFingers$GripSearch"
def TX3 : u_T := fun k => match k with
  | 0 => ("LuteFingers$GripSearch", "lute", "LLuteFingers$Lute;", true)
  | 1 => ("LuteFingers$GripSearch", "piece", "LLuteFingers$Piece;", true)
  | 2 => ("LuteFingers$GripSearch", "courses", "[I", true)
  | 3 => ("LuteFingers$GripSearch", "frets", "[I", true)
  | 4 => ("LuteFingers$GripSearch", "choices", "[I", true)
  | 5 => ("LuteFingers$GripSearch", "notes", "I", false)
  | 6 => ("LuteFingers$GripSearch", "set", "I", false)
  | 7 => ("LuteFingers$GripSearch", "place", "I", false)
  | 8 => ("LuteFingers$GripSearch", "most", "I", false)
  | 9 => ("LuteFingers$GripSearch", "found", "I", false)
  | 10 => ("LuteFingers$GripSearch", "from", "I", false)
  | _ => ("LuteFingers$GripSearch", "out", "[J", false)
def tyX3 : Nat → FieldType := fun k => match k with
  | 0 => .object "LuteFingers$Lute"
  | 1 => .object "LuteFingers$Piece"
  | 2 => .array .int
  | 3 => .array .int
  | 4 => .array .int
  | 5 => .int
  | 6 => .int
  | 7 => .int
  | 8 => .int
  | 9 => .int
  | 10 => .int
  | _ => .array .long
abbrev wsX30 : List Cond := u_ws RX3 TX3 12
theorem nmX3 : ∀ a, a < 12 → ∀ b, b < 12 → a ≠ b → (TX3 a).2.1 ≠ (TX3 b).2.1 := by decide +kernel
theorem tyX3_ok : ∀ k, k < 12 → parseFieldDescriptor (TX3 k).2.2.1 = some (tyX3 k) := by decide +kernel
abbrev cX3_init : ByteArray := prog_5_method_1_code
def yX3_init : MethodName := ⟨RX3, "<init>", "(LLuteFingers$Lute;LLuteFingers$Piece;)V"⟩
abbrev cX3_search : ByteArray := prog_5_method_2_code
def yX3_search : MethodName := ⟨RX3, "search", "(II[JII)I"⟩
abbrev cX3_isIn : ByteArray := prog_5_method_3_code
def yX3_isIn : MethodName := ⟨RX3, "isIn", "(I)Z"⟩
abbrev cX3_gatherChoices : ByteArray := prog_5_method_4_code
def yX3_gatherChoices : MethodName := ⟨RX3, "gatherChoices", "(II)I"⟩
abbrev cX3_layNote : ByteArray := prog_5_method_5_code
def yX3_layNote : MethodName := ⟨RX3, "layNote", "(IJI)V"⟩
abbrev cX3_layOn : ByteArray := prog_5_method_6_code
def yX3_layOn : MethodName := ⟨RX3, "layOn", "(IIJI)V"⟩
abbrev cX3_agrees : ByteArray := prog_5_method_7_code
def yX3_agrees : MethodName := ⟨RX3, "agrees", "(IJIII)Z"⟩
abbrev cX3_inOrder : ByteArray := prog_5_method_8_code
def yX3_inOrder : MethodName := ⟨RX3, "inOrder", "(IIII)Z"⟩
abbrev cX3_takeGrip : ByteArray := prog_5_method_9_code
def yX3_takeGrip : MethodName := ⟨RX3, "takeGrip", "(J)V"⟩
def RX4 : String := "LuteFingers$Lute"
def TX4 : u_T := fun k => match k with
  | 0 => ("LuteFingers$Lute", "courses", "I", false)
  | 1 => ("LuteFingers$Lute", "barsMay", "Z", false)
  | 2 => ("LuteFingers$Lute", "tunes", "[I", true)
  | 3 => ("LuteFingers$Lute", "frets", "[I", true)
  | 4 => ("LuteFingers$Lute", "slacks", "[I", true)
  | 5 => ("LuteFingers$Lute", "weights", "[I", true)
  | _ => ("LuteFingers$Lute", "tunings", "[I", true)
def tyX4 : Nat → FieldType := fun k => match k with
  | 0 => .int
  | 1 => .boolean
  | 2 => .array .int
  | 3 => .array .int
  | 4 => .array .int
  | 5 => .array .int
  | _ => .array .int
abbrev wsX40 : List Cond := u_ws RX4 TX4 7
theorem nmX4 : ∀ a, a < 7 → ∀ b, b < 7 → a ≠ b → (TX4 a).2.1 ≠ (TX4 b).2.1 := by decide +kernel
theorem tyX4_ok : ∀ k, k < 7 → parseFieldDescriptor (TX4 k).2.2.1 = some (tyX4 k) := by decide +kernel
abbrev cX4_init : ByteArray := prog_6_method_1_code
def yX4_init : MethodName := ⟨RX4, "<init>", "()V"⟩
abbrev cX4_hasCourse : ByteArray := prog_6_method_2_code
def yX4_hasCourse : MethodName := ⟨RX4, "hasCourse", "(I)Z"⟩
abbrev cX4_addCourse : ByteArray := prog_6_method_3_code
def yX4_addCourse : MethodName := ⟨RX4, "addCourse", "(II)I"⟩
abbrev cX4_swapTuning : ByteArray := prog_6_method_4_code
def yX4_swapTuning : MethodName := ⟨RX4, "swapTuning", "(I)V"⟩
abbrev cX4_fretFor : ByteArray := prog_6_method_5_code
def yX4_fretFor : MethodName := ⟨RX4, "fretFor", "(II)I"⟩
abbrev cX4_reaches : ByteArray := prog_6_method_6_code
def yX4_reaches : MethodName := ⟨RX4, "reaches", "(III)Z"⟩
abbrev cX4_placesFor : ByteArray := prog_6_method_7_code
def yX4_placesFor : MethodName := ⟨RX4, "placesFor", "(I)I"⟩
abbrev cX4_stepCost : ByteArray := prog_6_method_8_code
def yX4_stepCost : MethodName := ⟨RX4, "stepCost", "(JJI)I"⟩
def RX5 : String := "LuteFingers$Piece"
def TX5 : u_T := fun k => match k with
  | 0 => ("LuteFingers$Piece", "ticks", "I", false)
  | 1 => ("LuteFingers$Piece", "sizes", "[I", true)
  | 2 => ("LuteFingers$Piece", "pitches", "[I", true)
  | 3 => ("LuteFingers$Piece", "kinds", "[I", true)
  | 4 => ("LuteFingers$Piece", "prices", "[I", true)
  | 5 => ("LuteFingers$Piece", "fores", "[I", true)
  | _ => ("LuteFingers$Piece", "fixed", "[I", true)
def tyX5 : Nat → FieldType := fun k => match k with
  | 0 => .int
  | 1 => .array .int
  | 2 => .array .int
  | 3 => .array .int
  | 4 => .array .int
  | 5 => .array .int
  | _ => .array .int
abbrev wsX50 : List Cond := u_ws RX5 TX5 7
theorem nmX5 : ∀ a, a < 7 → ∀ b, b < 7 → a ≠ b → (TX5 a).2.1 ≠ (TX5 b).2.1 := by decide +kernel
theorem tyX5_ok : ∀ k, k < 7 → parseFieldDescriptor (TX5 k).2.2.1 = some (tyX5 k) := by decide +kernel
abbrev cX5_init : ByteArray := prog_7_method_1_code
def yX5_init : MethodName := ⟨RX5, "<init>", "()V"⟩
abbrev cX5_isTied : ByteArray := prog_7_method_2_code
def yX5_isTied : MethodName := ⟨RX5, "isTied", "(I)Z"⟩
abbrev cX5_hasTick : ByteArray := prog_7_method_3_code
def yX5_hasTick : MethodName := ⟨RX5, "hasTick", "(I)Z"⟩
abbrev cX5_hasNote : ByteArray := prog_7_method_4_code
def yX5_hasNote : MethodName := ⟨RX5, "hasNote", "(II)Z"⟩
abbrev cX5_allNotes : ByteArray := prog_7_method_5_code
def yX5_allNotes : MethodName := ⟨RX5, "allNotes", "(I)I"⟩
abbrev cX5_notesOfTicks : ByteArray := prog_7_method_6_code
def yX5_notesOfTicks : MethodName := ⟨RX5, "notesOfTicks", "()I"⟩
abbrev cX5_noteOfPitch : ByteArray := prog_7_method_7_code
def yX5_noteOfPitch : MethodName := ⟨RX5, "noteOfPitch", "(II)I"⟩
abbrev cX5_foreOf : ByteArray := prog_7_method_8_code
def yX5_foreOf : MethodName := ⟨RX5, "foreOf", "(II)I"⟩
abbrev cX5_addNote : ByteArray := prog_7_method_9_code
def yX5_addNote : MethodName := ⟨RX5, "addNote", "(IIIII)I"⟩
abbrev cX5_closeTick : ByteArray := prog_7_method_10_code
def yX5_closeTick : MethodName := ⟨RX5, "closeTick", "()I"⟩
abbrev cX5_removeAll : ByteArray := prog_7_method_11_code
def yX5_removeAll : MethodName := ⟨RX5, "removeAll", "()V"⟩
abbrev cX5_copyFrom : ByteArray := prog_7_method_12_code
def yX5_copyFrom : MethodName := ⟨RX5, "copyFrom", "(LLuteFingers$Piece;)V"⟩
abbrev cX5_tieMask : ByteArray := prog_7_method_13_code
def yX5_tieMask : MethodName := ⟨RX5, "tieMask", "(IJ)J"⟩
abbrev cX5_tieBits : ByteArray := prog_7_method_14_code
def yX5_tieBits : MethodName := ⟨RX5, "tieBits", "(IJ)J"⟩
abbrev cX5_lookedAt : ByteArray := prog_7_method_15_code
def yX5_lookedAt : MethodName := ⟨RX5, "lookedAt", "(I)J"⟩
def RX6 : String := "LuteFingers$Tape"
def TX6 : u_T := fun k => match k with
  | 0 => ("LuteFingers$Tape", "bytes", "[I", true)
  | _ => ("LuteFingers$Tape", "length", "I", false)
def tyX6 : Nat → FieldType := fun k => match k with
  | 0 => .array .int
  | _ => .int
abbrev wsX60 : List Cond := u_ws RX6 TX6 2
theorem nmX6 : ∀ a, a < 2 → ∀ b, b < 2 → a ≠ b → (TX6 a).2.1 ≠ (TX6 b).2.1 := by decide +kernel
theorem tyX6_ok : ∀ k, k < 2 → parseFieldDescriptor (TX6 k).2.2.1 = some (tyX6 k) := by decide +kernel
abbrev cX6_init : ByteArray := prog_8_method_1_code
def yX6_init : MethodName := ⟨RX6, "<init>", "()V"⟩
abbrev cX6_append : ByteArray := prog_8_method_2_code
def yX6_append : MethodName := ⟨RX6, "append", "(I)V"⟩
abbrev cX6_appendLine : ByteArray := prog_8_method_3_code
def yX6_appendLine : MethodName := ⟨RX6, "appendLine", "(JI)V"⟩
abbrev cX6_noteOn : ByteArray := prog_8_method_4_code
def yX6_noteOn : MethodName := ⟨RX6, "noteOn", "(JI)I"⟩
def RX7 : String := "LuteFingers$TapeReader"
def TX7 : u_T := fun k => match k with
  | 0 => ("LuteFingers$TapeReader", "tape", "LLuteFingers$Tape;", true)
  | 1 => ("LuteFingers$TapeReader", "lute", "LLuteFingers$Lute;", true)
  | 2 => ("LuteFingers$TapeReader", "piece", "LLuteFingers$Piece;", true)
  | _ => ("LuteFingers$TapeReader", "place", "I", false)
def tyX7 : Nat → FieldType := fun k => match k with
  | 0 => .object "LuteFingers$Tape"
  | 1 => .object "LuteFingers$Lute"
  | 2 => .object "LuteFingers$Piece"
  | _ => .int
abbrev wsX70 : List Cond := u_ws RX7 TX7 4
theorem nmX7 : ∀ a, a < 4 → ∀ b, b < 4 → a ≠ b → (TX7 a).2.1 ≠ (TX7 b).2.1 := by decide +kernel
theorem tyX7_ok : ∀ k, k < 4 → parseFieldDescriptor (TX7 k).2.2.1 = some (tyX7 k) := by decide +kernel
abbrev cX7_init : ByteArray := prog_9_method_1_code
def yX7_init : MethodName := ⟨RX7, "<init>", "(LLuteFingers$Tape;LLuteFingers$Lute;LLuteFingers$Piece;)V"⟩
abbrev cX7_findFault : ByteArray := prog_9_method_2_code
def yX7_findFault : MethodName := ⟨RX7, "findFault", "()I"⟩
abbrev cX7_readLine : ByteArray := prog_9_method_3_code
def yX7_readLine : MethodName := ⟨RX7, "readLine", "()Z"⟩
abbrev cX7_here : ByteArray := prog_9_method_4_code
def yX7_here : MethodName := ⟨RX7, "here", "()I"⟩
abbrev cX7_readByte : ByteArray := prog_9_method_5_code
def yX7_readByte : MethodName := ⟨RX7, "readByte", "(I)Z"⟩
abbrev cX7_readCourse : ByteArray := prog_9_method_6_code
def yX7_readCourse : MethodName := ⟨RX7, "readCourse", "(I)Z"⟩
abbrev cX7_readFinger : ByteArray := prog_9_method_7_code
def yX7_readFinger : MethodName := ⟨RX7, "readFinger", "(I)Z"⟩
def RX8 : String := "LuteFingers$WayList"
def TX8 : u_T := fun k => match k with
  | 0 => ("LuteFingers$WayList", "numbers", "[I", true)
  | 1 => ("LuteFingers$WayList", "costs", "[I", true)
  | 2 => ("LuteFingers$WayList", "known", "I", false)
  | 3 => ("LuteFingers$WayList", "which", "I", false)
  | _ => ("LuteFingers$WayList", "complete", "Z", false)
def tyX8 : Nat → FieldType := fun k => match k with
  | 0 => .array .int
  | 1 => .array .int
  | 2 => .int
  | 3 => .int
  | _ => .boolean
abbrev wsX80 : List Cond := u_ws RX8 TX8 5
theorem nmX8 : ∀ a, a < 5 → ∀ b, b < 5 → a ≠ b → (TX8 a).2.1 ≠ (TX8 b).2.1 := by decide +kernel
theorem tyX8_ok : ∀ k, k < 5 → parseFieldDescriptor (TX8 k).2.2.1 = some (tyX8 k) := by decide +kernel
abbrev cX8_init : ByteArray := prog_10_method_1_code
def yX8_init : MethodName := ⟨RX8, "<init>", "()V"⟩
abbrev cX8_drop : ByteArray := prog_10_method_2_code
def yX8_drop : MethodName := ⟨RX8, "drop", "()V"⟩
abbrev cX8_atHand : ByteArray := prog_10_method_3_code
def yX8_atHand : MethodName := ⟨RX8, "atHand", "()Z"⟩
abbrev cX8_start : ByteArray := prog_10_method_4_code
def yX8_start : MethodName := ⟨RX8, "start", "()I"⟩
def RX9 : String := "LuteFingers$WaySearch"
def TX9 : u_T := fun k => match k with
  | 0 => ("LuteFingers$WaySearch", "lute", "LLuteFingers$Lute;", true)
  | 1 => ("LuteFingers$WaySearch", "piece", "LLuteFingers$Piece;", true)
  | 2 => ("LuteFingers$WaySearch", "book", "LLuteFingers$GripBook;", false)
  | 3 => ("LuteFingers$WaySearch", "followers", "[I", true)
  | 4 => ("LuteFingers$WaySearch", "alive", "[I", true)
  | 5 => ("LuteFingers$WaySearch", "places", "[I", true)
  | 6 => ("LuteFingers$WaySearch", "table", "[I", false)
  | _ => ("LuteFingers$WaySearch", "depth", "I", false)
def tyX9 : Nat → FieldType := fun k => match k with
  | 0 => .object "LuteFingers$Lute"
  | 1 => .object "LuteFingers$Piece"
  | 2 => .object "LuteFingers$GripBook"
  | 3 => .array .int
  | 4 => .array .int
  | 5 => .array .int
  | 6 => .array .int
  | _ => .int
abbrev wsX90 : List Cond := u_ws RX9 TX9 8
theorem nmX9 : ∀ a, a < 8 → ∀ b, b < 8 → a ≠ b → (TX9 a).2.1 ≠ (TX9 b).2.1 := by decide +kernel
theorem tyX9_ok : ∀ k, k < 8 → parseFieldDescriptor (TX9 k).2.2.1 = some (tyX9 k) := by decide +kernel
abbrev cX9_init : ByteArray := prog_11_method_1_code
def yX9_init : MethodName := ⟨RX9, "<init>", "(LLuteFingers$Lute;LLuteFingers$Piece;)V"⟩
abbrev cX9_lookThrough : ByteArray := prog_11_method_2_code
def yX9_lookThrough : MethodName := ⟨RX9, "lookThrough", "(LLuteFingers$GripBook;)I"⟩
abbrev cX9_allGrips : ByteArray := prog_11_method_3_code
def yX9_allGrips : MethodName := ⟨RX9, "allGrips", "(I)I"⟩
abbrev cX9_joinTicks : ByteArray := prog_11_method_4_code
def yX9_joinTicks : MethodName := ⟨RX9, "joinTicks", "(I)I"⟩
abbrev cX9_isAlive : ByteArray := prog_11_method_5_code
def yX9_isAlive : MethodName := ⟨RX9, "isAlive", "(II)Z"⟩
abbrev cX9_placesBehind : ByteArray := prog_11_method_6_code
def yX9_placesBehind : MethodName := ⟨RX9, "placesBehind", "(I)I"⟩
abbrev cX9_findBest : ByteArray := prog_11_method_7_code
def yX9_findBest : MethodName := ⟨RX9, "findBest", "(I)I"⟩
abbrev cX9_head : ByteArray := prog_11_method_8_code
def yX9_head : MethodName := ⟨RX9, "head", "()I"⟩
abbrev cX9_headCost : ByteArray := prog_11_method_9_code
def yX9_headCost : MethodName := ⟨RX9, "headCost", "(I)I"⟩
abbrev cX9_slot : ByteArray := prog_11_method_10_code
def yX9_slot : MethodName := ⟨RX9, "slot", "(III)I"⟩
abbrev cX9_fillTick : ByteArray := prog_11_method_11_code
def yX9_fillTick : MethodName := ⟨RX9, "fillTick", "(I)V"⟩
abbrev cX9_fillSlot : ByteArray := prog_11_method_12_code
def yX9_fillSlot : MethodName := ⟨RX9, "fillSlot", "(III)V"⟩
abbrev cX9_merge : ByteArray := prog_11_method_13_code
def yX9_merge : MethodName := ⟨RX9, "merge", "(IIII)V"⟩
abbrev cX9_insert : ByteArray := prog_11_method_14_code
def yX9_insert : MethodName := ⟨RX9, "insert", "(II)Z"⟩
abbrev cX9_trace : ByteArray := prog_11_method_15_code
def yX9_trace : MethodName := ⟨RX9, "trace", "(I[II)I"⟩
abbrev cX9_costOfSpan : ByteArray := prog_11_method_16_code
def yX9_costOfSpan : MethodName := ⟨RX9, "costOfSpan", "(LLuteFingers$GripBook;[IIII)I"⟩
def RX10 : String := "LuteFingers"
def TX10 : u_T := fun k => match k with
  | 0 => ("LuteFingers", "lute", "LLuteFingers$Lute;", true)
  | 1 => ("LuteFingers", "piece", "LLuteFingers$Piece;", true)
  | 2 => ("LuteFingers", "signs", "LLuteFingers$Tape;", true)
  | 3 => ("LuteFingers", "gripSearch", "LLuteFingers$GripSearch;", true)
  | 4 => ("LuteFingers", "book", "LLuteFingers$GripBook;", true)
  | 5 => ("LuteFingers", "otherBook", "LLuteFingers$GripBook;", true)
  | 6 => ("LuteFingers", "waySearch", "LLuteFingers$WaySearch;", true)
  | 7 => ("LuteFingers", "ways", "LLuteFingers$WayList;", true)
  | 8 => ("LuteFingers", "row", "[I", true)
  | 9 => ("LuteFingers", "rowSize", "I", false)
  | 10 => ("LuteFingers", "arranger", "LLuteFingers$Arranger;", false)
  | 11 => ("LuteFingers", "readPiece", "LLuteFingers$Piece;", false)
  | 12 => ("LuteFingers", "arranged", "Z", false)
  | 13 => ("LuteFingers", "leftPrice", "I", false)
  | _ => ("LuteFingers", "restCost", "I", false)
def tyX10 : Nat → FieldType := fun k => match k with
  | 0 => .object "LuteFingers$Lute"
  | 1 => .object "LuteFingers$Piece"
  | 2 => .object "LuteFingers$Tape"
  | 3 => .object "LuteFingers$GripSearch"
  | 4 => .object "LuteFingers$GripBook"
  | 5 => .object "LuteFingers$GripBook"
  | 6 => .object "LuteFingers$WaySearch"
  | 7 => .object "LuteFingers$WayList"
  | 8 => .array .int
  | 9 => .int
  | 10 => .object "LuteFingers$Arranger"
  | 11 => .object "LuteFingers$Piece"
  | 12 => .boolean
  | 13 => .int
  | _ => .int
abbrev wsX100 : List Cond := u_ws RX10 TX10 15
theorem nmX10 : ∀ a, a < 15 → ∀ b, b < 15 → a ≠ b → (TX10 a).2.1 ≠ (TX10 b).2.1 := by decide +kernel
theorem tyX10_ok : ∀ k, k < 15 → parseFieldDescriptor (TX10 k).2.2.1 = some (tyX10 k) := by decide +kernel
abbrev cX10_init : ByteArray := prog_1_method_1_code
def yX10_init : MethodName := ⟨RX10, "<init>", "()V"⟩
abbrev cX10_course : ByteArray := prog_1_method_2_code
def yX10_course : MethodName := ⟨RX10, "course", "(II)I"⟩
abbrev cX10_tune : ByteArray := prog_1_method_3_code
def yX10_tune : MethodName := ⟨RX10, "tune", "(II)I"⟩
abbrev cX10_slack : ByteArray := prog_1_method_4_code
def yX10_slack : MethodName := ⟨RX10, "slack", "(II)I"⟩
abbrev cX10_bars : ByteArray := prog_1_method_5_code
def yX10_bars : MethodName := ⟨RX10, "bars", "(I)I"⟩
abbrev cX10_weight : ByteArray := prog_1_method_6_code
def yX10_weight : MethodName := ⟨RX10, "weight", "(II)I"⟩
abbrev cX10_note : ByteArray := prog_1_method_7_code
def yX10_note : MethodName := ⟨RX10, "note", "(III)I"⟩
abbrev cX10_tick : ByteArray := prog_1_method_8_code
def yX10_tick : MethodName := ⟨RX10, "tick", "()I"⟩
abbrev cX10_clear : ByteArray := prog_1_method_9_code
def yX10_clear : MethodName := ⟨RX10, "clear", "()I"⟩
abbrev cX10_fix : ByteArray := prog_1_method_10_code
def yX10_fix : MethodName := ⟨RX10, "fix", "(III)I"⟩
abbrev cX10_told : ByteArray := prog_1_method_11_code
def yX10_told : MethodName := ⟨RX10, "told", "(III)I"⟩
abbrev cX10_grips : ByteArray := prog_1_method_12_code
def yX10_grips : MethodName := ⟨RX10, "grips", "(I)I"⟩
abbrev cX10_grip : ByteArray := prog_1_method_13_code
def yX10_grip : MethodName := ⟨RX10, "grip", "(IIII)I"⟩
abbrev cX10_why : ByteArray := prog_1_method_14_code
def yX10_why : MethodName := ⟨RX10, "why", "(I)I"⟩
abbrev cX10_way : ByteArray := prog_1_method_15_code
def yX10_way : MethodName := ⟨RX10, "way", "()I"⟩
abbrev cX10_next : ByteArray := prog_1_method_16_code
def yX10_next : MethodName := ⟨RX10, "next", "()I"⟩
abbrev cX10_at : ByteArray := prog_1_method_17_code
def yX10_at : MethodName := ⟨RX10, "at", "(I)I"⟩
abbrev cX10_rank : ByteArray := prog_1_method_18_code
def yX10_rank : MethodName := ⟨RX10, "rank", "(I)I"⟩
abbrev cX10_say : ByteArray := prog_1_method_19_code
def yX10_say : MethodName := ⟨RX10, "say", "(I)I"⟩
abbrev cX10_check : ByteArray := prog_1_method_20_code
def yX10_check : MethodName := ⟨RX10, "check", "()I"⟩
abbrev cX10_arrange : ByteArray := prog_1_method_21_code
def yX10_arrange : MethodName := ⟨RX10, "arrange", "()I"⟩
abbrev cX10_left : ByteArray := prog_1_method_22_code
def yX10_left : MethodName := ⟨RX10, "left", "(I)I"⟩
abbrev cX10_rest : ByteArray := prog_1_method_23_code
def yX10_rest : MethodName := ⟨RX10, "rest", "()I"⟩
abbrev cX10_tuning : ByteArray := prog_1_method_24_code
def yX10_tuning : MethodName := ⟨RX10, "tuning", "(III)I"⟩
abbrev cX10_choose : ByteArray := prog_1_method_25_code
def yX10_choose : MethodName := ⟨RX10, "choose", "()I"⟩
abbrev cX10_feed : ByteArray := prog_1_method_26_code
def yX10_feed : MethodName := ⟨RX10, "feed", "(I)I"⟩
abbrev cX10_wipe : ByteArray := prog_1_method_27_code
def yX10_wipe : MethodName := ⟨RX10, "wipe", "()I"⟩
abbrev cX10_tape : ByteArray := prog_1_method_28_code
def yX10_tape : MethodName := ⟨RX10, "tape", "(I)I"⟩
abbrev cX10_write : ByteArray := prog_1_method_29_code
def yX10_write : MethodName := ⟨RX10, "write", "()I"⟩
abbrev cX10_read : ByteArray := prog_1_method_30_code
def yX10_read : MethodName := ⟨RX10, "read", "()I"⟩
abbrev cX10_count : ByteArray := prog_1_method_31_code
def yX10_count : MethodName := ⟨RX10, "count", "(I)I"⟩
abbrev cX10_within : ByteArray := prog_1_method_32_code
def yX10_within : MethodName := ⟨RX10, "within", "(II)Z"⟩
abbrev cX10_exchange : ByteArray := prog_1_method_33_code
def yX10_exchange : MethodName := ⟨RX10, "exchange", "([III)I"⟩
abbrev cX10_instrumentChanged : ByteArray := prog_1_method_34_code
def yX10_instrumentChanged : MethodName := ⟨RX10, "instrumentChanged", "()V"⟩
abbrev cX10_forgetAnswers : ByteArray := prog_1_method_35_code
def yX10_forgetAnswers : MethodName := ⟨RX10, "forgetAnswers", "()V"⟩
abbrev cX10_hasGrip : ByteArray := prog_1_method_36_code
def yX10_hasGrip : MethodName := ⟨RX10, "hasGrip", "(II)Z"⟩
abbrev cX10_takeWays : ByteArray := prog_1_method_37_code
def yX10_takeWays : MethodName := ⟨RX10, "takeWays", "(I)V"⟩
abbrev cX10_goesOn : ByteArray := prog_1_method_38_code
def yX10_goesOn : MethodName := ⟨RX10, "goesOn", "(I)Z"⟩
abbrev cX10_costWithTuning : ByteArray := prog_1_method_39_code
def yX10_costWithTuning : MethodName := ⟨RX10, "costWithTuning", "(I)I"⟩
abbrev cX10_firstCost : ByteArray := prog_1_method_40_code
def yX10_firstCost : MethodName := ⟨RX10, "firstCost", "(LLuteFingers$GripBook;)I"⟩
def RX11 : String := "LuteFingersModel"
def TX11 : u_T := fun k => match k with
  | 0 => ("LuteFingersModel", "courses", "I", false)
  | 1 => ("LuteFingersModel", "bars", "I", false)
  | 2 => ("LuteFingersModel", "tune", "[I", true)
  | 3 => ("LuteFingersModel", "frets", "[I", true)
  | 4 => ("LuteFingersModel", "slack", "[I", true)
  | 5 => ("LuteFingersModel", "weight", "[I", true)
  | 6 => ("LuteFingersModel", "tuning", "[I", true)
  | 7 => ("LuteFingersModel", "ticks", "I", false)
  | 8 => ("LuteFingersModel", "nextMany", "I", false)
  | 9 => ("LuteFingersModel", "many", "[I", true)
  | 10 => ("LuteFingersModel", "pitch", "[I", true)
  | 11 => ("LuteFingersModel", "kind", "[I", true)
  | 12 => ("LuteFingersModel", "price", "[I", true)
  | 13 => ("LuteFingersModel", "fixed", "[I", true)
  | 14 => ("LuteFingersModel", "hasWay", "Z", false)
  | 15 => ("LuteFingersModel", "isArranged", "Z", false)
  | 16 => ("LuteFingersModel", "found", "[I", true)
  | 17 => ("LuteFingersModel", "place", "[I", true)
  | 18 => ("LuteFingersModel", "cost", "[I", true)
  | 19 => ("LuteFingersModel", "hasBar", "[I", true)
  | 20 => ("LuteFingersModel", "onCourse", "[I", true)
  | 21 => ("LuteFingersModel", "byFinger", "[I", true)
  | 22 => ("LuteFingersModel", "pick", "[I", true)
  | 23 => ("LuteFingersModel", "leave", "[I", true)
  | 24 => ("LuteFingersModel", "kept", "[I", true)
  | 25 => ("LuteFingersModel", "onCost", "[I", true)
  | 26 => ("LuteFingersModel", "onGrip", "[I", true)
  | 27 => ("LuteFingersModel", "onRank", "[I", true)
  | 28 => ("LuteFingersModel", "taken", "[I", true)
  | 29 => ("LuteFingersModel", "chosen", "[I", true)
  | 30 => ("LuteFingersModel", "chosenCost", "I", false)
  | 31 => ("LuteFingersModel", "isReached", "[Z", true)
  | 32 => ("LuteFingersModel", "way", "[I", true)
  | 33 => ("LuteFingersModel", "wayNumber", "I", false)
  | 34 => ("LuteFingersModel", "wayCost", "I", false)
  | 35 => ("LuteFingersModel", "row", "[I", true)
  | 36 => ("LuteFingersModel", "rowed", "I", false)
  | 37 => ("LuteFingersModel", "leftCost", "[I", true)
  | 38 => ("LuteFingersModel", "left", "[I", true)
  | 39 => ("LuteFingersModel", "restCost", "I", false)
  | 40 => ("LuteFingersModel", "tuneWas", "[I", true)
  | 41 => ("LuteFingersModel", "tape", "[I", true)
  | 42 => ("LuteFingersModel", "taped", "I", false)
  | 43 => ("LuteFingersModel", "readCourse", "[I", true)
  | 44 => ("LuteFingersModel", "readFret", "[I", true)
  | 45 => ("LuteFingersModel", "readMany", "[I", true)
  | _ => ("LuteFingersModel", "reads", "I", false)
def tyX11 : Nat → FieldType := fun k => match k with
  | 0 => .int
  | 1 => .int
  | 2 => .array .int
  | 3 => .array .int
  | 4 => .array .int
  | 5 => .array .int
  | 6 => .array .int
  | 7 => .int
  | 8 => .int
  | 9 => .array .int
  | 10 => .array .int
  | 11 => .array .int
  | 12 => .array .int
  | 13 => .array .int
  | 14 => .boolean
  | 15 => .boolean
  | 16 => .array .int
  | 17 => .array .int
  | 18 => .array .int
  | 19 => .array .int
  | 20 => .array .int
  | 21 => .array .int
  | 22 => .array .int
  | 23 => .array .int
  | 24 => .array .int
  | 25 => .array .int
  | 26 => .array .int
  | 27 => .array .int
  | 28 => .array .int
  | 29 => .array .int
  | 30 => .int
  | 31 => .array .boolean
  | 32 => .array .int
  | 33 => .int
  | 34 => .int
  | 35 => .array .int
  | 36 => .int
  | 37 => .array .int
  | 38 => .array .int
  | 39 => .int
  | 40 => .array .int
  | 41 => .array .int
  | 42 => .int
  | 43 => .array .int
  | 44 => .array .int
  | 45 => .array .int
  | _ => .int
abbrev wsX110 : List Cond := u_ws RX11 TX11 47
theorem nmX11 : ∀ a, a < 47 → ∀ b, b < 47 → a ≠ b → (TX11 a).2.1 ≠ (TX11 b).2.1 := by decide +kernel
theorem tyX11_ok : ∀ k, k < 47 → parseFieldDescriptor (TX11 k).2.2.1 = some (tyX11 k) := by decide +kernel
abbrev cX11_init : ByteArray := prog_13_method_1_code
def yX11_init : MethodName := ⟨RX11, "<init>", "()V"⟩
abbrev cX11_in : ByteArray := prog_13_method_2_code
def yX11_in : MethodName := ⟨RX11, "in", "(III)Z"⟩
abbrev cX11_isCourse : ByteArray := prog_13_method_3_code
def yX11_isCourse : MethodName := ⟨RX11, "isCourse", "(I)Z"⟩
abbrev cX11_isTick : ByteArray := prog_13_method_4_code
def yX11_isTick : MethodName := ⟨RX11, "isTick", "(I)Z"⟩
abbrev cX11_isNote : ByteArray := prog_13_method_5_code
def yX11_isNote : MethodName := ⟨RX11, "isNote", "(II)Z"⟩
abbrev cX11_forget : ByteArray := prog_13_method_6_code
def yX11_forget : MethodName := ⟨RX11, "forget", "()V"⟩
abbrev cX11_course : ByteArray := prog_13_method_7_code
def yX11_course : MethodName := ⟨RX11, "course", "(II)I"⟩
abbrev cX11_tune : ByteArray := prog_13_method_8_code
def yX11_tune : MethodName := ⟨RX11, "tune", "(II)I"⟩
abbrev cX11_slack : ByteArray := prog_13_method_9_code
def yX11_slack : MethodName := ⟨RX11, "slack", "(II)I"⟩
abbrev cX11_bars : ByteArray := prog_13_method_10_code
def yX11_bars : MethodName := ⟨RX11, "bars", "(I)I"⟩
abbrev cX11_weight : ByteArray := prog_13_method_11_code
def yX11_weight : MethodName := ⟨RX11, "weight", "(II)I"⟩
abbrev cX11_spot : ByteArray := prog_13_method_12_code
def yX11_spot : MethodName := ⟨RX11, "spot", "(II)I"⟩
abbrev cX11_noteOf : ByteArray := prog_13_method_13_code
def yX11_noteOf : MethodName := ⟨RX11, "noteOf", "(II)I"⟩
abbrev cX11_fore : ByteArray := prog_13_method_14_code
def yX11_fore : MethodName := ⟨RX11, "fore", "(II)I"⟩
abbrev cX11_note : ByteArray := prog_13_method_15_code
def yX11_note : MethodName := ⟨RX11, "note", "(III)I"⟩
abbrev cX11_tick : ByteArray := prog_13_method_16_code
def yX11_tick : MethodName := ⟨RX11, "tick", "()I"⟩
abbrev cX11_clear : ByteArray := prog_13_method_17_code
def yX11_clear : MethodName := ⟨RX11, "clear", "()I"⟩
abbrev cX11_fix : ByteArray := prog_13_method_18_code
def yX11_fix : MethodName := ⟨RX11, "fix", "(III)I"⟩
abbrev cX11_told : ByteArray := prog_13_method_19_code
def yX11_told : MethodName := ⟨RX11, "told", "(III)I"⟩
abbrev cX11_gripAt : ByteArray := prog_13_method_20_code
def yX11_gripAt : MethodName := ⟨RX11, "gripAt", "(III)I"⟩
abbrev cX11_fret : ByteArray := prog_13_method_21_code
def yX11_fret : MethodName := ⟨RX11, "fret", "(III)I"⟩
abbrev cX11_mayBe : ByteArray := prog_13_method_22_code
def yX11_mayBe : MethodName := ⟨RX11, "mayBe", "(IIII)Z"⟩
abbrev cX11_goWith : ByteArray := prog_13_method_23_code
def yX11_goWith : MethodName := ⟨RX11, "goWith", "(IIII)Z"⟩
abbrev cX11_keep : ByteArray := prog_13_method_24_code
def yX11_keep : MethodName := ⟨RX11, "keep", "(III)V"⟩
abbrev cX11_usesFinger : ByteArray := prog_13_method_25_code
def yX11_usesFinger : MethodName := ⟨RX11, "usesFinger", "(II)Z"⟩
abbrev cX11_findGrips : ByteArray := prog_13_method_26_code
def yX11_findGrips : MethodName := ⟨RX11, "findGrips", "(II)V"⟩
abbrev cX11_step : ByteArray := prog_13_method_27_code
def yX11_step : MethodName := ⟨RX11, "step", "(III)I"⟩
abbrev cX11_walk : ByteArray := prog_13_method_28_code
def yX11_walk : MethodName := ⟨RX11, "walk", "(III)V"⟩
abbrev cX11_isSpent : ByteArray := prog_13_method_29_code
def yX11_isSpent : MethodName := ⟨RX11, "isSpent", "(II)Z"⟩
abbrev cX11_count : ByteArray := prog_13_method_30_code
def yX11_count : MethodName := ⟨RX11, "count", "(II)I"⟩
abbrev cX11_grips : ByteArray := prog_13_method_31_code
def yX11_grips : MethodName := ⟨RX11, "grips", "(I)I"⟩
abbrev cX11_grip : ByteArray := prog_13_method_32_code
def yX11_grip : MethodName := ⟨RX11, "grip", "(IIII)I"⟩
abbrev cX11_bits : ByteArray := prog_13_method_33_code
def yX11_bits : MethodName := ⟨RX11, "bits", "(I)I"⟩
abbrev cX11_why : ByteArray := prog_13_method_34_code
def yX11_why : MethodName := ⟨RX11, "why", "(I)I"⟩
abbrev cX11_firstNote : ByteArray := prog_13_method_35_code
def yX11_firstNote : MethodName := ⟨RX11, "firstNote", "(II)I"⟩
abbrev cX11_goesOn : ByteArray := prog_13_method_36_code
def yX11_goesOn : MethodName := ⟨RX11, "goesOn", "(IIIII)Z"⟩
abbrev cX11_crossing : ByteArray := prog_13_method_37_code
def yX11_crossing : MethodName := ⟨RX11, "crossing", "(III)I"⟩
abbrev cX11_shift : ByteArray := prog_13_method_38_code
def yX11_shift : MethodName := ⟨RX11, "shift", "(II)I"⟩
abbrev cX11_state : ByteArray := prog_13_method_39_code
def yX11_state : MethodName := ⟨RX11, "state", "(III)I"⟩
abbrev cX11_ways : ByteArray := prog_13_method_40_code
def yX11_ways : MethodName := ⟨RX11, "ways", "(I)V"⟩
abbrev cX11_on : ByteArray := prog_13_method_41_code
def yX11_on : MethodName := ⟨RX11, "on", "(IIII)V"⟩
abbrev cX11_fill : ByteArray := prog_13_method_42_code
def yX11_fill : MethodName := ⟨RX11, "fill", "()V"⟩
abbrev cX11_picks : ByteArray := prog_13_method_43_code
def yX11_picks : MethodName := ⟨RX11, "picks", "(I)Z"⟩
abbrev cX11_breakAt : ByteArray := prog_13_method_44_code
def yX11_breakAt : MethodName := ⟨RX11, "breakAt", "()I"⟩
abbrev cX11_takeWay : ByteArray := prog_13_method_45_code
def yX11_takeWay : MethodName := ⟨RX11, "takeWay", "(I)V"⟩
abbrev cX11_way : ByteArray := prog_13_method_46_code
def yX11_way : MethodName := ⟨RX11, "way", "()I"⟩
abbrev cX11_next : ByteArray := prog_13_method_47_code
def yX11_next : MethodName := ⟨RX11, "next", "()I"⟩
abbrev cX11_at : ByteArray := prog_13_method_48_code
def yX11_at : MethodName := ⟨RX11, "at", "(I)I"⟩
abbrev cX11_costOf : ByteArray := prog_13_method_49_code
def yX11_costOf : MethodName := ⟨RX11, "costOf", "([III)I"⟩
abbrev cX11_rank : ByteArray := prog_13_method_50_code
def yX11_rank : MethodName := ⟨RX11, "rank", "(I)I"⟩
abbrev cX11_say : ByteArray := prog_13_method_51_code
def yX11_say : MethodName := ⟨RX11, "say", "(I)I"⟩
abbrev cX11_check : ByteArray := prog_13_method_52_code
def yX11_check : MethodName := ⟨RX11, "check", "()I"⟩
abbrev cX11_own : ByteArray := prog_13_method_53_code
def yX11_own : MethodName := ⟨RX11, "own", "(II)I"⟩
abbrev cX11_mayLeave : ByteArray := prog_13_method_54_code
def yX11_mayLeave : MethodName := ⟨RX11, "mayLeave", "(III)Z"⟩
abbrev cX11_least : ByteArray := prog_13_method_55_code
def yX11_least : MethodName := ⟨RX11, "least", "(III)I"⟩
abbrev cX11_arrange : ByteArray := prog_13_method_56_code
def yX11_arrange : MethodName := ⟨RX11, "arrange", "()I"⟩
abbrev cX11_masks : ByteArray := prog_13_method_57_code
def yX11_masks : MethodName := ⟨RX11, "masks", "()V"⟩
abbrev cX11_better : ByteArray := prog_13_method_58_code
def yX11_better : MethodName := ⟨RX11, "better", "(II)I"⟩
abbrev cX11_alive : ByteArray := prog_13_method_59_code
def yX11_alive : MethodName := ⟨RX11, "alive", "(III)Z"⟩
abbrev cX11_left : ByteArray := prog_13_method_60_code
def yX11_left : MethodName := ⟨RX11, "left", "(I)I"⟩
abbrev cX11_rest : ByteArray := prog_13_method_61_code
def yX11_rest : MethodName := ⟨RX11, "rest", "()I"⟩
abbrev cX11_tuning : ByteArray := prog_13_method_62_code
def yX11_tuning : MethodName := ⟨RX11, "tuning", "(III)I"⟩
abbrev cX11_choose : ByteArray := prog_13_method_63_code
def yX11_choose : MethodName := ⟨RX11, "choose", "()I"⟩
abbrev cX11_feed : ByteArray := prog_13_method_64_code
def yX11_feed : MethodName := ⟨RX11, "feed", "(I)I"⟩
abbrev cX11_wipe : ByteArray := prog_13_method_65_code
def yX11_wipe : MethodName := ⟨RX11, "wipe", "()I"⟩
abbrev cX11_tape : ByteArray := prog_13_method_66_code
def yX11_tape : MethodName := ⟨RX11, "tape", "(I)I"⟩
abbrev cX11_say_ : ByteArray := prog_13_method_67_code
def yX11_say_ : MethodName := ⟨RX11, "say", "(CI)V"⟩
abbrev cX11_noteOn : ByteArray := prog_13_method_68_code
def yX11_noteOn : MethodName := ⟨RX11, "noteOn", "(III)I"⟩
abbrev cX11_write : ByteArray := prog_13_method_69_code
def yX11_write : MethodName := ⟨RX11, "write", "()I"⟩
abbrev cX11_line : ByteArray := prog_13_method_70_code
def yX11_line : MethodName := ⟨RX11, "line", "(II)I"⟩
abbrev cX11_read : ByteArray := prog_13_method_71_code
def yX11_read : MethodName := ⟨RX11, "read", "()I"⟩
abbrev cX11_count_ : ByteArray := prog_13_method_72_code
def yX11_count_ : MethodName := ⟨RX11, "count", "(I)I"⟩
def RJ6 : String := "java/lang/Integer"
def TJ6 : u_T := fun k => match k with
  | _ => ("", "", "", false)
def tyJ6 : Nat → FieldType := fun k => match k with
  | _ => .int
abbrev wsJ60 : List Cond := u_ws RJ6 TJ6 0
theorem nmJ6 : ∀ a, a < 0 → ∀ b, b < 0 → a ≠ b → (TJ6 a).2.1 ≠ (TJ6 b).2.1 := by decide +kernel
theorem tyJ6_ok : ∀ k, k < 0 → parseFieldDescriptor (TJ6 k).2.2.1 = some (tyJ6 k) := by decide +kernel
abbrev cJ6_bitCount_0f7a4 : ByteArray := prog_14_method_49_code
def yJ6_bitCount_0f7a4 : MethodName := ⟨RJ6, "bitCount", "(I)I"⟩
def RJ9 : String := "java/lang/Math"
def TJ9 : u_T := fun k => match k with
  | _ => ("", "", "", false)
def tyJ9 : Nat → FieldType := fun k => match k with
  | _ => .int
abbrev wsJ90 : List Cond := u_ws RJ9 TJ9 0
theorem nmJ9 : ∀ a, a < 0 → ∀ b, b < 0 → a ≠ b → (TJ9 a).2.1 ≠ (TJ9 b).2.1 := by decide +kernel
theorem tyJ9_ok : ∀ k, k < 0 → parseFieldDescriptor (TJ9 k).2.2.1 = some (tyJ9 k) := by decide +kernel
abbrev cJ9_abs_0f7a4 : ByteArray := prog_15_method_59_code
def yJ9_abs_0f7a4 : MethodName := ⟨RJ9, "abs", "(I)I"⟩
abbrev cJ9_max_7cf53 : ByteArray := prog_15_method_65_code
def yJ9_max_7cf53 : MethodName := ⟨RJ9, "max", "(II)I"⟩
abbrev cJ9_min_7cf53 : ByteArray := prog_15_method_69_code
def yJ9_min_7cf53 : MethodName := ⟨RJ9, "min", "(II)I"⟩
def RJ10 : String := "java/lang/System"
def TJ10 : u_T := fun k => match k with
  | _ => ("", "", "", false)
def tyJ10 : Nat → FieldType := fun k => match k with
  | _ => .int
abbrev wsJ100 : List Cond := u_ws RJ10 TJ10 0
theorem nmJ10 : ∀ a, a < 0 → ∀ b, b < 0 → a ≠ b → (TJ10 a).2.1 ≠ (TJ10 b).2.1 := by decide +kernel
theorem tyJ10_ok : ∀ k, k < 0 → parseFieldDescriptor (TJ10 k).2.2.1 = some (tyJ10 k) := by decide +kernel
def RJ7 : String := "java/util/Arrays"
def TJ7 : u_T := fun k => match k with
  | _ => ("", "", "", false)
def tyJ7 : Nat → FieldType := fun k => match k with
  | _ => .int
abbrev wsJ70 : List Cond := u_ws RJ7 TJ7 0
theorem nmJ7 : ∀ a, a < 0 → ∀ b, b < 0 → a ≠ b → (TJ7 a).2.1 ≠ (TJ7 b).2.1 := by decide +kernel
theorem tyJ7_ok : ∀ k, k < 0 → parseFieldDescriptor (TJ7 k).2.2.1 = some (tyJ7 k) := by decide +kernel
abbrev cJ7_rangeCheck_23922 : ByteArray := prog_17_method_30_code
def yJ7_rangeCheck_23922 : MethodName := ⟨RJ7, "rangeCheck", "(III)V"⟩
abbrev cJ7_fill_53178 : ByteArray := prog_17_method_103_code
def yJ7_fill_53178 : MethodName := ⟨RJ7, "fill", "([II)V"⟩
abbrev cJ7_fill_fda19 : ByteArray := prog_17_method_104_code
def yJ7_fill_fda19 : MethodName := ⟨RJ7, "fill", "([IIII)V"⟩
def RL : String := "LuteFingersLaw"
abbrev cL_law : ByteArray := code
def yL_law : MethodName := ⟨RL, "law", "([I)Z"⟩
abbrev vwCl : List vw_C := [(RX0, TX0, 10), (RX2, TX2, 4), (RX3, TX3, 12), (RX4, TX4, 7), (RX5, TX5, 7), (RX6, TX6, 2), (RX7, TX7, 4), (RX8, TX8, 5), (RX9, TX9, 8), (RX10, TX10, 15), (RX11, TX11, 47)]
end
section
theorem tb_1 {w : Cond} (h : w ∈ tables_1_1) : w ∈ lw_tbl := by
  show w ∈ k2_sels lw_privs ++ tables_1
  exact List.mem_append_right _ (List.mem_append_left _ h)
theorem tb_2 {w : Cond} (h : w ∈ tables_1_2) : w ∈ lw_tbl := by
  show w ∈ k2_sels lw_privs ++ tables_1
  exact List.mem_append_right _ (List.mem_append_right _ (List.mem_append_left _ h))
theorem tb_3 {w : Cond} (h : w ∈ tables_1_3) : w ∈ lw_tbl := by
  show w ∈ k2_sels lw_privs ++ tables_1
  exact List.mem_append_right _ (List.mem_append_right _ (List.mem_append_right _ (List.mem_append_left _ h)))
theorem tb_4 {w : Cond} (h : w ∈ tables_1_4) : w ∈ lw_tbl := by
  show w ∈ k2_sels lw_privs ++ tables_1
  exact List.mem_append_right _ (List.mem_append_right _ (List.mem_append_right _ (List.mem_append_right _ (List.mem_append_left _ h))))
theorem tb_5 {w : Cond} (h : w ∈ tables_1_5) : w ∈ lw_tbl := by
  show w ∈ k2_sels lw_privs ++ tables_1
  exact List.mem_append_right _ (List.mem_append_right _ (List.mem_append_right _ (List.mem_append_right _ (List.mem_append_right _ (List.mem_append_left _ h)))))
theorem tb_6 {w : Cond} (h : w ∈ tables_1_6) : w ∈ lw_tbl := by
  show w ∈ k2_sels lw_privs ++ tables_1
  exact List.mem_append_right _ (List.mem_append_right _ (List.mem_append_right _ (List.mem_append_right _ (List.mem_append_right _ (List.mem_append_right _ h)))))
theorem pv_1 {y : MethodName} {n : Nat} (h : (y, n) ∈ lw_privs_1) : Cond.selects y.cls y y ∈ lw_tbl := by
  show Cond.selects y.cls y y ∈ k2_sels lw_privs ++ tables_1
  exact List.mem_append_left _ (List.mem_map.mpr ⟨(y, n), (show (y, n) ∈ lw_privs from (List.mem_append_left _ h)), rfl⟩)
theorem pv_2 {y : MethodName} {n : Nat} (h : (y, n) ∈ lw_privs_2) : Cond.selects y.cls y y ∈ lw_tbl := by
  show Cond.selects y.cls y y ∈ k2_sels lw_privs ++ tables_1
  exact List.mem_append_left _ (List.mem_map.mpr ⟨(y, n), (show (y, n) ∈ lw_privs from (List.mem_append_right _ (List.mem_append_left _ h))), rfl⟩)
theorem pv_3 {y : MethodName} {n : Nat} (h : (y, n) ∈ lw_privs_3) : Cond.selects y.cls y y ∈ lw_tbl := by
  show Cond.selects y.cls y y ∈ k2_sels lw_privs ++ tables_1
  exact List.mem_append_left _ (List.mem_map.mpr ⟨(y, n), (show (y, n) ∈ lw_privs from (List.mem_append_right _ (List.mem_append_right _ (List.mem_append_left _ h)))), rfl⟩)
theorem pv_4 {y : MethodName} {n : Nat} (h : (y, n) ∈ lw_privs_4) : Cond.selects y.cls y y ∈ lw_tbl := by
  show Cond.selects y.cls y y ∈ k2_sels lw_privs ++ tables_1
  exact List.mem_append_left _ (List.mem_map.mpr ⟨(y, n), (show (y, n) ∈ lw_privs from (List.mem_append_right _ (List.mem_append_right _ (List.mem_append_right _ (List.mem_append_left _ h))))), rfl⟩)
theorem pv_5 {y : MethodName} {n : Nat} (h : (y, n) ∈ lw_privs_5) : Cond.selects y.cls y y ∈ lw_tbl := by
  show Cond.selects y.cls y y ∈ k2_sels lw_privs ++ tables_1
  exact List.mem_append_left _ (List.mem_map.mpr ⟨(y, n), (show (y, n) ∈ lw_privs from (List.mem_append_right _ (List.mem_append_right _ (List.mem_append_right _ (List.mem_append_right _ (List.mem_append_left _ h)))))), rfl⟩)
theorem pv_6 {y : MethodName} {n : Nat} (h : (y, n) ∈ lw_privs_6) : Cond.selects y.cls y y ∈ lw_tbl := by
  show Cond.selects y.cls y y ∈ k2_sels lw_privs ++ tables_1
  exact List.mem_append_left _ (List.mem_map.mpr ⟨(y, n), (show (y, n) ∈ lw_privs from (List.mem_append_right _ (List.mem_append_right _ (List.mem_append_right _ (List.mem_append_right _ (List.mem_append_right _ (List.mem_append_left _ h))))))), rfl⟩)
theorem pv_7 {y : MethodName} {n : Nat} (h : (y, n) ∈ lw_privs_7) : Cond.selects y.cls y y ∈ lw_tbl := by
  show Cond.selects y.cls y y ∈ k2_sels lw_privs ++ tables_1
  exact List.mem_append_left _ (List.mem_map.mpr ⟨(y, n), (show (y, n) ∈ lw_privs from (List.mem_append_right _ (List.mem_append_right _ (List.mem_append_right _ (List.mem_append_right _ (List.mem_append_right _ (List.mem_append_right _ (List.mem_append_left _ h)))))))), rfl⟩)
theorem pv_8 {y : MethodName} {n : Nat} (h : (y, n) ∈ lw_privs_8) : Cond.selects y.cls y y ∈ lw_tbl := by
  show Cond.selects y.cls y y ∈ k2_sels lw_privs ++ tables_1
  exact List.mem_append_left _ (List.mem_map.mpr ⟨(y, n), (show (y, n) ∈ lw_privs from (List.mem_append_right _ (List.mem_append_right _ (List.mem_append_right _ (List.mem_append_right _ (List.mem_append_right _ (List.mem_append_right _ (List.mem_append_right _ h)))))))), rfl⟩)
def wA_0 : List Cond := [Cond.classLink RL 7 RX10, Cond.instantiable RX10 15, Cond.initialized RX10, Cond.classLink RL 10 RX11, Cond.instantiable RX11 47, Cond.initialized RX11, Cond.methodLink RL 9 yX10_init, Cond.instanceMethod yX10_init, Cond.code yX10_init cX10_init 1 none, Cond.methodLink RX10 1 objectInit, Cond.instanceMethod objectInit, Cond.code objectInit ⟨#[0xb1]⟩ 1 none, Cond.classLink RX10 7 RX4, Cond.instantiable RX4 7, Cond.initialized RX4, Cond.fieldLink RX10 10 "LuteFingers" "lute" "LLuteFingers$Lute;", Cond.classLink RX10 16 RX5, Cond.instantiable RX5 7, Cond.initialized RX5, Cond.fieldLink RX10 19 "LuteFingers" "piece" "LLuteFingers$Piece;", Cond.classLink RX10 23 RX6, Cond.instantiable RX6 2, Cond.initialized RX6, Cond.fieldLink RX10 26 "LuteFingers" "signs" "LLuteFingers$Tape;", Cond.classLink RX10 30 RX3, Cond.instantiable RX3 12, Cond.initialized RX3, Cond.fieldLink RX10 35 "LuteFingers" "gripSearch" "LLuteFingers$GripSearch;", Cond.classLink RX10 39 RX2, Cond.instantiable RX2 4]
def wA_1 : List Cond := [Cond.initialized RX2, Cond.fieldLink RX10 44 "LuteFingers" "book" "LLuteFingers$GripBook;", Cond.fieldLink RX10 48 "LuteFingers" "otherBook" "LLuteFingers$GripBook;", Cond.classLink RX10 51 RX9, Cond.instantiable RX9 8, Cond.initialized RX9, Cond.fieldLink RX10 54 "LuteFingers" "waySearch" "LLuteFingers$WaySearch;", Cond.classLink RX10 58 RX8, Cond.instantiable RX8 5, Cond.initialized RX8, Cond.fieldLink RX10 61 "LuteFingers" "ways" "LLuteFingers$WayList;", Cond.arrayClass .int, Cond.fieldLink RX10 65 "LuteFingers" "row" "[I", Cond.fieldLink RX10 69 "LuteFingers" "rowSize" "I", Cond.fieldLink RX10 73 "LuteFingers" "arranger" "LLuteFingers$Arranger;", Cond.fieldLink RX10 77 "LuteFingers" "readPiece" "LLuteFingers$Piece;", Cond.fieldLink RX10 80 "LuteFingers" "arranged" "Z", Cond.fieldLink RX10 84 "LuteFingers" "leftPrice" "I", Cond.fieldLink RX10 87 "LuteFingers" "restCost" "I", Cond.instanceMethod yX4_init, Cond.code yX4_init cX4_init 1 none, Cond.methodLink RX4 3 objectInit, Cond.fieldLink RX4 9 "LuteFingers$Lute" "courses" "I", Cond.fieldLink RX4 15 "LuteFingers$Lute" "barsMay" "Z", Cond.fieldLink RX4 19 "LuteFingers$Lute" "tunes" "[I", Cond.fieldLink RX4 23 "LuteFingers$Lute" "frets" "[I", Cond.fieldLink RX4 26 "LuteFingers$Lute" "slacks" "[I", Cond.fieldLink RX4 29 "LuteFingers$Lute" "weights" "[I", Cond.fieldLink RX4 32 "LuteFingers$Lute" "tunings" "[I", Cond.methodLink RX4 35 yJ7_fill_53178]
def wA_2 : List Cond := [Cond.static yJ7_fill_53178, Cond.initialized RJ7, Cond.code yJ7_fill_53178 cJ7_fill_53178 4 none, Cond.instanceMethod yX5_init, Cond.code yX5_init cX5_init 1 none, Cond.methodLink RX5 3 objectInit, Cond.fieldLink RX5 9 "LuteFingers$Piece" "ticks" "I", Cond.fieldLink RX5 15 "LuteFingers$Piece" "sizes" "[I", Cond.fieldLink RX5 19 "LuteFingers$Piece" "pitches" "[I", Cond.fieldLink RX5 22 "LuteFingers$Piece" "kinds" "[I", Cond.fieldLink RX5 25 "LuteFingers$Piece" "prices" "[I", Cond.fieldLink RX5 28 "LuteFingers$Piece" "fores" "[I", Cond.fieldLink RX5 31 "LuteFingers$Piece" "fixed" "[I", Cond.instanceMethod yX6_init, Cond.code yX6_init cX6_init 1 none, Cond.methodLink RX6 3 objectInit, Cond.fieldLink RX6 9 "LuteFingers$Tape" "bytes" "[I", Cond.fieldLink RX6 15 "LuteFingers$Tape" "length" "I", Cond.instanceMethod yX3_init, Cond.code yX3_init cX3_init 3 none, Cond.methodLink RX3 3 objectInit, Cond.fieldLink RX3 9 "LuteFingers$GripSearch" "courses" "[I", Cond.fieldLink RX3 15 "LuteFingers$GripSearch" "frets" "[I", Cond.fieldLink RX3 18 "LuteFingers$GripSearch" "choices" "[I", Cond.fieldLink RX3 21 "LuteFingers$GripSearch" "notes" "I", Cond.fieldLink RX3 25 "LuteFingers$GripSearch" "set" "I", Cond.fieldLink RX3 28 "LuteFingers$GripSearch" "place" "I", Cond.fieldLink RX3 31 "LuteFingers$GripSearch" "most" "I", Cond.fieldLink RX3 34 "LuteFingers$GripSearch" "found" "I", Cond.fieldLink RX3 37 "LuteFingers$GripSearch" "from" "I"]
def wA_3 : List Cond := [Cond.fieldLink RX3 40 "LuteFingers$GripSearch" "out" "[J", Cond.fieldLink RX3 44 "LuteFingers$GripSearch" "lute" "LLuteFingers$Lute;", Cond.fieldLink RX3 48 "LuteFingers$GripSearch" "piece" "LLuteFingers$Piece;", Cond.instanceMethod yX2_init, Cond.code yX2_init cX2_init 3 none, Cond.methodLink RX2 3 objectInit, Cond.arrayClass .long, Cond.fieldLink RX2 9 "LuteFingers$GripBook" "rows" "[J", Cond.fieldLink RX2 15 "LuteFingers$GripBook" "sizes" "[I", Cond.fieldLink RX2 19 "LuteFingers$GripBook" "piece" "LLuteFingers$Piece;", Cond.fieldLink RX2 23 "LuteFingers$GripBook" "search" "LLuteFingers$GripSearch;", Cond.methodLink RX2 27 yJ7_fill_53178, Cond.instanceMethod yX9_init, Cond.code yX9_init cX9_init 3 none, Cond.methodLink RX9 5 objectInit, Cond.fieldLink RX9 11 "LuteFingers$WaySearch" "book" "LLuteFingers$GripBook;", Cond.fieldLink RX9 15 "LuteFingers$WaySearch" "followers" "[I", Cond.fieldLink RX9 19 "LuteFingers$WaySearch" "alive" "[I", Cond.fieldLink RX9 22 "LuteFingers$WaySearch" "places" "[I", Cond.fieldLink RX9 25 "LuteFingers$WaySearch" "table" "[I", Cond.fieldLink RX9 28 "LuteFingers$WaySearch" "depth" "I", Cond.fieldLink RX9 32 "LuteFingers$WaySearch" "lute" "LLuteFingers$Lute;", Cond.fieldLink RX9 36 "LuteFingers$WaySearch" "piece" "LLuteFingers$Piece;", Cond.instanceMethod yX8_init, Cond.code yX8_init cX8_init 1 none, Cond.methodLink RX8 3 objectInit, Cond.fieldLink RX8 9 "LuteFingers$WayList" "numbers" "[I", Cond.fieldLink RX8 15 "LuteFingers$WayList" "costs" "[I", Cond.fieldLink RX8 18 "LuteFingers$WayList" "known" "I", Cond.fieldLink RX8 22 "LuteFingers$WayList" "which" "I"]
def wA_4 : List Cond := [Cond.fieldLink RX8 25 "LuteFingers$WayList" "complete" "Z", Cond.methodLink RL 12 yX11_init, Cond.instanceMethod yX11_init, Cond.code yX11_init cX11_init 1 none, Cond.methodLink RX11 1 objectInit, Cond.fieldLink RX11 7 "LuteFingersModel" "courses" "I", Cond.fieldLink RX11 13 "LuteFingersModel" "bars" "I", Cond.fieldLink RX11 16 "LuteFingersModel" "tune" "[I", Cond.fieldLink RX11 20 "LuteFingersModel" "frets" "[I", Cond.fieldLink RX11 23 "LuteFingersModel" "slack" "[I", Cond.fieldLink RX11 26 "LuteFingersModel" "weight" "[I", Cond.fieldLink RX11 29 "LuteFingersModel" "tuning" "[I", Cond.fieldLink RX11 32 "LuteFingersModel" "ticks" "I", Cond.fieldLink RX11 35 "LuteFingersModel" "nextMany" "I", Cond.fieldLink RX11 38 "LuteFingersModel" "many" "[I", Cond.fieldLink RX11 41 "LuteFingersModel" "pitch" "[I", Cond.fieldLink RX11 44 "LuteFingersModel" "kind" "[I", Cond.fieldLink RX11 47 "LuteFingersModel" "price" "[I", Cond.fieldLink RX11 50 "LuteFingersModel" "fixed" "[I", Cond.fieldLink RX11 53 "LuteFingersModel" "hasWay" "Z", Cond.fieldLink RX11 57 "LuteFingersModel" "isArranged" "Z", Cond.fieldLink RX11 60 "LuteFingersModel" "found" "[I", Cond.fieldLink RX11 63 "LuteFingersModel" "place" "[I", Cond.fieldLink RX11 66 "LuteFingersModel" "cost" "[I", Cond.fieldLink RX11 69 "LuteFingersModel" "hasBar" "[I", Cond.constant RX11 72 (32768), Cond.fieldLink RX11 73 "LuteFingersModel" "onCourse" "[I", Cond.fieldLink RX11 76 "LuteFingersModel" "byFinger" "[I", Cond.fieldLink RX11 79 "LuteFingersModel" "pick" "[I", Cond.fieldLink RX11 82 "LuteFingersModel" "leave" "[I"]
def wA_5 : List Cond := [Cond.fieldLink RX11 85 "LuteFingersModel" "kept" "[I", Cond.constant RX11 88 (53248), Cond.fieldLink RX11 89 "LuteFingersModel" "onCost" "[I", Cond.fieldLink RX11 92 "LuteFingersModel" "onGrip" "[I", Cond.fieldLink RX11 95 "LuteFingersModel" "onRank" "[I", Cond.fieldLink RX11 98 "LuteFingersModel" "taken" "[I", Cond.fieldLink RX11 101 "LuteFingersModel" "chosen" "[I", Cond.fieldLink RX11 104 "LuteFingersModel" "chosenCost" "I", Cond.arrayClass .boolean, Cond.fieldLink RX11 107 "LuteFingersModel" "isReached" "[Z", Cond.fieldLink RX11 111 "LuteFingersModel" "way" "[I", Cond.fieldLink RX11 114 "LuteFingersModel" "wayNumber" "I", Cond.fieldLink RX11 117 "LuteFingersModel" "wayCost" "I", Cond.fieldLink RX11 120 "LuteFingersModel" "row" "[I", Cond.fieldLink RX11 123 "LuteFingersModel" "rowed" "I", Cond.fieldLink RX11 126 "LuteFingersModel" "leftCost" "[I", Cond.fieldLink RX11 129 "LuteFingersModel" "left" "[I", Cond.fieldLink RX11 132 "LuteFingersModel" "restCost" "I", Cond.fieldLink RX11 135 "LuteFingersModel" "tuneWas" "[I", Cond.fieldLink RX11 138 "LuteFingersModel" "tape" "[I", Cond.fieldLink RX11 141 "LuteFingersModel" "taped" "I", Cond.fieldLink RX11 144 "LuteFingersModel" "readCourse" "[I", Cond.fieldLink RX11 147 "LuteFingersModel" "readFret" "[I", Cond.fieldLink RX11 150 "LuteFingersModel" "readMany" "[I", Cond.fieldLink RX11 153 "LuteFingersModel" "reads" "I", Cond.methodLink RL 13 yX10_course, Cond.instanceMethod yX10_course, Cond.selects RX10 yX10_course yX10_course, Cond.code yX10_course cX10_course 3 (some .int), Cond.methodLink RX10 90 yX10_within]
def wA_6 : List Cond := [Cond.static yX10_within, Cond.code yX10_within cX10_within 2 (some .boolean), Cond.methodLink RX10 100 yX10_instrumentChanged, Cond.instanceMethod yX10_instrumentChanged, Cond.selects RX10 yX10_instrumentChanged yX10_instrumentChanged, Cond.code yX10_instrumentChanged cX10_instrumentChanged 1 none, Cond.methodLink RX10 143 yX10_forgetAnswers, Cond.instanceMethod yX10_forgetAnswers, Cond.selects RX10 yX10_forgetAnswers yX10_forgetAnswers, Cond.code yX10_forgetAnswers cX10_forgetAnswers 1 none, Cond.instanceMethod yX8_drop, Cond.selects RX8 yX8_drop yX8_drop, Cond.code yX8_drop cX8_drop 1 none, Cond.instanceMethod yX2_forgetAll, Cond.selects RX2 yX2_forgetAll yX2_forgetAll, Cond.code yX2_forgetAll cX2_forgetAll 1 none, Cond.instanceMethod yX4_addCourse, Cond.selects RX4 yX4_addCourse yX4_addCourse, Cond.code yX4_addCourse cX4_addCourse 5 (some .int), Cond.methodLink RL 17 yX11_course, Cond.instanceMethod yX11_course, Cond.selects RX11 yX11_course yX11_course, Cond.code yX11_course cX11_course 4 (some .int), Cond.methodLink RX11 156 yX11_in, Cond.instanceMethod yX11_in, Cond.selects RX11 yX11_in yX11_in, Cond.code yX11_in cX11_in 4 (some .boolean), Cond.methodLink RX11 164 yX11_forget, Cond.instanceMethod yX11_forget, Cond.selects RX11 yX11_forget yX11_forget]
def wA_7 : List Cond := [Cond.code yX11_forget cX11_forget 1 none, Cond.methodLink RL 18 yX10_tune, Cond.instanceMethod yX10_tune, Cond.selects RX10 yX10_tune yX10_tune, Cond.code yX10_tune cX10_tune 3 (some .int), Cond.instanceMethod yX4_hasCourse, Cond.selects RX4 yX4_hasCourse yX4_hasCourse, Cond.code yX4_hasCourse cX4_hasCourse 2 (some .boolean), Cond.methodLink RX10 114 yX10_exchange, Cond.static yX10_exchange, Cond.code yX10_exchange cX10_exchange 4 (some .int), Cond.methodLink RL 21 yX11_tune, Cond.instanceMethod yX11_tune, Cond.selects RX11 yX11_tune yX11_tune, Cond.code yX11_tune cX11_tune 4 (some .int), Cond.methodLink RX11 167 yX11_isCourse, Cond.instanceMethod yX11_isCourse, Cond.selects RX11 yX11_isCourse yX11_isCourse, Cond.code yX11_isCourse cX11_isCourse 2 (some .boolean), Cond.methodLink RL 22 yX10_slack, Cond.instanceMethod yX10_slack, Cond.selects RX10 yX10_slack yX10_slack, Cond.code yX10_slack cX10_slack 3 (some .int), Cond.methodLink RL 25 yX11_slack, Cond.instanceMethod yX11_slack, Cond.selects RX11 yX11_slack yX11_slack, Cond.code yX11_slack cX11_slack 4 (some .int), Cond.methodLink RL 26 yX10_bars, Cond.instanceMethod yX10_bars, Cond.selects RX10 yX10_bars yX10_bars]
def wA_8 : List Cond := [Cond.code yX10_bars cX10_bars 3 (some .int), Cond.methodLink RL 30 yX11_bars, Cond.instanceMethod yX11_bars, Cond.selects RX11 yX11_bars yX11_bars, Cond.code yX11_bars cX11_bars 3 (some .int), Cond.methodLink RL 31 yX10_weight, Cond.instanceMethod yX10_weight, Cond.selects RX10 yX10_weight yX10_weight, Cond.code yX10_weight cX10_weight 3 (some .int), Cond.methodLink RL 34 yX11_weight, Cond.instanceMethod yX11_weight, Cond.selects RX11 yX11_weight yX11_weight, Cond.code yX11_weight cX11_weight 4 (some .int), Cond.methodLink RL 35 yX10_note, Cond.instanceMethod yX10_note, Cond.selects RX10 yX10_note yX10_note, Cond.code yX10_note cX10_note 5 (some .int), Cond.instanceMethod yX5_noteOfPitch, Cond.selects RX5 yX5_noteOfPitch yX5_noteOfPitch, Cond.code yX5_noteOfPitch cX5_noteOfPitch 4 (some .int), Cond.instanceMethod yX5_foreOf, Cond.selects RX5 yX5_foreOf yX5_foreOf, Cond.code yX5_foreOf cX5_foreOf 3 (some .int), Cond.methodLink RX5 38 yX5_isTied, Cond.static yX5_isTied, Cond.code yX5_isTied cX5_isTied 1 (some .boolean), Cond.methodLink RX5 41 yX5_noteOfPitch, Cond.instanceMethod yX5_addNote, Cond.selects RX5 yX5_addNote yX5_addNote, Cond.code yX5_addNote cX5_addNote 8 (some .int)]
def wA_9 : List Cond := [Cond.methodLink RL 39 yX11_note, Cond.instanceMethod yX11_note, Cond.selects RX11 yX11_note yX11_note, Cond.code yX11_note cX11_note 5 (some .int), Cond.methodLink RX11 170 yX11_spot, Cond.instanceMethod yX11_spot, Cond.selects RX11 yX11_spot yX11_spot, Cond.code yX11_spot cX11_spot 3 (some .int), Cond.methodLink RX11 174 yX11_noteOf, Cond.instanceMethod yX11_noteOf, Cond.selects RX11 yX11_noteOf yX11_noteOf, Cond.code yX11_noteOf cX11_noteOf 4 (some .int), Cond.methodLink RL 40 yX10_tick, Cond.instanceMethod yX10_tick, Cond.selects RX10 yX10_tick yX10_tick, Cond.code yX10_tick cX10_tick 2 (some .int), Cond.instanceMethod yX5_closeTick, Cond.selects RX5 yX5_closeTick yX5_closeTick, Cond.code yX5_closeTick cX5_closeTick 2 (some .int), Cond.instanceMethod yX2_forget, Cond.selects RX2 yX2_forget yX2_forget, Cond.code yX2_forget cX2_forget 2 none, Cond.methodLink RL 44 yX11_tick, Cond.instanceMethod yX11_tick, Cond.selects RX11 yX11_tick yX11_tick, Cond.code yX11_tick cX11_tick 1 (some .int), Cond.methodLink RL 45 yX10_clear, Cond.instanceMethod yX10_clear, Cond.selects RX10 yX10_clear yX10_clear, Cond.code yX10_clear cX10_clear 2 (some .int)]
def wA_10 : List Cond := [Cond.instanceMethod yX5_removeAll, Cond.selects RX5 yX5_removeAll yX5_removeAll, Cond.code yX5_removeAll cX5_removeAll 1 none, Cond.methodLink RL 48 yX11_clear, Cond.instanceMethod yX11_clear, Cond.selects RX11 yX11_clear yX11_clear, Cond.code yX11_clear cX11_clear 2 (some .int), Cond.methodLink RL 49 yX10_fix, Cond.instanceMethod yX10_fix, Cond.selects RX10 yX10_fix yX10_fix, Cond.code yX10_fix cX10_fix 4 (some .int), Cond.instanceMethod yX5_hasNote, Cond.selects RX5 yX5_hasNote yX5_hasNote, Cond.code yX5_hasNote cX5_hasNote 3 (some .boolean), Cond.methodLink RX5 34 yX5_hasTick, Cond.instanceMethod yX5_hasTick, Cond.selects RX5 yX5_hasTick yX5_hasTick, Cond.code yX5_hasTick cX5_hasTick 2 (some .boolean), Cond.methodLink RL 52 yX11_fix, Cond.instanceMethod yX11_fix, Cond.selects RX11 yX11_fix yX11_fix, Cond.code yX11_fix cX11_fix 5 (some .int), Cond.methodLink RX11 177 yX11_isNote, Cond.instanceMethod yX11_isNote, Cond.selects RX11 yX11_isNote yX11_isNote, Cond.code yX11_isNote cX11_isNote 3 (some .boolean), Cond.methodLink RX11 160 yX11_isTick, Cond.instanceMethod yX11_isTick, Cond.selects RX11 yX11_isTick yX11_isTick, Cond.code yX11_isTick cX11_isTick 2 (some .boolean)]
def wA_11 : List Cond := [Cond.methodLink RL 53 yX10_told, Cond.instanceMethod yX10_told, Cond.selects RX10 yX10_told yX10_told, Cond.code yX10_told cX10_told 5 (some .int), Cond.methodLink RL 56 yX11_told, Cond.instanceMethod yX11_told, Cond.selects RX11 yX11_told yX11_told, Cond.code yX11_told cX11_told 4 (some .int), Cond.methodLink RX11 181 yX11_fore, Cond.instanceMethod yX11_fore, Cond.selects RX11 yX11_fore yX11_fore, Cond.code yX11_fore cX11_fore 4 (some .int), Cond.methodLink RL 57 yX10_grips, Cond.instanceMethod yX10_grips, Cond.selects RX10 yX10_grips yX10_grips, Cond.code yX10_grips cX10_grips 2 (some .int), Cond.instanceMethod yX2_keep, Cond.selects RX2 yX2_keep yX2_keep, Cond.code yX2_keep cX2_keep 2 none, Cond.instanceMethod yX5_allNotes, Cond.selects RX5 yX5_allNotes yX5_allNotes, Cond.code yX5_allNotes cX5_allNotes 2 (some .int), Cond.methodLink RX2 44 yX2_list, Cond.instanceMethod yX2_list, Cond.selects RX2 yX2_list yX2_list, Cond.code yX2_list cX2_list 3 none, Cond.instanceMethod yX3_search, Cond.selects RX3 yX3_search yX3_search, Cond.code yX3_search cX3_search 8 (some .int), Cond.methodLink RX3 57 yX3_isIn]
def wA_12 : List Cond := [Cond.instanceMethod yX3_isIn, Cond.selects RX3 yX3_isIn yX3_isIn, Cond.code yX3_isIn cX3_isIn 2 (some .boolean), Cond.methodLink RX3 61 yX3_gatherChoices, Cond.instanceMethod yX3_gatherChoices, Cond.selects RX3 yX3_gatherChoices yX3_gatherChoices, Cond.code yX3_gatherChoices cX3_gatherChoices 7 (some .int), Cond.instanceMethod yX4_fretFor, Cond.selects RX4 yX4_fretFor yX4_fretFor, Cond.code yX4_fretFor cX4_fretFor 4 (some .int), Cond.instanceMethod yX4_placesFor, Cond.selects RX4 yX4_placesFor yX4_placesFor, Cond.code yX4_placesFor cX4_placesFor 6 (some .int), Cond.methodLink RX3 65 yX3_layNote, Cond.instanceMethod yX3_layNote, Cond.selects RX3 yX3_layNote yX3_layNote, Cond.code yX3_layNote cX3_layNote 7 none, Cond.methodLink RX3 89 yX3_takeGrip, Cond.instanceMethod yX3_takeGrip, Cond.selects RX3 yX3_takeGrip yX3_takeGrip, Cond.code yX3_takeGrip cX3_takeGrip 9 none, Cond.methodLink RX3 129 Lib.Math.min.name, Cond.static Lib.Math.min.name, Cond.initialized "java/lang/Math", Cond.code Lib.Math.min.name Lib.Math.min.code 2 (some .int), Cond.methodLink RX3 134 Lib.Math.max.name, Cond.static Lib.Math.max.name, Cond.code Lib.Math.max.name Lib.Math.max.code 2 (some .int), Cond.static yX1_finger, Cond.initialized RX1]
def wA_13 : List Cond := [Cond.code yX1_finger cX1_finger 3 (some .int), Cond.constantLong RX1 11 (7), Cond.static yX1_fret, Cond.code yX1_fret cX1_fret 3 (some .int), Cond.constantLong RX1 13 (15), Cond.methodLink RX3 140 yJ6_bitCount_0f7a4, Cond.static yJ6_bitCount_0f7a4, Cond.initialized RJ6, Cond.code yJ6_bitCount_0f7a4 cJ6_bitCount_0f7a4 1 (some .int), Cond.constant RJ6 265 (1431655765), Cond.constant RJ6 266 (858993459), Cond.constant RJ6 267 (252645135), Cond.static yX1_wholeOf, Cond.code yX1_wholeOf cX1_wholeOf 3 (some .long), Cond.methodLink RX3 93 yX3_layOn, Cond.instanceMethod yX3_layOn, Cond.selects RX3 yX3_layOn yX3_layOn, Cond.code yX3_layOn cX3_layOn 9 none, Cond.static yX1_partOf, Cond.code yX1_partOf cX1_partOf 6 (some .long), Cond.instanceMethod yX4_reaches, Cond.selects RX4 yX4_reaches yX4_reaches, Cond.code yX4_reaches cX4_reaches 4 (some .boolean), Cond.methodLink RX3 107 yX3_agrees, Cond.instanceMethod yX3_agrees, Cond.selects RX3 yX3_agrees yX3_agrees, Cond.code yX3_agrees cX3_agrees 12 (some .boolean), Cond.static yX1_courseAt, Cond.code yX1_courseAt cX1_courseAt 3 (some .int), Cond.methodLink RX3 125 yX3_inOrder]
def wA_14 : List Cond := [Cond.static yX3_inOrder, Cond.code yX3_inOrder cX3_inOrder 4 (some .boolean), Cond.instanceMethod yX2_isSpent, Cond.selects RX2 yX2_isSpent yX2_isSpent, Cond.code yX2_isSpent cX2_isSpent 2 (some .boolean), Cond.instanceMethod yX2_size, Cond.selects RX2 yX2_size yX2_size, Cond.code yX2_size cX2_size 2 (some .int), Cond.methodLink RX2 56 Lib.Math.max.name, Cond.methodLink RX2 52 yX2_isSpent, Cond.methodLink RL 60 yX11_grips, Cond.instanceMethod yX11_grips, Cond.selects RX11 yX11_grips yX11_grips, Cond.code yX11_grips cX11_grips 2 (some .int), Cond.methodLink RX11 214 yX11_findGrips, Cond.instanceMethod yX11_findGrips, Cond.selects RX11 yX11_findGrips yX11_findGrips, Cond.code yX11_findGrips cX11_findGrips 4 none, Cond.methodLink RX11 195 yX11_walk, Cond.instanceMethod yX11_walk, Cond.selects RX11 yX11_walk yX11_walk, Cond.code yX11_walk cX11_walk 6 none, Cond.methodLink RX11 199 yX11_step, Cond.instanceMethod yX11_step, Cond.selects RX11 yX11_step yX11_step, Cond.code yX11_step cX11_step 5 (some .int), Cond.methodLink RX11 202 yX11_keep, Cond.instanceMethod yX11_keep, Cond.selects RX11 yX11_keep yX11_keep, Cond.code yX11_keep cX11_keep 14 none]
def wA_15 : List Cond := [Cond.methodLink RX11 192 yX11_gripAt, Cond.instanceMethod yX11_gripAt, Cond.selects RX11 yX11_gripAt yX11_gripAt, Cond.code yX11_gripAt cX11_gripAt 4 (some .int), Cond.methodLink RX11 184 yX11_fret, Cond.instanceMethod yX11_fret, Cond.selects RX11 yX11_fret yX11_fret, Cond.code yX11_fret cX11_fret 4 (some .int), Cond.methodLink RX11 205 yX11_mayBe, Cond.instanceMethod yX11_mayBe, Cond.selects RX11 yX11_mayBe yX11_mayBe, Cond.code yX11_mayBe cX11_mayBe 9 (some .boolean), Cond.methodLink RX11 188 yX11_goWith, Cond.instanceMethod yX11_goWith, Cond.selects RX11 yX11_goWith yX11_goWith, Cond.code yX11_goWith cX11_goWith 11 (some .boolean), Cond.methodLink RX11 208 yX11_usesFinger, Cond.instanceMethod yX11_usesFinger, Cond.selects RX11 yX11_usesFinger yX11_usesFinger, Cond.code yX11_usesFinger cX11_usesFinger 5 (some .boolean), Cond.methodLink RX11 211 yX11_isSpent, Cond.instanceMethod yX11_isSpent, Cond.selects RX11 yX11_isSpent yX11_isSpent, Cond.code yX11_isSpent cX11_isSpent 3 (some .boolean), Cond.methodLink RL 61 yX10_grip, Cond.instanceMethod yX10_grip, Cond.selects RX10 yX10_grip yX10_grip, Cond.code yX10_grip cX10_grip 7 (some .int), Cond.instanceMethod yX2_get, Cond.selects RX2 yX2_get yX2_get]
def wA_16 : List Cond := [Cond.code yX2_get cX2_get 3 (some .long), Cond.static yX1_ofAll, Cond.code yX1_ofAll cX1_ofAll 3 (some .int), Cond.methodLink RX1 25 yX1_place, Cond.static yX1_place, Cond.code yX1_place cX1_place 2 (some .int), Cond.methodLink RX1 29 yX1_cost, Cond.static yX1_cost, Cond.code yX1_cost cX1_cost 2 (some .int), Cond.methodLink RX1 32 yX1_bar, Cond.static yX1_bar, Cond.code yX1_bar cX1_bar 2 (some .int), Cond.static yX1_ofNote, Cond.code yX1_ofNote cX1_ofNote 4 (some .int), Cond.methodLink RX1 15 yX1_courseAt, Cond.methodLink RX1 19 yX1_fret, Cond.methodLink RX1 22 yX1_finger, Cond.methodLink RL 65 yX11_grip, Cond.instanceMethod yX11_grip, Cond.selects RX11 yX11_grip yX11_grip, Cond.code yX11_grip cX11_grip 7 (some .int), Cond.methodLink RX11 218 yX11_count, Cond.instanceMethod yX11_count, Cond.selects RX11 yX11_count yX11_count, Cond.code yX11_count cX11_count 3 (some .int), Cond.methodLink RL 66 yX10_why, Cond.instanceMethod yX10_why, Cond.selects RX10 yX10_why yX10_why, Cond.code yX10_why cX10_why 7 (some .int), Cond.fieldLink RX10 211 "LuteFingers" "SETS" "[I"]
def wA_17 : List Cond := [Cond.methodLink RX10 208 yX10_hasGrip, Cond.instanceMethod yX10_hasGrip, Cond.selects RX10 yX10_hasGrip yX10_hasGrip, Cond.code yX10_hasGrip cX10_hasGrip 3 (some .boolean), Cond.methodLink RL 69 yX11_why, Cond.instanceMethod yX11_why, Cond.selects RX11 yX11_why yX11_why, Cond.code yX11_why cX11_why 5 (some .int), Cond.methodLink RX11 221 yX11_bits, Cond.instanceMethod yX11_bits, Cond.selects RX11 yX11_bits yX11_bits, Cond.code yX11_bits cX11_bits 2 (some .int), Cond.methodLink RL 70 yX10_way, Cond.instanceMethod yX10_way, Cond.selects RX10 yX10_way yX10_way, Cond.code yX10_way cX10_way 2 (some .int), Cond.instanceMethod yX8_atHand, Cond.selects RX8 yX8_atHand yX8_atHand, Cond.code yX8_atHand cX8_atHand 1 (some .boolean), Cond.instanceMethod yX2_keepAll, Cond.selects RX2 yX2_keepAll yX2_keepAll, Cond.code yX2_keepAll cX2_keepAll 2 none, Cond.instanceMethod yX9_lookThrough, Cond.selects RX9 yX9_lookThrough yX9_lookThrough, Cond.code yX9_lookThrough cX9_lookThrough 3 (some .int), Cond.methodLink RX9 45 yX9_allGrips, Cond.instanceMethod yX9_allGrips, Cond.selects RX9 yX9_allGrips yX9_allGrips, Cond.code yX9_allGrips cX9_allGrips 3 (some .int), Cond.methodLink RX9 49 yX9_joinTicks]
def wA_18 : List Cond := [Cond.instanceMethod yX9_joinTicks, Cond.selects RX9 yX9_joinTicks yX9_joinTicks, Cond.code yX9_joinTicks cX9_joinTicks 12 (some .int), Cond.methodLink RX9 60 yJ7_fill_fda19, Cond.static yJ7_fill_fda19, Cond.code yJ7_fill_fda19 cJ7_fill_fda19 5 none, Cond.methodLink RJ7 13 yJ7_rangeCheck_23922, Cond.static yJ7_rangeCheck_23922, Cond.code yJ7_rangeCheck_23922 cJ7_rangeCheck_23922 3 none, Cond.instanceMethod yX5_tieMask, Cond.selects RX5 yX5_tieMask yX5_tieMask, Cond.code yX5_tieMask cX5_tieMask 8 (some .long), Cond.static yX1_hasNote, Cond.code yX1_hasNote cX1_hasNote 3 (some .boolean), Cond.methodLink RX5 57 yX5_lookedAt, Cond.static yX5_lookedAt, Cond.code yX5_lookedAt cX5_lookedAt 1 (some .long), Cond.constantLong RX5 63 (63), Cond.constantLong RX5 65 (7), Cond.instanceMethod yX5_tieBits, Cond.selects RX5 yX5_tieBits yX5_tieBits, Cond.code yX5_tieBits cX5_tieBits 15 (some .long), Cond.constantLong RX5 61 (-1), Cond.methodLink RX9 77 yX9_isAlive, Cond.instanceMethod yX9_isAlive, Cond.selects RX9 yX9_isAlive yX9_isAlive, Cond.code yX9_isAlive cX9_isAlive 3 (some .boolean), Cond.methodLink RX9 52 yX9_placesBehind, Cond.instanceMethod yX9_placesBehind, Cond.selects RX9 yX9_placesBehind yX9_placesBehind]
def wA_19 : List Cond := [Cond.code yX9_placesBehind cX9_placesBehind 5 (some .int), Cond.methodLink RX10 225 yX10_takeWays, Cond.instanceMethod yX10_takeWays, Cond.selects RX10 yX10_takeWays yX10_takeWays, Cond.code yX10_takeWays cX10_takeWays 3 none, Cond.instanceMethod yX9_findBest, Cond.selects RX9 yX9_findBest yX9_findBest, Cond.code yX9_findBest cX9_findBest 4 (some .int), Cond.methodLink RX9 87 Lib.Math.min.name, Cond.methodLink RX9 93 Lib.Math.max.name, Cond.constant RX9 104 (2147483647), Cond.methodLink RX9 96 yX9_fillTick, Cond.instanceMethod yX9_fillTick, Cond.selects RX9 yX9_fillTick yX9_fillTick, Cond.code yX9_fillTick cX9_fillTick 5 none, Cond.methodLink RX9 113 yX9_fillSlot, Cond.instanceMethod yX9_fillSlot, Cond.selects RX9 yX9_fillSlot yX9_fillSlot, Cond.code yX9_fillSlot cX9_fillSlot 12 none, Cond.methodLink RX9 105 yX9_slot, Cond.instanceMethod yX9_slot, Cond.selects RX9 yX9_slot yX9_slot, Cond.code yX9_slot cX9_slot 5 (some .int), Cond.instanceMethod yX4_stepCost, Cond.selects RX4 yX4_stepCost yX4_stepCost, Cond.code yX4_stepCost cX4_stepCost 10 (some .int), Cond.methodLink RX4 55 Lib.Math.abs.name, Cond.static Lib.Math.abs.name, Cond.code Lib.Math.abs.name Lib.Math.abs.code 1 (some .int), Cond.static yX1_leadCourse]
def wA_20 : List Cond := [Cond.code yX1_leadCourse cX1_leadCourse 4 (some .int), Cond.methodLink RX9 109 yX9_merge, Cond.instanceMethod yX9_merge, Cond.selects RX9 yX9_merge yX9_merge, Cond.code yX9_merge cX9_merge 8 none, Cond.methodLink RX9 126 yX9_insert, Cond.instanceMethod yX9_insert, Cond.selects RX9 yX9_insert yX9_insert, Cond.code yX9_insert cX9_insert 4 (some .boolean), Cond.methodLink RX9 100 yX9_head, Cond.instanceMethod yX9_head, Cond.selects RX9 yX9_head yX9_head, Cond.code yX9_head cX9_head 1 (some .int), Cond.instanceMethod yX9_trace, Cond.selects RX9 yX9_trace yX9_trace, Cond.code yX9_trace cX9_trace 10 (some .int), Cond.methodLink RL 73 yX11_way, Cond.instanceMethod yX11_way, Cond.selects RX11 yX11_way yX11_way, Cond.code yX11_way cX11_way 1 (some .int), Cond.methodLink RX11 245 yX11_fill, Cond.instanceMethod yX11_fill, Cond.selects RX11 yX11_fill yX11_fill, Cond.code yX11_fill cX11_fill 2 none, Cond.methodLink RX11 248 yX11_ways, Cond.instanceMethod yX11_ways, Cond.selects RX11 yX11_ways yX11_ways, Cond.code yX11_ways cX11_ways 5 none, Cond.methodLink RX11 228 yX11_on, Cond.instanceMethod yX11_on]
def wA_21 : List Cond := [Cond.selects RX11 yX11_on yX11_on, Cond.code yX11_on cX11_on 15 none, Cond.methodLink RX11 232 yX11_state, Cond.instanceMethod yX11_state, Cond.selects RX11 yX11_state yX11_state, Cond.code yX11_state cX11_state 4 (some .int), Cond.methodLink RX11 235 yX11_shift, Cond.instanceMethod yX11_shift, Cond.selects RX11 yX11_shift yX11_shift, Cond.code yX11_shift cX11_shift 3 (some .int), Cond.methodLink RX11 238 yX11_goesOn, Cond.instanceMethod yX11_goesOn, Cond.selects RX11 yX11_goesOn yX11_goesOn, Cond.code yX11_goesOn cX11_goesOn 9 (some .boolean), Cond.methodLink RX11 242 yX11_crossing, Cond.instanceMethod yX11_crossing, Cond.selects RX11 yX11_crossing yX11_crossing, Cond.code yX11_crossing cX11_crossing 7 (some .int), Cond.methodLink RX11 225 yX11_firstNote, Cond.instanceMethod yX11_firstNote, Cond.selects RX11 yX11_firstNote yX11_firstNote, Cond.code yX11_firstNote cX11_firstNote 4 (some .int), Cond.methodLink RX11 252 yX11_picks, Cond.instanceMethod yX11_picks, Cond.selects RX11 yX11_picks yX11_picks, Cond.code yX11_picks cX11_picks 9 (some .boolean), Cond.methodLink RX11 255 yX11_breakAt, Cond.instanceMethod yX11_breakAt, Cond.selects RX11 yX11_breakAt yX11_breakAt, Cond.code yX11_breakAt cX11_breakAt 7 (some .int)]
def wA_22 : List Cond := [Cond.methodLink RX11 259 yX11_takeWay, Cond.instanceMethod yX11_takeWay, Cond.selects RX11 yX11_takeWay yX11_takeWay, Cond.code yX11_takeWay cX11_takeWay 3 none, Cond.methodLink RL 74 yX10_next, Cond.instanceMethod yX10_next, Cond.selects RX10 yX10_next yX10_next, Cond.code yX10_next cX10_next 1 (some .int), Cond.methodLink RL 77 yX11_next, Cond.instanceMethod yX11_next, Cond.selects RX11 yX11_next yX11_next, Cond.code yX11_next cX11_next 1 (some .int), Cond.methodLink RL 78 yX10_at, Cond.instanceMethod yX10_at, Cond.selects RX10 yX10_at yX10_at, Cond.code yX10_at cX10_at 2 (some .int), Cond.instanceMethod yX8_start, Cond.selects RX8 yX8_start yX8_start, Cond.code yX8_start cX8_start 1 (some .int), Cond.methodLink RL 81 yX11_at, Cond.instanceMethod yX11_at, Cond.selects RX11 yX11_at yX11_at, Cond.code yX11_at cX11_at 2 (some .int), Cond.methodLink RL 82 yX10_rank, Cond.instanceMethod yX10_rank, Cond.selects RX10 yX10_rank yX10_rank, Cond.code yX10_rank cX10_rank 4 (some .int), Cond.methodLink RX10 250 Lib.Math.max.name, Cond.instanceMethod yX9_costOfSpan, Cond.selects RX9 yX9_costOfSpan yX9_costOfSpan]
def wA_23 : List Cond := [Cond.code yX9_costOfSpan cX9_costOfSpan 13 (some .int), Cond.methodLink RL 85 yX11_rank, Cond.instanceMethod yX11_rank, Cond.selects RX11 yX11_rank yX11_rank, Cond.code yX11_rank cX11_rank 5 (some .int), Cond.methodLink RX11 262 yX11_costOf, Cond.instanceMethod yX11_costOf, Cond.selects RX11 yX11_costOf yX11_costOf, Cond.code yX11_costOf cX11_costOf 8 (some .int), Cond.methodLink RL 86 yX10_say, Cond.instanceMethod yX10_say, Cond.selects RX10 yX10_say yX10_say, Cond.code yX10_say cX10_say 2 (some .int), Cond.methodLink RL 89 yX11_say, Cond.instanceMethod yX11_say, Cond.selects RX11 yX11_say yX11_say, Cond.code yX11_say cX11_say 2 (some .int), Cond.methodLink RL 90 yX10_check, Cond.instanceMethod yX10_check, Cond.selects RX10 yX10_check yX10_check, Cond.code yX10_check cX10_check 3 (some .int), Cond.methodLink RX10 255 yX10_goesOn, Cond.instanceMethod yX10_goesOn, Cond.selects RX10 yX10_goesOn yX10_goesOn, Cond.code yX10_goesOn cX10_goesOn 6 (some .boolean), Cond.methodLink RL 93 yX11_check, Cond.instanceMethod yX11_check, Cond.selects RX11 yX11_check yX11_check, Cond.code yX11_check cX11_check 3 (some .int), Cond.methodLink RL 94 yX10_arrange]
def wA_24 : List Cond := [Cond.instanceMethod yX10_arrange, Cond.selects RX10 yX10_arrange yX10_arrange, Cond.code yX10_arrange cX10_arrange 2 (some .int), Cond.classLink RX10 258 RX0, Cond.instantiable RX0 10, Cond.initialized RX0, Cond.instanceMethod yX0_init, Cond.code yX0_init cX0_init 3 none, Cond.methodLink RX0 3 objectInit, Cond.fieldLink RX0 11 "LuteFingers$Arranger" "rows" "[J", Cond.fieldLink RX0 15 "LuteFingers$Arranger" "sizes" "[I", Cond.fieldLink RX0 19 "LuteFingers$Arranger" "values" "[I", Cond.fieldLink RX0 22 "LuteFingers$Arranger" "askMasks" "[J", Cond.fieldLink RX0 25 "LuteFingers$Arranger" "askBits" "[J", Cond.fieldLink RX0 28 "LuteFingers$Arranger" "askValues" "[I", Cond.fieldLink RX0 31 "LuteFingers$Arranger" "asks" "I", Cond.fieldLink RX0 35 "LuteFingers$Arranger" "leftMasks" "[I", Cond.fieldLink RX0 38 "LuteFingers$Arranger" "piece" "LLuteFingers$Piece;", Cond.fieldLink RX0 42 "LuteFingers$Arranger" "search" "LLuteFingers$GripSearch;", Cond.instanceMethod yX0_listGrips, Cond.selects RX0 yX0_listGrips yX0_listGrips, Cond.code yX0_listGrips cX0_listGrips 4 (some .boolean), Cond.instanceMethod yX0_chooseLeft, Cond.selects RX0 yX0_chooseLeft yX0_chooseLeft, Cond.code yX0_chooseLeft cX0_chooseLeft 2 (some .int), Cond.methodLink RX0 60 yX0_addAsk, Cond.instanceMethod yX0_addAsk, Cond.selects RX0 yX0_addAsk yX0_addAsk, Cond.code yX0_addAsk cX0_addAsk 7 none, Cond.methodLink RX0 77 Lib.Math.min.name]
def wA_25 : List Cond := [Cond.methodLink RX0 64 yX0_valueTick, Cond.instanceMethod yX0_valueTick, Cond.selects RX0 yX0_valueTick yX0_valueTick, Cond.code yX0_valueTick cX0_valueTick 8 none, Cond.constant RX0 90 (2147483647), Cond.methodLink RX0 83 yX0_ownValue, Cond.instanceMethod yX0_ownValue, Cond.selects RX0 yX0_ownValue yX0_ownValue, Cond.code yX0_ownValue cX0_ownValue 5 (some .int), Cond.methodLink RX0 95 yJ6_bitCount_0f7a4, Cond.methodLink RX0 86 yX0_valueBehind, Cond.instanceMethod yX0_valueBehind, Cond.selects RX0 yX0_valueBehind yX0_valueBehind, Cond.code yX0_valueBehind cX0_valueBehind 5 (some .int), Cond.methodLink RX0 68 yX0_collectAsks, Cond.instanceMethod yX0_collectAsks, Cond.selects RX0 yX0_collectAsks yX0_collectAsks, Cond.code yX0_collectAsks cX0_collectAsks 7 none, Cond.constantLong RX0 104 (-1), Cond.methodLink RX0 71 yX0_leastValue, Cond.instanceMethod yX0_leastValue, Cond.selects RX0 yX0_leastValue yX0_leastValue, Cond.code yX0_leastValue cX0_leastValue 6 (some .int), Cond.methodLink RX0 74 yX0_walk, Cond.instanceMethod yX0_walk, Cond.selects RX0 yX0_walk yX0_walk, Cond.code yX0_walk cX0_walk 10 none, Cond.methodLink RX0 109 yX0_gripsWith, Cond.instanceMethod yX0_gripsWith, Cond.selects RX0 yX0_gripsWith yX0_gripsWith]
def wA_26 : List Cond := [Cond.code yX0_gripsWith cX0_gripsWith 8 (some .int), Cond.methodLink RX0 113 yX0_follows, Cond.instanceMethod yX0_follows, Cond.selects RX0 yX0_follows yX0_follows, Cond.code yX0_follows cX0_follows 11 (some .boolean), Cond.methodLink RX10 274 yX10_firstCost, Cond.instanceMethod yX10_firstCost, Cond.selects RX10 yX10_firstCost yX10_firstCost, Cond.code yX10_firstCost cX10_firstCost 2 (some .int), Cond.instanceMethod yX9_headCost, Cond.selects RX9 yX9_headCost yX9_headCost, Cond.code yX9_headCost cX9_headCost 2 (some .int), Cond.methodLink RL 97 yX11_arrange, Cond.instanceMethod yX11_arrange, Cond.selects RX11 yX11_arrange yX11_arrange, Cond.code yX11_arrange cX11_arrange 6 (some .int), Cond.methodLink RX11 269 yX11_least, Cond.instanceMethod yX11_least, Cond.selects RX11 yX11_least yX11_least, Cond.code yX11_least cX11_least 8 (some .int), Cond.methodLink RX11 266 yX11_mayLeave, Cond.instanceMethod yX11_mayLeave, Cond.selects RX11 yX11_mayLeave yX11_mayLeave, Cond.code yX11_mayLeave cX11_mayLeave 6 (some .boolean), Cond.methodLink RX11 272 yX11_own, Cond.instanceMethod yX11_own, Cond.selects RX11 yX11_own yX11_own, Cond.code yX11_own cX11_own 5 (some .int), Cond.methodLink RX11 275 yX11_masks, Cond.instanceMethod yX11_masks]
def wA_27 : List Cond := [Cond.selects RX11 yX11_masks yX11_masks, Cond.code yX11_masks cX11_masks 5 none, Cond.methodLink RX11 278 yX11_better, Cond.instanceMethod yX11_better, Cond.selects RX11 yX11_better yX11_better, Cond.code yX11_better cX11_better 3 (some .int), Cond.methodLink RX11 281 yX11_alive, Cond.instanceMethod yX11_alive, Cond.selects RX11 yX11_alive yX11_alive, Cond.code yX11_alive cX11_alive 9 (some .boolean), Cond.methodLink RL 98 yX10_left, Cond.instanceMethod yX10_left, Cond.selects RX10 yX10_left yX10_left, Cond.code yX10_left cX10_left 2 (some .int), Cond.methodLink RL 101 yX11_left, Cond.instanceMethod yX11_left, Cond.selects RX11 yX11_left yX11_left, Cond.code yX11_left cX11_left 2 (some .int), Cond.methodLink RL 102 yX10_rest, Cond.instanceMethod yX10_rest, Cond.selects RX10 yX10_rest yX10_rest, Cond.code yX10_rest cX10_rest 1 (some .int), Cond.methodLink RL 105 yX11_rest, Cond.instanceMethod yX11_rest, Cond.selects RX11 yX11_rest yX11_rest, Cond.code yX11_rest cX11_rest 1 (some .int), Cond.methodLink RL 106 yX10_tuning, Cond.instanceMethod yX10_tuning, Cond.selects RX10 yX10_tuning yX10_tuning, Cond.code yX10_tuning cX10_tuning 4 (some .int)]
def wA_28 : List Cond := [Cond.methodLink RL 109 yX11_tuning, Cond.instanceMethod yX11_tuning, Cond.selects RX11 yX11_tuning yX11_tuning, Cond.code yX11_tuning cX11_tuning 5 (some .int), Cond.methodLink RL 110 yX10_choose, Cond.instanceMethod yX10_choose, Cond.selects RX10 yX10_choose yX10_choose, Cond.code yX10_choose cX10_choose 5 (some .int), Cond.methodLink RX10 280 yX10_costWithTuning, Cond.instanceMethod yX10_costWithTuning, Cond.selects RX10 yX10_costWithTuning yX10_costWithTuning, Cond.code yX10_costWithTuning cX10_costWithTuning 3 (some .int), Cond.instanceMethod yX4_swapTuning, Cond.selects RX4 yX4_swapTuning yX4_swapTuning, Cond.code yX4_swapTuning cX4_swapTuning 3 none, Cond.methodLink RL 113 yX11_choose, Cond.instanceMethod yX11_choose, Cond.selects RX11 yX11_choose yX11_choose, Cond.code yX11_choose cX11_choose 5 (some .int), Cond.methodLink RL 114 yX10_feed, Cond.instanceMethod yX10_feed, Cond.selects RX10 yX10_feed yX10_feed, Cond.code yX10_feed cX10_feed 2 (some .int), Cond.instanceMethod yX6_append, Cond.selects RX6 yX6_append yX6_append, Cond.code yX6_append cX6_append 2 none, Cond.methodLink RL 117 yX11_feed, Cond.instanceMethod yX11_feed, Cond.selects RX11 yX11_feed yX11_feed, Cond.code yX11_feed cX11_feed 2 (some .int)]
def wA_29 : List Cond := [Cond.methodLink RL 118 yX10_wipe, Cond.instanceMethod yX10_wipe, Cond.selects RX10 yX10_wipe yX10_wipe, Cond.code yX10_wipe cX10_wipe 2 (some .int), Cond.methodLink RL 121 yX11_wipe, Cond.instanceMethod yX11_wipe, Cond.selects RX11 yX11_wipe yX11_wipe, Cond.code yX11_wipe cX11_wipe 2 (some .int), Cond.methodLink RL 122 yX10_tape, Cond.instanceMethod yX10_tape, Cond.selects RX10 yX10_tape yX10_tape, Cond.code yX10_tape cX10_tape 2 (some .int), Cond.methodLink RL 125 yX11_tape, Cond.instanceMethod yX11_tape, Cond.selects RX11 yX11_tape yX11_tape, Cond.code yX11_tape cX11_tape 2 (some .int), Cond.methodLink RL 126 yX10_write, Cond.instanceMethod yX10_write, Cond.selects RX10 yX10_write yX10_write, Cond.code yX10_write cX10_write 2 (some .int), Cond.instanceMethod yX6_appendLine, Cond.selects RX6 yX6_appendLine yX6_appendLine, Cond.code yX6_appendLine cX6_appendLine 6 none, Cond.methodLink RX6 19 yX6_noteOn, Cond.static yX6_noteOn, Cond.code yX6_noteOn cX6_noteOn 4 (some .int), Cond.methodLink RX6 28 yX6_append, Cond.methodLink RL 129 yX11_write, Cond.instanceMethod yX11_write, Cond.selects RX11 yX11_write yX11_write]
def wA_30 : List Cond := [Cond.code yX11_write cX11_write 5 (some .int), Cond.methodLink RX11 284 yX11_noteOn, Cond.instanceMethod yX11_noteOn, Cond.selects RX11 yX11_noteOn yX11_noteOn, Cond.code yX11_noteOn cX11_noteOn 5 (some .int), Cond.methodLink RX11 287 yX11_say_, Cond.instanceMethod yX11_say_, Cond.selects RX11 yX11_say_ yX11_say_, Cond.code yX11_say_ cX11_say_ 3 none, Cond.methodLink RL 130 yX10_read, Cond.instanceMethod yX10_read, Cond.selects RX10 yX10_read yX10_read, Cond.code yX10_read cX10_read 2 (some .int), Cond.classLink RX10 296 RX7, Cond.instantiable RX7 4, Cond.initialized RX7, Cond.instanceMethod yX7_init, Cond.code yX7_init cX7_init 4 none, Cond.methodLink RX7 3 objectInit, Cond.fieldLink RX7 9 "LuteFingers$TapeReader" "place" "I", Cond.fieldLink RX7 15 "LuteFingers$TapeReader" "tape" "LLuteFingers$Tape;", Cond.fieldLink RX7 19 "LuteFingers$TapeReader" "lute" "LLuteFingers$Lute;", Cond.fieldLink RX7 23 "LuteFingers$TapeReader" "piece" "LLuteFingers$Piece;", Cond.instanceMethod yX7_findFault, Cond.selects RX7 yX7_findFault yX7_findFault, Cond.code yX7_findFault cX7_findFault 2 (some .int), Cond.methodLink RX7 37 yX7_readLine, Cond.instanceMethod yX7_readLine, Cond.selects RX7 yX7_readLine yX7_readLine, Cond.code yX7_readLine cX7_readLine 2 (some .boolean)]
def wA_31 : List Cond := [Cond.methodLink RX7 50 yX7_readCourse, Cond.instanceMethod yX7_readCourse, Cond.selects RX7 yX7_readCourse yX7_readCourse, Cond.code yX7_readCourse cX7_readCourse 4 (some .boolean), Cond.methodLink RX7 54 yX7_readByte, Cond.instanceMethod yX7_readByte, Cond.selects RX7 yX7_readByte yX7_readByte, Cond.code yX7_readByte cX7_readByte 2 (some .boolean), Cond.methodLink RX7 70 yX7_here, Cond.instanceMethod yX7_here, Cond.selects RX7 yX7_here yX7_here, Cond.code yX7_here cX7_here 1 (some .int), Cond.methodLink RX7 64 yX7_readFinger, Cond.instanceMethod yX7_readFinger, Cond.selects RX7 yX7_readFinger yX7_readFinger, Cond.code yX7_readFinger cX7_readFinger 4 (some .boolean), Cond.instanceMethod yX5_copyFrom, Cond.selects RX5 yX5_copyFrom yX5_copyFrom, Cond.code yX5_copyFrom cX5_copyFrom 2 none, Cond.methodLink RX5 45 arraycopyName, Cond.native arraycopyName, Cond.static arraycopyName, Cond.initialized "java/lang/System", Cond.methodLink RL 133 yX11_read, Cond.instanceMethod yX11_read, Cond.selects RX11 yX11_read yX11_read, Cond.code yX11_read cX11_read 6 (some .int), Cond.methodLink RX11 291 yX11_line, Cond.instanceMethod yX11_line, Cond.selects RX11 yX11_line yX11_line]
def wA_32 : List Cond := [Cond.code yX11_line cX11_line 8 (some .int), Cond.methodLink RL 134 yX10_count, Cond.instanceMethod yX10_count, Cond.selects RX10 yX10_count yX10_count, Cond.code yX10_count cX10_count 2 (some .int), Cond.instanceMethod yX5_notesOfTicks, Cond.selects RX5 yX5_notesOfTicks yX5_notesOfTicks, Cond.code yX5_notesOfTicks cX5_notesOfTicks 3 (some .int), Cond.methodLink RL 137 yX11_count_, Cond.instanceMethod yX11_count_, Cond.selects RX11 yX11_count_ yX11_count_, Cond.code yX11_count_ cX11_count_ 4 (some .int)]
def wsL_law : List Cond := wA_0 ++ (wA_1 ++ (wA_2 ++ (wA_3 ++ (wA_4 ++ (wA_5 ++ (wA_6 ++ (wA_7 ++ (wA_8 ++ (wA_9 ++ (wA_10 ++ (wA_11 ++ (wA_12 ++ (wA_13 ++ (wA_14 ++ (wA_15 ++ (wA_16 ++ (wA_17 ++ (wA_18 ++ (wA_19 ++ (wA_20 ++ (wA_21 ++ (wA_22 ++ (wA_23 ++ (wA_24 ++ (wA_25 ++ (wA_26 ++ (wA_27 ++ (wA_28 ++ (wA_29 ++ (wA_30 ++ (wA_31 ++ (wA_32 ++ (wsX100 ++ (wsX110 ++ (wsX40 ++ (wsX50 ++ (wsX60 ++ (wsX30 ++ (wsX20 ++ (wsX90 ++ (wsX80 ++ (wsX00 ++ (wsX70)))))))))))))))))))))))))))))))))))))))))))
theorem wi_0 {w : Cond} (h : w ∈ wA_0) : w ∈ wsL_law := (List.mem_append_left _ h)
theorem wi_1 {w : Cond} (h : w ∈ wA_1) : w ∈ wsL_law := (List.mem_append_right _ (List.mem_append_left _ h))
theorem wi_2 {w : Cond} (h : w ∈ wA_2) : w ∈ wsL_law := (List.mem_append_right _ (List.mem_append_right _ (List.mem_append_left _ h)))
theorem wi_3 {w : Cond} (h : w ∈ wA_3) : w ∈ wsL_law := (List.mem_append_right _ (List.mem_append_right _ (List.mem_append_right _ (List.mem_append_left _ h))))
theorem wi_4 {w : Cond} (h : w ∈ wA_4) : w ∈ wsL_law := (List.mem_append_right _ (List.mem_append_right _ (List.mem_append_right _ (List.mem_append_right _ (List.mem_append_left _ h)))))
theorem wi_5 {w : Cond} (h : w ∈ wA_5) : w ∈ wsL_law := (List.mem_append_right _ (List.mem_append_right _ (List.mem_append_right _ (List.mem_append_right _ (List.mem_append_right _ (List.mem_append_left _ h))))))
theorem wi_6 {w : Cond} (h : w ∈ wA_6) : w ∈ wsL_law := (List.mem_append_right _ (List.mem_append_right _ (List.mem_append_right _ (List.mem_append_right _ (List.mem_append_right _ (List.mem_append_right _ (List.mem_append_left _ h)))))))
theorem wi_7 {w : Cond} (h : w ∈ wA_7) : w ∈ wsL_law := (List.mem_append_right _ (List.mem_append_right _ (List.mem_append_right _ (List.mem_append_right _ (List.mem_append_right _ (List.mem_append_right _ (List.mem_append_right _ (List.mem_append_left _ h))))))))
theorem wi_8 {w : Cond} (h : w ∈ wA_8) : w ∈ wsL_law := (List.mem_append_right _ (List.mem_append_right _ (List.mem_append_right _ (List.mem_append_right _ (List.mem_append_right _ (List.mem_append_right _ (List.mem_append_right _ (List.mem_append_right _ (List.mem_append_left _ h)))))))))
theorem wi_9 {w : Cond} (h : w ∈ wA_9) : w ∈ wsL_law := (List.mem_append_right _ (List.mem_append_right _ (List.mem_append_right _ (List.mem_append_right _ (List.mem_append_right _ (List.mem_append_right _ (List.mem_append_right _ (List.mem_append_right _ (List.mem_append_right _ (List.mem_append_left _ h))))))))))
theorem wi_10 {w : Cond} (h : w ∈ wA_10) : w ∈ wsL_law := (List.mem_append_right _ (List.mem_append_right _ (List.mem_append_right _ (List.mem_append_right _ (List.mem_append_right _ (List.mem_append_right _ (List.mem_append_right _ (List.mem_append_right _ (List.mem_append_right _ (List.mem_append_right _ (List.mem_append_left _ h)))))))))))
theorem wi_11 {w : Cond} (h : w ∈ wA_11) : w ∈ wsL_law := (List.mem_append_right _ (List.mem_append_right _ (List.mem_append_right _ (List.mem_append_right _ (List.mem_append_right _ (List.mem_append_right _ (List.mem_append_right _ (List.mem_append_right _ (List.mem_append_right _ (List.mem_append_right _ (List.mem_append_right _ (List.mem_append_left _ h))))))))))))
theorem wi_12 {w : Cond} (h : w ∈ wA_12) : w ∈ wsL_law := (List.mem_append_right _ (List.mem_append_right _ (List.mem_append_right _ (List.mem_append_right _ (List.mem_append_right _ (List.mem_append_right _ (List.mem_append_right _ (List.mem_append_right _ (List.mem_append_right _ (List.mem_append_right _ (List.mem_append_right _ (List.mem_append_right _ (List.mem_append_left _ h)))))))))))))
theorem wi_13 {w : Cond} (h : w ∈ wA_13) : w ∈ wsL_law := (List.mem_append_right _ (List.mem_append_right _ (List.mem_append_right _ (List.mem_append_right _ (List.mem_append_right _ (List.mem_append_right _ (List.mem_append_right _ (List.mem_append_right _ (List.mem_append_right _ (List.mem_append_right _ (List.mem_append_right _ (List.mem_append_right _ (List.mem_append_right _ (List.mem_append_left _ h))))))))))))))
theorem wi_14 {w : Cond} (h : w ∈ wA_14) : w ∈ wsL_law := (List.mem_append_right _ (List.mem_append_right _ (List.mem_append_right _ (List.mem_append_right _ (List.mem_append_right _ (List.mem_append_right _ (List.mem_append_right _ (List.mem_append_right _ (List.mem_append_right _ (List.mem_append_right _ (List.mem_append_right _ (List.mem_append_right _ (List.mem_append_right _ (List.mem_append_right _ (List.mem_append_left _ h)))))))))))))))
theorem wi_15 {w : Cond} (h : w ∈ wA_15) : w ∈ wsL_law := (List.mem_append_right _ (List.mem_append_right _ (List.mem_append_right _ (List.mem_append_right _ (List.mem_append_right _ (List.mem_append_right _ (List.mem_append_right _ (List.mem_append_right _ (List.mem_append_right _ (List.mem_append_right _ (List.mem_append_right _ (List.mem_append_right _ (List.mem_append_right _ (List.mem_append_right _ (List.mem_append_right _ (List.mem_append_left _ h))))))))))))))))
theorem wi_16 {w : Cond} (h : w ∈ wA_16) : w ∈ wsL_law := (List.mem_append_right _ (List.mem_append_right _ (List.mem_append_right _ (List.mem_append_right _ (List.mem_append_right _ (List.mem_append_right _ (List.mem_append_right _ (List.mem_append_right _ (List.mem_append_right _ (List.mem_append_right _ (List.mem_append_right _ (List.mem_append_right _ (List.mem_append_right _ (List.mem_append_right _ (List.mem_append_right _ (List.mem_append_right _ (List.mem_append_left _ h)))))))))))))))))
theorem wi_17 {w : Cond} (h : w ∈ wA_17) : w ∈ wsL_law := (List.mem_append_right _ (List.mem_append_right _ (List.mem_append_right _ (List.mem_append_right _ (List.mem_append_right _ (List.mem_append_right _ (List.mem_append_right _ (List.mem_append_right _ (List.mem_append_right _ (List.mem_append_right _ (List.mem_append_right _ (List.mem_append_right _ (List.mem_append_right _ (List.mem_append_right _ (List.mem_append_right _ (List.mem_append_right _ (List.mem_append_right _ (List.mem_append_left _ h))))))))))))))))))
theorem wi_18 {w : Cond} (h : w ∈ wA_18) : w ∈ wsL_law := (List.mem_append_right _ (List.mem_append_right _ (List.mem_append_right _ (List.mem_append_right _ (List.mem_append_right _ (List.mem_append_right _ (List.mem_append_right _ (List.mem_append_right _ (List.mem_append_right _ (List.mem_append_right _ (List.mem_append_right _ (List.mem_append_right _ (List.mem_append_right _ (List.mem_append_right _ (List.mem_append_right _ (List.mem_append_right _ (List.mem_append_right _ (List.mem_append_right _ (List.mem_append_left _ h)))))))))))))))))))
theorem wi_19 {w : Cond} (h : w ∈ wA_19) : w ∈ wsL_law := (List.mem_append_right _ (List.mem_append_right _ (List.mem_append_right _ (List.mem_append_right _ (List.mem_append_right _ (List.mem_append_right _ (List.mem_append_right _ (List.mem_append_right _ (List.mem_append_right _ (List.mem_append_right _ (List.mem_append_right _ (List.mem_append_right _ (List.mem_append_right _ (List.mem_append_right _ (List.mem_append_right _ (List.mem_append_right _ (List.mem_append_right _ (List.mem_append_right _ (List.mem_append_right _ (List.mem_append_left _ h))))))))))))))))))))
theorem wi_20 {w : Cond} (h : w ∈ wA_20) : w ∈ wsL_law := (List.mem_append_right _ (List.mem_append_right _ (List.mem_append_right _ (List.mem_append_right _ (List.mem_append_right _ (List.mem_append_right _ (List.mem_append_right _ (List.mem_append_right _ (List.mem_append_right _ (List.mem_append_right _ (List.mem_append_right _ (List.mem_append_right _ (List.mem_append_right _ (List.mem_append_right _ (List.mem_append_right _ (List.mem_append_right _ (List.mem_append_right _ (List.mem_append_right _ (List.mem_append_right _ (List.mem_append_right _ (List.mem_append_left _ h)))))))))))))))))))))
theorem wi_21 {w : Cond} (h : w ∈ wA_21) : w ∈ wsL_law := (List.mem_append_right _ (List.mem_append_right _ (List.mem_append_right _ (List.mem_append_right _ (List.mem_append_right _ (List.mem_append_right _ (List.mem_append_right _ (List.mem_append_right _ (List.mem_append_right _ (List.mem_append_right _ (List.mem_append_right _ (List.mem_append_right _ (List.mem_append_right _ (List.mem_append_right _ (List.mem_append_right _ (List.mem_append_right _ (List.mem_append_right _ (List.mem_append_right _ (List.mem_append_right _ (List.mem_append_right _ (List.mem_append_right _ (List.mem_append_left _ h))))))))))))))))))))))
theorem wi_22 {w : Cond} (h : w ∈ wA_22) : w ∈ wsL_law := (List.mem_append_right _ (List.mem_append_right _ (List.mem_append_right _ (List.mem_append_right _ (List.mem_append_right _ (List.mem_append_right _ (List.mem_append_right _ (List.mem_append_right _ (List.mem_append_right _ (List.mem_append_right _ (List.mem_append_right _ (List.mem_append_right _ (List.mem_append_right _ (List.mem_append_right _ (List.mem_append_right _ (List.mem_append_right _ (List.mem_append_right _ (List.mem_append_right _ (List.mem_append_right _ (List.mem_append_right _ (List.mem_append_right _ (List.mem_append_right _ (List.mem_append_left _ h)))))))))))))))))))))))
theorem wi_23 {w : Cond} (h : w ∈ wA_23) : w ∈ wsL_law := (List.mem_append_right _ (List.mem_append_right _ (List.mem_append_right _ (List.mem_append_right _ (List.mem_append_right _ (List.mem_append_right _ (List.mem_append_right _ (List.mem_append_right _ (List.mem_append_right _ (List.mem_append_right _ (List.mem_append_right _ (List.mem_append_right _ (List.mem_append_right _ (List.mem_append_right _ (List.mem_append_right _ (List.mem_append_right _ (List.mem_append_right _ (List.mem_append_right _ (List.mem_append_right _ (List.mem_append_right _ (List.mem_append_right _ (List.mem_append_right _ (List.mem_append_right _ (List.mem_append_left _ h))))))))))))))))))))))))
theorem wi_24 {w : Cond} (h : w ∈ wA_24) : w ∈ wsL_law := (List.mem_append_right _ (List.mem_append_right _ (List.mem_append_right _ (List.mem_append_right _ (List.mem_append_right _ (List.mem_append_right _ (List.mem_append_right _ (List.mem_append_right _ (List.mem_append_right _ (List.mem_append_right _ (List.mem_append_right _ (List.mem_append_right _ (List.mem_append_right _ (List.mem_append_right _ (List.mem_append_right _ (List.mem_append_right _ (List.mem_append_right _ (List.mem_append_right _ (List.mem_append_right _ (List.mem_append_right _ (List.mem_append_right _ (List.mem_append_right _ (List.mem_append_right _ (List.mem_append_right _ (List.mem_append_left _ h)))))))))))))))))))))))))
theorem wi_25 {w : Cond} (h : w ∈ wA_25) : w ∈ wsL_law := (List.mem_append_right _ (List.mem_append_right _ (List.mem_append_right _ (List.mem_append_right _ (List.mem_append_right _ (List.mem_append_right _ (List.mem_append_right _ (List.mem_append_right _ (List.mem_append_right _ (List.mem_append_right _ (List.mem_append_right _ (List.mem_append_right _ (List.mem_append_right _ (List.mem_append_right _ (List.mem_append_right _ (List.mem_append_right _ (List.mem_append_right _ (List.mem_append_right _ (List.mem_append_right _ (List.mem_append_right _ (List.mem_append_right _ (List.mem_append_right _ (List.mem_append_right _ (List.mem_append_right _ (List.mem_append_right _ (List.mem_append_left _ h))))))))))))))))))))))))))
theorem wi_26 {w : Cond} (h : w ∈ wA_26) : w ∈ wsL_law := (List.mem_append_right _ (List.mem_append_right _ (List.mem_append_right _ (List.mem_append_right _ (List.mem_append_right _ (List.mem_append_right _ (List.mem_append_right _ (List.mem_append_right _ (List.mem_append_right _ (List.mem_append_right _ (List.mem_append_right _ (List.mem_append_right _ (List.mem_append_right _ (List.mem_append_right _ (List.mem_append_right _ (List.mem_append_right _ (List.mem_append_right _ (List.mem_append_right _ (List.mem_append_right _ (List.mem_append_right _ (List.mem_append_right _ (List.mem_append_right _ (List.mem_append_right _ (List.mem_append_right _ (List.mem_append_right _ (List.mem_append_right _ (List.mem_append_left _ h)))))))))))))))))))))))))))
theorem wi_27 {w : Cond} (h : w ∈ wA_27) : w ∈ wsL_law := (List.mem_append_right _ (List.mem_append_right _ (List.mem_append_right _ (List.mem_append_right _ (List.mem_append_right _ (List.mem_append_right _ (List.mem_append_right _ (List.mem_append_right _ (List.mem_append_right _ (List.mem_append_right _ (List.mem_append_right _ (List.mem_append_right _ (List.mem_append_right _ (List.mem_append_right _ (List.mem_append_right _ (List.mem_append_right _ (List.mem_append_right _ (List.mem_append_right _ (List.mem_append_right _ (List.mem_append_right _ (List.mem_append_right _ (List.mem_append_right _ (List.mem_append_right _ (List.mem_append_right _ (List.mem_append_right _ (List.mem_append_right _ (List.mem_append_right _ (List.mem_append_left _ h))))))))))))))))))))))))))))
theorem wi_28 {w : Cond} (h : w ∈ wA_28) : w ∈ wsL_law := (List.mem_append_right _ (List.mem_append_right _ (List.mem_append_right _ (List.mem_append_right _ (List.mem_append_right _ (List.mem_append_right _ (List.mem_append_right _ (List.mem_append_right _ (List.mem_append_right _ (List.mem_append_right _ (List.mem_append_right _ (List.mem_append_right _ (List.mem_append_right _ (List.mem_append_right _ (List.mem_append_right _ (List.mem_append_right _ (List.mem_append_right _ (List.mem_append_right _ (List.mem_append_right _ (List.mem_append_right _ (List.mem_append_right _ (List.mem_append_right _ (List.mem_append_right _ (List.mem_append_right _ (List.mem_append_right _ (List.mem_append_right _ (List.mem_append_right _ (List.mem_append_right _ (List.mem_append_left _ h)))))))))))))))))))))))))))))
theorem wi_29 {w : Cond} (h : w ∈ wA_29) : w ∈ wsL_law := (List.mem_append_right _ (List.mem_append_right _ (List.mem_append_right _ (List.mem_append_right _ (List.mem_append_right _ (List.mem_append_right _ (List.mem_append_right _ (List.mem_append_right _ (List.mem_append_right _ (List.mem_append_right _ (List.mem_append_right _ (List.mem_append_right _ (List.mem_append_right _ (List.mem_append_right _ (List.mem_append_right _ (List.mem_append_right _ (List.mem_append_right _ (List.mem_append_right _ (List.mem_append_right _ (List.mem_append_right _ (List.mem_append_right _ (List.mem_append_right _ (List.mem_append_right _ (List.mem_append_right _ (List.mem_append_right _ (List.mem_append_right _ (List.mem_append_right _ (List.mem_append_right _ (List.mem_append_right _ (List.mem_append_left _ h))))))))))))))))))))))))))))))
theorem wi_30 {w : Cond} (h : w ∈ wA_30) : w ∈ wsL_law := (List.mem_append_right _ (List.mem_append_right _ (List.mem_append_right _ (List.mem_append_right _ (List.mem_append_right _ (List.mem_append_right _ (List.mem_append_right _ (List.mem_append_right _ (List.mem_append_right _ (List.mem_append_right _ (List.mem_append_right _ (List.mem_append_right _ (List.mem_append_right _ (List.mem_append_right _ (List.mem_append_right _ (List.mem_append_right _ (List.mem_append_right _ (List.mem_append_right _ (List.mem_append_right _ (List.mem_append_right _ (List.mem_append_right _ (List.mem_append_right _ (List.mem_append_right _ (List.mem_append_right _ (List.mem_append_right _ (List.mem_append_right _ (List.mem_append_right _ (List.mem_append_right _ (List.mem_append_right _ (List.mem_append_right _ (List.mem_append_left _ h)))))))))))))))))))))))))))))))
theorem wi_31 {w : Cond} (h : w ∈ wA_31) : w ∈ wsL_law := (List.mem_append_right _ (List.mem_append_right _ (List.mem_append_right _ (List.mem_append_right _ (List.mem_append_right _ (List.mem_append_right _ (List.mem_append_right _ (List.mem_append_right _ (List.mem_append_right _ (List.mem_append_right _ (List.mem_append_right _ (List.mem_append_right _ (List.mem_append_right _ (List.mem_append_right _ (List.mem_append_right _ (List.mem_append_right _ (List.mem_append_right _ (List.mem_append_right _ (List.mem_append_right _ (List.mem_append_right _ (List.mem_append_right _ (List.mem_append_right _ (List.mem_append_right _ (List.mem_append_right _ (List.mem_append_right _ (List.mem_append_right _ (List.mem_append_right _ (List.mem_append_right _ (List.mem_append_right _ (List.mem_append_right _ (List.mem_append_right _ (List.mem_append_left _ h))))))))))))))))))))))))))))))))
theorem wi_32 {w : Cond} (h : w ∈ wA_32) : w ∈ wsL_law := (List.mem_append_right _ (List.mem_append_right _ (List.mem_append_right _ (List.mem_append_right _ (List.mem_append_right _ (List.mem_append_right _ (List.mem_append_right _ (List.mem_append_right _ (List.mem_append_right _ (List.mem_append_right _ (List.mem_append_right _ (List.mem_append_right _ (List.mem_append_right _ (List.mem_append_right _ (List.mem_append_right _ (List.mem_append_right _ (List.mem_append_right _ (List.mem_append_right _ (List.mem_append_right _ (List.mem_append_right _ (List.mem_append_right _ (List.mem_append_right _ (List.mem_append_right _ (List.mem_append_right _ (List.mem_append_right _ (List.mem_append_right _ (List.mem_append_right _ (List.mem_append_right _ (List.mem_append_right _ (List.mem_append_right _ (List.mem_append_right _ (List.mem_append_right _ (List.mem_append_left _ h)))))))))))))))))))))))))))))))))
theorem inlX10 : ∀ w ∈ wsX100, w ∈ wsL_law := fun _ h => (List.mem_append_right _ (List.mem_append_right _ (List.mem_append_right _ (List.mem_append_right _ (List.mem_append_right _ (List.mem_append_right _ (List.mem_append_right _ (List.mem_append_right _ (List.mem_append_right _ (List.mem_append_right _ (List.mem_append_right _ (List.mem_append_right _ (List.mem_append_right _ (List.mem_append_right _ (List.mem_append_right _ (List.mem_append_right _ (List.mem_append_right _ (List.mem_append_right _ (List.mem_append_right _ (List.mem_append_right _ (List.mem_append_right _ (List.mem_append_right _ (List.mem_append_right _ (List.mem_append_right _ (List.mem_append_right _ (List.mem_append_right _ (List.mem_append_right _ (List.mem_append_right _ (List.mem_append_right _ (List.mem_append_right _ (List.mem_append_right _ (List.mem_append_right _ (List.mem_append_right _ (List.mem_append_left _ h))))))))))))))))))))))))))))))))))
theorem inlX11 : ∀ w ∈ wsX110, w ∈ wsL_law := fun _ h => (List.mem_append_right _ (List.mem_append_right _ (List.mem_append_right _ (List.mem_append_right _ (List.mem_append_right _ (List.mem_append_right _ (List.mem_append_right _ (List.mem_append_right _ (List.mem_append_right _ (List.mem_append_right _ (List.mem_append_right _ (List.mem_append_right _ (List.mem_append_right _ (List.mem_append_right _ (List.mem_append_right _ (List.mem_append_right _ (List.mem_append_right _ (List.mem_append_right _ (List.mem_append_right _ (List.mem_append_right _ (List.mem_append_right _ (List.mem_append_right _ (List.mem_append_right _ (List.mem_append_right _ (List.mem_append_right _ (List.mem_append_right _ (List.mem_append_right _ (List.mem_append_right _ (List.mem_append_right _ (List.mem_append_right _ (List.mem_append_right _ (List.mem_append_right _ (List.mem_append_right _ (List.mem_append_right _ (List.mem_append_left _ h)))))))))))))))))))))))))))))))))))
theorem inlX4 : ∀ w ∈ wsX40, w ∈ wsL_law := fun _ h => (List.mem_append_right _ (List.mem_append_right _ (List.mem_append_right _ (List.mem_append_right _ (List.mem_append_right _ (List.mem_append_right _ (List.mem_append_right _ (List.mem_append_right _ (List.mem_append_right _ (List.mem_append_right _ (List.mem_append_right _ (List.mem_append_right _ (List.mem_append_right _ (List.mem_append_right _ (List.mem_append_right _ (List.mem_append_right _ (List.mem_append_right _ (List.mem_append_right _ (List.mem_append_right _ (List.mem_append_right _ (List.mem_append_right _ (List.mem_append_right _ (List.mem_append_right _ (List.mem_append_right _ (List.mem_append_right _ (List.mem_append_right _ (List.mem_append_right _ (List.mem_append_right _ (List.mem_append_right _ (List.mem_append_right _ (List.mem_append_right _ (List.mem_append_right _ (List.mem_append_right _ (List.mem_append_right _ (List.mem_append_right _ (List.mem_append_left _ h))))))))))))))))))))))))))))))))))))
theorem inlX5 : ∀ w ∈ wsX50, w ∈ wsL_law := fun _ h => (List.mem_append_right _ (List.mem_append_right _ (List.mem_append_right _ (List.mem_append_right _ (List.mem_append_right _ (List.mem_append_right _ (List.mem_append_right _ (List.mem_append_right _ (List.mem_append_right _ (List.mem_append_right _ (List.mem_append_right _ (List.mem_append_right _ (List.mem_append_right _ (List.mem_append_right _ (List.mem_append_right _ (List.mem_append_right _ (List.mem_append_right _ (List.mem_append_right _ (List.mem_append_right _ (List.mem_append_right _ (List.mem_append_right _ (List.mem_append_right _ (List.mem_append_right _ (List.mem_append_right _ (List.mem_append_right _ (List.mem_append_right _ (List.mem_append_right _ (List.mem_append_right _ (List.mem_append_right _ (List.mem_append_right _ (List.mem_append_right _ (List.mem_append_right _ (List.mem_append_right _ (List.mem_append_right _ (List.mem_append_right _ (List.mem_append_right _ (List.mem_append_left _ h)))))))))))))))))))))))))))))))))))))
theorem inlX6 : ∀ w ∈ wsX60, w ∈ wsL_law := fun _ h => (List.mem_append_right _ (List.mem_append_right _ (List.mem_append_right _ (List.mem_append_right _ (List.mem_append_right _ (List.mem_append_right _ (List.mem_append_right _ (List.mem_append_right _ (List.mem_append_right _ (List.mem_append_right _ (List.mem_append_right _ (List.mem_append_right _ (List.mem_append_right _ (List.mem_append_right _ (List.mem_append_right _ (List.mem_append_right _ (List.mem_append_right _ (List.mem_append_right _ (List.mem_append_right _ (List.mem_append_right _ (List.mem_append_right _ (List.mem_append_right _ (List.mem_append_right _ (List.mem_append_right _ (List.mem_append_right _ (List.mem_append_right _ (List.mem_append_right _ (List.mem_append_right _ (List.mem_append_right _ (List.mem_append_right _ (List.mem_append_right _ (List.mem_append_right _ (List.mem_append_right _ (List.mem_append_right _ (List.mem_append_right _ (List.mem_append_right _ (List.mem_append_right _ (List.mem_append_left _ h))))))))))))))))))))))))))))))))))))))
theorem inlX3 : ∀ w ∈ wsX30, w ∈ wsL_law := fun _ h => (List.mem_append_right _ (List.mem_append_right _ (List.mem_append_right _ (List.mem_append_right _ (List.mem_append_right _ (List.mem_append_right _ (List.mem_append_right _ (List.mem_append_right _ (List.mem_append_right _ (List.mem_append_right _ (List.mem_append_right _ (List.mem_append_right _ (List.mem_append_right _ (List.mem_append_right _ (List.mem_append_right _ (List.mem_append_right _ (List.mem_append_right _ (List.mem_append_right _ (List.mem_append_right _ (List.mem_append_right _ (List.mem_append_right _ (List.mem_append_right _ (List.mem_append_right _ (List.mem_append_right _ (List.mem_append_right _ (List.mem_append_right _ (List.mem_append_right _ (List.mem_append_right _ (List.mem_append_right _ (List.mem_append_right _ (List.mem_append_right _ (List.mem_append_right _ (List.mem_append_right _ (List.mem_append_right _ (List.mem_append_right _ (List.mem_append_right _ (List.mem_append_right _ (List.mem_append_right _ (List.mem_append_left _ h)))))))))))))))))))))))))))))))))))))))
theorem inlX2 : ∀ w ∈ wsX20, w ∈ wsL_law := fun _ h => (List.mem_append_right _ (List.mem_append_right _ (List.mem_append_right _ (List.mem_append_right _ (List.mem_append_right _ (List.mem_append_right _ (List.mem_append_right _ (List.mem_append_right _ (List.mem_append_right _ (List.mem_append_right _ (List.mem_append_right _ (List.mem_append_right _ (List.mem_append_right _ (List.mem_append_right _ (List.mem_append_right _ (List.mem_append_right _ (List.mem_append_right _ (List.mem_append_right _ (List.mem_append_right _ (List.mem_append_right _ (List.mem_append_right _ (List.mem_append_right _ (List.mem_append_right _ (List.mem_append_right _ (List.mem_append_right _ (List.mem_append_right _ (List.mem_append_right _ (List.mem_append_right _ (List.mem_append_right _ (List.mem_append_right _ (List.mem_append_right _ (List.mem_append_right _ (List.mem_append_right _ (List.mem_append_right _ (List.mem_append_right _ (List.mem_append_right _ (List.mem_append_right _ (List.mem_append_right _ (List.mem_append_right _ (List.mem_append_left _ h))))))))))))))))))))))))))))))))))))))))
theorem inlX9 : ∀ w ∈ wsX90, w ∈ wsL_law := fun _ h => (List.mem_append_right _ (List.mem_append_right _ (List.mem_append_right _ (List.mem_append_right _ (List.mem_append_right _ (List.mem_append_right _ (List.mem_append_right _ (List.mem_append_right _ (List.mem_append_right _ (List.mem_append_right _ (List.mem_append_right _ (List.mem_append_right _ (List.mem_append_right _ (List.mem_append_right _ (List.mem_append_right _ (List.mem_append_right _ (List.mem_append_right _ (List.mem_append_right _ (List.mem_append_right _ (List.mem_append_right _ (List.mem_append_right _ (List.mem_append_right _ (List.mem_append_right _ (List.mem_append_right _ (List.mem_append_right _ (List.mem_append_right _ (List.mem_append_right _ (List.mem_append_right _ (List.mem_append_right _ (List.mem_append_right _ (List.mem_append_right _ (List.mem_append_right _ (List.mem_append_right _ (List.mem_append_right _ (List.mem_append_right _ (List.mem_append_right _ (List.mem_append_right _ (List.mem_append_right _ (List.mem_append_right _ (List.mem_append_right _ (List.mem_append_left _ h)))))))))))))))))))))))))))))))))))))))))
theorem inlX8 : ∀ w ∈ wsX80, w ∈ wsL_law := fun _ h => (List.mem_append_right _ (List.mem_append_right _ (List.mem_append_right _ (List.mem_append_right _ (List.mem_append_right _ (List.mem_append_right _ (List.mem_append_right _ (List.mem_append_right _ (List.mem_append_right _ (List.mem_append_right _ (List.mem_append_right _ (List.mem_append_right _ (List.mem_append_right _ (List.mem_append_right _ (List.mem_append_right _ (List.mem_append_right _ (List.mem_append_right _ (List.mem_append_right _ (List.mem_append_right _ (List.mem_append_right _ (List.mem_append_right _ (List.mem_append_right _ (List.mem_append_right _ (List.mem_append_right _ (List.mem_append_right _ (List.mem_append_right _ (List.mem_append_right _ (List.mem_append_right _ (List.mem_append_right _ (List.mem_append_right _ (List.mem_append_right _ (List.mem_append_right _ (List.mem_append_right _ (List.mem_append_right _ (List.mem_append_right _ (List.mem_append_right _ (List.mem_append_right _ (List.mem_append_right _ (List.mem_append_right _ (List.mem_append_right _ (List.mem_append_right _ (List.mem_append_left _ h))))))))))))))))))))))))))))))))))))))))))
theorem inlX0 : ∀ w ∈ wsX00, w ∈ wsL_law := fun _ h => (List.mem_append_right _ (List.mem_append_right _ (List.mem_append_right _ (List.mem_append_right _ (List.mem_append_right _ (List.mem_append_right _ (List.mem_append_right _ (List.mem_append_right _ (List.mem_append_right _ (List.mem_append_right _ (List.mem_append_right _ (List.mem_append_right _ (List.mem_append_right _ (List.mem_append_right _ (List.mem_append_right _ (List.mem_append_right _ (List.mem_append_right _ (List.mem_append_right _ (List.mem_append_right _ (List.mem_append_right _ (List.mem_append_right _ (List.mem_append_right _ (List.mem_append_right _ (List.mem_append_right _ (List.mem_append_right _ (List.mem_append_right _ (List.mem_append_right _ (List.mem_append_right _ (List.mem_append_right _ (List.mem_append_right _ (List.mem_append_right _ (List.mem_append_right _ (List.mem_append_right _ (List.mem_append_right _ (List.mem_append_right _ (List.mem_append_right _ (List.mem_append_right _ (List.mem_append_right _ (List.mem_append_right _ (List.mem_append_right _ (List.mem_append_right _ (List.mem_append_right _ (List.mem_append_left _ h)))))))))))))))))))))))))))))))))))))))))))
theorem inlX7 : ∀ w ∈ wsX70, w ∈ wsL_law := fun _ h => (List.mem_append_right _ (List.mem_append_right _ (List.mem_append_right _ (List.mem_append_right _ (List.mem_append_right _ (List.mem_append_right _ (List.mem_append_right _ (List.mem_append_right _ (List.mem_append_right _ (List.mem_append_right _ (List.mem_append_right _ (List.mem_append_right _ (List.mem_append_right _ (List.mem_append_right _ (List.mem_append_right _ (List.mem_append_right _ (List.mem_append_right _ (List.mem_append_right _ (List.mem_append_right _ (List.mem_append_right _ (List.mem_append_right _ (List.mem_append_right _ (List.mem_append_right _ (List.mem_append_right _ (List.mem_append_right _ (List.mem_append_right _ (List.mem_append_right _ (List.mem_append_right _ (List.mem_append_right _ (List.mem_append_right _ (List.mem_append_right _ (List.mem_append_right _ (List.mem_append_right _ (List.mem_append_right _ (List.mem_append_right _ (List.mem_append_right _ (List.mem_append_right _ (List.mem_append_right _ (List.mem_append_right _ (List.mem_append_right _ (List.mem_append_right _ (List.mem_append_right _ (List.mem_append_right _ h)))))))))))))))))))))))))))))))))))))))))))
theorem cl_L_7 : Cond.classLink RL 7 RX10 ∈ wsL_law := wi_0 (List.mem_of_getElem? (i := 0) rfl)
theorem Tcl_L_7 : Cond.classLink RL 7 RX10 ∈ lw_tbl := tb_1 (List.mem_of_getElem? (i := 17) (by decide +kernel))
theorem is_X10 : Cond.instantiable RX10 15 ∈ wsL_law := wi_0 (List.mem_of_getElem? (i := 1) rfl)
theorem Tis_X10 : Cond.instantiable RX10 15 ∈ lw_tbl := tb_1 (List.mem_of_getElem? (i := 18) (by decide +kernel))
theorem iz_X10 : Cond.initialized RX10 ∈ wsL_law := wi_0 (List.mem_of_getElem? (i := 2) rfl)
theorem Tiz_X10 : Cond.initialized RX10 ∈ lw_tbl := tb_1 (List.mem_of_getElem? (i := 1) (by decide +kernel))
theorem cl_L_10 : Cond.classLink RL 10 RX11 ∈ wsL_law := wi_0 (List.mem_of_getElem? (i := 3) rfl)
theorem Tcl_L_10 : Cond.classLink RL 10 RX11 ∈ lw_tbl := tb_4 (List.mem_of_getElem? (i := 197) (by decide +kernel))
theorem is_X11 : Cond.instantiable RX11 47 ∈ wsL_law := wi_0 (List.mem_of_getElem? (i := 4) rfl)
theorem Tis_X11 : Cond.instantiable RX11 47 ∈ lw_tbl := tb_4 (List.mem_of_getElem? (i := 198) (by decide +kernel))
theorem iz_X11 : Cond.initialized RX11 ∈ wsL_law := wi_0 (List.mem_of_getElem? (i := 5) rfl)
theorem Tiz_X11 : Cond.initialized RX11 ∈ lw_tbl := tb_1 (List.mem_of_getElem? (i := 10) (by decide +kernel))
theorem ml_L_9 : Cond.methodLink RL 9 yX10_init ∈ wsL_law := wi_0 (List.mem_of_getElem? (i := 6) rfl)
theorem Tml_L_9 : Cond.methodLink RL 9 yX10_init ∈ lw_tbl := tb_1 (List.mem_of_getElem? (i := 19) (by decide +kernel))
theorem im_X10_init : Cond.instanceMethod yX10_init ∈ wsL_law := wi_0 (List.mem_of_getElem? (i := 7) rfl)
theorem Tim_X10_init : Cond.instanceMethod yX10_init ∈ lw_tbl := tb_1 (List.mem_of_getElem? (i := 20) (by decide +kernel))
theorem cd_X10_init : Cond.code yX10_init cX10_init 1 none ∈ wsL_law := wi_0 (List.mem_of_getElem? (i := 8) rfl)
theorem Tcd_X10_init : Cond.code yX10_init cX10_init 1 none ∈ lw_tbl := tb_1 (List.mem_of_getElem? (i := 21) rfl)
theorem ml_X10_1 : Cond.methodLink RX10 1 objectInit ∈ wsL_law := wi_0 (List.mem_of_getElem? (i := 9) rfl)
theorem Tml_X10_1 : Cond.methodLink RX10 1 objectInit ∈ lw_tbl := tb_1 (List.mem_of_getElem? (i := 22) (by decide +kernel))
theorem im_objectInit : Cond.instanceMethod objectInit ∈ wsL_law := wi_0 (List.mem_of_getElem? (i := 10) rfl)
theorem Tim_objectInit : Cond.instanceMethod objectInit ∈ lw_tbl := tb_1 (List.mem_of_getElem? (i := 23) (by decide +kernel))
theorem cd_objectInit : Cond.code objectInit ⟨#[0xb1]⟩ 1 none ∈ wsL_law := wi_0 (List.mem_of_getElem? (i := 11) rfl)
theorem Tcd_objectInit : Cond.code objectInit ⟨#[0xb1]⟩ 1 none ∈ lw_tbl := tb_1 (List.mem_of_getElem? (i := 24) rfl)
theorem cl_X10_7 : Cond.classLink RX10 7 RX4 ∈ wsL_law := wi_0 (List.mem_of_getElem? (i := 12) rfl)
theorem Tcl_X10_7 : Cond.classLink RX10 7 RX4 ∈ lw_tbl := tb_1 (List.mem_of_getElem? (i := 25) (by decide +kernel))
theorem is_X4 : Cond.instantiable RX4 7 ∈ wsL_law := wi_0 (List.mem_of_getElem? (i := 13) rfl)
theorem Tis_X4 : Cond.instantiable RX4 7 ∈ lw_tbl := tb_1 (List.mem_of_getElem? (i := 26) (by decide +kernel))
theorem iz_X4 : Cond.initialized RX4 ∈ wsL_law := wi_0 (List.mem_of_getElem? (i := 14) rfl)
theorem Tiz_X4 : Cond.initialized RX4 ∈ lw_tbl := tb_1 (List.mem_of_getElem? (i := 2) (by decide +kernel))
theorem fl_X10_10 : Cond.fieldLink RX10 10 "LuteFingers" "lute" "LLuteFingers$Lute;" ∈ wsL_law := wi_0 (List.mem_of_getElem? (i := 15) rfl)
theorem Tfl_X10_10 : Cond.fieldLink RX10 10 "LuteFingers" "lute" "LLuteFingers$Lute;" ∈ lw_tbl := tb_2 (List.mem_of_getElem? (i := 16) (by decide +kernel))
theorem cl_X10_16 : Cond.classLink RX10 16 RX5 ∈ wsL_law := wi_0 (List.mem_of_getElem? (i := 16) rfl)
theorem Tcl_X10_16 : Cond.classLink RX10 16 RX5 ∈ lw_tbl := tb_1 (List.mem_of_getElem? (i := 69) (by decide +kernel))
theorem is_X5 : Cond.instantiable RX5 7 ∈ wsL_law := wi_0 (List.mem_of_getElem? (i := 17) rfl)
theorem Tis_X5 : Cond.instantiable RX5 7 ∈ lw_tbl := tb_1 (List.mem_of_getElem? (i := 70) (by decide +kernel))
theorem iz_X5 : Cond.initialized RX5 ∈ wsL_law := wi_0 (List.mem_of_getElem? (i := 18) rfl)
theorem Tiz_X5 : Cond.initialized RX5 ∈ lw_tbl := tb_1 (List.mem_of_getElem? (i := 4) (by decide +kernel))
theorem fl_X10_19 : Cond.fieldLink RX10 19 "LuteFingers" "piece" "LLuteFingers$Piece;" ∈ wsL_law := wi_0 (List.mem_of_getElem? (i := 19) rfl)
theorem Tfl_X10_19 : Cond.fieldLink RX10 19 "LuteFingers" "piece" "LLuteFingers$Piece;" ∈ lw_tbl := tb_2 (List.mem_of_getElem? (i := 17) (by decide +kernel))
theorem cl_X10_23 : Cond.classLink RX10 23 RX6 ∈ wsL_law := wi_0 (List.mem_of_getElem? (i := 20) rfl)
theorem Tcl_X10_23 : Cond.classLink RX10 23 RX6 ∈ lw_tbl := tb_1 (List.mem_of_getElem? (i := 117) (by decide +kernel))
theorem is_X6 : Cond.instantiable RX6 2 ∈ wsL_law := wi_0 (List.mem_of_getElem? (i := 21) rfl)
theorem Tis_X6 : Cond.instantiable RX6 2 ∈ lw_tbl := tb_1 (List.mem_of_getElem? (i := 118) (by decide +kernel))
theorem iz_X6 : Cond.initialized RX6 ∈ wsL_law := wi_0 (List.mem_of_getElem? (i := 22) rfl)
theorem Tiz_X6 : Cond.initialized RX6 ∈ lw_tbl := tb_1 (List.mem_of_getElem? (i := 5) (by decide +kernel))
theorem fl_X10_26 : Cond.fieldLink RX10 26 "LuteFingers" "signs" "LLuteFingers$Tape;" ∈ wsL_law := wi_0 (List.mem_of_getElem? (i := 23) rfl)
theorem Tfl_X10_26 : Cond.fieldLink RX10 26 "LuteFingers" "signs" "LLuteFingers$Tape;" ∈ lw_tbl := tb_2 (List.mem_of_getElem? (i := 18) (by decide +kernel))
theorem cl_X10_30 : Cond.classLink RX10 30 RX3 ∈ wsL_law := wi_0 (List.mem_of_getElem? (i := 24) rfl)
theorem Tcl_X10_30 : Cond.classLink RX10 30 RX3 ∈ lw_tbl := tb_1 (List.mem_of_getElem? (i := 134) (by decide +kernel))
theorem is_X3 : Cond.instantiable RX3 12 ∈ wsL_law := wi_0 (List.mem_of_getElem? (i := 25) rfl)
theorem Tis_X3 : Cond.instantiable RX3 12 ∈ lw_tbl := tb_1 (List.mem_of_getElem? (i := 135) (by decide +kernel))
theorem iz_X3 : Cond.initialized RX3 ∈ wsL_law := wi_0 (List.mem_of_getElem? (i := 26) rfl)
theorem Tiz_X3 : Cond.initialized RX3 ∈ lw_tbl := tb_1 (List.mem_of_getElem? (i := 6) (by decide +kernel))
theorem fl_X10_35 : Cond.fieldLink RX10 35 "LuteFingers" "gripSearch" "LLuteFingers$GripSearch;" ∈ wsL_law := wi_0 (List.mem_of_getElem? (i := 27) rfl)
theorem Tfl_X10_35 : Cond.fieldLink RX10 35 "LuteFingers" "gripSearch" "LLuteFingers$GripSearch;" ∈ lw_tbl := tb_2 (List.mem_of_getElem? (i := 19) (by decide +kernel))
theorem cl_X10_39 : Cond.classLink RX10 39 RX2 ∈ wsL_law := wi_0 (List.mem_of_getElem? (i := 28) rfl)
theorem Tcl_X10_39 : Cond.classLink RX10 39 RX2 ∈ lw_tbl := tb_1 (List.mem_of_getElem? (i := 177) (by decide +kernel))
theorem is_X2 : Cond.instantiable RX2 4 ∈ wsL_law := wi_0 (List.mem_of_getElem? (i := 29) rfl)
theorem Tis_X2 : Cond.instantiable RX2 4 ∈ lw_tbl := tb_1 (List.mem_of_getElem? (i := 178) (by decide +kernel))
theorem tA_0 : ∀ w ∈ wA_0, w ∈ lw_tbl := List.forall_mem_cons.mpr ⟨Tcl_L_7, List.forall_mem_cons.mpr ⟨Tis_X10, List.forall_mem_cons.mpr ⟨Tiz_X10, List.forall_mem_cons.mpr ⟨Tcl_L_10, List.forall_mem_cons.mpr ⟨Tis_X11, List.forall_mem_cons.mpr ⟨Tiz_X11, List.forall_mem_cons.mpr ⟨Tml_L_9, List.forall_mem_cons.mpr ⟨Tim_X10_init, List.forall_mem_cons.mpr ⟨Tcd_X10_init, List.forall_mem_cons.mpr ⟨Tml_X10_1, List.forall_mem_cons.mpr ⟨Tim_objectInit, List.forall_mem_cons.mpr ⟨Tcd_objectInit, List.forall_mem_cons.mpr ⟨Tcl_X10_7, List.forall_mem_cons.mpr ⟨Tis_X4, List.forall_mem_cons.mpr ⟨Tiz_X4, List.forall_mem_cons.mpr ⟨Tfl_X10_10, List.forall_mem_cons.mpr ⟨Tcl_X10_16, List.forall_mem_cons.mpr ⟨Tis_X5, List.forall_mem_cons.mpr ⟨Tiz_X5, List.forall_mem_cons.mpr ⟨Tfl_X10_19, List.forall_mem_cons.mpr ⟨Tcl_X10_23, List.forall_mem_cons.mpr ⟨Tis_X6, List.forall_mem_cons.mpr ⟨Tiz_X6, List.forall_mem_cons.mpr ⟨Tfl_X10_26, List.forall_mem_cons.mpr ⟨Tcl_X10_30, List.forall_mem_cons.mpr ⟨Tis_X3, List.forall_mem_cons.mpr ⟨Tiz_X3, List.forall_mem_cons.mpr ⟨Tfl_X10_35, List.forall_mem_cons.mpr ⟨Tcl_X10_39, List.forall_mem_cons.mpr ⟨Tis_X2, fun _ h => absurd h List.not_mem_nil⟩⟩⟩⟩⟩⟩⟩⟩⟩⟩⟩⟩⟩⟩⟩⟩⟩⟩⟩⟩⟩⟩⟩⟩⟩⟩⟩⟩⟩⟩
theorem iz_X2 : Cond.initialized RX2 ∈ wsL_law := wi_1 (List.mem_of_getElem? (i := 0) rfl)
theorem Tiz_X2 : Cond.initialized RX2 ∈ lw_tbl := tb_1 (List.mem_of_getElem? (i := 7) (by decide +kernel))
theorem fl_X10_44 : Cond.fieldLink RX10 44 "LuteFingers" "book" "LLuteFingers$GripBook;" ∈ wsL_law := wi_1 (List.mem_of_getElem? (i := 1) rfl)
theorem Tfl_X10_44 : Cond.fieldLink RX10 44 "LuteFingers" "book" "LLuteFingers$GripBook;" ∈ lw_tbl := tb_2 (List.mem_of_getElem? (i := 20) (by decide +kernel))
theorem fl_X10_48 : Cond.fieldLink RX10 48 "LuteFingers" "otherBook" "LLuteFingers$GripBook;" ∈ wsL_law := wi_1 (List.mem_of_getElem? (i := 2) rfl)
theorem Tfl_X10_48 : Cond.fieldLink RX10 48 "LuteFingers" "otherBook" "LLuteFingers$GripBook;" ∈ lw_tbl := tb_2 (List.mem_of_getElem? (i := 21) (by decide +kernel))
theorem cl_X10_51 : Cond.classLink RX10 51 RX9 ∈ wsL_law := wi_1 (List.mem_of_getElem? (i := 3) rfl)
theorem Tcl_X10_51 : Cond.classLink RX10 51 RX9 ∈ lw_tbl := tb_1 (List.mem_of_getElem? (i := 198) (by decide +kernel))
theorem is_X9 : Cond.instantiable RX9 8 ∈ wsL_law := wi_1 (List.mem_of_getElem? (i := 4) rfl)
theorem Tis_X9 : Cond.instantiable RX9 8 ∈ lw_tbl := tb_1 (List.mem_of_getElem? (i := 199) (by decide +kernel))
theorem iz_X9 : Cond.initialized RX9 ∈ wsL_law := wi_1 (List.mem_of_getElem? (i := 5) rfl)
theorem Tiz_X9 : Cond.initialized RX9 ∈ lw_tbl := tb_1 (List.mem_of_getElem? (i := 8) (by decide +kernel))
theorem fl_X10_54 : Cond.fieldLink RX10 54 "LuteFingers" "waySearch" "LLuteFingers$WaySearch;" ∈ wsL_law := wi_1 (List.mem_of_getElem? (i := 6) rfl)
theorem Tfl_X10_54 : Cond.fieldLink RX10 54 "LuteFingers" "waySearch" "LLuteFingers$WaySearch;" ∈ lw_tbl := tb_2 (List.mem_of_getElem? (i := 22) (by decide +kernel))
theorem cl_X10_58 : Cond.classLink RX10 58 RX8 ∈ wsL_law := wi_1 (List.mem_of_getElem? (i := 7) rfl)
theorem Tcl_X10_58 : Cond.classLink RX10 58 RX8 ∈ lw_tbl := tb_1 (List.mem_of_getElem? (i := 229) (by decide +kernel))
theorem is_X8 : Cond.instantiable RX8 5 ∈ wsL_law := wi_1 (List.mem_of_getElem? (i := 8) rfl)
theorem Tis_X8 : Cond.instantiable RX8 5 ∈ lw_tbl := tb_1 (List.mem_of_getElem? (i := 230) (by decide +kernel))
theorem iz_X8 : Cond.initialized RX8 ∈ wsL_law := wi_1 (List.mem_of_getElem? (i := 9) rfl)
theorem Tiz_X8 : Cond.initialized RX8 ∈ lw_tbl := tb_1 (List.mem_of_getElem? (i := 9) (by decide +kernel))
theorem fl_X10_61 : Cond.fieldLink RX10 61 "LuteFingers" "ways" "LLuteFingers$WayList;" ∈ wsL_law := wi_1 (List.mem_of_getElem? (i := 10) rfl)
theorem Tfl_X10_61 : Cond.fieldLink RX10 61 "LuteFingers" "ways" "LLuteFingers$WayList;" ∈ lw_tbl := tb_2 (List.mem_of_getElem? (i := 23) (by decide +kernel))
theorem ac_int : Cond.arrayClass .int ∈ wsL_law := wi_1 (List.mem_of_getElem? (i := 11) rfl)
theorem Tac_int : Cond.arrayClass .int ∈ lw_tbl := tb_1 (List.mem_of_getElem? (i := 68) (by decide +kernel))
theorem fl_X10_65 : Cond.fieldLink RX10 65 "LuteFingers" "row" "[I" ∈ wsL_law := wi_1 (List.mem_of_getElem? (i := 12) rfl)
theorem Tfl_X10_65 : Cond.fieldLink RX10 65 "LuteFingers" "row" "[I" ∈ lw_tbl := tb_2 (List.mem_of_getElem? (i := 24) (by decide +kernel))
theorem fl_X10_69 : Cond.fieldLink RX10 69 "LuteFingers" "rowSize" "I" ∈ wsL_law := wi_1 (List.mem_of_getElem? (i := 13) rfl)
theorem Tfl_X10_69 : Cond.fieldLink RX10 69 "LuteFingers" "rowSize" "I" ∈ lw_tbl := tb_2 (List.mem_of_getElem? (i := 25) (by decide +kernel))
theorem fl_X10_73 : Cond.fieldLink RX10 73 "LuteFingers" "arranger" "LLuteFingers$Arranger;" ∈ wsL_law := wi_1 (List.mem_of_getElem? (i := 14) rfl)
theorem Tfl_X10_73 : Cond.fieldLink RX10 73 "LuteFingers" "arranger" "LLuteFingers$Arranger;" ∈ lw_tbl := tb_2 (List.mem_of_getElem? (i := 26) (by decide +kernel))
theorem fl_X10_77 : Cond.fieldLink RX10 77 "LuteFingers" "readPiece" "LLuteFingers$Piece;" ∈ wsL_law := wi_1 (List.mem_of_getElem? (i := 15) rfl)
theorem Tfl_X10_77 : Cond.fieldLink RX10 77 "LuteFingers" "readPiece" "LLuteFingers$Piece;" ∈ lw_tbl := tb_2 (List.mem_of_getElem? (i := 27) (by decide +kernel))
theorem fl_X10_80 : Cond.fieldLink RX10 80 "LuteFingers" "arranged" "Z" ∈ wsL_law := wi_1 (List.mem_of_getElem? (i := 16) rfl)
theorem Tfl_X10_80 : Cond.fieldLink RX10 80 "LuteFingers" "arranged" "Z" ∈ lw_tbl := tb_2 (List.mem_of_getElem? (i := 28) (by decide +kernel))
theorem fl_X10_84 : Cond.fieldLink RX10 84 "LuteFingers" "leftPrice" "I" ∈ wsL_law := wi_1 (List.mem_of_getElem? (i := 17) rfl)
theorem Tfl_X10_84 : Cond.fieldLink RX10 84 "LuteFingers" "leftPrice" "I" ∈ lw_tbl := tb_2 (List.mem_of_getElem? (i := 29) (by decide +kernel))
theorem fl_X10_87 : Cond.fieldLink RX10 87 "LuteFingers" "restCost" "I" ∈ wsL_law := wi_1 (List.mem_of_getElem? (i := 18) rfl)
theorem Tfl_X10_87 : Cond.fieldLink RX10 87 "LuteFingers" "restCost" "I" ∈ lw_tbl := tb_2 (List.mem_of_getElem? (i := 30) (by decide +kernel))
theorem im_X4_init : Cond.instanceMethod yX4_init ∈ wsL_law := wi_1 (List.mem_of_getElem? (i := 19) rfl)
theorem Tim_X4_init : Cond.instanceMethod yX4_init ∈ lw_tbl := tb_1 (List.mem_of_getElem? (i := 28) (by decide +kernel))
theorem cd_X4_init : Cond.code yX4_init cX4_init 1 none ∈ wsL_law := wi_1 (List.mem_of_getElem? (i := 20) rfl)
theorem Tcd_X4_init : Cond.code yX4_init cX4_init 1 none ∈ lw_tbl := tb_1 (List.mem_of_getElem? (i := 29) rfl)
theorem ml_X4_3 : Cond.methodLink RX4 3 objectInit ∈ wsL_law := wi_1 (List.mem_of_getElem? (i := 21) rfl)
theorem Tml_X4_3 : Cond.methodLink RX4 3 objectInit ∈ lw_tbl := tb_1 (List.mem_of_getElem? (i := 30) (by decide +kernel))
theorem fl_X4_9 : Cond.fieldLink RX4 9 "LuteFingers$Lute" "courses" "I" ∈ wsL_law := wi_1 (List.mem_of_getElem? (i := 22) rfl)
theorem Tfl_X4_9 : Cond.fieldLink RX4 9 "LuteFingers$Lute" "courses" "I" ∈ lw_tbl := tb_1 (List.mem_of_getElem? (i := 34) (by decide +kernel))
theorem fl_X4_15 : Cond.fieldLink RX4 15 "LuteFingers$Lute" "barsMay" "Z" ∈ wsL_law := wi_1 (List.mem_of_getElem? (i := 23) rfl)
theorem Tfl_X4_15 : Cond.fieldLink RX4 15 "LuteFingers$Lute" "barsMay" "Z" ∈ lw_tbl := tb_1 (List.mem_of_getElem? (i := 38) (by decide +kernel))
theorem fl_X4_19 : Cond.fieldLink RX4 19 "LuteFingers$Lute" "tunes" "[I" ∈ wsL_law := wi_1 (List.mem_of_getElem? (i := 24) rfl)
theorem Tfl_X4_19 : Cond.fieldLink RX4 19 "LuteFingers$Lute" "tunes" "[I" ∈ lw_tbl := tb_1 (List.mem_of_getElem? (i := 41) (by decide +kernel))
theorem fl_X4_23 : Cond.fieldLink RX4 23 "LuteFingers$Lute" "frets" "[I" ∈ wsL_law := wi_1 (List.mem_of_getElem? (i := 25) rfl)
theorem Tfl_X4_23 : Cond.fieldLink RX4 23 "LuteFingers$Lute" "frets" "[I" ∈ lw_tbl := tb_1 (List.mem_of_getElem? (i := 44) (by decide +kernel))
theorem fl_X4_26 : Cond.fieldLink RX4 26 "LuteFingers$Lute" "slacks" "[I" ∈ wsL_law := wi_1 (List.mem_of_getElem? (i := 26) rfl)
theorem Tfl_X4_26 : Cond.fieldLink RX4 26 "LuteFingers$Lute" "slacks" "[I" ∈ lw_tbl := tb_1 (List.mem_of_getElem? (i := 46) (by decide +kernel))
theorem fl_X4_29 : Cond.fieldLink RX4 29 "LuteFingers$Lute" "weights" "[I" ∈ wsL_law := wi_1 (List.mem_of_getElem? (i := 27) rfl)
theorem Tfl_X4_29 : Cond.fieldLink RX4 29 "LuteFingers$Lute" "weights" "[I" ∈ lw_tbl := tb_1 (List.mem_of_getElem? (i := 48) (by decide +kernel))
theorem fl_X4_32 : Cond.fieldLink RX4 32 "LuteFingers$Lute" "tunings" "[I" ∈ wsL_law := wi_1 (List.mem_of_getElem? (i := 28) rfl)
theorem Tfl_X4_32 : Cond.fieldLink RX4 32 "LuteFingers$Lute" "tunings" "[I" ∈ lw_tbl := tb_1 (List.mem_of_getElem? (i := 51) (by decide +kernel))
theorem ml_X4_35 : Cond.methodLink RX4 35 yJ7_fill_53178 ∈ wsL_law := wi_1 (List.mem_of_getElem? (i := 29) rfl)
theorem Tml_X4_35 : Cond.methodLink RX4 35 yJ7_fill_53178 ∈ lw_tbl := tb_1 (List.mem_of_getElem? (i := 31) (by decide +kernel))
theorem tA_1 : ∀ w ∈ wA_1, w ∈ lw_tbl := List.forall_mem_cons.mpr ⟨Tiz_X2, List.forall_mem_cons.mpr ⟨Tfl_X10_44, List.forall_mem_cons.mpr ⟨Tfl_X10_48, List.forall_mem_cons.mpr ⟨Tcl_X10_51, List.forall_mem_cons.mpr ⟨Tis_X9, List.forall_mem_cons.mpr ⟨Tiz_X9, List.forall_mem_cons.mpr ⟨Tfl_X10_54, List.forall_mem_cons.mpr ⟨Tcl_X10_58, List.forall_mem_cons.mpr ⟨Tis_X8, List.forall_mem_cons.mpr ⟨Tiz_X8, List.forall_mem_cons.mpr ⟨Tfl_X10_61, List.forall_mem_cons.mpr ⟨Tac_int, List.forall_mem_cons.mpr ⟨Tfl_X10_65, List.forall_mem_cons.mpr ⟨Tfl_X10_69, List.forall_mem_cons.mpr ⟨Tfl_X10_73, List.forall_mem_cons.mpr ⟨Tfl_X10_77, List.forall_mem_cons.mpr ⟨Tfl_X10_80, List.forall_mem_cons.mpr ⟨Tfl_X10_84, List.forall_mem_cons.mpr ⟨Tfl_X10_87, List.forall_mem_cons.mpr ⟨Tim_X4_init, List.forall_mem_cons.mpr ⟨Tcd_X4_init, List.forall_mem_cons.mpr ⟨Tml_X4_3, List.forall_mem_cons.mpr ⟨Tfl_X4_9, List.forall_mem_cons.mpr ⟨Tfl_X4_15, List.forall_mem_cons.mpr ⟨Tfl_X4_19, List.forall_mem_cons.mpr ⟨Tfl_X4_23, List.forall_mem_cons.mpr ⟨Tfl_X4_26, List.forall_mem_cons.mpr ⟨Tfl_X4_29, List.forall_mem_cons.mpr ⟨Tfl_X4_32, List.forall_mem_cons.mpr ⟨Tml_X4_35, fun _ h => absurd h List.not_mem_nil⟩⟩⟩⟩⟩⟩⟩⟩⟩⟩⟩⟩⟩⟩⟩⟩⟩⟩⟩⟩⟩⟩⟩⟩⟩⟩⟩⟩⟩⟩
theorem st_J7_fill_53178 : Cond.static yJ7_fill_53178 ∈ wsL_law := wi_2 (List.mem_of_getElem? (i := 0) rfl)
theorem Tst_J7_fill_53178 : Cond.static yJ7_fill_53178 ∈ lw_tbl := tb_1 (List.mem_of_getElem? (i := 32) (by decide +kernel))
theorem iz_J7 : Cond.initialized RJ7 ∈ wsL_law := wi_2 (List.mem_of_getElem? (i := 1) rfl)
theorem Tiz_J7 : Cond.initialized RJ7 ∈ lw_tbl := tb_1 (List.mem_of_getElem? (i := 3) (by decide +kernel))
theorem cd_J7_fill_53178 : Cond.code yJ7_fill_53178 cJ7_fill_53178 4 none ∈ wsL_law := wi_2 (List.mem_of_getElem? (i := 2) rfl)
theorem Tcd_J7_fill_53178 : Cond.code yJ7_fill_53178 cJ7_fill_53178 4 none ∈ lw_tbl := tb_1 (List.mem_of_getElem? (i := 33) rfl)
theorem im_X5_init : Cond.instanceMethod yX5_init ∈ wsL_law := wi_2 (List.mem_of_getElem? (i := 3) rfl)
theorem Tim_X5_init : Cond.instanceMethod yX5_init ∈ lw_tbl := tb_1 (List.mem_of_getElem? (i := 72) (by decide +kernel))
theorem cd_X5_init : Cond.code yX5_init cX5_init 1 none ∈ wsL_law := wi_2 (List.mem_of_getElem? (i := 4) rfl)
theorem Tcd_X5_init : Cond.code yX5_init cX5_init 1 none ∈ lw_tbl := tb_1 (List.mem_of_getElem? (i := 73) rfl)
theorem ml_X5_3 : Cond.methodLink RX5 3 objectInit ∈ wsL_law := wi_2 (List.mem_of_getElem? (i := 5) rfl)
theorem Tml_X5_3 : Cond.methodLink RX5 3 objectInit ∈ lw_tbl := tb_1 (List.mem_of_getElem? (i := 74) (by decide +kernel))
theorem fl_X5_9 : Cond.fieldLink RX5 9 "LuteFingers$Piece" "ticks" "I" ∈ wsL_law := wi_2 (List.mem_of_getElem? (i := 6) rfl)
theorem Tfl_X5_9 : Cond.fieldLink RX5 9 "LuteFingers$Piece" "ticks" "I" ∈ lw_tbl := tb_1 (List.mem_of_getElem? (i := 75) (by decide +kernel))
theorem fl_X5_15 : Cond.fieldLink RX5 15 "LuteFingers$Piece" "sizes" "[I" ∈ wsL_law := wi_2 (List.mem_of_getElem? (i := 7) rfl)
theorem Tfl_X5_15 : Cond.fieldLink RX5 15 "LuteFingers$Piece" "sizes" "[I" ∈ lw_tbl := tb_1 (List.mem_of_getElem? (i := 81) (by decide +kernel))
theorem fl_X5_19 : Cond.fieldLink RX5 19 "LuteFingers$Piece" "pitches" "[I" ∈ wsL_law := wi_2 (List.mem_of_getElem? (i := 8) rfl)
theorem Tfl_X5_19 : Cond.fieldLink RX5 19 "LuteFingers$Piece" "pitches" "[I" ∈ lw_tbl := tb_1 (List.mem_of_getElem? (i := 86) (by decide +kernel))
theorem fl_X5_22 : Cond.fieldLink RX5 22 "LuteFingers$Piece" "kinds" "[I" ∈ wsL_law := wi_2 (List.mem_of_getElem? (i := 9) rfl)
theorem Tfl_X5_22 : Cond.fieldLink RX5 22 "LuteFingers$Piece" "kinds" "[I" ∈ lw_tbl := tb_1 (List.mem_of_getElem? (i := 90) (by decide +kernel))
theorem fl_X5_25 : Cond.fieldLink RX5 25 "LuteFingers$Piece" "prices" "[I" ∈ wsL_law := wi_2 (List.mem_of_getElem? (i := 10) rfl)
theorem Tfl_X5_25 : Cond.fieldLink RX5 25 "LuteFingers$Piece" "prices" "[I" ∈ lw_tbl := tb_1 (List.mem_of_getElem? (i := 93) (by decide +kernel))
theorem fl_X5_28 : Cond.fieldLink RX5 28 "LuteFingers$Piece" "fores" "[I" ∈ wsL_law := wi_2 (List.mem_of_getElem? (i := 11) rfl)
theorem Tfl_X5_28 : Cond.fieldLink RX5 28 "LuteFingers$Piece" "fores" "[I" ∈ lw_tbl := tb_1 (List.mem_of_getElem? (i := 96) (by decide +kernel))
theorem fl_X5_31 : Cond.fieldLink RX5 31 "LuteFingers$Piece" "fixed" "[I" ∈ wsL_law := wi_2 (List.mem_of_getElem? (i := 12) rfl)
theorem Tfl_X5_31 : Cond.fieldLink RX5 31 "LuteFingers$Piece" "fixed" "[I" ∈ lw_tbl := tb_1 (List.mem_of_getElem? (i := 98) (by decide +kernel))
theorem im_X6_init : Cond.instanceMethod yX6_init ∈ wsL_law := wi_2 (List.mem_of_getElem? (i := 13) rfl)
theorem Tim_X6_init : Cond.instanceMethod yX6_init ∈ lw_tbl := tb_1 (List.mem_of_getElem? (i := 120) (by decide +kernel))
theorem cd_X6_init : Cond.code yX6_init cX6_init 1 none ∈ wsL_law := wi_2 (List.mem_of_getElem? (i := 14) rfl)
theorem Tcd_X6_init : Cond.code yX6_init cX6_init 1 none ∈ lw_tbl := tb_1 (List.mem_of_getElem? (i := 121) rfl)
theorem ml_X6_3 : Cond.methodLink RX6 3 objectInit ∈ wsL_law := wi_2 (List.mem_of_getElem? (i := 15) rfl)
theorem Tml_X6_3 : Cond.methodLink RX6 3 objectInit ∈ lw_tbl := tb_1 (List.mem_of_getElem? (i := 122) (by decide +kernel))
theorem fl_X6_9 : Cond.fieldLink RX6 9 "LuteFingers$Tape" "bytes" "[I" ∈ wsL_law := wi_2 (List.mem_of_getElem? (i := 16) rfl)
theorem Tfl_X6_9 : Cond.fieldLink RX6 9 "LuteFingers$Tape" "bytes" "[I" ∈ lw_tbl := tb_1 (List.mem_of_getElem? (i := 123) (by decide +kernel))
theorem fl_X6_15 : Cond.fieldLink RX6 15 "LuteFingers$Tape" "length" "I" ∈ wsL_law := wi_2 (List.mem_of_getElem? (i := 17) rfl)
theorem Tfl_X6_15 : Cond.fieldLink RX6 15 "LuteFingers$Tape" "length" "I" ∈ lw_tbl := tb_1 (List.mem_of_getElem? (i := 126) (by decide +kernel))
theorem im_X3_init : Cond.instanceMethod yX3_init ∈ wsL_law := wi_2 (List.mem_of_getElem? (i := 18) rfl)
theorem Tim_X3_init : Cond.instanceMethod yX3_init ∈ lw_tbl := tb_1 (List.mem_of_getElem? (i := 137) (by decide +kernel))
theorem cd_X3_init : Cond.code yX3_init cX3_init 3 none ∈ wsL_law := wi_2 (List.mem_of_getElem? (i := 19) rfl)
theorem Tcd_X3_init : Cond.code yX3_init cX3_init 3 none ∈ lw_tbl := tb_1 (List.mem_of_getElem? (i := 138) rfl)
theorem ml_X3_3 : Cond.methodLink RX3 3 objectInit ∈ wsL_law := wi_2 (List.mem_of_getElem? (i := 20) rfl)
theorem Tml_X3_3 : Cond.methodLink RX3 3 objectInit ∈ lw_tbl := tb_1 (List.mem_of_getElem? (i := 139) (by decide +kernel))
theorem fl_X3_9 : Cond.fieldLink RX3 9 "LuteFingers$GripSearch" "courses" "[I" ∈ wsL_law := wi_2 (List.mem_of_getElem? (i := 21) rfl)
theorem Tfl_X3_9 : Cond.fieldLink RX3 9 "LuteFingers$GripSearch" "courses" "[I" ∈ lw_tbl := tb_1 (List.mem_of_getElem? (i := 142) (by decide +kernel))
theorem fl_X3_15 : Cond.fieldLink RX3 15 "LuteFingers$GripSearch" "frets" "[I" ∈ wsL_law := wi_2 (List.mem_of_getElem? (i := 22) rfl)
theorem Tfl_X3_15 : Cond.fieldLink RX3 15 "LuteFingers$GripSearch" "frets" "[I" ∈ lw_tbl := tb_1 (List.mem_of_getElem? (i := 143) (by decide +kernel))
theorem fl_X3_18 : Cond.fieldLink RX3 18 "LuteFingers$GripSearch" "choices" "[I" ∈ wsL_law := wi_2 (List.mem_of_getElem? (i := 23) rfl)
theorem Tfl_X3_18 : Cond.fieldLink RX3 18 "LuteFingers$GripSearch" "choices" "[I" ∈ lw_tbl := tb_1 (List.mem_of_getElem? (i := 144) (by decide +kernel))
theorem fl_X3_21 : Cond.fieldLink RX3 21 "LuteFingers$GripSearch" "notes" "I" ∈ wsL_law := wi_2 (List.mem_of_getElem? (i := 24) rfl)
theorem Tfl_X3_21 : Cond.fieldLink RX3 21 "LuteFingers$GripSearch" "notes" "I" ∈ lw_tbl := tb_1 (List.mem_of_getElem? (i := 145) (by decide +kernel))
theorem fl_X3_25 : Cond.fieldLink RX3 25 "LuteFingers$GripSearch" "set" "I" ∈ wsL_law := wi_2 (List.mem_of_getElem? (i := 25) rfl)
theorem Tfl_X3_25 : Cond.fieldLink RX3 25 "LuteFingers$GripSearch" "set" "I" ∈ lw_tbl := tb_1 (List.mem_of_getElem? (i := 146) (by decide +kernel))
theorem fl_X3_28 : Cond.fieldLink RX3 28 "LuteFingers$GripSearch" "place" "I" ∈ wsL_law := wi_2 (List.mem_of_getElem? (i := 26) rfl)
theorem Tfl_X3_28 : Cond.fieldLink RX3 28 "LuteFingers$GripSearch" "place" "I" ∈ lw_tbl := tb_1 (List.mem_of_getElem? (i := 147) (by decide +kernel))
theorem fl_X3_31 : Cond.fieldLink RX3 31 "LuteFingers$GripSearch" "most" "I" ∈ wsL_law := wi_2 (List.mem_of_getElem? (i := 27) rfl)
theorem Tfl_X3_31 : Cond.fieldLink RX3 31 "LuteFingers$GripSearch" "most" "I" ∈ lw_tbl := tb_1 (List.mem_of_getElem? (i := 148) (by decide +kernel))
theorem fl_X3_34 : Cond.fieldLink RX3 34 "LuteFingers$GripSearch" "found" "I" ∈ wsL_law := wi_2 (List.mem_of_getElem? (i := 28) rfl)
theorem Tfl_X3_34 : Cond.fieldLink RX3 34 "LuteFingers$GripSearch" "found" "I" ∈ lw_tbl := tb_1 (List.mem_of_getElem? (i := 149) (by decide +kernel))
theorem fl_X3_37 : Cond.fieldLink RX3 37 "LuteFingers$GripSearch" "from" "I" ∈ wsL_law := wi_2 (List.mem_of_getElem? (i := 29) rfl)
theorem Tfl_X3_37 : Cond.fieldLink RX3 37 "LuteFingers$GripSearch" "from" "I" ∈ lw_tbl := tb_1 (List.mem_of_getElem? (i := 150) (by decide +kernel))
theorem tA_2 : ∀ w ∈ wA_2, w ∈ lw_tbl := List.forall_mem_cons.mpr ⟨Tst_J7_fill_53178, List.forall_mem_cons.mpr ⟨Tiz_J7, List.forall_mem_cons.mpr ⟨Tcd_J7_fill_53178, List.forall_mem_cons.mpr ⟨Tim_X5_init, List.forall_mem_cons.mpr ⟨Tcd_X5_init, List.forall_mem_cons.mpr ⟨Tml_X5_3, List.forall_mem_cons.mpr ⟨Tfl_X5_9, List.forall_mem_cons.mpr ⟨Tfl_X5_15, List.forall_mem_cons.mpr ⟨Tfl_X5_19, List.forall_mem_cons.mpr ⟨Tfl_X5_22, List.forall_mem_cons.mpr ⟨Tfl_X5_25, List.forall_mem_cons.mpr ⟨Tfl_X5_28, List.forall_mem_cons.mpr ⟨Tfl_X5_31, List.forall_mem_cons.mpr ⟨Tim_X6_init, List.forall_mem_cons.mpr ⟨Tcd_X6_init, List.forall_mem_cons.mpr ⟨Tml_X6_3, List.forall_mem_cons.mpr ⟨Tfl_X6_9, List.forall_mem_cons.mpr ⟨Tfl_X6_15, List.forall_mem_cons.mpr ⟨Tim_X3_init, List.forall_mem_cons.mpr ⟨Tcd_X3_init, List.forall_mem_cons.mpr ⟨Tml_X3_3, List.forall_mem_cons.mpr ⟨Tfl_X3_9, List.forall_mem_cons.mpr ⟨Tfl_X3_15, List.forall_mem_cons.mpr ⟨Tfl_X3_18, List.forall_mem_cons.mpr ⟨Tfl_X3_21, List.forall_mem_cons.mpr ⟨Tfl_X3_25, List.forall_mem_cons.mpr ⟨Tfl_X3_28, List.forall_mem_cons.mpr ⟨Tfl_X3_31, List.forall_mem_cons.mpr ⟨Tfl_X3_34, List.forall_mem_cons.mpr ⟨Tfl_X3_37, fun _ h => absurd h List.not_mem_nil⟩⟩⟩⟩⟩⟩⟩⟩⟩⟩⟩⟩⟩⟩⟩⟩⟩⟩⟩⟩⟩⟩⟩⟩⟩⟩⟩⟩⟩⟩
theorem fl_X3_40 : Cond.fieldLink RX3 40 "LuteFingers$GripSearch" "out" "[J" ∈ wsL_law := wi_3 (List.mem_of_getElem? (i := 0) rfl)
theorem Tfl_X3_40 : Cond.fieldLink RX3 40 "LuteFingers$GripSearch" "out" "[J" ∈ lw_tbl := tb_1 (List.mem_of_getElem? (i := 151) (by decide +kernel))
theorem fl_X3_44 : Cond.fieldLink RX3 44 "LuteFingers$GripSearch" "lute" "LLuteFingers$Lute;" ∈ wsL_law := wi_3 (List.mem_of_getElem? (i := 1) rfl)
theorem Tfl_X3_44 : Cond.fieldLink RX3 44 "LuteFingers$GripSearch" "lute" "LLuteFingers$Lute;" ∈ lw_tbl := tb_1 (List.mem_of_getElem? (i := 140) (by decide +kernel))
theorem fl_X3_48 : Cond.fieldLink RX3 48 "LuteFingers$GripSearch" "piece" "LLuteFingers$Piece;" ∈ wsL_law := wi_3 (List.mem_of_getElem? (i := 2) rfl)
theorem Tfl_X3_48 : Cond.fieldLink RX3 48 "LuteFingers$GripSearch" "piece" "LLuteFingers$Piece;" ∈ lw_tbl := tb_1 (List.mem_of_getElem? (i := 141) (by decide +kernel))
theorem im_X2_init : Cond.instanceMethod yX2_init ∈ wsL_law := wi_3 (List.mem_of_getElem? (i := 3) rfl)
theorem Tim_X2_init : Cond.instanceMethod yX2_init ∈ lw_tbl := tb_1 (List.mem_of_getElem? (i := 180) (by decide +kernel))
theorem cd_X2_init : Cond.code yX2_init cX2_init 3 none ∈ wsL_law := wi_3 (List.mem_of_getElem? (i := 4) rfl)
theorem Tcd_X2_init : Cond.code yX2_init cX2_init 3 none ∈ lw_tbl := tb_1 (List.mem_of_getElem? (i := 181) rfl)
theorem ml_X2_3 : Cond.methodLink RX2 3 objectInit ∈ wsL_law := wi_3 (List.mem_of_getElem? (i := 5) rfl)
theorem Tml_X2_3 : Cond.methodLink RX2 3 objectInit ∈ lw_tbl := tb_1 (List.mem_of_getElem? (i := 182) (by decide +kernel))
theorem ac_long : Cond.arrayClass .long ∈ wsL_law := wi_3 (List.mem_of_getElem? (i := 6) rfl)
theorem Tac_long : Cond.arrayClass .long ∈ lw_tbl := tb_1 (List.mem_of_getElem? (i := 197) (by decide +kernel))
theorem fl_X2_9 : Cond.fieldLink RX2 9 "LuteFingers$GripBook" "rows" "[J" ∈ wsL_law := wi_3 (List.mem_of_getElem? (i := 7) rfl)
theorem Tfl_X2_9 : Cond.fieldLink RX2 9 "LuteFingers$GripBook" "rows" "[J" ∈ lw_tbl := tb_1 (List.mem_of_getElem? (i := 186) (by decide +kernel))
theorem fl_X2_15 : Cond.fieldLink RX2 15 "LuteFingers$GripBook" "sizes" "[I" ∈ wsL_law := wi_3 (List.mem_of_getElem? (i := 8) rfl)
theorem Tfl_X2_15 : Cond.fieldLink RX2 15 "LuteFingers$GripBook" "sizes" "[I" ∈ lw_tbl := tb_1 (List.mem_of_getElem? (i := 187) (by decide +kernel))
theorem fl_X2_19 : Cond.fieldLink RX2 19 "LuteFingers$GripBook" "piece" "LLuteFingers$Piece;" ∈ wsL_law := wi_3 (List.mem_of_getElem? (i := 9) rfl)
theorem Tfl_X2_19 : Cond.fieldLink RX2 19 "LuteFingers$GripBook" "piece" "LLuteFingers$Piece;" ∈ lw_tbl := tb_1 (List.mem_of_getElem? (i := 184) (by decide +kernel))
theorem fl_X2_23 : Cond.fieldLink RX2 23 "LuteFingers$GripBook" "search" "LLuteFingers$GripSearch;" ∈ wsL_law := wi_3 (List.mem_of_getElem? (i := 10) rfl)
theorem Tfl_X2_23 : Cond.fieldLink RX2 23 "LuteFingers$GripBook" "search" "LLuteFingers$GripSearch;" ∈ lw_tbl := tb_1 (List.mem_of_getElem? (i := 185) (by decide +kernel))
theorem ml_X2_27 : Cond.methodLink RX2 27 yJ7_fill_53178 ∈ wsL_law := wi_3 (List.mem_of_getElem? (i := 11) rfl)
theorem Tml_X2_27 : Cond.methodLink RX2 27 yJ7_fill_53178 ∈ lw_tbl := tb_1 (List.mem_of_getElem? (i := 183) (by decide +kernel))
theorem im_X9_init : Cond.instanceMethod yX9_init ∈ wsL_law := wi_3 (List.mem_of_getElem? (i := 12) rfl)
theorem Tim_X9_init : Cond.instanceMethod yX9_init ∈ lw_tbl := tb_1 (List.mem_of_getElem? (i := 201) (by decide +kernel))
theorem cd_X9_init : Cond.code yX9_init cX9_init 3 none ∈ wsL_law := wi_3 (List.mem_of_getElem? (i := 13) rfl)
theorem Tcd_X9_init : Cond.code yX9_init cX9_init 3 none ∈ lw_tbl := tb_1 (List.mem_of_getElem? (i := 202) rfl)
theorem ml_X9_5 : Cond.methodLink RX9 5 objectInit ∈ wsL_law := wi_3 (List.mem_of_getElem? (i := 14) rfl)
theorem Tml_X9_5 : Cond.methodLink RX9 5 objectInit ∈ lw_tbl := tb_1 (List.mem_of_getElem? (i := 203) (by decide +kernel))
theorem fl_X9_11 : Cond.fieldLink RX9 11 "LuteFingers$WaySearch" "book" "LLuteFingers$GripBook;" ∈ wsL_law := wi_3 (List.mem_of_getElem? (i := 15) rfl)
theorem Tfl_X9_11 : Cond.fieldLink RX9 11 "LuteFingers$WaySearch" "book" "LLuteFingers$GripBook;" ∈ lw_tbl := tb_1 (List.mem_of_getElem? (i := 206) (by decide +kernel))
theorem fl_X9_15 : Cond.fieldLink RX9 15 "LuteFingers$WaySearch" "followers" "[I" ∈ wsL_law := wi_3 (List.mem_of_getElem? (i := 16) rfl)
theorem Tfl_X9_15 : Cond.fieldLink RX9 15 "LuteFingers$WaySearch" "followers" "[I" ∈ lw_tbl := tb_1 (List.mem_of_getElem? (i := 207) (by decide +kernel))
theorem fl_X9_19 : Cond.fieldLink RX9 19 "LuteFingers$WaySearch" "alive" "[I" ∈ wsL_law := wi_3 (List.mem_of_getElem? (i := 17) rfl)
theorem Tfl_X9_19 : Cond.fieldLink RX9 19 "LuteFingers$WaySearch" "alive" "[I" ∈ lw_tbl := tb_1 (List.mem_of_getElem? (i := 208) (by decide +kernel))
theorem fl_X9_22 : Cond.fieldLink RX9 22 "LuteFingers$WaySearch" "places" "[I" ∈ wsL_law := wi_3 (List.mem_of_getElem? (i := 18) rfl)
theorem Tfl_X9_22 : Cond.fieldLink RX9 22 "LuteFingers$WaySearch" "places" "[I" ∈ lw_tbl := tb_1 (List.mem_of_getElem? (i := 209) (by decide +kernel))
theorem fl_X9_25 : Cond.fieldLink RX9 25 "LuteFingers$WaySearch" "table" "[I" ∈ wsL_law := wi_3 (List.mem_of_getElem? (i := 19) rfl)
theorem Tfl_X9_25 : Cond.fieldLink RX9 25 "LuteFingers$WaySearch" "table" "[I" ∈ lw_tbl := tb_1 (List.mem_of_getElem? (i := 210) (by decide +kernel))
theorem fl_X9_28 : Cond.fieldLink RX9 28 "LuteFingers$WaySearch" "depth" "I" ∈ wsL_law := wi_3 (List.mem_of_getElem? (i := 20) rfl)
theorem Tfl_X9_28 : Cond.fieldLink RX9 28 "LuteFingers$WaySearch" "depth" "I" ∈ lw_tbl := tb_1 (List.mem_of_getElem? (i := 211) (by decide +kernel))
theorem fl_X9_32 : Cond.fieldLink RX9 32 "LuteFingers$WaySearch" "lute" "LLuteFingers$Lute;" ∈ wsL_law := wi_3 (List.mem_of_getElem? (i := 21) rfl)
theorem Tfl_X9_32 : Cond.fieldLink RX9 32 "LuteFingers$WaySearch" "lute" "LLuteFingers$Lute;" ∈ lw_tbl := tb_1 (List.mem_of_getElem? (i := 204) (by decide +kernel))
theorem fl_X9_36 : Cond.fieldLink RX9 36 "LuteFingers$WaySearch" "piece" "LLuteFingers$Piece;" ∈ wsL_law := wi_3 (List.mem_of_getElem? (i := 22) rfl)
theorem Tfl_X9_36 : Cond.fieldLink RX9 36 "LuteFingers$WaySearch" "piece" "LLuteFingers$Piece;" ∈ lw_tbl := tb_1 (List.mem_of_getElem? (i := 205) (by decide +kernel))
theorem im_X8_init : Cond.instanceMethod yX8_init ∈ wsL_law := wi_3 (List.mem_of_getElem? (i := 23) rfl)
theorem Tim_X8_init : Cond.instanceMethod yX8_init ∈ lw_tbl := tb_1 (List.mem_of_getElem? (i := 232) (by decide +kernel))
theorem cd_X8_init : Cond.code yX8_init cX8_init 1 none ∈ wsL_law := wi_3 (List.mem_of_getElem? (i := 24) rfl)
theorem Tcd_X8_init : Cond.code yX8_init cX8_init 1 none ∈ lw_tbl := tb_1 (List.mem_of_getElem? (i := 233) rfl)
theorem ml_X8_3 : Cond.methodLink RX8 3 objectInit ∈ wsL_law := wi_3 (List.mem_of_getElem? (i := 25) rfl)
theorem Tml_X8_3 : Cond.methodLink RX8 3 objectInit ∈ lw_tbl := tb_1 (List.mem_of_getElem? (i := 234) (by decide +kernel))
theorem fl_X8_9 : Cond.fieldLink RX8 9 "LuteFingers$WayList" "numbers" "[I" ∈ wsL_law := wi_3 (List.mem_of_getElem? (i := 26) rfl)
theorem Tfl_X8_9 : Cond.fieldLink RX8 9 "LuteFingers$WayList" "numbers" "[I" ∈ lw_tbl := tb_1 (List.mem_of_getElem? (i := 235) (by decide +kernel))
theorem fl_X8_15 : Cond.fieldLink RX8 15 "LuteFingers$WayList" "costs" "[I" ∈ wsL_law := wi_3 (List.mem_of_getElem? (i := 27) rfl)
theorem Tfl_X8_15 : Cond.fieldLink RX8 15 "LuteFingers$WayList" "costs" "[I" ∈ lw_tbl := tb_1 (List.mem_of_getElem? (i := 237) (by decide +kernel))
theorem fl_X8_18 : Cond.fieldLink RX8 18 "LuteFingers$WayList" "known" "I" ∈ wsL_law := wi_3 (List.mem_of_getElem? (i := 28) rfl)
theorem Tfl_X8_18 : Cond.fieldLink RX8 18 "LuteFingers$WayList" "known" "I" ∈ lw_tbl := tb_1 (List.mem_of_getElem? (i := 239) (by decide +kernel))
theorem fl_X8_22 : Cond.fieldLink RX8 22 "LuteFingers$WayList" "which" "I" ∈ wsL_law := wi_3 (List.mem_of_getElem? (i := 29) rfl)
theorem Tfl_X8_22 : Cond.fieldLink RX8 22 "LuteFingers$WayList" "which" "I" ∈ lw_tbl := tb_2 (List.mem_of_getElem? (i := 1) (by decide +kernel))
theorem tA_3 : ∀ w ∈ wA_3, w ∈ lw_tbl := List.forall_mem_cons.mpr ⟨Tfl_X3_40, List.forall_mem_cons.mpr ⟨Tfl_X3_44, List.forall_mem_cons.mpr ⟨Tfl_X3_48, List.forall_mem_cons.mpr ⟨Tim_X2_init, List.forall_mem_cons.mpr ⟨Tcd_X2_init, List.forall_mem_cons.mpr ⟨Tml_X2_3, List.forall_mem_cons.mpr ⟨Tac_long, List.forall_mem_cons.mpr ⟨Tfl_X2_9, List.forall_mem_cons.mpr ⟨Tfl_X2_15, List.forall_mem_cons.mpr ⟨Tfl_X2_19, List.forall_mem_cons.mpr ⟨Tfl_X2_23, List.forall_mem_cons.mpr ⟨Tml_X2_27, List.forall_mem_cons.mpr ⟨Tim_X9_init, List.forall_mem_cons.mpr ⟨Tcd_X9_init, List.forall_mem_cons.mpr ⟨Tml_X9_5, List.forall_mem_cons.mpr ⟨Tfl_X9_11, List.forall_mem_cons.mpr ⟨Tfl_X9_15, List.forall_mem_cons.mpr ⟨Tfl_X9_19, List.forall_mem_cons.mpr ⟨Tfl_X9_22, List.forall_mem_cons.mpr ⟨Tfl_X9_25, List.forall_mem_cons.mpr ⟨Tfl_X9_28, List.forall_mem_cons.mpr ⟨Tfl_X9_32, List.forall_mem_cons.mpr ⟨Tfl_X9_36, List.forall_mem_cons.mpr ⟨Tim_X8_init, List.forall_mem_cons.mpr ⟨Tcd_X8_init, List.forall_mem_cons.mpr ⟨Tml_X8_3, List.forall_mem_cons.mpr ⟨Tfl_X8_9, List.forall_mem_cons.mpr ⟨Tfl_X8_15, List.forall_mem_cons.mpr ⟨Tfl_X8_18, List.forall_mem_cons.mpr ⟨Tfl_X8_22, fun _ h => absurd h List.not_mem_nil⟩⟩⟩⟩⟩⟩⟩⟩⟩⟩⟩⟩⟩⟩⟩⟩⟩⟩⟩⟩⟩⟩⟩⟩⟩⟩⟩⟩⟩⟩
theorem fl_X8_25 : Cond.fieldLink RX8 25 "LuteFingers$WayList" "complete" "Z" ∈ wsL_law := wi_4 (List.mem_of_getElem? (i := 0) rfl)
theorem Tfl_X8_25 : Cond.fieldLink RX8 25 "LuteFingers$WayList" "complete" "Z" ∈ lw_tbl := tb_2 (List.mem_of_getElem? (i := 3) (by decide +kernel))
theorem ml_L_12 : Cond.methodLink RL 12 yX11_init ∈ wsL_law := wi_4 (List.mem_of_getElem? (i := 1) rfl)
theorem Tml_L_12 : Cond.methodLink RL 12 yX11_init ∈ lw_tbl := tb_4 (List.mem_of_getElem? (i := 199) (by decide +kernel))
theorem im_X11_init : Cond.instanceMethod yX11_init ∈ wsL_law := wi_4 (List.mem_of_getElem? (i := 2) rfl)
theorem Tim_X11_init : Cond.instanceMethod yX11_init ∈ lw_tbl := tb_4 (List.mem_of_getElem? (i := 200) (by decide +kernel))
theorem cd_X11_init : Cond.code yX11_init cX11_init 1 none ∈ wsL_law := wi_4 (List.mem_of_getElem? (i := 3) rfl)
theorem Tcd_X11_init : Cond.code yX11_init cX11_init 1 none ∈ lw_tbl := tb_4 (List.mem_of_getElem? (i := 201) rfl)
theorem ml_X11_1 : Cond.methodLink RX11 1 objectInit ∈ wsL_law := wi_4 (List.mem_of_getElem? (i := 4) rfl)
theorem Tml_X11_1 : Cond.methodLink RX11 1 objectInit ∈ lw_tbl := tb_4 (List.mem_of_getElem? (i := 202) (by decide +kernel))
theorem fl_X11_7 : Cond.fieldLink RX11 7 "LuteFingersModel" "courses" "I" ∈ wsL_law := wi_4 (List.mem_of_getElem? (i := 5) rfl)
theorem Tfl_X11_7 : Cond.fieldLink RX11 7 "LuteFingersModel" "courses" "I" ∈ lw_tbl := tb_4 (List.mem_of_getElem? (i := 205) (by decide +kernel))
theorem fl_X11_13 : Cond.fieldLink RX11 13 "LuteFingersModel" "bars" "I" ∈ wsL_law := wi_4 (List.mem_of_getElem? (i := 6) rfl)
theorem Tfl_X11_13 : Cond.fieldLink RX11 13 "LuteFingersModel" "bars" "I" ∈ lw_tbl := tb_4 (List.mem_of_getElem? (i := 206) (by decide +kernel))
theorem fl_X11_16 : Cond.fieldLink RX11 16 "LuteFingersModel" "tune" "[I" ∈ wsL_law := wi_4 (List.mem_of_getElem? (i := 7) rfl)
theorem Tfl_X11_16 : Cond.fieldLink RX11 16 "LuteFingersModel" "tune" "[I" ∈ lw_tbl := tb_4 (List.mem_of_getElem? (i := 207) (by decide +kernel))
theorem fl_X11_20 : Cond.fieldLink RX11 20 "LuteFingersModel" "frets" "[I" ∈ wsL_law := wi_4 (List.mem_of_getElem? (i := 8) rfl)
theorem Tfl_X11_20 : Cond.fieldLink RX11 20 "LuteFingersModel" "frets" "[I" ∈ lw_tbl := tb_4 (List.mem_of_getElem? (i := 208) (by decide +kernel))
theorem fl_X11_23 : Cond.fieldLink RX11 23 "LuteFingersModel" "slack" "[I" ∈ wsL_law := wi_4 (List.mem_of_getElem? (i := 9) rfl)
theorem Tfl_X11_23 : Cond.fieldLink RX11 23 "LuteFingersModel" "slack" "[I" ∈ lw_tbl := tb_4 (List.mem_of_getElem? (i := 209) (by decide +kernel))
theorem fl_X11_26 : Cond.fieldLink RX11 26 "LuteFingersModel" "weight" "[I" ∈ wsL_law := wi_4 (List.mem_of_getElem? (i := 10) rfl)
theorem Tfl_X11_26 : Cond.fieldLink RX11 26 "LuteFingersModel" "weight" "[I" ∈ lw_tbl := tb_4 (List.mem_of_getElem? (i := 210) (by decide +kernel))
theorem fl_X11_29 : Cond.fieldLink RX11 29 "LuteFingersModel" "tuning" "[I" ∈ wsL_law := wi_4 (List.mem_of_getElem? (i := 11) rfl)
theorem Tfl_X11_29 : Cond.fieldLink RX11 29 "LuteFingersModel" "tuning" "[I" ∈ lw_tbl := tb_4 (List.mem_of_getElem? (i := 211) (by decide +kernel))
theorem fl_X11_32 : Cond.fieldLink RX11 32 "LuteFingersModel" "ticks" "I" ∈ wsL_law := wi_4 (List.mem_of_getElem? (i := 12) rfl)
theorem Tfl_X11_32 : Cond.fieldLink RX11 32 "LuteFingersModel" "ticks" "I" ∈ lw_tbl := tb_4 (List.mem_of_getElem? (i := 212) (by decide +kernel))
theorem fl_X11_35 : Cond.fieldLink RX11 35 "LuteFingersModel" "nextMany" "I" ∈ wsL_law := wi_4 (List.mem_of_getElem? (i := 13) rfl)
theorem Tfl_X11_35 : Cond.fieldLink RX11 35 "LuteFingersModel" "nextMany" "I" ∈ lw_tbl := tb_4 (List.mem_of_getElem? (i := 213) (by decide +kernel))
theorem fl_X11_38 : Cond.fieldLink RX11 38 "LuteFingersModel" "many" "[I" ∈ wsL_law := wi_4 (List.mem_of_getElem? (i := 14) rfl)
theorem Tfl_X11_38 : Cond.fieldLink RX11 38 "LuteFingersModel" "many" "[I" ∈ lw_tbl := tb_4 (List.mem_of_getElem? (i := 214) (by decide +kernel))
theorem fl_X11_41 : Cond.fieldLink RX11 41 "LuteFingersModel" "pitch" "[I" ∈ wsL_law := wi_4 (List.mem_of_getElem? (i := 15) rfl)
theorem Tfl_X11_41 : Cond.fieldLink RX11 41 "LuteFingersModel" "pitch" "[I" ∈ lw_tbl := tb_4 (List.mem_of_getElem? (i := 215) (by decide +kernel))
theorem fl_X11_44 : Cond.fieldLink RX11 44 "LuteFingersModel" "kind" "[I" ∈ wsL_law := wi_4 (List.mem_of_getElem? (i := 16) rfl)
theorem Tfl_X11_44 : Cond.fieldLink RX11 44 "LuteFingersModel" "kind" "[I" ∈ lw_tbl := tb_4 (List.mem_of_getElem? (i := 216) (by decide +kernel))
theorem fl_X11_47 : Cond.fieldLink RX11 47 "LuteFingersModel" "price" "[I" ∈ wsL_law := wi_4 (List.mem_of_getElem? (i := 17) rfl)
theorem Tfl_X11_47 : Cond.fieldLink RX11 47 "LuteFingersModel" "price" "[I" ∈ lw_tbl := tb_4 (List.mem_of_getElem? (i := 217) (by decide +kernel))
theorem fl_X11_50 : Cond.fieldLink RX11 50 "LuteFingersModel" "fixed" "[I" ∈ wsL_law := wi_4 (List.mem_of_getElem? (i := 18) rfl)
theorem Tfl_X11_50 : Cond.fieldLink RX11 50 "LuteFingersModel" "fixed" "[I" ∈ lw_tbl := tb_4 (List.mem_of_getElem? (i := 218) (by decide +kernel))
theorem fl_X11_53 : Cond.fieldLink RX11 53 "LuteFingersModel" "hasWay" "Z" ∈ wsL_law := wi_4 (List.mem_of_getElem? (i := 19) rfl)
theorem Tfl_X11_53 : Cond.fieldLink RX11 53 "LuteFingersModel" "hasWay" "Z" ∈ lw_tbl := tb_4 (List.mem_of_getElem? (i := 219) (by decide +kernel))
theorem fl_X11_57 : Cond.fieldLink RX11 57 "LuteFingersModel" "isArranged" "Z" ∈ wsL_law := wi_4 (List.mem_of_getElem? (i := 20) rfl)
theorem Tfl_X11_57 : Cond.fieldLink RX11 57 "LuteFingersModel" "isArranged" "Z" ∈ lw_tbl := tb_4 (List.mem_of_getElem? (i := 220) (by decide +kernel))
theorem fl_X11_60 : Cond.fieldLink RX11 60 "LuteFingersModel" "found" "[I" ∈ wsL_law := wi_4 (List.mem_of_getElem? (i := 21) rfl)
theorem Tfl_X11_60 : Cond.fieldLink RX11 60 "LuteFingersModel" "found" "[I" ∈ lw_tbl := tb_4 (List.mem_of_getElem? (i := 221) (by decide +kernel))
theorem fl_X11_63 : Cond.fieldLink RX11 63 "LuteFingersModel" "place" "[I" ∈ wsL_law := wi_4 (List.mem_of_getElem? (i := 22) rfl)
theorem Tfl_X11_63 : Cond.fieldLink RX11 63 "LuteFingersModel" "place" "[I" ∈ lw_tbl := tb_4 (List.mem_of_getElem? (i := 222) (by decide +kernel))
theorem fl_X11_66 : Cond.fieldLink RX11 66 "LuteFingersModel" "cost" "[I" ∈ wsL_law := wi_4 (List.mem_of_getElem? (i := 23) rfl)
theorem Tfl_X11_66 : Cond.fieldLink RX11 66 "LuteFingersModel" "cost" "[I" ∈ lw_tbl := tb_4 (List.mem_of_getElem? (i := 223) (by decide +kernel))
theorem fl_X11_69 : Cond.fieldLink RX11 69 "LuteFingersModel" "hasBar" "[I" ∈ wsL_law := wi_4 (List.mem_of_getElem? (i := 24) rfl)
theorem Tfl_X11_69 : Cond.fieldLink RX11 69 "LuteFingersModel" "hasBar" "[I" ∈ lw_tbl := tb_4 (List.mem_of_getElem? (i := 224) (by decide +kernel))
theorem ct_X11_72 : Cond.constant RX11 72 (32768) ∈ wsL_law := wi_4 (List.mem_of_getElem? (i := 25) rfl)
theorem Tct_X11_72 : Cond.constant RX11 72 (32768) ∈ lw_tbl := tb_4 (List.mem_of_getElem? (i := 203) (by decide +kernel))
theorem fl_X11_73 : Cond.fieldLink RX11 73 "LuteFingersModel" "onCourse" "[I" ∈ wsL_law := wi_4 (List.mem_of_getElem? (i := 26) rfl)
theorem Tfl_X11_73 : Cond.fieldLink RX11 73 "LuteFingersModel" "onCourse" "[I" ∈ lw_tbl := tb_4 (List.mem_of_getElem? (i := 225) (by decide +kernel))
theorem fl_X11_76 : Cond.fieldLink RX11 76 "LuteFingersModel" "byFinger" "[I" ∈ wsL_law := wi_4 (List.mem_of_getElem? (i := 27) rfl)
theorem Tfl_X11_76 : Cond.fieldLink RX11 76 "LuteFingersModel" "byFinger" "[I" ∈ lw_tbl := tb_4 (List.mem_of_getElem? (i := 226) (by decide +kernel))
theorem fl_X11_79 : Cond.fieldLink RX11 79 "LuteFingersModel" "pick" "[I" ∈ wsL_law := wi_4 (List.mem_of_getElem? (i := 28) rfl)
theorem Tfl_X11_79 : Cond.fieldLink RX11 79 "LuteFingersModel" "pick" "[I" ∈ lw_tbl := tb_4 (List.mem_of_getElem? (i := 227) (by decide +kernel))
theorem fl_X11_82 : Cond.fieldLink RX11 82 "LuteFingersModel" "leave" "[I" ∈ wsL_law := wi_4 (List.mem_of_getElem? (i := 29) rfl)
theorem Tfl_X11_82 : Cond.fieldLink RX11 82 "LuteFingersModel" "leave" "[I" ∈ lw_tbl := tb_4 (List.mem_of_getElem? (i := 228) (by decide +kernel))
theorem tA_4 : ∀ w ∈ wA_4, w ∈ lw_tbl := List.forall_mem_cons.mpr ⟨Tfl_X8_25, List.forall_mem_cons.mpr ⟨Tml_L_12, List.forall_mem_cons.mpr ⟨Tim_X11_init, List.forall_mem_cons.mpr ⟨Tcd_X11_init, List.forall_mem_cons.mpr ⟨Tml_X11_1, List.forall_mem_cons.mpr ⟨Tfl_X11_7, List.forall_mem_cons.mpr ⟨Tfl_X11_13, List.forall_mem_cons.mpr ⟨Tfl_X11_16, List.forall_mem_cons.mpr ⟨Tfl_X11_20, List.forall_mem_cons.mpr ⟨Tfl_X11_23, List.forall_mem_cons.mpr ⟨Tfl_X11_26, List.forall_mem_cons.mpr ⟨Tfl_X11_29, List.forall_mem_cons.mpr ⟨Tfl_X11_32, List.forall_mem_cons.mpr ⟨Tfl_X11_35, List.forall_mem_cons.mpr ⟨Tfl_X11_38, List.forall_mem_cons.mpr ⟨Tfl_X11_41, List.forall_mem_cons.mpr ⟨Tfl_X11_44, List.forall_mem_cons.mpr ⟨Tfl_X11_47, List.forall_mem_cons.mpr ⟨Tfl_X11_50, List.forall_mem_cons.mpr ⟨Tfl_X11_53, List.forall_mem_cons.mpr ⟨Tfl_X11_57, List.forall_mem_cons.mpr ⟨Tfl_X11_60, List.forall_mem_cons.mpr ⟨Tfl_X11_63, List.forall_mem_cons.mpr ⟨Tfl_X11_66, List.forall_mem_cons.mpr ⟨Tfl_X11_69, List.forall_mem_cons.mpr ⟨Tct_X11_72, List.forall_mem_cons.mpr ⟨Tfl_X11_73, List.forall_mem_cons.mpr ⟨Tfl_X11_76, List.forall_mem_cons.mpr ⟨Tfl_X11_79, List.forall_mem_cons.mpr ⟨Tfl_X11_82, fun _ h => absurd h List.not_mem_nil⟩⟩⟩⟩⟩⟩⟩⟩⟩⟩⟩⟩⟩⟩⟩⟩⟩⟩⟩⟩⟩⟩⟩⟩⟩⟩⟩⟩⟩⟩
theorem fl_X11_85 : Cond.fieldLink RX11 85 "LuteFingersModel" "kept" "[I" ∈ wsL_law := wi_5 (List.mem_of_getElem? (i := 0) rfl)
theorem Tfl_X11_85 : Cond.fieldLink RX11 85 "LuteFingersModel" "kept" "[I" ∈ lw_tbl := tb_4 (List.mem_of_getElem? (i := 229) (by decide +kernel))
theorem ct_X11_88 : Cond.constant RX11 88 (53248) ∈ wsL_law := wi_5 (List.mem_of_getElem? (i := 1) rfl)
theorem Tct_X11_88 : Cond.constant RX11 88 (53248) ∈ lw_tbl := tb_4 (List.mem_of_getElem? (i := 204) (by decide +kernel))
theorem fl_X11_89 : Cond.fieldLink RX11 89 "LuteFingersModel" "onCost" "[I" ∈ wsL_law := wi_5 (List.mem_of_getElem? (i := 2) rfl)
theorem Tfl_X11_89 : Cond.fieldLink RX11 89 "LuteFingersModel" "onCost" "[I" ∈ lw_tbl := tb_4 (List.mem_of_getElem? (i := 230) (by decide +kernel))
theorem fl_X11_92 : Cond.fieldLink RX11 92 "LuteFingersModel" "onGrip" "[I" ∈ wsL_law := wi_5 (List.mem_of_getElem? (i := 3) rfl)
theorem Tfl_X11_92 : Cond.fieldLink RX11 92 "LuteFingersModel" "onGrip" "[I" ∈ lw_tbl := tb_4 (List.mem_of_getElem? (i := 231) (by decide +kernel))
theorem fl_X11_95 : Cond.fieldLink RX11 95 "LuteFingersModel" "onRank" "[I" ∈ wsL_law := wi_5 (List.mem_of_getElem? (i := 4) rfl)
theorem Tfl_X11_95 : Cond.fieldLink RX11 95 "LuteFingersModel" "onRank" "[I" ∈ lw_tbl := tb_4 (List.mem_of_getElem? (i := 232) (by decide +kernel))
theorem fl_X11_98 : Cond.fieldLink RX11 98 "LuteFingersModel" "taken" "[I" ∈ wsL_law := wi_5 (List.mem_of_getElem? (i := 5) rfl)
theorem Tfl_X11_98 : Cond.fieldLink RX11 98 "LuteFingersModel" "taken" "[I" ∈ lw_tbl := tb_4 (List.mem_of_getElem? (i := 233) (by decide +kernel))
theorem fl_X11_101 : Cond.fieldLink RX11 101 "LuteFingersModel" "chosen" "[I" ∈ wsL_law := wi_5 (List.mem_of_getElem? (i := 6) rfl)
theorem Tfl_X11_101 : Cond.fieldLink RX11 101 "LuteFingersModel" "chosen" "[I" ∈ lw_tbl := tb_4 (List.mem_of_getElem? (i := 234) (by decide +kernel))
theorem fl_X11_104 : Cond.fieldLink RX11 104 "LuteFingersModel" "chosenCost" "I" ∈ wsL_law := wi_5 (List.mem_of_getElem? (i := 7) rfl)
theorem Tfl_X11_104 : Cond.fieldLink RX11 104 "LuteFingersModel" "chosenCost" "I" ∈ lw_tbl := tb_4 (List.mem_of_getElem? (i := 235) (by decide +kernel))
theorem ac_boolean : Cond.arrayClass .boolean ∈ wsL_law := wi_5 (List.mem_of_getElem? (i := 8) rfl)
theorem Tac_boolean : Cond.arrayClass .boolean ∈ lw_tbl := tb_5 (List.mem_of_getElem? (i := 107) (by decide +kernel))
theorem fl_X11_107 : Cond.fieldLink RX11 107 "LuteFingersModel" "isReached" "[Z" ∈ wsL_law := wi_5 (List.mem_of_getElem? (i := 9) rfl)
theorem Tfl_X11_107 : Cond.fieldLink RX11 107 "LuteFingersModel" "isReached" "[Z" ∈ lw_tbl := tb_4 (List.mem_of_getElem? (i := 236) (by decide +kernel))
theorem fl_X11_111 : Cond.fieldLink RX11 111 "LuteFingersModel" "way" "[I" ∈ wsL_law := wi_5 (List.mem_of_getElem? (i := 10) rfl)
theorem Tfl_X11_111 : Cond.fieldLink RX11 111 "LuteFingersModel" "way" "[I" ∈ lw_tbl := tb_4 (List.mem_of_getElem? (i := 237) (by decide +kernel))
theorem fl_X11_114 : Cond.fieldLink RX11 114 "LuteFingersModel" "wayNumber" "I" ∈ wsL_law := wi_5 (List.mem_of_getElem? (i := 11) rfl)
theorem Tfl_X11_114 : Cond.fieldLink RX11 114 "LuteFingersModel" "wayNumber" "I" ∈ lw_tbl := tb_4 (List.mem_of_getElem? (i := 238) (by decide +kernel))
theorem fl_X11_117 : Cond.fieldLink RX11 117 "LuteFingersModel" "wayCost" "I" ∈ wsL_law := wi_5 (List.mem_of_getElem? (i := 12) rfl)
theorem Tfl_X11_117 : Cond.fieldLink RX11 117 "LuteFingersModel" "wayCost" "I" ∈ lw_tbl := tb_4 (List.mem_of_getElem? (i := 239) (by decide +kernel))
theorem fl_X11_120 : Cond.fieldLink RX11 120 "LuteFingersModel" "row" "[I" ∈ wsL_law := wi_5 (List.mem_of_getElem? (i := 13) rfl)
theorem Tfl_X11_120 : Cond.fieldLink RX11 120 "LuteFingersModel" "row" "[I" ∈ lw_tbl := tb_5 (List.mem_of_getElem? (i := 0) (by decide +kernel))
theorem fl_X11_123 : Cond.fieldLink RX11 123 "LuteFingersModel" "rowed" "I" ∈ wsL_law := wi_5 (List.mem_of_getElem? (i := 14) rfl)
theorem Tfl_X11_123 : Cond.fieldLink RX11 123 "LuteFingersModel" "rowed" "I" ∈ lw_tbl := tb_5 (List.mem_of_getElem? (i := 1) (by decide +kernel))
theorem fl_X11_126 : Cond.fieldLink RX11 126 "LuteFingersModel" "leftCost" "[I" ∈ wsL_law := wi_5 (List.mem_of_getElem? (i := 15) rfl)
theorem Tfl_X11_126 : Cond.fieldLink RX11 126 "LuteFingersModel" "leftCost" "[I" ∈ lw_tbl := tb_5 (List.mem_of_getElem? (i := 2) (by decide +kernel))
theorem fl_X11_129 : Cond.fieldLink RX11 129 "LuteFingersModel" "left" "[I" ∈ wsL_law := wi_5 (List.mem_of_getElem? (i := 16) rfl)
theorem Tfl_X11_129 : Cond.fieldLink RX11 129 "LuteFingersModel" "left" "[I" ∈ lw_tbl := tb_5 (List.mem_of_getElem? (i := 3) (by decide +kernel))
theorem fl_X11_132 : Cond.fieldLink RX11 132 "LuteFingersModel" "restCost" "I" ∈ wsL_law := wi_5 (List.mem_of_getElem? (i := 17) rfl)
theorem Tfl_X11_132 : Cond.fieldLink RX11 132 "LuteFingersModel" "restCost" "I" ∈ lw_tbl := tb_5 (List.mem_of_getElem? (i := 4) (by decide +kernel))
theorem fl_X11_135 : Cond.fieldLink RX11 135 "LuteFingersModel" "tuneWas" "[I" ∈ wsL_law := wi_5 (List.mem_of_getElem? (i := 18) rfl)
theorem Tfl_X11_135 : Cond.fieldLink RX11 135 "LuteFingersModel" "tuneWas" "[I" ∈ lw_tbl := tb_5 (List.mem_of_getElem? (i := 5) (by decide +kernel))
theorem fl_X11_138 : Cond.fieldLink RX11 138 "LuteFingersModel" "tape" "[I" ∈ wsL_law := wi_5 (List.mem_of_getElem? (i := 19) rfl)
theorem Tfl_X11_138 : Cond.fieldLink RX11 138 "LuteFingersModel" "tape" "[I" ∈ lw_tbl := tb_5 (List.mem_of_getElem? (i := 6) (by decide +kernel))
theorem fl_X11_141 : Cond.fieldLink RX11 141 "LuteFingersModel" "taped" "I" ∈ wsL_law := wi_5 (List.mem_of_getElem? (i := 20) rfl)
theorem Tfl_X11_141 : Cond.fieldLink RX11 141 "LuteFingersModel" "taped" "I" ∈ lw_tbl := tb_5 (List.mem_of_getElem? (i := 7) (by decide +kernel))
theorem fl_X11_144 : Cond.fieldLink RX11 144 "LuteFingersModel" "readCourse" "[I" ∈ wsL_law := wi_5 (List.mem_of_getElem? (i := 21) rfl)
theorem Tfl_X11_144 : Cond.fieldLink RX11 144 "LuteFingersModel" "readCourse" "[I" ∈ lw_tbl := tb_5 (List.mem_of_getElem? (i := 8) (by decide +kernel))
theorem fl_X11_147 : Cond.fieldLink RX11 147 "LuteFingersModel" "readFret" "[I" ∈ wsL_law := wi_5 (List.mem_of_getElem? (i := 22) rfl)
theorem Tfl_X11_147 : Cond.fieldLink RX11 147 "LuteFingersModel" "readFret" "[I" ∈ lw_tbl := tb_5 (List.mem_of_getElem? (i := 9) (by decide +kernel))
theorem fl_X11_150 : Cond.fieldLink RX11 150 "LuteFingersModel" "readMany" "[I" ∈ wsL_law := wi_5 (List.mem_of_getElem? (i := 23) rfl)
theorem Tfl_X11_150 : Cond.fieldLink RX11 150 "LuteFingersModel" "readMany" "[I" ∈ lw_tbl := tb_5 (List.mem_of_getElem? (i := 10) (by decide +kernel))
theorem fl_X11_153 : Cond.fieldLink RX11 153 "LuteFingersModel" "reads" "I" ∈ wsL_law := wi_5 (List.mem_of_getElem? (i := 24) rfl)
theorem Tfl_X11_153 : Cond.fieldLink RX11 153 "LuteFingersModel" "reads" "I" ∈ lw_tbl := tb_5 (List.mem_of_getElem? (i := 11) (by decide +kernel))
theorem ml_L_13 : Cond.methodLink RL 13 yX10_course ∈ wsL_law := wi_5 (List.mem_of_getElem? (i := 25) rfl)
theorem Tml_L_13 : Cond.methodLink RL 13 yX10_course ∈ lw_tbl := tb_2 (List.mem_of_getElem? (i := 62) (by decide +kernel))
theorem im_X10_course : Cond.instanceMethod yX10_course ∈ wsL_law := wi_5 (List.mem_of_getElem? (i := 26) rfl)
theorem Tim_X10_course : Cond.instanceMethod yX10_course ∈ lw_tbl := tb_2 (List.mem_of_getElem? (i := 63) (by decide +kernel))
theorem se_X10_X10_course : Cond.selects RX10 yX10_course yX10_course ∈ wsL_law := wi_5 (List.mem_of_getElem? (i := 27) rfl)
theorem Tse_X10_X10_course : Cond.selects RX10 yX10_course yX10_course ∈ lw_tbl := tb_2 (List.mem_of_getElem? (i := 64) (by decide +kernel))
theorem cd_X10_course : Cond.code yX10_course cX10_course 3 (some .int) ∈ wsL_law := wi_5 (List.mem_of_getElem? (i := 28) rfl)
theorem Tcd_X10_course : Cond.code yX10_course cX10_course 3 (some .int) ∈ lw_tbl := tb_2 (List.mem_of_getElem? (i := 65) rfl)
theorem ml_X10_90 : Cond.methodLink RX10 90 yX10_within ∈ wsL_law := wi_5 (List.mem_of_getElem? (i := 29) rfl)
theorem Tml_X10_90 : Cond.methodLink RX10 90 yX10_within ∈ lw_tbl := tb_2 (List.mem_of_getElem? (i := 66) (by decide +kernel))
theorem tA_5 : ∀ w ∈ wA_5, w ∈ lw_tbl := List.forall_mem_cons.mpr ⟨Tfl_X11_85, List.forall_mem_cons.mpr ⟨Tct_X11_88, List.forall_mem_cons.mpr ⟨Tfl_X11_89, List.forall_mem_cons.mpr ⟨Tfl_X11_92, List.forall_mem_cons.mpr ⟨Tfl_X11_95, List.forall_mem_cons.mpr ⟨Tfl_X11_98, List.forall_mem_cons.mpr ⟨Tfl_X11_101, List.forall_mem_cons.mpr ⟨Tfl_X11_104, List.forall_mem_cons.mpr ⟨Tac_boolean, List.forall_mem_cons.mpr ⟨Tfl_X11_107, List.forall_mem_cons.mpr ⟨Tfl_X11_111, List.forall_mem_cons.mpr ⟨Tfl_X11_114, List.forall_mem_cons.mpr ⟨Tfl_X11_117, List.forall_mem_cons.mpr ⟨Tfl_X11_120, List.forall_mem_cons.mpr ⟨Tfl_X11_123, List.forall_mem_cons.mpr ⟨Tfl_X11_126, List.forall_mem_cons.mpr ⟨Tfl_X11_129, List.forall_mem_cons.mpr ⟨Tfl_X11_132, List.forall_mem_cons.mpr ⟨Tfl_X11_135, List.forall_mem_cons.mpr ⟨Tfl_X11_138, List.forall_mem_cons.mpr ⟨Tfl_X11_141, List.forall_mem_cons.mpr ⟨Tfl_X11_144, List.forall_mem_cons.mpr ⟨Tfl_X11_147, List.forall_mem_cons.mpr ⟨Tfl_X11_150, List.forall_mem_cons.mpr ⟨Tfl_X11_153, List.forall_mem_cons.mpr ⟨Tml_L_13, List.forall_mem_cons.mpr ⟨Tim_X10_course, List.forall_mem_cons.mpr ⟨Tse_X10_X10_course, List.forall_mem_cons.mpr ⟨Tcd_X10_course, List.forall_mem_cons.mpr ⟨Tml_X10_90, fun _ h => absurd h List.not_mem_nil⟩⟩⟩⟩⟩⟩⟩⟩⟩⟩⟩⟩⟩⟩⟩⟩⟩⟩⟩⟩⟩⟩⟩⟩⟩⟩⟩⟩⟩⟩
theorem st_X10_within : Cond.static yX10_within ∈ wsL_law := wi_6 (List.mem_of_getElem? (i := 0) rfl)
theorem Tst_X10_within : Cond.static yX10_within ∈ lw_tbl := tb_2 (List.mem_of_getElem? (i := 67) (by decide +kernel))
theorem cd_X10_within : Cond.code yX10_within cX10_within 2 (some .boolean) ∈ wsL_law := wi_6 (List.mem_of_getElem? (i := 1) rfl)
theorem Tcd_X10_within : Cond.code yX10_within cX10_within 2 (some .boolean) ∈ lw_tbl := tb_2 (List.mem_of_getElem? (i := 68) rfl)
theorem ml_X10_100 : Cond.methodLink RX10 100 yX10_instrumentChanged ∈ wsL_law := wi_6 (List.mem_of_getElem? (i := 2) rfl)
theorem Tml_X10_100 : Cond.methodLink RX10 100 yX10_instrumentChanged ∈ lw_tbl := tb_2 (List.mem_of_getElem? (i := 69) (by decide +kernel))
theorem im_X10_instrumentChanged : Cond.instanceMethod yX10_instrumentChanged ∈ wsL_law := wi_6 (List.mem_of_getElem? (i := 3) rfl)
theorem Tim_X10_instrumentChanged : Cond.instanceMethod yX10_instrumentChanged ∈ lw_tbl := tb_2 (List.mem_of_getElem? (i := 71) (by decide +kernel))
theorem se_X10_X10_instrumentChanged : Cond.selects RX10 yX10_instrumentChanged yX10_instrumentChanged ∈ wsL_law := wi_6 (List.mem_of_getElem? (i := 4) rfl)
theorem Tse_X10_X10_instrumentChanged : Cond.selects RX10 yX10_instrumentChanged yX10_instrumentChanged ∈ lw_tbl := pv_1 (n := 15) (List.mem_of_getElem? (i := 0) rfl)
theorem cd_X10_instrumentChanged : Cond.code yX10_instrumentChanged cX10_instrumentChanged 1 none ∈ wsL_law := wi_6 (List.mem_of_getElem? (i := 5) rfl)
theorem Tcd_X10_instrumentChanged : Cond.code yX10_instrumentChanged cX10_instrumentChanged 1 none ∈ lw_tbl := tb_2 (List.mem_of_getElem? (i := 72) rfl)
theorem ml_X10_143 : Cond.methodLink RX10 143 yX10_forgetAnswers ∈ wsL_law := wi_6 (List.mem_of_getElem? (i := 6) rfl)
theorem Tml_X10_143 : Cond.methodLink RX10 143 yX10_forgetAnswers ∈ lw_tbl := tb_2 (List.mem_of_getElem? (i := 73) (by decide +kernel))
theorem im_X10_forgetAnswers : Cond.instanceMethod yX10_forgetAnswers ∈ wsL_law := wi_6 (List.mem_of_getElem? (i := 7) rfl)
theorem Tim_X10_forgetAnswers : Cond.instanceMethod yX10_forgetAnswers ∈ lw_tbl := tb_2 (List.mem_of_getElem? (i := 75) (by decide +kernel))
theorem se_X10_X10_forgetAnswers : Cond.selects RX10 yX10_forgetAnswers yX10_forgetAnswers ∈ wsL_law := wi_6 (List.mem_of_getElem? (i := 8) rfl)
theorem Tse_X10_X10_forgetAnswers : Cond.selects RX10 yX10_forgetAnswers yX10_forgetAnswers ∈ lw_tbl := pv_1 (n := 15) (List.mem_of_getElem? (i := 1) rfl)
theorem cd_X10_forgetAnswers : Cond.code yX10_forgetAnswers cX10_forgetAnswers 1 none ∈ wsL_law := wi_6 (List.mem_of_getElem? (i := 9) rfl)
theorem Tcd_X10_forgetAnswers : Cond.code yX10_forgetAnswers cX10_forgetAnswers 1 none ∈ lw_tbl := tb_2 (List.mem_of_getElem? (i := 76) rfl)
theorem im_X8_drop : Cond.instanceMethod yX8_drop ∈ wsL_law := wi_6 (List.mem_of_getElem? (i := 10) rfl)
theorem Tim_X8_drop : Cond.instanceMethod yX8_drop ∈ lw_tbl := tb_2 (List.mem_of_getElem? (i := 79) (by decide +kernel))
theorem se_X8_X8_drop : Cond.selects RX8 yX8_drop yX8_drop ∈ wsL_law := wi_6 (List.mem_of_getElem? (i := 11) rfl)
theorem Tse_X8_X8_drop : Cond.selects RX8 yX8_drop yX8_drop ∈ lw_tbl := pv_1 (n := 5) (List.mem_of_getElem? (i := 2) rfl)
theorem cd_X8_drop : Cond.code yX8_drop cX8_drop 1 none ∈ wsL_law := wi_6 (List.mem_of_getElem? (i := 12) rfl)
theorem Tcd_X8_drop : Cond.code yX8_drop cX8_drop 1 none ∈ lw_tbl := tb_2 (List.mem_of_getElem? (i := 80) rfl)
theorem im_X2_forgetAll : Cond.instanceMethod yX2_forgetAll ∈ wsL_law := wi_6 (List.mem_of_getElem? (i := 13) rfl)
theorem Tim_X2_forgetAll : Cond.instanceMethod yX2_forgetAll ∈ lw_tbl := tb_2 (List.mem_of_getElem? (i := 83) (by decide +kernel))
theorem se_X2_X2_forgetAll : Cond.selects RX2 yX2_forgetAll yX2_forgetAll ∈ wsL_law := wi_6 (List.mem_of_getElem? (i := 14) rfl)
theorem Tse_X2_X2_forgetAll : Cond.selects RX2 yX2_forgetAll yX2_forgetAll ∈ lw_tbl := pv_1 (n := 4) (List.mem_of_getElem? (i := 3) rfl)
theorem cd_X2_forgetAll : Cond.code yX2_forgetAll cX2_forgetAll 1 none ∈ wsL_law := wi_6 (List.mem_of_getElem? (i := 15) rfl)
theorem Tcd_X2_forgetAll : Cond.code yX2_forgetAll cX2_forgetAll 1 none ∈ lw_tbl := tb_2 (List.mem_of_getElem? (i := 84) rfl)
theorem im_X4_addCourse : Cond.instanceMethod yX4_addCourse ∈ wsL_law := wi_6 (List.mem_of_getElem? (i := 16) rfl)
theorem Tim_X4_addCourse : Cond.instanceMethod yX4_addCourse ∈ lw_tbl := tb_2 (List.mem_of_getElem? (i := 87) (by decide +kernel))
theorem se_X4_X4_addCourse : Cond.selects RX4 yX4_addCourse yX4_addCourse ∈ wsL_law := wi_6 (List.mem_of_getElem? (i := 17) rfl)
theorem Tse_X4_X4_addCourse : Cond.selects RX4 yX4_addCourse yX4_addCourse ∈ lw_tbl := pv_1 (n := 7) (List.mem_of_getElem? (i := 4) rfl)
theorem cd_X4_addCourse : Cond.code yX4_addCourse cX4_addCourse 5 (some .int) ∈ wsL_law := wi_6 (List.mem_of_getElem? (i := 18) rfl)
theorem Tcd_X4_addCourse : Cond.code yX4_addCourse cX4_addCourse 5 (some .int) ∈ lw_tbl := tb_2 (List.mem_of_getElem? (i := 88) rfl)
theorem ml_L_17 : Cond.methodLink RL 17 yX11_course ∈ wsL_law := wi_6 (List.mem_of_getElem? (i := 19) rfl)
theorem Tml_L_17 : Cond.methodLink RL 17 yX11_course ∈ lw_tbl := tb_5 (List.mem_of_getElem? (i := 108) (by decide +kernel))
theorem im_X11_course : Cond.instanceMethod yX11_course ∈ wsL_law := wi_6 (List.mem_of_getElem? (i := 20) rfl)
theorem Tim_X11_course : Cond.instanceMethod yX11_course ∈ lw_tbl := tb_5 (List.mem_of_getElem? (i := 109) (by decide +kernel))
theorem se_X11_X11_course : Cond.selects RX11 yX11_course yX11_course ∈ wsL_law := wi_6 (List.mem_of_getElem? (i := 21) rfl)
theorem Tse_X11_X11_course : Cond.selects RX11 yX11_course yX11_course ∈ lw_tbl := tb_5 (List.mem_of_getElem? (i := 110) (by decide +kernel))
theorem cd_X11_course : Cond.code yX11_course cX11_course 4 (some .int) ∈ wsL_law := wi_6 (List.mem_of_getElem? (i := 22) rfl)
theorem Tcd_X11_course : Cond.code yX11_course cX11_course 4 (some .int) ∈ lw_tbl := tb_5 (List.mem_of_getElem? (i := 111) rfl)
theorem ml_X11_156 : Cond.methodLink RX11 156 yX11_in ∈ wsL_law := wi_6 (List.mem_of_getElem? (i := 23) rfl)
theorem Tml_X11_156 : Cond.methodLink RX11 156 yX11_in ∈ lw_tbl := tb_5 (List.mem_of_getElem? (i := 112) (by decide +kernel))
theorem im_X11_in : Cond.instanceMethod yX11_in ∈ wsL_law := wi_6 (List.mem_of_getElem? (i := 24) rfl)
theorem Tim_X11_in : Cond.instanceMethod yX11_in ∈ lw_tbl := tb_5 (List.mem_of_getElem? (i := 114) (by decide +kernel))
theorem se_X11_X11_in : Cond.selects RX11 yX11_in yX11_in ∈ wsL_law := wi_6 (List.mem_of_getElem? (i := 25) rfl)
theorem Tse_X11_X11_in : Cond.selects RX11 yX11_in yX11_in ∈ lw_tbl := pv_5 (n := 47) (List.mem_of_getElem? (i := 14) rfl)
theorem cd_X11_in : Cond.code yX11_in cX11_in 4 (some .boolean) ∈ wsL_law := wi_6 (List.mem_of_getElem? (i := 26) rfl)
theorem Tcd_X11_in : Cond.code yX11_in cX11_in 4 (some .boolean) ∈ lw_tbl := tb_5 (List.mem_of_getElem? (i := 115) rfl)
theorem ml_X11_164 : Cond.methodLink RX11 164 yX11_forget ∈ wsL_law := wi_6 (List.mem_of_getElem? (i := 27) rfl)
theorem Tml_X11_164 : Cond.methodLink RX11 164 yX11_forget ∈ lw_tbl := tb_5 (List.mem_of_getElem? (i := 116) (by decide +kernel))
theorem im_X11_forget : Cond.instanceMethod yX11_forget ∈ wsL_law := wi_6 (List.mem_of_getElem? (i := 28) rfl)
theorem Tim_X11_forget : Cond.instanceMethod yX11_forget ∈ lw_tbl := tb_5 (List.mem_of_getElem? (i := 118) (by decide +kernel))
theorem se_X11_X11_forget : Cond.selects RX11 yX11_forget yX11_forget ∈ wsL_law := wi_6 (List.mem_of_getElem? (i := 29) rfl)
theorem Tse_X11_X11_forget : Cond.selects RX11 yX11_forget yX11_forget ∈ lw_tbl := pv_5 (n := 47) (List.mem_of_getElem? (i := 15) rfl)
theorem tA_6 : ∀ w ∈ wA_6, w ∈ lw_tbl := List.forall_mem_cons.mpr ⟨Tst_X10_within, List.forall_mem_cons.mpr ⟨Tcd_X10_within, List.forall_mem_cons.mpr ⟨Tml_X10_100, List.forall_mem_cons.mpr ⟨Tim_X10_instrumentChanged, List.forall_mem_cons.mpr ⟨Tse_X10_X10_instrumentChanged, List.forall_mem_cons.mpr ⟨Tcd_X10_instrumentChanged, List.forall_mem_cons.mpr ⟨Tml_X10_143, List.forall_mem_cons.mpr ⟨Tim_X10_forgetAnswers, List.forall_mem_cons.mpr ⟨Tse_X10_X10_forgetAnswers, List.forall_mem_cons.mpr ⟨Tcd_X10_forgetAnswers, List.forall_mem_cons.mpr ⟨Tim_X8_drop, List.forall_mem_cons.mpr ⟨Tse_X8_X8_drop, List.forall_mem_cons.mpr ⟨Tcd_X8_drop, List.forall_mem_cons.mpr ⟨Tim_X2_forgetAll, List.forall_mem_cons.mpr ⟨Tse_X2_X2_forgetAll, List.forall_mem_cons.mpr ⟨Tcd_X2_forgetAll, List.forall_mem_cons.mpr ⟨Tim_X4_addCourse, List.forall_mem_cons.mpr ⟨Tse_X4_X4_addCourse, List.forall_mem_cons.mpr ⟨Tcd_X4_addCourse, List.forall_mem_cons.mpr ⟨Tml_L_17, List.forall_mem_cons.mpr ⟨Tim_X11_course, List.forall_mem_cons.mpr ⟨Tse_X11_X11_course, List.forall_mem_cons.mpr ⟨Tcd_X11_course, List.forall_mem_cons.mpr ⟨Tml_X11_156, List.forall_mem_cons.mpr ⟨Tim_X11_in, List.forall_mem_cons.mpr ⟨Tse_X11_X11_in, List.forall_mem_cons.mpr ⟨Tcd_X11_in, List.forall_mem_cons.mpr ⟨Tml_X11_164, List.forall_mem_cons.mpr ⟨Tim_X11_forget, List.forall_mem_cons.mpr ⟨Tse_X11_X11_forget, fun _ h => absurd h List.not_mem_nil⟩⟩⟩⟩⟩⟩⟩⟩⟩⟩⟩⟩⟩⟩⟩⟩⟩⟩⟩⟩⟩⟩⟩⟩⟩⟩⟩⟩⟩⟩
theorem cd_X11_forget : Cond.code yX11_forget cX11_forget 1 none ∈ wsL_law := wi_7 (List.mem_of_getElem? (i := 0) rfl)
theorem Tcd_X11_forget : Cond.code yX11_forget cX11_forget 1 none ∈ lw_tbl := tb_5 (List.mem_of_getElem? (i := 119) rfl)
theorem ml_L_18 : Cond.methodLink RL 18 yX10_tune ∈ wsL_law := wi_7 (List.mem_of_getElem? (i := 1) rfl)
theorem Tml_L_18 : Cond.methodLink RL 18 yX10_tune ∈ lw_tbl := tb_2 (List.mem_of_getElem? (i := 89) (by decide +kernel))
theorem im_X10_tune : Cond.instanceMethod yX10_tune ∈ wsL_law := wi_7 (List.mem_of_getElem? (i := 2) rfl)
theorem Tim_X10_tune : Cond.instanceMethod yX10_tune ∈ lw_tbl := tb_2 (List.mem_of_getElem? (i := 90) (by decide +kernel))
theorem se_X10_X10_tune : Cond.selects RX10 yX10_tune yX10_tune ∈ wsL_law := wi_7 (List.mem_of_getElem? (i := 3) rfl)
theorem Tse_X10_X10_tune : Cond.selects RX10 yX10_tune yX10_tune ∈ lw_tbl := tb_2 (List.mem_of_getElem? (i := 91) (by decide +kernel))
theorem cd_X10_tune : Cond.code yX10_tune cX10_tune 3 (some .int) ∈ wsL_law := wi_7 (List.mem_of_getElem? (i := 4) rfl)
theorem Tcd_X10_tune : Cond.code yX10_tune cX10_tune 3 (some .int) ∈ lw_tbl := tb_2 (List.mem_of_getElem? (i := 92) rfl)
theorem im_X4_hasCourse : Cond.instanceMethod yX4_hasCourse ∈ wsL_law := wi_7 (List.mem_of_getElem? (i := 5) rfl)
theorem Tim_X4_hasCourse : Cond.instanceMethod yX4_hasCourse ∈ lw_tbl := tb_2 (List.mem_of_getElem? (i := 95) (by decide +kernel))
theorem se_X4_X4_hasCourse : Cond.selects RX4 yX4_hasCourse yX4_hasCourse ∈ wsL_law := wi_7 (List.mem_of_getElem? (i := 6) rfl)
theorem Tse_X4_X4_hasCourse : Cond.selects RX4 yX4_hasCourse yX4_hasCourse ∈ lw_tbl := pv_1 (n := 7) (List.mem_of_getElem? (i := 5) rfl)
theorem cd_X4_hasCourse : Cond.code yX4_hasCourse cX4_hasCourse 2 (some .boolean) ∈ wsL_law := wi_7 (List.mem_of_getElem? (i := 7) rfl)
theorem Tcd_X4_hasCourse : Cond.code yX4_hasCourse cX4_hasCourse 2 (some .boolean) ∈ lw_tbl := tb_2 (List.mem_of_getElem? (i := 96) rfl)
theorem ml_X10_114 : Cond.methodLink RX10 114 yX10_exchange ∈ wsL_law := wi_7 (List.mem_of_getElem? (i := 8) rfl)
theorem Tml_X10_114 : Cond.methodLink RX10 114 yX10_exchange ∈ lw_tbl := tb_2 (List.mem_of_getElem? (i := 97) (by decide +kernel))
theorem st_X10_exchange : Cond.static yX10_exchange ∈ wsL_law := wi_7 (List.mem_of_getElem? (i := 9) rfl)
theorem Tst_X10_exchange : Cond.static yX10_exchange ∈ lw_tbl := tb_2 (List.mem_of_getElem? (i := 98) (by decide +kernel))
theorem cd_X10_exchange : Cond.code yX10_exchange cX10_exchange 4 (some .int) ∈ wsL_law := wi_7 (List.mem_of_getElem? (i := 10) rfl)
theorem Tcd_X10_exchange : Cond.code yX10_exchange cX10_exchange 4 (some .int) ∈ lw_tbl := tb_2 (List.mem_of_getElem? (i := 99) rfl)
theorem ml_L_21 : Cond.methodLink RL 21 yX11_tune ∈ wsL_law := wi_7 (List.mem_of_getElem? (i := 11) rfl)
theorem Tml_L_21 : Cond.methodLink RL 21 yX11_tune ∈ lw_tbl := tb_5 (List.mem_of_getElem? (i := 120) (by decide +kernel))
theorem im_X11_tune : Cond.instanceMethod yX11_tune ∈ wsL_law := wi_7 (List.mem_of_getElem? (i := 12) rfl)
theorem Tim_X11_tune : Cond.instanceMethod yX11_tune ∈ lw_tbl := tb_5 (List.mem_of_getElem? (i := 121) (by decide +kernel))
theorem se_X11_X11_tune : Cond.selects RX11 yX11_tune yX11_tune ∈ wsL_law := wi_7 (List.mem_of_getElem? (i := 13) rfl)
theorem Tse_X11_X11_tune : Cond.selects RX11 yX11_tune yX11_tune ∈ lw_tbl := tb_5 (List.mem_of_getElem? (i := 122) (by decide +kernel))
theorem cd_X11_tune : Cond.code yX11_tune cX11_tune 4 (some .int) ∈ wsL_law := wi_7 (List.mem_of_getElem? (i := 14) rfl)
theorem Tcd_X11_tune : Cond.code yX11_tune cX11_tune 4 (some .int) ∈ lw_tbl := tb_5 (List.mem_of_getElem? (i := 123) rfl)
theorem ml_X11_167 : Cond.methodLink RX11 167 yX11_isCourse ∈ wsL_law := wi_7 (List.mem_of_getElem? (i := 15) rfl)
theorem Tml_X11_167 : Cond.methodLink RX11 167 yX11_isCourse ∈ lw_tbl := tb_5 (List.mem_of_getElem? (i := 124) (by decide +kernel))
theorem im_X11_isCourse : Cond.instanceMethod yX11_isCourse ∈ wsL_law := wi_7 (List.mem_of_getElem? (i := 16) rfl)
theorem Tim_X11_isCourse : Cond.instanceMethod yX11_isCourse ∈ lw_tbl := tb_5 (List.mem_of_getElem? (i := 126) (by decide +kernel))
theorem se_X11_X11_isCourse : Cond.selects RX11 yX11_isCourse yX11_isCourse ∈ wsL_law := wi_7 (List.mem_of_getElem? (i := 17) rfl)
theorem Tse_X11_X11_isCourse : Cond.selects RX11 yX11_isCourse yX11_isCourse ∈ lw_tbl := pv_6 (n := 47) (List.mem_of_getElem? (i := 0) rfl)
theorem cd_X11_isCourse : Cond.code yX11_isCourse cX11_isCourse 2 (some .boolean) ∈ wsL_law := wi_7 (List.mem_of_getElem? (i := 18) rfl)
theorem Tcd_X11_isCourse : Cond.code yX11_isCourse cX11_isCourse 2 (some .boolean) ∈ lw_tbl := tb_5 (List.mem_of_getElem? (i := 127) rfl)
theorem ml_L_22 : Cond.methodLink RL 22 yX10_slack ∈ wsL_law := wi_7 (List.mem_of_getElem? (i := 19) rfl)
theorem Tml_L_22 : Cond.methodLink RL 22 yX10_slack ∈ lw_tbl := tb_2 (List.mem_of_getElem? (i := 100) (by decide +kernel))
theorem im_X10_slack : Cond.instanceMethod yX10_slack ∈ wsL_law := wi_7 (List.mem_of_getElem? (i := 20) rfl)
theorem Tim_X10_slack : Cond.instanceMethod yX10_slack ∈ lw_tbl := tb_2 (List.mem_of_getElem? (i := 101) (by decide +kernel))
theorem se_X10_X10_slack : Cond.selects RX10 yX10_slack yX10_slack ∈ wsL_law := wi_7 (List.mem_of_getElem? (i := 21) rfl)
theorem Tse_X10_X10_slack : Cond.selects RX10 yX10_slack yX10_slack ∈ lw_tbl := tb_2 (List.mem_of_getElem? (i := 102) (by decide +kernel))
theorem cd_X10_slack : Cond.code yX10_slack cX10_slack 3 (some .int) ∈ wsL_law := wi_7 (List.mem_of_getElem? (i := 22) rfl)
theorem Tcd_X10_slack : Cond.code yX10_slack cX10_slack 3 (some .int) ∈ lw_tbl := tb_2 (List.mem_of_getElem? (i := 103) rfl)
theorem ml_L_25 : Cond.methodLink RL 25 yX11_slack ∈ wsL_law := wi_7 (List.mem_of_getElem? (i := 23) rfl)
theorem Tml_L_25 : Cond.methodLink RL 25 yX11_slack ∈ lw_tbl := tb_5 (List.mem_of_getElem? (i := 128) (by decide +kernel))
theorem im_X11_slack : Cond.instanceMethod yX11_slack ∈ wsL_law := wi_7 (List.mem_of_getElem? (i := 24) rfl)
theorem Tim_X11_slack : Cond.instanceMethod yX11_slack ∈ lw_tbl := tb_5 (List.mem_of_getElem? (i := 129) (by decide +kernel))
theorem se_X11_X11_slack : Cond.selects RX11 yX11_slack yX11_slack ∈ wsL_law := wi_7 (List.mem_of_getElem? (i := 25) rfl)
theorem Tse_X11_X11_slack : Cond.selects RX11 yX11_slack yX11_slack ∈ lw_tbl := tb_5 (List.mem_of_getElem? (i := 130) (by decide +kernel))
theorem cd_X11_slack : Cond.code yX11_slack cX11_slack 4 (some .int) ∈ wsL_law := wi_7 (List.mem_of_getElem? (i := 26) rfl)
theorem Tcd_X11_slack : Cond.code yX11_slack cX11_slack 4 (some .int) ∈ lw_tbl := tb_5 (List.mem_of_getElem? (i := 131) rfl)
theorem ml_L_26 : Cond.methodLink RL 26 yX10_bars ∈ wsL_law := wi_7 (List.mem_of_getElem? (i := 27) rfl)
theorem Tml_L_26 : Cond.methodLink RL 26 yX10_bars ∈ lw_tbl := tb_2 (List.mem_of_getElem? (i := 104) (by decide +kernel))
theorem im_X10_bars : Cond.instanceMethod yX10_bars ∈ wsL_law := wi_7 (List.mem_of_getElem? (i := 28) rfl)
theorem Tim_X10_bars : Cond.instanceMethod yX10_bars ∈ lw_tbl := tb_2 (List.mem_of_getElem? (i := 105) (by decide +kernel))
theorem se_X10_X10_bars : Cond.selects RX10 yX10_bars yX10_bars ∈ wsL_law := wi_7 (List.mem_of_getElem? (i := 29) rfl)
theorem Tse_X10_X10_bars : Cond.selects RX10 yX10_bars yX10_bars ∈ lw_tbl := tb_2 (List.mem_of_getElem? (i := 106) (by decide +kernel))
theorem tA_7 : ∀ w ∈ wA_7, w ∈ lw_tbl := List.forall_mem_cons.mpr ⟨Tcd_X11_forget, List.forall_mem_cons.mpr ⟨Tml_L_18, List.forall_mem_cons.mpr ⟨Tim_X10_tune, List.forall_mem_cons.mpr ⟨Tse_X10_X10_tune, List.forall_mem_cons.mpr ⟨Tcd_X10_tune, List.forall_mem_cons.mpr ⟨Tim_X4_hasCourse, List.forall_mem_cons.mpr ⟨Tse_X4_X4_hasCourse, List.forall_mem_cons.mpr ⟨Tcd_X4_hasCourse, List.forall_mem_cons.mpr ⟨Tml_X10_114, List.forall_mem_cons.mpr ⟨Tst_X10_exchange, List.forall_mem_cons.mpr ⟨Tcd_X10_exchange, List.forall_mem_cons.mpr ⟨Tml_L_21, List.forall_mem_cons.mpr ⟨Tim_X11_tune, List.forall_mem_cons.mpr ⟨Tse_X11_X11_tune, List.forall_mem_cons.mpr ⟨Tcd_X11_tune, List.forall_mem_cons.mpr ⟨Tml_X11_167, List.forall_mem_cons.mpr ⟨Tim_X11_isCourse, List.forall_mem_cons.mpr ⟨Tse_X11_X11_isCourse, List.forall_mem_cons.mpr ⟨Tcd_X11_isCourse, List.forall_mem_cons.mpr ⟨Tml_L_22, List.forall_mem_cons.mpr ⟨Tim_X10_slack, List.forall_mem_cons.mpr ⟨Tse_X10_X10_slack, List.forall_mem_cons.mpr ⟨Tcd_X10_slack, List.forall_mem_cons.mpr ⟨Tml_L_25, List.forall_mem_cons.mpr ⟨Tim_X11_slack, List.forall_mem_cons.mpr ⟨Tse_X11_X11_slack, List.forall_mem_cons.mpr ⟨Tcd_X11_slack, List.forall_mem_cons.mpr ⟨Tml_L_26, List.forall_mem_cons.mpr ⟨Tim_X10_bars, List.forall_mem_cons.mpr ⟨Tse_X10_X10_bars, fun _ h => absurd h List.not_mem_nil⟩⟩⟩⟩⟩⟩⟩⟩⟩⟩⟩⟩⟩⟩⟩⟩⟩⟩⟩⟩⟩⟩⟩⟩⟩⟩⟩⟩⟩⟩
theorem cd_X10_bars : Cond.code yX10_bars cX10_bars 3 (some .int) ∈ wsL_law := wi_8 (List.mem_of_getElem? (i := 0) rfl)
theorem Tcd_X10_bars : Cond.code yX10_bars cX10_bars 3 (some .int) ∈ lw_tbl := tb_2 (List.mem_of_getElem? (i := 107) rfl)
theorem ml_L_30 : Cond.methodLink RL 30 yX11_bars ∈ wsL_law := wi_8 (List.mem_of_getElem? (i := 1) rfl)
theorem Tml_L_30 : Cond.methodLink RL 30 yX11_bars ∈ lw_tbl := tb_5 (List.mem_of_getElem? (i := 132) (by decide +kernel))
theorem im_X11_bars : Cond.instanceMethod yX11_bars ∈ wsL_law := wi_8 (List.mem_of_getElem? (i := 2) rfl)
theorem Tim_X11_bars : Cond.instanceMethod yX11_bars ∈ lw_tbl := tb_5 (List.mem_of_getElem? (i := 133) (by decide +kernel))
theorem se_X11_X11_bars : Cond.selects RX11 yX11_bars yX11_bars ∈ wsL_law := wi_8 (List.mem_of_getElem? (i := 3) rfl)
theorem Tse_X11_X11_bars : Cond.selects RX11 yX11_bars yX11_bars ∈ lw_tbl := tb_5 (List.mem_of_getElem? (i := 134) (by decide +kernel))
theorem cd_X11_bars : Cond.code yX11_bars cX11_bars 3 (some .int) ∈ wsL_law := wi_8 (List.mem_of_getElem? (i := 4) rfl)
theorem Tcd_X11_bars : Cond.code yX11_bars cX11_bars 3 (some .int) ∈ lw_tbl := tb_5 (List.mem_of_getElem? (i := 135) rfl)
theorem ml_L_31 : Cond.methodLink RL 31 yX10_weight ∈ wsL_law := wi_8 (List.mem_of_getElem? (i := 5) rfl)
theorem Tml_L_31 : Cond.methodLink RL 31 yX10_weight ∈ lw_tbl := tb_2 (List.mem_of_getElem? (i := 108) (by decide +kernel))
theorem im_X10_weight : Cond.instanceMethod yX10_weight ∈ wsL_law := wi_8 (List.mem_of_getElem? (i := 6) rfl)
theorem Tim_X10_weight : Cond.instanceMethod yX10_weight ∈ lw_tbl := tb_2 (List.mem_of_getElem? (i := 109) (by decide +kernel))
theorem se_X10_X10_weight : Cond.selects RX10 yX10_weight yX10_weight ∈ wsL_law := wi_8 (List.mem_of_getElem? (i := 7) rfl)
theorem Tse_X10_X10_weight : Cond.selects RX10 yX10_weight yX10_weight ∈ lw_tbl := tb_2 (List.mem_of_getElem? (i := 110) (by decide +kernel))
theorem cd_X10_weight : Cond.code yX10_weight cX10_weight 3 (some .int) ∈ wsL_law := wi_8 (List.mem_of_getElem? (i := 8) rfl)
theorem Tcd_X10_weight : Cond.code yX10_weight cX10_weight 3 (some .int) ∈ lw_tbl := tb_2 (List.mem_of_getElem? (i := 111) rfl)
theorem ml_L_34 : Cond.methodLink RL 34 yX11_weight ∈ wsL_law := wi_8 (List.mem_of_getElem? (i := 9) rfl)
theorem Tml_L_34 : Cond.methodLink RL 34 yX11_weight ∈ lw_tbl := tb_5 (List.mem_of_getElem? (i := 136) (by decide +kernel))
theorem im_X11_weight : Cond.instanceMethod yX11_weight ∈ wsL_law := wi_8 (List.mem_of_getElem? (i := 10) rfl)
theorem Tim_X11_weight : Cond.instanceMethod yX11_weight ∈ lw_tbl := tb_5 (List.mem_of_getElem? (i := 137) (by decide +kernel))
theorem se_X11_X11_weight : Cond.selects RX11 yX11_weight yX11_weight ∈ wsL_law := wi_8 (List.mem_of_getElem? (i := 11) rfl)
theorem Tse_X11_X11_weight : Cond.selects RX11 yX11_weight yX11_weight ∈ lw_tbl := tb_5 (List.mem_of_getElem? (i := 138) (by decide +kernel))
theorem cd_X11_weight : Cond.code yX11_weight cX11_weight 4 (some .int) ∈ wsL_law := wi_8 (List.mem_of_getElem? (i := 12) rfl)
theorem Tcd_X11_weight : Cond.code yX11_weight cX11_weight 4 (some .int) ∈ lw_tbl := tb_5 (List.mem_of_getElem? (i := 139) rfl)
theorem ml_L_35 : Cond.methodLink RL 35 yX10_note ∈ wsL_law := wi_8 (List.mem_of_getElem? (i := 13) rfl)
theorem Tml_L_35 : Cond.methodLink RL 35 yX10_note ∈ lw_tbl := tb_2 (List.mem_of_getElem? (i := 112) (by decide +kernel))
theorem im_X10_note : Cond.instanceMethod yX10_note ∈ wsL_law := wi_8 (List.mem_of_getElem? (i := 14) rfl)
theorem Tim_X10_note : Cond.instanceMethod yX10_note ∈ lw_tbl := tb_2 (List.mem_of_getElem? (i := 113) (by decide +kernel))
theorem se_X10_X10_note : Cond.selects RX10 yX10_note yX10_note ∈ wsL_law := wi_8 (List.mem_of_getElem? (i := 15) rfl)
theorem Tse_X10_X10_note : Cond.selects RX10 yX10_note yX10_note ∈ lw_tbl := tb_2 (List.mem_of_getElem? (i := 114) (by decide +kernel))
theorem cd_X10_note : Cond.code yX10_note cX10_note 5 (some .int) ∈ wsL_law := wi_8 (List.mem_of_getElem? (i := 16) rfl)
theorem Tcd_X10_note : Cond.code yX10_note cX10_note 5 (some .int) ∈ lw_tbl := tb_2 (List.mem_of_getElem? (i := 115) rfl)
theorem im_X5_noteOfPitch : Cond.instanceMethod yX5_noteOfPitch ∈ wsL_law := wi_8 (List.mem_of_getElem? (i := 17) rfl)
theorem Tim_X5_noteOfPitch : Cond.instanceMethod yX5_noteOfPitch ∈ lw_tbl := tb_2 (List.mem_of_getElem? (i := 118) (by decide +kernel))
theorem se_X5_X5_noteOfPitch : Cond.selects RX5 yX5_noteOfPitch yX5_noteOfPitch ∈ wsL_law := wi_8 (List.mem_of_getElem? (i := 18) rfl)
theorem Tse_X5_X5_noteOfPitch : Cond.selects RX5 yX5_noteOfPitch yX5_noteOfPitch ∈ lw_tbl := pv_1 (n := 7) (List.mem_of_getElem? (i := 6) rfl)
theorem cd_X5_noteOfPitch : Cond.code yX5_noteOfPitch cX5_noteOfPitch 4 (some .int) ∈ wsL_law := wi_8 (List.mem_of_getElem? (i := 19) rfl)
theorem Tcd_X5_noteOfPitch : Cond.code yX5_noteOfPitch cX5_noteOfPitch 4 (some .int) ∈ lw_tbl := tb_2 (List.mem_of_getElem? (i := 119) rfl)
theorem im_X5_foreOf : Cond.instanceMethod yX5_foreOf ∈ wsL_law := wi_8 (List.mem_of_getElem? (i := 20) rfl)
theorem Tim_X5_foreOf : Cond.instanceMethod yX5_foreOf ∈ lw_tbl := tb_2 (List.mem_of_getElem? (i := 122) (by decide +kernel))
theorem se_X5_X5_foreOf : Cond.selects RX5 yX5_foreOf yX5_foreOf ∈ wsL_law := wi_8 (List.mem_of_getElem? (i := 21) rfl)
theorem Tse_X5_X5_foreOf : Cond.selects RX5 yX5_foreOf yX5_foreOf ∈ lw_tbl := pv_1 (n := 7) (List.mem_of_getElem? (i := 7) rfl)
theorem cd_X5_foreOf : Cond.code yX5_foreOf cX5_foreOf 3 (some .int) ∈ wsL_law := wi_8 (List.mem_of_getElem? (i := 22) rfl)
theorem Tcd_X5_foreOf : Cond.code yX5_foreOf cX5_foreOf 3 (some .int) ∈ lw_tbl := tb_2 (List.mem_of_getElem? (i := 123) rfl)
theorem ml_X5_38 : Cond.methodLink RX5 38 yX5_isTied ∈ wsL_law := wi_8 (List.mem_of_getElem? (i := 23) rfl)
theorem Tml_X5_38 : Cond.methodLink RX5 38 yX5_isTied ∈ lw_tbl := tb_2 (List.mem_of_getElem? (i := 124) (by decide +kernel))
theorem st_X5_isTied : Cond.static yX5_isTied ∈ wsL_law := wi_8 (List.mem_of_getElem? (i := 24) rfl)
theorem Tst_X5_isTied : Cond.static yX5_isTied ∈ lw_tbl := tb_2 (List.mem_of_getElem? (i := 125) (by decide +kernel))
theorem cd_X5_isTied : Cond.code yX5_isTied cX5_isTied 1 (some .boolean) ∈ wsL_law := wi_8 (List.mem_of_getElem? (i := 25) rfl)
theorem Tcd_X5_isTied : Cond.code yX5_isTied cX5_isTied 1 (some .boolean) ∈ lw_tbl := tb_2 (List.mem_of_getElem? (i := 126) rfl)
theorem ml_X5_41 : Cond.methodLink RX5 41 yX5_noteOfPitch ∈ wsL_law := wi_8 (List.mem_of_getElem? (i := 26) rfl)
theorem Tml_X5_41 : Cond.methodLink RX5 41 yX5_noteOfPitch ∈ lw_tbl := tb_2 (List.mem_of_getElem? (i := 127) (by decide +kernel))
theorem im_X5_addNote : Cond.instanceMethod yX5_addNote ∈ wsL_law := wi_8 (List.mem_of_getElem? (i := 27) rfl)
theorem Tim_X5_addNote : Cond.instanceMethod yX5_addNote ∈ lw_tbl := tb_2 (List.mem_of_getElem? (i := 131) (by decide +kernel))
theorem se_X5_X5_addNote : Cond.selects RX5 yX5_addNote yX5_addNote ∈ wsL_law := wi_8 (List.mem_of_getElem? (i := 28) rfl)
theorem Tse_X5_X5_addNote : Cond.selects RX5 yX5_addNote yX5_addNote ∈ lw_tbl := pv_1 (n := 7) (List.mem_of_getElem? (i := 8) rfl)
theorem cd_X5_addNote : Cond.code yX5_addNote cX5_addNote 8 (some .int) ∈ wsL_law := wi_8 (List.mem_of_getElem? (i := 29) rfl)
theorem Tcd_X5_addNote : Cond.code yX5_addNote cX5_addNote 8 (some .int) ∈ lw_tbl := tb_2 (List.mem_of_getElem? (i := 132) rfl)
theorem tA_8 : ∀ w ∈ wA_8, w ∈ lw_tbl := List.forall_mem_cons.mpr ⟨Tcd_X10_bars, List.forall_mem_cons.mpr ⟨Tml_L_30, List.forall_mem_cons.mpr ⟨Tim_X11_bars, List.forall_mem_cons.mpr ⟨Tse_X11_X11_bars, List.forall_mem_cons.mpr ⟨Tcd_X11_bars, List.forall_mem_cons.mpr ⟨Tml_L_31, List.forall_mem_cons.mpr ⟨Tim_X10_weight, List.forall_mem_cons.mpr ⟨Tse_X10_X10_weight, List.forall_mem_cons.mpr ⟨Tcd_X10_weight, List.forall_mem_cons.mpr ⟨Tml_L_34, List.forall_mem_cons.mpr ⟨Tim_X11_weight, List.forall_mem_cons.mpr ⟨Tse_X11_X11_weight, List.forall_mem_cons.mpr ⟨Tcd_X11_weight, List.forall_mem_cons.mpr ⟨Tml_L_35, List.forall_mem_cons.mpr ⟨Tim_X10_note, List.forall_mem_cons.mpr ⟨Tse_X10_X10_note, List.forall_mem_cons.mpr ⟨Tcd_X10_note, List.forall_mem_cons.mpr ⟨Tim_X5_noteOfPitch, List.forall_mem_cons.mpr ⟨Tse_X5_X5_noteOfPitch, List.forall_mem_cons.mpr ⟨Tcd_X5_noteOfPitch, List.forall_mem_cons.mpr ⟨Tim_X5_foreOf, List.forall_mem_cons.mpr ⟨Tse_X5_X5_foreOf, List.forall_mem_cons.mpr ⟨Tcd_X5_foreOf, List.forall_mem_cons.mpr ⟨Tml_X5_38, List.forall_mem_cons.mpr ⟨Tst_X5_isTied, List.forall_mem_cons.mpr ⟨Tcd_X5_isTied, List.forall_mem_cons.mpr ⟨Tml_X5_41, List.forall_mem_cons.mpr ⟨Tim_X5_addNote, List.forall_mem_cons.mpr ⟨Tse_X5_X5_addNote, List.forall_mem_cons.mpr ⟨Tcd_X5_addNote, fun _ h => absurd h List.not_mem_nil⟩⟩⟩⟩⟩⟩⟩⟩⟩⟩⟩⟩⟩⟩⟩⟩⟩⟩⟩⟩⟩⟩⟩⟩⟩⟩⟩⟩⟩⟩
theorem ml_L_39 : Cond.methodLink RL 39 yX11_note ∈ wsL_law := wi_9 (List.mem_of_getElem? (i := 0) rfl)
theorem Tml_L_39 : Cond.methodLink RL 39 yX11_note ∈ lw_tbl := tb_5 (List.mem_of_getElem? (i := 140) (by decide +kernel))
theorem im_X11_note : Cond.instanceMethod yX11_note ∈ wsL_law := wi_9 (List.mem_of_getElem? (i := 1) rfl)
theorem Tim_X11_note : Cond.instanceMethod yX11_note ∈ lw_tbl := tb_5 (List.mem_of_getElem? (i := 141) (by decide +kernel))
theorem se_X11_X11_note : Cond.selects RX11 yX11_note yX11_note ∈ wsL_law := wi_9 (List.mem_of_getElem? (i := 2) rfl)
theorem Tse_X11_X11_note : Cond.selects RX11 yX11_note yX11_note ∈ lw_tbl := tb_5 (List.mem_of_getElem? (i := 142) (by decide +kernel))
theorem cd_X11_note : Cond.code yX11_note cX11_note 5 (some .int) ∈ wsL_law := wi_9 (List.mem_of_getElem? (i := 3) rfl)
theorem Tcd_X11_note : Cond.code yX11_note cX11_note 5 (some .int) ∈ lw_tbl := tb_5 (List.mem_of_getElem? (i := 143) rfl)
theorem ml_X11_170 : Cond.methodLink RX11 170 yX11_spot ∈ wsL_law := wi_9 (List.mem_of_getElem? (i := 4) rfl)
theorem Tml_X11_170 : Cond.methodLink RX11 170 yX11_spot ∈ lw_tbl := tb_5 (List.mem_of_getElem? (i := 144) (by decide +kernel))
theorem im_X11_spot : Cond.instanceMethod yX11_spot ∈ wsL_law := wi_9 (List.mem_of_getElem? (i := 5) rfl)
theorem Tim_X11_spot : Cond.instanceMethod yX11_spot ∈ lw_tbl := tb_5 (List.mem_of_getElem? (i := 146) (by decide +kernel))
theorem se_X11_X11_spot : Cond.selects RX11 yX11_spot yX11_spot ∈ wsL_law := wi_9 (List.mem_of_getElem? (i := 6) rfl)
theorem Tse_X11_X11_spot : Cond.selects RX11 yX11_spot yX11_spot ∈ lw_tbl := pv_6 (n := 47) (List.mem_of_getElem? (i := 1) rfl)
theorem cd_X11_spot : Cond.code yX11_spot cX11_spot 3 (some .int) ∈ wsL_law := wi_9 (List.mem_of_getElem? (i := 7) rfl)
theorem Tcd_X11_spot : Cond.code yX11_spot cX11_spot 3 (some .int) ∈ lw_tbl := tb_5 (List.mem_of_getElem? (i := 147) rfl)
theorem ml_X11_174 : Cond.methodLink RX11 174 yX11_noteOf ∈ wsL_law := wi_9 (List.mem_of_getElem? (i := 8) rfl)
theorem Tml_X11_174 : Cond.methodLink RX11 174 yX11_noteOf ∈ lw_tbl := tb_5 (List.mem_of_getElem? (i := 148) (by decide +kernel))
theorem im_X11_noteOf : Cond.instanceMethod yX11_noteOf ∈ wsL_law := wi_9 (List.mem_of_getElem? (i := 9) rfl)
theorem Tim_X11_noteOf : Cond.instanceMethod yX11_noteOf ∈ lw_tbl := tb_5 (List.mem_of_getElem? (i := 150) (by decide +kernel))
theorem se_X11_X11_noteOf : Cond.selects RX11 yX11_noteOf yX11_noteOf ∈ wsL_law := wi_9 (List.mem_of_getElem? (i := 10) rfl)
theorem Tse_X11_X11_noteOf : Cond.selects RX11 yX11_noteOf yX11_noteOf ∈ lw_tbl := pv_6 (n := 47) (List.mem_of_getElem? (i := 2) rfl)
theorem cd_X11_noteOf : Cond.code yX11_noteOf cX11_noteOf 4 (some .int) ∈ wsL_law := wi_9 (List.mem_of_getElem? (i := 11) rfl)
theorem Tcd_X11_noteOf : Cond.code yX11_noteOf cX11_noteOf 4 (some .int) ∈ lw_tbl := tb_5 (List.mem_of_getElem? (i := 151) rfl)
theorem ml_L_40 : Cond.methodLink RL 40 yX10_tick ∈ wsL_law := wi_9 (List.mem_of_getElem? (i := 12) rfl)
theorem Tml_L_40 : Cond.methodLink RL 40 yX10_tick ∈ lw_tbl := tb_2 (List.mem_of_getElem? (i := 133) (by decide +kernel))
theorem im_X10_tick : Cond.instanceMethod yX10_tick ∈ wsL_law := wi_9 (List.mem_of_getElem? (i := 13) rfl)
theorem Tim_X10_tick : Cond.instanceMethod yX10_tick ∈ lw_tbl := tb_2 (List.mem_of_getElem? (i := 134) (by decide +kernel))
theorem se_X10_X10_tick : Cond.selects RX10 yX10_tick yX10_tick ∈ wsL_law := wi_9 (List.mem_of_getElem? (i := 14) rfl)
theorem Tse_X10_X10_tick : Cond.selects RX10 yX10_tick yX10_tick ∈ lw_tbl := tb_2 (List.mem_of_getElem? (i := 135) (by decide +kernel))
theorem cd_X10_tick : Cond.code yX10_tick cX10_tick 2 (some .int) ∈ wsL_law := wi_9 (List.mem_of_getElem? (i := 15) rfl)
theorem Tcd_X10_tick : Cond.code yX10_tick cX10_tick 2 (some .int) ∈ lw_tbl := tb_2 (List.mem_of_getElem? (i := 136) rfl)
theorem im_X5_closeTick : Cond.instanceMethod yX5_closeTick ∈ wsL_law := wi_9 (List.mem_of_getElem? (i := 16) rfl)
theorem Tim_X5_closeTick : Cond.instanceMethod yX5_closeTick ∈ lw_tbl := tb_2 (List.mem_of_getElem? (i := 139) (by decide +kernel))
theorem se_X5_X5_closeTick : Cond.selects RX5 yX5_closeTick yX5_closeTick ∈ wsL_law := wi_9 (List.mem_of_getElem? (i := 17) rfl)
theorem Tse_X5_X5_closeTick : Cond.selects RX5 yX5_closeTick yX5_closeTick ∈ lw_tbl := pv_1 (n := 7) (List.mem_of_getElem? (i := 9) rfl)
theorem cd_X5_closeTick : Cond.code yX5_closeTick cX5_closeTick 2 (some .int) ∈ wsL_law := wi_9 (List.mem_of_getElem? (i := 18) rfl)
theorem Tcd_X5_closeTick : Cond.code yX5_closeTick cX5_closeTick 2 (some .int) ∈ lw_tbl := tb_2 (List.mem_of_getElem? (i := 140) rfl)
theorem im_X2_forget : Cond.instanceMethod yX2_forget ∈ wsL_law := wi_9 (List.mem_of_getElem? (i := 19) rfl)
theorem Tim_X2_forget : Cond.instanceMethod yX2_forget ∈ lw_tbl := tb_2 (List.mem_of_getElem? (i := 143) (by decide +kernel))
theorem se_X2_X2_forget : Cond.selects RX2 yX2_forget yX2_forget ∈ wsL_law := wi_9 (List.mem_of_getElem? (i := 20) rfl)
theorem Tse_X2_X2_forget : Cond.selects RX2 yX2_forget yX2_forget ∈ lw_tbl := pv_1 (n := 4) (List.mem_of_getElem? (i := 10) rfl)
theorem cd_X2_forget : Cond.code yX2_forget cX2_forget 2 none ∈ wsL_law := wi_9 (List.mem_of_getElem? (i := 21) rfl)
theorem Tcd_X2_forget : Cond.code yX2_forget cX2_forget 2 none ∈ lw_tbl := tb_2 (List.mem_of_getElem? (i := 144) rfl)
theorem ml_L_44 : Cond.methodLink RL 44 yX11_tick ∈ wsL_law := wi_9 (List.mem_of_getElem? (i := 22) rfl)
theorem Tml_L_44 : Cond.methodLink RL 44 yX11_tick ∈ lw_tbl := tb_5 (List.mem_of_getElem? (i := 152) (by decide +kernel))
theorem im_X11_tick : Cond.instanceMethod yX11_tick ∈ wsL_law := wi_9 (List.mem_of_getElem? (i := 23) rfl)
theorem Tim_X11_tick : Cond.instanceMethod yX11_tick ∈ lw_tbl := tb_5 (List.mem_of_getElem? (i := 153) (by decide +kernel))
theorem se_X11_X11_tick : Cond.selects RX11 yX11_tick yX11_tick ∈ wsL_law := wi_9 (List.mem_of_getElem? (i := 24) rfl)
theorem Tse_X11_X11_tick : Cond.selects RX11 yX11_tick yX11_tick ∈ lw_tbl := tb_5 (List.mem_of_getElem? (i := 154) (by decide +kernel))
theorem cd_X11_tick : Cond.code yX11_tick cX11_tick 1 (some .int) ∈ wsL_law := wi_9 (List.mem_of_getElem? (i := 25) rfl)
theorem Tcd_X11_tick : Cond.code yX11_tick cX11_tick 1 (some .int) ∈ lw_tbl := tb_5 (List.mem_of_getElem? (i := 155) rfl)
theorem ml_L_45 : Cond.methodLink RL 45 yX10_clear ∈ wsL_law := wi_9 (List.mem_of_getElem? (i := 26) rfl)
theorem Tml_L_45 : Cond.methodLink RL 45 yX10_clear ∈ lw_tbl := tb_2 (List.mem_of_getElem? (i := 145) (by decide +kernel))
theorem im_X10_clear : Cond.instanceMethod yX10_clear ∈ wsL_law := wi_9 (List.mem_of_getElem? (i := 27) rfl)
theorem Tim_X10_clear : Cond.instanceMethod yX10_clear ∈ lw_tbl := tb_2 (List.mem_of_getElem? (i := 146) (by decide +kernel))
theorem se_X10_X10_clear : Cond.selects RX10 yX10_clear yX10_clear ∈ wsL_law := wi_9 (List.mem_of_getElem? (i := 28) rfl)
theorem Tse_X10_X10_clear : Cond.selects RX10 yX10_clear yX10_clear ∈ lw_tbl := tb_2 (List.mem_of_getElem? (i := 147) (by decide +kernel))
theorem cd_X10_clear : Cond.code yX10_clear cX10_clear 2 (some .int) ∈ wsL_law := wi_9 (List.mem_of_getElem? (i := 29) rfl)
theorem Tcd_X10_clear : Cond.code yX10_clear cX10_clear 2 (some .int) ∈ lw_tbl := tb_2 (List.mem_of_getElem? (i := 148) rfl)
theorem tA_9 : ∀ w ∈ wA_9, w ∈ lw_tbl := List.forall_mem_cons.mpr ⟨Tml_L_39, List.forall_mem_cons.mpr ⟨Tim_X11_note, List.forall_mem_cons.mpr ⟨Tse_X11_X11_note, List.forall_mem_cons.mpr ⟨Tcd_X11_note, List.forall_mem_cons.mpr ⟨Tml_X11_170, List.forall_mem_cons.mpr ⟨Tim_X11_spot, List.forall_mem_cons.mpr ⟨Tse_X11_X11_spot, List.forall_mem_cons.mpr ⟨Tcd_X11_spot, List.forall_mem_cons.mpr ⟨Tml_X11_174, List.forall_mem_cons.mpr ⟨Tim_X11_noteOf, List.forall_mem_cons.mpr ⟨Tse_X11_X11_noteOf, List.forall_mem_cons.mpr ⟨Tcd_X11_noteOf, List.forall_mem_cons.mpr ⟨Tml_L_40, List.forall_mem_cons.mpr ⟨Tim_X10_tick, List.forall_mem_cons.mpr ⟨Tse_X10_X10_tick, List.forall_mem_cons.mpr ⟨Tcd_X10_tick, List.forall_mem_cons.mpr ⟨Tim_X5_closeTick, List.forall_mem_cons.mpr ⟨Tse_X5_X5_closeTick, List.forall_mem_cons.mpr ⟨Tcd_X5_closeTick, List.forall_mem_cons.mpr ⟨Tim_X2_forget, List.forall_mem_cons.mpr ⟨Tse_X2_X2_forget, List.forall_mem_cons.mpr ⟨Tcd_X2_forget, List.forall_mem_cons.mpr ⟨Tml_L_44, List.forall_mem_cons.mpr ⟨Tim_X11_tick, List.forall_mem_cons.mpr ⟨Tse_X11_X11_tick, List.forall_mem_cons.mpr ⟨Tcd_X11_tick, List.forall_mem_cons.mpr ⟨Tml_L_45, List.forall_mem_cons.mpr ⟨Tim_X10_clear, List.forall_mem_cons.mpr ⟨Tse_X10_X10_clear, List.forall_mem_cons.mpr ⟨Tcd_X10_clear, fun _ h => absurd h List.not_mem_nil⟩⟩⟩⟩⟩⟩⟩⟩⟩⟩⟩⟩⟩⟩⟩⟩⟩⟩⟩⟩⟩⟩⟩⟩⟩⟩⟩⟩⟩⟩
theorem im_X5_removeAll : Cond.instanceMethod yX5_removeAll ∈ wsL_law := wi_10 (List.mem_of_getElem? (i := 0) rfl)
theorem Tim_X5_removeAll : Cond.instanceMethod yX5_removeAll ∈ lw_tbl := tb_2 (List.mem_of_getElem? (i := 151) (by decide +kernel))
theorem se_X5_X5_removeAll : Cond.selects RX5 yX5_removeAll yX5_removeAll ∈ wsL_law := wi_10 (List.mem_of_getElem? (i := 1) rfl)
theorem Tse_X5_X5_removeAll : Cond.selects RX5 yX5_removeAll yX5_removeAll ∈ lw_tbl := pv_1 (n := 7) (List.mem_of_getElem? (i := 11) rfl)
theorem cd_X5_removeAll : Cond.code yX5_removeAll cX5_removeAll 1 none ∈ wsL_law := wi_10 (List.mem_of_getElem? (i := 2) rfl)
theorem Tcd_X5_removeAll : Cond.code yX5_removeAll cX5_removeAll 1 none ∈ lw_tbl := tb_2 (List.mem_of_getElem? (i := 152) rfl)
theorem ml_L_48 : Cond.methodLink RL 48 yX11_clear ∈ wsL_law := wi_10 (List.mem_of_getElem? (i := 3) rfl)
theorem Tml_L_48 : Cond.methodLink RL 48 yX11_clear ∈ lw_tbl := tb_5 (List.mem_of_getElem? (i := 156) (by decide +kernel))
theorem im_X11_clear : Cond.instanceMethod yX11_clear ∈ wsL_law := wi_10 (List.mem_of_getElem? (i := 4) rfl)
theorem Tim_X11_clear : Cond.instanceMethod yX11_clear ∈ lw_tbl := tb_5 (List.mem_of_getElem? (i := 157) (by decide +kernel))
theorem se_X11_X11_clear : Cond.selects RX11 yX11_clear yX11_clear ∈ wsL_law := wi_10 (List.mem_of_getElem? (i := 5) rfl)
theorem Tse_X11_X11_clear : Cond.selects RX11 yX11_clear yX11_clear ∈ lw_tbl := tb_5 (List.mem_of_getElem? (i := 158) (by decide +kernel))
theorem cd_X11_clear : Cond.code yX11_clear cX11_clear 2 (some .int) ∈ wsL_law := wi_10 (List.mem_of_getElem? (i := 6) rfl)
theorem Tcd_X11_clear : Cond.code yX11_clear cX11_clear 2 (some .int) ∈ lw_tbl := tb_5 (List.mem_of_getElem? (i := 159) rfl)
theorem ml_L_49 : Cond.methodLink RL 49 yX10_fix ∈ wsL_law := wi_10 (List.mem_of_getElem? (i := 7) rfl)
theorem Tml_L_49 : Cond.methodLink RL 49 yX10_fix ∈ lw_tbl := tb_2 (List.mem_of_getElem? (i := 153) (by decide +kernel))
theorem im_X10_fix : Cond.instanceMethod yX10_fix ∈ wsL_law := wi_10 (List.mem_of_getElem? (i := 8) rfl)
theorem Tim_X10_fix : Cond.instanceMethod yX10_fix ∈ lw_tbl := tb_2 (List.mem_of_getElem? (i := 154) (by decide +kernel))
theorem se_X10_X10_fix : Cond.selects RX10 yX10_fix yX10_fix ∈ wsL_law := wi_10 (List.mem_of_getElem? (i := 9) rfl)
theorem Tse_X10_X10_fix : Cond.selects RX10 yX10_fix yX10_fix ∈ lw_tbl := tb_2 (List.mem_of_getElem? (i := 155) (by decide +kernel))
theorem cd_X10_fix : Cond.code yX10_fix cX10_fix 4 (some .int) ∈ wsL_law := wi_10 (List.mem_of_getElem? (i := 10) rfl)
theorem Tcd_X10_fix : Cond.code yX10_fix cX10_fix 4 (some .int) ∈ lw_tbl := tb_2 (List.mem_of_getElem? (i := 156) rfl)
theorem im_X5_hasNote : Cond.instanceMethod yX5_hasNote ∈ wsL_law := wi_10 (List.mem_of_getElem? (i := 11) rfl)
theorem Tim_X5_hasNote : Cond.instanceMethod yX5_hasNote ∈ lw_tbl := tb_2 (List.mem_of_getElem? (i := 159) (by decide +kernel))
theorem se_X5_X5_hasNote : Cond.selects RX5 yX5_hasNote yX5_hasNote ∈ wsL_law := wi_10 (List.mem_of_getElem? (i := 12) rfl)
theorem Tse_X5_X5_hasNote : Cond.selects RX5 yX5_hasNote yX5_hasNote ∈ lw_tbl := pv_1 (n := 7) (List.mem_of_getElem? (i := 12) rfl)
theorem cd_X5_hasNote : Cond.code yX5_hasNote cX5_hasNote 3 (some .boolean) ∈ wsL_law := wi_10 (List.mem_of_getElem? (i := 13) rfl)
theorem Tcd_X5_hasNote : Cond.code yX5_hasNote cX5_hasNote 3 (some .boolean) ∈ lw_tbl := tb_2 (List.mem_of_getElem? (i := 160) rfl)
theorem ml_X5_34 : Cond.methodLink RX5 34 yX5_hasTick ∈ wsL_law := wi_10 (List.mem_of_getElem? (i := 14) rfl)
theorem Tml_X5_34 : Cond.methodLink RX5 34 yX5_hasTick ∈ lw_tbl := tb_2 (List.mem_of_getElem? (i := 161) (by decide +kernel))
theorem im_X5_hasTick : Cond.instanceMethod yX5_hasTick ∈ wsL_law := wi_10 (List.mem_of_getElem? (i := 15) rfl)
theorem Tim_X5_hasTick : Cond.instanceMethod yX5_hasTick ∈ lw_tbl := tb_2 (List.mem_of_getElem? (i := 163) (by decide +kernel))
theorem se_X5_X5_hasTick : Cond.selects RX5 yX5_hasTick yX5_hasTick ∈ wsL_law := wi_10 (List.mem_of_getElem? (i := 16) rfl)
theorem Tse_X5_X5_hasTick : Cond.selects RX5 yX5_hasTick yX5_hasTick ∈ lw_tbl := pv_1 (n := 7) (List.mem_of_getElem? (i := 13) rfl)
theorem cd_X5_hasTick : Cond.code yX5_hasTick cX5_hasTick 2 (some .boolean) ∈ wsL_law := wi_10 (List.mem_of_getElem? (i := 17) rfl)
theorem Tcd_X5_hasTick : Cond.code yX5_hasTick cX5_hasTick 2 (some .boolean) ∈ lw_tbl := tb_2 (List.mem_of_getElem? (i := 164) rfl)
theorem ml_L_52 : Cond.methodLink RL 52 yX11_fix ∈ wsL_law := wi_10 (List.mem_of_getElem? (i := 18) rfl)
theorem Tml_L_52 : Cond.methodLink RL 52 yX11_fix ∈ lw_tbl := tb_5 (List.mem_of_getElem? (i := 160) (by decide +kernel))
theorem im_X11_fix : Cond.instanceMethod yX11_fix ∈ wsL_law := wi_10 (List.mem_of_getElem? (i := 19) rfl)
theorem Tim_X11_fix : Cond.instanceMethod yX11_fix ∈ lw_tbl := tb_5 (List.mem_of_getElem? (i := 161) (by decide +kernel))
theorem se_X11_X11_fix : Cond.selects RX11 yX11_fix yX11_fix ∈ wsL_law := wi_10 (List.mem_of_getElem? (i := 20) rfl)
theorem Tse_X11_X11_fix : Cond.selects RX11 yX11_fix yX11_fix ∈ lw_tbl := tb_5 (List.mem_of_getElem? (i := 162) (by decide +kernel))
theorem cd_X11_fix : Cond.code yX11_fix cX11_fix 5 (some .int) ∈ wsL_law := wi_10 (List.mem_of_getElem? (i := 21) rfl)
theorem Tcd_X11_fix : Cond.code yX11_fix cX11_fix 5 (some .int) ∈ lw_tbl := tb_5 (List.mem_of_getElem? (i := 163) rfl)
theorem ml_X11_177 : Cond.methodLink RX11 177 yX11_isNote ∈ wsL_law := wi_10 (List.mem_of_getElem? (i := 22) rfl)
theorem Tml_X11_177 : Cond.methodLink RX11 177 yX11_isNote ∈ lw_tbl := tb_5 (List.mem_of_getElem? (i := 164) (by decide +kernel))
theorem im_X11_isNote : Cond.instanceMethod yX11_isNote ∈ wsL_law := wi_10 (List.mem_of_getElem? (i := 23) rfl)
theorem Tim_X11_isNote : Cond.instanceMethod yX11_isNote ∈ lw_tbl := tb_5 (List.mem_of_getElem? (i := 166) (by decide +kernel))
theorem se_X11_X11_isNote : Cond.selects RX11 yX11_isNote yX11_isNote ∈ wsL_law := wi_10 (List.mem_of_getElem? (i := 24) rfl)
theorem Tse_X11_X11_isNote : Cond.selects RX11 yX11_isNote yX11_isNote ∈ lw_tbl := pv_6 (n := 47) (List.mem_of_getElem? (i := 3) rfl)
theorem cd_X11_isNote : Cond.code yX11_isNote cX11_isNote 3 (some .boolean) ∈ wsL_law := wi_10 (List.mem_of_getElem? (i := 25) rfl)
theorem Tcd_X11_isNote : Cond.code yX11_isNote cX11_isNote 3 (some .boolean) ∈ lw_tbl := tb_5 (List.mem_of_getElem? (i := 167) rfl)
theorem ml_X11_160 : Cond.methodLink RX11 160 yX11_isTick ∈ wsL_law := wi_10 (List.mem_of_getElem? (i := 26) rfl)
theorem Tml_X11_160 : Cond.methodLink RX11 160 yX11_isTick ∈ lw_tbl := tb_5 (List.mem_of_getElem? (i := 168) (by decide +kernel))
theorem im_X11_isTick : Cond.instanceMethod yX11_isTick ∈ wsL_law := wi_10 (List.mem_of_getElem? (i := 27) rfl)
theorem Tim_X11_isTick : Cond.instanceMethod yX11_isTick ∈ lw_tbl := tb_5 (List.mem_of_getElem? (i := 170) (by decide +kernel))
theorem se_X11_X11_isTick : Cond.selects RX11 yX11_isTick yX11_isTick ∈ wsL_law := wi_10 (List.mem_of_getElem? (i := 28) rfl)
theorem Tse_X11_X11_isTick : Cond.selects RX11 yX11_isTick yX11_isTick ∈ lw_tbl := pv_6 (n := 47) (List.mem_of_getElem? (i := 4) rfl)
theorem cd_X11_isTick : Cond.code yX11_isTick cX11_isTick 2 (some .boolean) ∈ wsL_law := wi_10 (List.mem_of_getElem? (i := 29) rfl)
theorem Tcd_X11_isTick : Cond.code yX11_isTick cX11_isTick 2 (some .boolean) ∈ lw_tbl := tb_5 (List.mem_of_getElem? (i := 171) rfl)
theorem tA_10 : ∀ w ∈ wA_10, w ∈ lw_tbl := List.forall_mem_cons.mpr ⟨Tim_X5_removeAll, List.forall_mem_cons.mpr ⟨Tse_X5_X5_removeAll, List.forall_mem_cons.mpr ⟨Tcd_X5_removeAll, List.forall_mem_cons.mpr ⟨Tml_L_48, List.forall_mem_cons.mpr ⟨Tim_X11_clear, List.forall_mem_cons.mpr ⟨Tse_X11_X11_clear, List.forall_mem_cons.mpr ⟨Tcd_X11_clear, List.forall_mem_cons.mpr ⟨Tml_L_49, List.forall_mem_cons.mpr ⟨Tim_X10_fix, List.forall_mem_cons.mpr ⟨Tse_X10_X10_fix, List.forall_mem_cons.mpr ⟨Tcd_X10_fix, List.forall_mem_cons.mpr ⟨Tim_X5_hasNote, List.forall_mem_cons.mpr ⟨Tse_X5_X5_hasNote, List.forall_mem_cons.mpr ⟨Tcd_X5_hasNote, List.forall_mem_cons.mpr ⟨Tml_X5_34, List.forall_mem_cons.mpr ⟨Tim_X5_hasTick, List.forall_mem_cons.mpr ⟨Tse_X5_X5_hasTick, List.forall_mem_cons.mpr ⟨Tcd_X5_hasTick, List.forall_mem_cons.mpr ⟨Tml_L_52, List.forall_mem_cons.mpr ⟨Tim_X11_fix, List.forall_mem_cons.mpr ⟨Tse_X11_X11_fix, List.forall_mem_cons.mpr ⟨Tcd_X11_fix, List.forall_mem_cons.mpr ⟨Tml_X11_177, List.forall_mem_cons.mpr ⟨Tim_X11_isNote, List.forall_mem_cons.mpr ⟨Tse_X11_X11_isNote, List.forall_mem_cons.mpr ⟨Tcd_X11_isNote, List.forall_mem_cons.mpr ⟨Tml_X11_160, List.forall_mem_cons.mpr ⟨Tim_X11_isTick, List.forall_mem_cons.mpr ⟨Tse_X11_X11_isTick, List.forall_mem_cons.mpr ⟨Tcd_X11_isTick, fun _ h => absurd h List.not_mem_nil⟩⟩⟩⟩⟩⟩⟩⟩⟩⟩⟩⟩⟩⟩⟩⟩⟩⟩⟩⟩⟩⟩⟩⟩⟩⟩⟩⟩⟩⟩
theorem ml_L_53 : Cond.methodLink RL 53 yX10_told ∈ wsL_law := wi_11 (List.mem_of_getElem? (i := 0) rfl)
theorem Tml_L_53 : Cond.methodLink RL 53 yX10_told ∈ lw_tbl := tb_2 (List.mem_of_getElem? (i := 165) (by decide +kernel))
theorem im_X10_told : Cond.instanceMethod yX10_told ∈ wsL_law := wi_11 (List.mem_of_getElem? (i := 1) rfl)
theorem Tim_X10_told : Cond.instanceMethod yX10_told ∈ lw_tbl := tb_2 (List.mem_of_getElem? (i := 166) (by decide +kernel))
theorem se_X10_X10_told : Cond.selects RX10 yX10_told yX10_told ∈ wsL_law := wi_11 (List.mem_of_getElem? (i := 2) rfl)
theorem Tse_X10_X10_told : Cond.selects RX10 yX10_told yX10_told ∈ lw_tbl := tb_2 (List.mem_of_getElem? (i := 167) (by decide +kernel))
theorem cd_X10_told : Cond.code yX10_told cX10_told 5 (some .int) ∈ wsL_law := wi_11 (List.mem_of_getElem? (i := 3) rfl)
theorem Tcd_X10_told : Cond.code yX10_told cX10_told 5 (some .int) ∈ lw_tbl := tb_2 (List.mem_of_getElem? (i := 168) rfl)
theorem ml_L_56 : Cond.methodLink RL 56 yX11_told ∈ wsL_law := wi_11 (List.mem_of_getElem? (i := 4) rfl)
theorem Tml_L_56 : Cond.methodLink RL 56 yX11_told ∈ lw_tbl := tb_5 (List.mem_of_getElem? (i := 172) (by decide +kernel))
theorem im_X11_told : Cond.instanceMethod yX11_told ∈ wsL_law := wi_11 (List.mem_of_getElem? (i := 5) rfl)
theorem Tim_X11_told : Cond.instanceMethod yX11_told ∈ lw_tbl := tb_5 (List.mem_of_getElem? (i := 173) (by decide +kernel))
theorem se_X11_X11_told : Cond.selects RX11 yX11_told yX11_told ∈ wsL_law := wi_11 (List.mem_of_getElem? (i := 6) rfl)
theorem Tse_X11_X11_told : Cond.selects RX11 yX11_told yX11_told ∈ lw_tbl := tb_5 (List.mem_of_getElem? (i := 174) (by decide +kernel))
theorem cd_X11_told : Cond.code yX11_told cX11_told 4 (some .int) ∈ wsL_law := wi_11 (List.mem_of_getElem? (i := 7) rfl)
theorem Tcd_X11_told : Cond.code yX11_told cX11_told 4 (some .int) ∈ lw_tbl := tb_5 (List.mem_of_getElem? (i := 175) rfl)
theorem ml_X11_181 : Cond.methodLink RX11 181 yX11_fore ∈ wsL_law := wi_11 (List.mem_of_getElem? (i := 8) rfl)
theorem Tml_X11_181 : Cond.methodLink RX11 181 yX11_fore ∈ lw_tbl := tb_5 (List.mem_of_getElem? (i := 176) (by decide +kernel))
theorem im_X11_fore : Cond.instanceMethod yX11_fore ∈ wsL_law := wi_11 (List.mem_of_getElem? (i := 9) rfl)
theorem Tim_X11_fore : Cond.instanceMethod yX11_fore ∈ lw_tbl := tb_5 (List.mem_of_getElem? (i := 178) (by decide +kernel))
theorem se_X11_X11_fore : Cond.selects RX11 yX11_fore yX11_fore ∈ wsL_law := wi_11 (List.mem_of_getElem? (i := 10) rfl)
theorem Tse_X11_X11_fore : Cond.selects RX11 yX11_fore yX11_fore ∈ lw_tbl := pv_6 (n := 47) (List.mem_of_getElem? (i := 5) rfl)
theorem cd_X11_fore : Cond.code yX11_fore cX11_fore 4 (some .int) ∈ wsL_law := wi_11 (List.mem_of_getElem? (i := 11) rfl)
theorem Tcd_X11_fore : Cond.code yX11_fore cX11_fore 4 (some .int) ∈ lw_tbl := tb_5 (List.mem_of_getElem? (i := 179) rfl)
theorem ml_L_57 : Cond.methodLink RL 57 yX10_grips ∈ wsL_law := wi_11 (List.mem_of_getElem? (i := 12) rfl)
theorem Tml_L_57 : Cond.methodLink RL 57 yX10_grips ∈ lw_tbl := tb_2 (List.mem_of_getElem? (i := 169) (by decide +kernel))
theorem im_X10_grips : Cond.instanceMethod yX10_grips ∈ wsL_law := wi_11 (List.mem_of_getElem? (i := 13) rfl)
theorem Tim_X10_grips : Cond.instanceMethod yX10_grips ∈ lw_tbl := tb_2 (List.mem_of_getElem? (i := 170) (by decide +kernel))
theorem se_X10_X10_grips : Cond.selects RX10 yX10_grips yX10_grips ∈ wsL_law := wi_11 (List.mem_of_getElem? (i := 14) rfl)
theorem Tse_X10_X10_grips : Cond.selects RX10 yX10_grips yX10_grips ∈ lw_tbl := tb_2 (List.mem_of_getElem? (i := 171) (by decide +kernel))
theorem cd_X10_grips : Cond.code yX10_grips cX10_grips 2 (some .int) ∈ wsL_law := wi_11 (List.mem_of_getElem? (i := 15) rfl)
theorem Tcd_X10_grips : Cond.code yX10_grips cX10_grips 2 (some .int) ∈ lw_tbl := tb_2 (List.mem_of_getElem? (i := 172) rfl)
theorem im_X2_keep : Cond.instanceMethod yX2_keep ∈ wsL_law := wi_11 (List.mem_of_getElem? (i := 16) rfl)
theorem Tim_X2_keep : Cond.instanceMethod yX2_keep ∈ lw_tbl := tb_2 (List.mem_of_getElem? (i := 176) (by decide +kernel))
theorem se_X2_X2_keep : Cond.selects RX2 yX2_keep yX2_keep ∈ wsL_law := wi_11 (List.mem_of_getElem? (i := 17) rfl)
theorem Tse_X2_X2_keep : Cond.selects RX2 yX2_keep yX2_keep ∈ lw_tbl := pv_1 (n := 4) (List.mem_of_getElem? (i := 14) rfl)
theorem cd_X2_keep : Cond.code yX2_keep cX2_keep 2 none ∈ wsL_law := wi_11 (List.mem_of_getElem? (i := 18) rfl)
theorem Tcd_X2_keep : Cond.code yX2_keep cX2_keep 2 none ∈ lw_tbl := tb_2 (List.mem_of_getElem? (i := 177) rfl)
theorem im_X5_allNotes : Cond.instanceMethod yX5_allNotes ∈ wsL_law := wi_11 (List.mem_of_getElem? (i := 19) rfl)
theorem Tim_X5_allNotes : Cond.instanceMethod yX5_allNotes ∈ lw_tbl := tb_2 (List.mem_of_getElem? (i := 180) (by decide +kernel))
theorem se_X5_X5_allNotes : Cond.selects RX5 yX5_allNotes yX5_allNotes ∈ wsL_law := wi_11 (List.mem_of_getElem? (i := 20) rfl)
theorem Tse_X5_X5_allNotes : Cond.selects RX5 yX5_allNotes yX5_allNotes ∈ lw_tbl := pv_1 (n := 7) (List.mem_of_getElem? (i := 15) rfl)
theorem cd_X5_allNotes : Cond.code yX5_allNotes cX5_allNotes 2 (some .int) ∈ wsL_law := wi_11 (List.mem_of_getElem? (i := 21) rfl)
theorem Tcd_X5_allNotes : Cond.code yX5_allNotes cX5_allNotes 2 (some .int) ∈ lw_tbl := tb_2 (List.mem_of_getElem? (i := 181) rfl)
theorem ml_X2_44 : Cond.methodLink RX2 44 yX2_list ∈ wsL_law := wi_11 (List.mem_of_getElem? (i := 22) rfl)
theorem Tml_X2_44 : Cond.methodLink RX2 44 yX2_list ∈ lw_tbl := tb_2 (List.mem_of_getElem? (i := 182) (by decide +kernel))
theorem im_X2_list : Cond.instanceMethod yX2_list ∈ wsL_law := wi_11 (List.mem_of_getElem? (i := 23) rfl)
theorem Tim_X2_list : Cond.instanceMethod yX2_list ∈ lw_tbl := tb_2 (List.mem_of_getElem? (i := 184) (by decide +kernel))
theorem se_X2_X2_list : Cond.selects RX2 yX2_list yX2_list ∈ wsL_law := wi_11 (List.mem_of_getElem? (i := 24) rfl)
theorem Tse_X2_X2_list : Cond.selects RX2 yX2_list yX2_list ∈ lw_tbl := pv_2 (n := 4) (List.mem_of_getElem? (i := 0) rfl)
theorem cd_X2_list : Cond.code yX2_list cX2_list 3 none ∈ wsL_law := wi_11 (List.mem_of_getElem? (i := 25) rfl)
theorem Tcd_X2_list : Cond.code yX2_list cX2_list 3 none ∈ lw_tbl := tb_2 (List.mem_of_getElem? (i := 185) rfl)
theorem im_X3_search : Cond.instanceMethod yX3_search ∈ wsL_law := wi_11 (List.mem_of_getElem? (i := 26) rfl)
theorem Tim_X3_search : Cond.instanceMethod yX3_search ∈ lw_tbl := tb_2 (List.mem_of_getElem? (i := 188) (by decide +kernel))
theorem se_X3_X3_search : Cond.selects RX3 yX3_search yX3_search ∈ wsL_law := wi_11 (List.mem_of_getElem? (i := 27) rfl)
theorem Tse_X3_X3_search : Cond.selects RX3 yX3_search yX3_search ∈ lw_tbl := pv_2 (n := 12) (List.mem_of_getElem? (i := 1) rfl)
theorem cd_X3_search : Cond.code yX3_search cX3_search 8 (some .int) ∈ wsL_law := wi_11 (List.mem_of_getElem? (i := 28) rfl)
theorem Tcd_X3_search : Cond.code yX3_search cX3_search 8 (some .int) ∈ lw_tbl := tb_2 (List.mem_of_getElem? (i := 189) rfl)
theorem ml_X3_57 : Cond.methodLink RX3 57 yX3_isIn ∈ wsL_law := wi_11 (List.mem_of_getElem? (i := 29) rfl)
theorem Tml_X3_57 : Cond.methodLink RX3 57 yX3_isIn ∈ lw_tbl := tb_2 (List.mem_of_getElem? (i := 190) (by decide +kernel))
theorem tA_11 : ∀ w ∈ wA_11, w ∈ lw_tbl := List.forall_mem_cons.mpr ⟨Tml_L_53, List.forall_mem_cons.mpr ⟨Tim_X10_told, List.forall_mem_cons.mpr ⟨Tse_X10_X10_told, List.forall_mem_cons.mpr ⟨Tcd_X10_told, List.forall_mem_cons.mpr ⟨Tml_L_56, List.forall_mem_cons.mpr ⟨Tim_X11_told, List.forall_mem_cons.mpr ⟨Tse_X11_X11_told, List.forall_mem_cons.mpr ⟨Tcd_X11_told, List.forall_mem_cons.mpr ⟨Tml_X11_181, List.forall_mem_cons.mpr ⟨Tim_X11_fore, List.forall_mem_cons.mpr ⟨Tse_X11_X11_fore, List.forall_mem_cons.mpr ⟨Tcd_X11_fore, List.forall_mem_cons.mpr ⟨Tml_L_57, List.forall_mem_cons.mpr ⟨Tim_X10_grips, List.forall_mem_cons.mpr ⟨Tse_X10_X10_grips, List.forall_mem_cons.mpr ⟨Tcd_X10_grips, List.forall_mem_cons.mpr ⟨Tim_X2_keep, List.forall_mem_cons.mpr ⟨Tse_X2_X2_keep, List.forall_mem_cons.mpr ⟨Tcd_X2_keep, List.forall_mem_cons.mpr ⟨Tim_X5_allNotes, List.forall_mem_cons.mpr ⟨Tse_X5_X5_allNotes, List.forall_mem_cons.mpr ⟨Tcd_X5_allNotes, List.forall_mem_cons.mpr ⟨Tml_X2_44, List.forall_mem_cons.mpr ⟨Tim_X2_list, List.forall_mem_cons.mpr ⟨Tse_X2_X2_list, List.forall_mem_cons.mpr ⟨Tcd_X2_list, List.forall_mem_cons.mpr ⟨Tim_X3_search, List.forall_mem_cons.mpr ⟨Tse_X3_X3_search, List.forall_mem_cons.mpr ⟨Tcd_X3_search, List.forall_mem_cons.mpr ⟨Tml_X3_57, fun _ h => absurd h List.not_mem_nil⟩⟩⟩⟩⟩⟩⟩⟩⟩⟩⟩⟩⟩⟩⟩⟩⟩⟩⟩⟩⟩⟩⟩⟩⟩⟩⟩⟩⟩⟩
theorem im_X3_isIn : Cond.instanceMethod yX3_isIn ∈ wsL_law := wi_12 (List.mem_of_getElem? (i := 0) rfl)
theorem Tim_X3_isIn : Cond.instanceMethod yX3_isIn ∈ lw_tbl := tb_2 (List.mem_of_getElem? (i := 192) (by decide +kernel))
theorem se_X3_X3_isIn : Cond.selects RX3 yX3_isIn yX3_isIn ∈ wsL_law := wi_12 (List.mem_of_getElem? (i := 1) rfl)
theorem Tse_X3_X3_isIn : Cond.selects RX3 yX3_isIn yX3_isIn ∈ lw_tbl := pv_2 (n := 12) (List.mem_of_getElem? (i := 2) rfl)
theorem cd_X3_isIn : Cond.code yX3_isIn cX3_isIn 2 (some .boolean) ∈ wsL_law := wi_12 (List.mem_of_getElem? (i := 2) rfl)
theorem Tcd_X3_isIn : Cond.code yX3_isIn cX3_isIn 2 (some .boolean) ∈ lw_tbl := tb_2 (List.mem_of_getElem? (i := 193) rfl)
theorem ml_X3_61 : Cond.methodLink RX3 61 yX3_gatherChoices ∈ wsL_law := wi_12 (List.mem_of_getElem? (i := 3) rfl)
theorem Tml_X3_61 : Cond.methodLink RX3 61 yX3_gatherChoices ∈ lw_tbl := tb_2 (List.mem_of_getElem? (i := 194) (by decide +kernel))
theorem im_X3_gatherChoices : Cond.instanceMethod yX3_gatherChoices ∈ wsL_law := wi_12 (List.mem_of_getElem? (i := 4) rfl)
theorem Tim_X3_gatherChoices : Cond.instanceMethod yX3_gatherChoices ∈ lw_tbl := tb_2 (List.mem_of_getElem? (i := 196) (by decide +kernel))
theorem se_X3_X3_gatherChoices : Cond.selects RX3 yX3_gatherChoices yX3_gatherChoices ∈ wsL_law := wi_12 (List.mem_of_getElem? (i := 5) rfl)
theorem Tse_X3_X3_gatherChoices : Cond.selects RX3 yX3_gatherChoices yX3_gatherChoices ∈ lw_tbl := pv_2 (n := 12) (List.mem_of_getElem? (i := 3) rfl)
theorem cd_X3_gatherChoices : Cond.code yX3_gatherChoices cX3_gatherChoices 7 (some .int) ∈ wsL_law := wi_12 (List.mem_of_getElem? (i := 6) rfl)
theorem Tcd_X3_gatherChoices : Cond.code yX3_gatherChoices cX3_gatherChoices 7 (some .int) ∈ lw_tbl := tb_2 (List.mem_of_getElem? (i := 197) rfl)
theorem im_X4_fretFor : Cond.instanceMethod yX4_fretFor ∈ wsL_law := wi_12 (List.mem_of_getElem? (i := 7) rfl)
theorem Tim_X4_fretFor : Cond.instanceMethod yX4_fretFor ∈ lw_tbl := tb_2 (List.mem_of_getElem? (i := 200) (by decide +kernel))
theorem se_X4_X4_fretFor : Cond.selects RX4 yX4_fretFor yX4_fretFor ∈ wsL_law := wi_12 (List.mem_of_getElem? (i := 8) rfl)
theorem Tse_X4_X4_fretFor : Cond.selects RX4 yX4_fretFor yX4_fretFor ∈ lw_tbl := pv_2 (n := 7) (List.mem_of_getElem? (i := 4) rfl)
theorem cd_X4_fretFor : Cond.code yX4_fretFor cX4_fretFor 4 (some .int) ∈ wsL_law := wi_12 (List.mem_of_getElem? (i := 9) rfl)
theorem Tcd_X4_fretFor : Cond.code yX4_fretFor cX4_fretFor 4 (some .int) ∈ lw_tbl := tb_2 (List.mem_of_getElem? (i := 201) rfl)
theorem im_X4_placesFor : Cond.instanceMethod yX4_placesFor ∈ wsL_law := wi_12 (List.mem_of_getElem? (i := 10) rfl)
theorem Tim_X4_placesFor : Cond.instanceMethod yX4_placesFor ∈ lw_tbl := tb_2 (List.mem_of_getElem? (i := 205) (by decide +kernel))
theorem se_X4_X4_placesFor : Cond.selects RX4 yX4_placesFor yX4_placesFor ∈ wsL_law := wi_12 (List.mem_of_getElem? (i := 11) rfl)
theorem Tse_X4_X4_placesFor : Cond.selects RX4 yX4_placesFor yX4_placesFor ∈ lw_tbl := pv_2 (n := 7) (List.mem_of_getElem? (i := 5) rfl)
theorem cd_X4_placesFor : Cond.code yX4_placesFor cX4_placesFor 6 (some .int) ∈ wsL_law := wi_12 (List.mem_of_getElem? (i := 12) rfl)
theorem Tcd_X4_placesFor : Cond.code yX4_placesFor cX4_placesFor 6 (some .int) ∈ lw_tbl := tb_2 (List.mem_of_getElem? (i := 206) rfl)
theorem ml_X3_65 : Cond.methodLink RX3 65 yX3_layNote ∈ wsL_law := wi_12 (List.mem_of_getElem? (i := 13) rfl)
theorem Tml_X3_65 : Cond.methodLink RX3 65 yX3_layNote ∈ lw_tbl := tb_2 (List.mem_of_getElem? (i := 207) (by decide +kernel))
theorem im_X3_layNote : Cond.instanceMethod yX3_layNote ∈ wsL_law := wi_12 (List.mem_of_getElem? (i := 14) rfl)
theorem Tim_X3_layNote : Cond.instanceMethod yX3_layNote ∈ lw_tbl := tb_2 (List.mem_of_getElem? (i := 209) (by decide +kernel))
theorem se_X3_X3_layNote : Cond.selects RX3 yX3_layNote yX3_layNote ∈ wsL_law := wi_12 (List.mem_of_getElem? (i := 15) rfl)
theorem Tse_X3_X3_layNote : Cond.selects RX3 yX3_layNote yX3_layNote ∈ lw_tbl := pv_2 (n := 12) (List.mem_of_getElem? (i := 6) rfl)
theorem cd_X3_layNote : Cond.code yX3_layNote cX3_layNote 7 none ∈ wsL_law := wi_12 (List.mem_of_getElem? (i := 16) rfl)
theorem Tcd_X3_layNote : Cond.code yX3_layNote cX3_layNote 7 none ∈ lw_tbl := tb_2 (List.mem_of_getElem? (i := 210) rfl)
theorem ml_X3_89 : Cond.methodLink RX3 89 yX3_takeGrip ∈ wsL_law := wi_12 (List.mem_of_getElem? (i := 17) rfl)
theorem Tml_X3_89 : Cond.methodLink RX3 89 yX3_takeGrip ∈ lw_tbl := tb_2 (List.mem_of_getElem? (i := 211) (by decide +kernel))
theorem im_X3_takeGrip : Cond.instanceMethod yX3_takeGrip ∈ wsL_law := wi_12 (List.mem_of_getElem? (i := 18) rfl)
theorem Tim_X3_takeGrip : Cond.instanceMethod yX3_takeGrip ∈ lw_tbl := tb_2 (List.mem_of_getElem? (i := 213) (by decide +kernel))
theorem se_X3_X3_takeGrip : Cond.selects RX3 yX3_takeGrip yX3_takeGrip ∈ wsL_law := wi_12 (List.mem_of_getElem? (i := 19) rfl)
theorem Tse_X3_X3_takeGrip : Cond.selects RX3 yX3_takeGrip yX3_takeGrip ∈ lw_tbl := pv_2 (n := 12) (List.mem_of_getElem? (i := 7) rfl)
theorem cd_X3_takeGrip : Cond.code yX3_takeGrip cX3_takeGrip 9 none ∈ wsL_law := wi_12 (List.mem_of_getElem? (i := 20) rfl)
theorem Tcd_X3_takeGrip : Cond.code yX3_takeGrip cX3_takeGrip 9 none ∈ lw_tbl := tb_2 (List.mem_of_getElem? (i := 214) rfl)
theorem ml_X3_129 : Cond.methodLink RX3 129 Lib.Math.min.name ∈ wsL_law := wi_12 (List.mem_of_getElem? (i := 21) rfl)
theorem Tml_X3_129 : Cond.methodLink RX3 129 Lib.Math.min.name ∈ lw_tbl := tb_2 (List.mem_of_getElem? (i := 223) (by decide +kernel))
theorem st_Lib_Math_min_name : Cond.static Lib.Math.min.name ∈ wsL_law := wi_12 (List.mem_of_getElem? (i := 22) rfl)
theorem Tst_Lib_Math_min_name : Cond.static Lib.Math.min.name ∈ lw_tbl := tb_2 (List.mem_of_getElem? (i := 224) (by decide +kernel))
theorem iz_J9 : Cond.initialized "java/lang/Math" ∈ wsL_law := wi_12 (List.mem_of_getElem? (i := 23) rfl)
theorem Tiz_J9 : Cond.initialized "java/lang/Math" ∈ lw_tbl := tb_1 (List.mem_of_getElem? (i := 12) (by decide +kernel))
theorem cd_Lib_Math_min_name : Cond.code Lib.Math.min.name Lib.Math.min.code 2 (some .int) ∈ wsL_law := wi_12 (List.mem_of_getElem? (i := 24) rfl)
theorem Tcd_Lib_Math_min_name : Cond.code Lib.Math.min.name Lib.Math.min.code 2 (some .int) ∈ lw_tbl := tb_2 (List.mem_of_getElem? (i := 225) rfl)
theorem ml_X3_134 : Cond.methodLink RX3 134 Lib.Math.max.name ∈ wsL_law := wi_12 (List.mem_of_getElem? (i := 25) rfl)
theorem Tml_X3_134 : Cond.methodLink RX3 134 Lib.Math.max.name ∈ lw_tbl := tb_2 (List.mem_of_getElem? (i := 226) (by decide +kernel))
theorem st_Lib_Math_max_name : Cond.static Lib.Math.max.name ∈ wsL_law := wi_12 (List.mem_of_getElem? (i := 26) rfl)
theorem Tst_Lib_Math_max_name : Cond.static Lib.Math.max.name ∈ lw_tbl := tb_2 (List.mem_of_getElem? (i := 227) (by decide +kernel))
theorem cd_Lib_Math_max_name : Cond.code Lib.Math.max.name Lib.Math.max.code 2 (some .int) ∈ wsL_law := wi_12 (List.mem_of_getElem? (i := 27) rfl)
theorem Tcd_Lib_Math_max_name : Cond.code Lib.Math.max.name Lib.Math.max.code 2 (some .int) ∈ lw_tbl := tb_2 (List.mem_of_getElem? (i := 228) rfl)
theorem st_X1_finger : Cond.static yX1_finger ∈ wsL_law := wi_12 (List.mem_of_getElem? (i := 28) rfl)
theorem Tst_X1_finger : Cond.static yX1_finger ∈ lw_tbl := tb_2 (List.mem_of_getElem? (i := 216) (by decide +kernel))
theorem iz_X1 : Cond.initialized RX1 ∈ wsL_law := wi_12 (List.mem_of_getElem? (i := 29) rfl)
theorem Tiz_X1 : Cond.initialized RX1 ∈ lw_tbl := tb_1 (List.mem_of_getElem? (i := 11) (by decide +kernel))
theorem tA_12 : ∀ w ∈ wA_12, w ∈ lw_tbl := List.forall_mem_cons.mpr ⟨Tim_X3_isIn, List.forall_mem_cons.mpr ⟨Tse_X3_X3_isIn, List.forall_mem_cons.mpr ⟨Tcd_X3_isIn, List.forall_mem_cons.mpr ⟨Tml_X3_61, List.forall_mem_cons.mpr ⟨Tim_X3_gatherChoices, List.forall_mem_cons.mpr ⟨Tse_X3_X3_gatherChoices, List.forall_mem_cons.mpr ⟨Tcd_X3_gatherChoices, List.forall_mem_cons.mpr ⟨Tim_X4_fretFor, List.forall_mem_cons.mpr ⟨Tse_X4_X4_fretFor, List.forall_mem_cons.mpr ⟨Tcd_X4_fretFor, List.forall_mem_cons.mpr ⟨Tim_X4_placesFor, List.forall_mem_cons.mpr ⟨Tse_X4_X4_placesFor, List.forall_mem_cons.mpr ⟨Tcd_X4_placesFor, List.forall_mem_cons.mpr ⟨Tml_X3_65, List.forall_mem_cons.mpr ⟨Tim_X3_layNote, List.forall_mem_cons.mpr ⟨Tse_X3_X3_layNote, List.forall_mem_cons.mpr ⟨Tcd_X3_layNote, List.forall_mem_cons.mpr ⟨Tml_X3_89, List.forall_mem_cons.mpr ⟨Tim_X3_takeGrip, List.forall_mem_cons.mpr ⟨Tse_X3_X3_takeGrip, List.forall_mem_cons.mpr ⟨Tcd_X3_takeGrip, List.forall_mem_cons.mpr ⟨Tml_X3_129, List.forall_mem_cons.mpr ⟨Tst_Lib_Math_min_name, List.forall_mem_cons.mpr ⟨Tiz_J9, List.forall_mem_cons.mpr ⟨Tcd_Lib_Math_min_name, List.forall_mem_cons.mpr ⟨Tml_X3_134, List.forall_mem_cons.mpr ⟨Tst_Lib_Math_max_name, List.forall_mem_cons.mpr ⟨Tcd_Lib_Math_max_name, List.forall_mem_cons.mpr ⟨Tst_X1_finger, List.forall_mem_cons.mpr ⟨Tiz_X1, fun _ h => absurd h List.not_mem_nil⟩⟩⟩⟩⟩⟩⟩⟩⟩⟩⟩⟩⟩⟩⟩⟩⟩⟩⟩⟩⟩⟩⟩⟩⟩⟩⟩⟩⟩⟩
theorem cd_X1_finger : Cond.code yX1_finger cX1_finger 3 (some .int) ∈ wsL_law := wi_13 (List.mem_of_getElem? (i := 0) rfl)
theorem Tcd_X1_finger : Cond.code yX1_finger cX1_finger 3 (some .int) ∈ lw_tbl := tb_2 (List.mem_of_getElem? (i := 217) rfl)
theorem ct_X1_11 : Cond.constantLong RX1 11 (7) ∈ wsL_law := wi_13 (List.mem_of_getElem? (i := 1) rfl)
theorem Tct_X1_11 : Cond.constantLong RX1 11 (7) ∈ lw_tbl := tb_2 (List.mem_of_getElem? (i := 218) (by decide +kernel))
theorem st_X1_fret : Cond.static yX1_fret ∈ wsL_law := wi_13 (List.mem_of_getElem? (i := 2) rfl)
theorem Tst_X1_fret : Cond.static yX1_fret ∈ lw_tbl := tb_2 (List.mem_of_getElem? (i := 220) (by decide +kernel))
theorem cd_X1_fret : Cond.code yX1_fret cX1_fret 3 (some .int) ∈ wsL_law := wi_13 (List.mem_of_getElem? (i := 3) rfl)
theorem Tcd_X1_fret : Cond.code yX1_fret cX1_fret 3 (some .int) ∈ lw_tbl := tb_2 (List.mem_of_getElem? (i := 221) rfl)
theorem ct_X1_13 : Cond.constantLong RX1 13 (15) ∈ wsL_law := wi_13 (List.mem_of_getElem? (i := 4) rfl)
theorem Tct_X1_13 : Cond.constantLong RX1 13 (15) ∈ lw_tbl := tb_2 (List.mem_of_getElem? (i := 222) (by decide +kernel))
theorem ml_X3_140 : Cond.methodLink RX3 140 yJ6_bitCount_0f7a4 ∈ wsL_law := wi_13 (List.mem_of_getElem? (i := 5) rfl)
theorem Tml_X3_140 : Cond.methodLink RX3 140 yJ6_bitCount_0f7a4 ∈ lw_tbl := tb_2 (List.mem_of_getElem? (i := 229) (by decide +kernel))
theorem st_J6_bitCount_0f7a4 : Cond.static yJ6_bitCount_0f7a4 ∈ wsL_law := wi_13 (List.mem_of_getElem? (i := 6) rfl)
theorem Tst_J6_bitCount_0f7a4 : Cond.static yJ6_bitCount_0f7a4 ∈ lw_tbl := tb_2 (List.mem_of_getElem? (i := 230) (by decide +kernel))
theorem iz_J6 : Cond.initialized RJ6 ∈ wsL_law := wi_13 (List.mem_of_getElem? (i := 7) rfl)
theorem Tiz_J6 : Cond.initialized RJ6 ∈ lw_tbl := tb_1 (List.mem_of_getElem? (i := 13) (by decide +kernel))
theorem cd_J6_bitCount_0f7a4 : Cond.code yJ6_bitCount_0f7a4 cJ6_bitCount_0f7a4 1 (some .int) ∈ wsL_law := wi_13 (List.mem_of_getElem? (i := 8) rfl)
theorem Tcd_J6_bitCount_0f7a4 : Cond.code yJ6_bitCount_0f7a4 cJ6_bitCount_0f7a4 1 (some .int) ∈ lw_tbl := tb_2 (List.mem_of_getElem? (i := 231) rfl)
theorem ct_J6_265 : Cond.constant RJ6 265 (1431655765) ∈ wsL_law := wi_13 (List.mem_of_getElem? (i := 9) rfl)
theorem Tct_J6_265 : Cond.constant RJ6 265 (1431655765) ∈ lw_tbl := tb_2 (List.mem_of_getElem? (i := 232) (by decide +kernel))
theorem ct_J6_266 : Cond.constant RJ6 266 (858993459) ∈ wsL_law := wi_13 (List.mem_of_getElem? (i := 10) rfl)
theorem Tct_J6_266 : Cond.constant RJ6 266 (858993459) ∈ lw_tbl := tb_2 (List.mem_of_getElem? (i := 233) (by decide +kernel))
theorem ct_J6_267 : Cond.constant RJ6 267 (252645135) ∈ wsL_law := wi_13 (List.mem_of_getElem? (i := 11) rfl)
theorem Tct_J6_267 : Cond.constant RJ6 267 (252645135) ∈ lw_tbl := tb_2 (List.mem_of_getElem? (i := 234) (by decide +kernel))
theorem st_X1_wholeOf : Cond.static yX1_wholeOf ∈ wsL_law := wi_13 (List.mem_of_getElem? (i := 12) rfl)
theorem Tst_X1_wholeOf : Cond.static yX1_wholeOf ∈ lw_tbl := tb_2 (List.mem_of_getElem? (i := 236) (by decide +kernel))
theorem cd_X1_wholeOf : Cond.code yX1_wholeOf cX1_wholeOf 3 (some .long) ∈ wsL_law := wi_13 (List.mem_of_getElem? (i := 13) rfl)
theorem Tcd_X1_wholeOf : Cond.code yX1_wholeOf cX1_wholeOf 3 (some .long) ∈ lw_tbl := tb_2 (List.mem_of_getElem? (i := 237) rfl)
theorem ml_X3_93 : Cond.methodLink RX3 93 yX3_layOn ∈ wsL_law := wi_13 (List.mem_of_getElem? (i := 14) rfl)
theorem Tml_X3_93 : Cond.methodLink RX3 93 yX3_layOn ∈ lw_tbl := tb_2 (List.mem_of_getElem? (i := 238) (by decide +kernel))
theorem im_X3_layOn : Cond.instanceMethod yX3_layOn ∈ wsL_law := wi_13 (List.mem_of_getElem? (i := 15) rfl)
theorem Tim_X3_layOn : Cond.instanceMethod yX3_layOn ∈ lw_tbl := tb_3 (List.mem_of_getElem? (i := 0) (by decide +kernel))
theorem se_X3_X3_layOn : Cond.selects RX3 yX3_layOn yX3_layOn ∈ wsL_law := wi_13 (List.mem_of_getElem? (i := 16) rfl)
theorem Tse_X3_X3_layOn : Cond.selects RX3 yX3_layOn yX3_layOn ∈ lw_tbl := pv_2 (n := 12) (List.mem_of_getElem? (i := 8) rfl)
theorem cd_X3_layOn : Cond.code yX3_layOn cX3_layOn 9 none ∈ wsL_law := wi_13 (List.mem_of_getElem? (i := 17) rfl)
theorem Tcd_X3_layOn : Cond.code yX3_layOn cX3_layOn 9 none ∈ lw_tbl := tb_3 (List.mem_of_getElem? (i := 1) rfl)
theorem st_X1_partOf : Cond.static yX1_partOf ∈ wsL_law := wi_13 (List.mem_of_getElem? (i := 18) rfl)
theorem Tst_X1_partOf : Cond.static yX1_partOf ∈ lw_tbl := tb_3 (List.mem_of_getElem? (i := 3) (by decide +kernel))
theorem cd_X1_partOf : Cond.code yX1_partOf cX1_partOf 6 (some .long) ∈ wsL_law := wi_13 (List.mem_of_getElem? (i := 19) rfl)
theorem Tcd_X1_partOf : Cond.code yX1_partOf cX1_partOf 6 (some .long) ∈ lw_tbl := tb_3 (List.mem_of_getElem? (i := 4) rfl)
theorem im_X4_reaches : Cond.instanceMethod yX4_reaches ∈ wsL_law := wi_13 (List.mem_of_getElem? (i := 20) rfl)
theorem Tim_X4_reaches : Cond.instanceMethod yX4_reaches ∈ lw_tbl := tb_3 (List.mem_of_getElem? (i := 7) (by decide +kernel))
theorem se_X4_X4_reaches : Cond.selects RX4 yX4_reaches yX4_reaches ∈ wsL_law := wi_13 (List.mem_of_getElem? (i := 21) rfl)
theorem Tse_X4_X4_reaches : Cond.selects RX4 yX4_reaches yX4_reaches ∈ lw_tbl := pv_2 (n := 7) (List.mem_of_getElem? (i := 9) rfl)
theorem cd_X4_reaches : Cond.code yX4_reaches cX4_reaches 4 (some .boolean) ∈ wsL_law := wi_13 (List.mem_of_getElem? (i := 22) rfl)
theorem Tcd_X4_reaches : Cond.code yX4_reaches cX4_reaches 4 (some .boolean) ∈ lw_tbl := tb_3 (List.mem_of_getElem? (i := 8) rfl)
theorem ml_X3_107 : Cond.methodLink RX3 107 yX3_agrees ∈ wsL_law := wi_13 (List.mem_of_getElem? (i := 23) rfl)
theorem Tml_X3_107 : Cond.methodLink RX3 107 yX3_agrees ∈ lw_tbl := tb_3 (List.mem_of_getElem? (i := 9) (by decide +kernel))
theorem im_X3_agrees : Cond.instanceMethod yX3_agrees ∈ wsL_law := wi_13 (List.mem_of_getElem? (i := 24) rfl)
theorem Tim_X3_agrees : Cond.instanceMethod yX3_agrees ∈ lw_tbl := tb_3 (List.mem_of_getElem? (i := 11) (by decide +kernel))
theorem se_X3_X3_agrees : Cond.selects RX3 yX3_agrees yX3_agrees ∈ wsL_law := wi_13 (List.mem_of_getElem? (i := 25) rfl)
theorem Tse_X3_X3_agrees : Cond.selects RX3 yX3_agrees yX3_agrees ∈ lw_tbl := pv_2 (n := 12) (List.mem_of_getElem? (i := 10) rfl)
theorem cd_X3_agrees : Cond.code yX3_agrees cX3_agrees 12 (some .boolean) ∈ wsL_law := wi_13 (List.mem_of_getElem? (i := 26) rfl)
theorem Tcd_X3_agrees : Cond.code yX3_agrees cX3_agrees 12 (some .boolean) ∈ lw_tbl := tb_3 (List.mem_of_getElem? (i := 12) rfl)
theorem st_X1_courseAt : Cond.static yX1_courseAt ∈ wsL_law := wi_13 (List.mem_of_getElem? (i := 27) rfl)
theorem Tst_X1_courseAt : Cond.static yX1_courseAt ∈ lw_tbl := tb_3 (List.mem_of_getElem? (i := 14) (by decide +kernel))
theorem cd_X1_courseAt : Cond.code yX1_courseAt cX1_courseAt 3 (some .int) ∈ wsL_law := wi_13 (List.mem_of_getElem? (i := 28) rfl)
theorem Tcd_X1_courseAt : Cond.code yX1_courseAt cX1_courseAt 3 (some .int) ∈ lw_tbl := tb_3 (List.mem_of_getElem? (i := 15) rfl)
theorem ml_X3_125 : Cond.methodLink RX3 125 yX3_inOrder ∈ wsL_law := wi_13 (List.mem_of_getElem? (i := 29) rfl)
theorem Tml_X3_125 : Cond.methodLink RX3 125 yX3_inOrder ∈ lw_tbl := tb_3 (List.mem_of_getElem? (i := 16) (by decide +kernel))
theorem tA_13 : ∀ w ∈ wA_13, w ∈ lw_tbl := List.forall_mem_cons.mpr ⟨Tcd_X1_finger, List.forall_mem_cons.mpr ⟨Tct_X1_11, List.forall_mem_cons.mpr ⟨Tst_X1_fret, List.forall_mem_cons.mpr ⟨Tcd_X1_fret, List.forall_mem_cons.mpr ⟨Tct_X1_13, List.forall_mem_cons.mpr ⟨Tml_X3_140, List.forall_mem_cons.mpr ⟨Tst_J6_bitCount_0f7a4, List.forall_mem_cons.mpr ⟨Tiz_J6, List.forall_mem_cons.mpr ⟨Tcd_J6_bitCount_0f7a4, List.forall_mem_cons.mpr ⟨Tct_J6_265, List.forall_mem_cons.mpr ⟨Tct_J6_266, List.forall_mem_cons.mpr ⟨Tct_J6_267, List.forall_mem_cons.mpr ⟨Tst_X1_wholeOf, List.forall_mem_cons.mpr ⟨Tcd_X1_wholeOf, List.forall_mem_cons.mpr ⟨Tml_X3_93, List.forall_mem_cons.mpr ⟨Tim_X3_layOn, List.forall_mem_cons.mpr ⟨Tse_X3_X3_layOn, List.forall_mem_cons.mpr ⟨Tcd_X3_layOn, List.forall_mem_cons.mpr ⟨Tst_X1_partOf, List.forall_mem_cons.mpr ⟨Tcd_X1_partOf, List.forall_mem_cons.mpr ⟨Tim_X4_reaches, List.forall_mem_cons.mpr ⟨Tse_X4_X4_reaches, List.forall_mem_cons.mpr ⟨Tcd_X4_reaches, List.forall_mem_cons.mpr ⟨Tml_X3_107, List.forall_mem_cons.mpr ⟨Tim_X3_agrees, List.forall_mem_cons.mpr ⟨Tse_X3_X3_agrees, List.forall_mem_cons.mpr ⟨Tcd_X3_agrees, List.forall_mem_cons.mpr ⟨Tst_X1_courseAt, List.forall_mem_cons.mpr ⟨Tcd_X1_courseAt, List.forall_mem_cons.mpr ⟨Tml_X3_125, fun _ h => absurd h List.not_mem_nil⟩⟩⟩⟩⟩⟩⟩⟩⟩⟩⟩⟩⟩⟩⟩⟩⟩⟩⟩⟩⟩⟩⟩⟩⟩⟩⟩⟩⟩⟩
theorem st_X3_inOrder : Cond.static yX3_inOrder ∈ wsL_law := wi_14 (List.mem_of_getElem? (i := 0) rfl)
theorem Tst_X3_inOrder : Cond.static yX3_inOrder ∈ lw_tbl := tb_3 (List.mem_of_getElem? (i := 17) (by decide +kernel))
theorem cd_X3_inOrder : Cond.code yX3_inOrder cX3_inOrder 4 (some .boolean) ∈ wsL_law := wi_14 (List.mem_of_getElem? (i := 1) rfl)
theorem Tcd_X3_inOrder : Cond.code yX3_inOrder cX3_inOrder 4 (some .boolean) ∈ lw_tbl := tb_3 (List.mem_of_getElem? (i := 18) rfl)
theorem im_X2_isSpent : Cond.instanceMethod yX2_isSpent ∈ wsL_law := wi_14 (List.mem_of_getElem? (i := 2) rfl)
theorem Tim_X2_isSpent : Cond.instanceMethod yX2_isSpent ∈ lw_tbl := tb_3 (List.mem_of_getElem? (i := 21) (by decide +kernel))
theorem se_X2_X2_isSpent : Cond.selects RX2 yX2_isSpent yX2_isSpent ∈ wsL_law := wi_14 (List.mem_of_getElem? (i := 3) rfl)
theorem Tse_X2_X2_isSpent : Cond.selects RX2 yX2_isSpent yX2_isSpent ∈ lw_tbl := pv_2 (n := 4) (List.mem_of_getElem? (i := 11) rfl)
theorem cd_X2_isSpent : Cond.code yX2_isSpent cX2_isSpent 2 (some .boolean) ∈ wsL_law := wi_14 (List.mem_of_getElem? (i := 4) rfl)
theorem Tcd_X2_isSpent : Cond.code yX2_isSpent cX2_isSpent 2 (some .boolean) ∈ lw_tbl := tb_3 (List.mem_of_getElem? (i := 22) rfl)
theorem im_X2_size : Cond.instanceMethod yX2_size ∈ wsL_law := wi_14 (List.mem_of_getElem? (i := 5) rfl)
theorem Tim_X2_size : Cond.instanceMethod yX2_size ∈ lw_tbl := tb_3 (List.mem_of_getElem? (i := 25) (by decide +kernel))
theorem se_X2_X2_size : Cond.selects RX2 yX2_size yX2_size ∈ wsL_law := wi_14 (List.mem_of_getElem? (i := 6) rfl)
theorem Tse_X2_X2_size : Cond.selects RX2 yX2_size yX2_size ∈ lw_tbl := pv_2 (n := 4) (List.mem_of_getElem? (i := 12) rfl)
theorem cd_X2_size : Cond.code yX2_size cX2_size 2 (some .int) ∈ wsL_law := wi_14 (List.mem_of_getElem? (i := 7) rfl)
theorem Tcd_X2_size : Cond.code yX2_size cX2_size 2 (some .int) ∈ lw_tbl := tb_3 (List.mem_of_getElem? (i := 26) rfl)
theorem ml_X2_56 : Cond.methodLink RX2 56 Lib.Math.max.name ∈ wsL_law := wi_14 (List.mem_of_getElem? (i := 8) rfl)
theorem Tml_X2_56 : Cond.methodLink RX2 56 Lib.Math.max.name ∈ lw_tbl := tb_3 (List.mem_of_getElem? (i := 28) (by decide +kernel))
theorem ml_X2_52 : Cond.methodLink RX2 52 yX2_isSpent ∈ wsL_law := wi_14 (List.mem_of_getElem? (i := 9) rfl)
theorem Tml_X2_52 : Cond.methodLink RX2 52 yX2_isSpent ∈ lw_tbl := tb_3 (List.mem_of_getElem? (i := 27) (by decide +kernel))
theorem ml_L_60 : Cond.methodLink RL 60 yX11_grips ∈ wsL_law := wi_14 (List.mem_of_getElem? (i := 10) rfl)
theorem Tml_L_60 : Cond.methodLink RL 60 yX11_grips ∈ lw_tbl := tb_5 (List.mem_of_getElem? (i := 180) (by decide +kernel))
theorem im_X11_grips : Cond.instanceMethod yX11_grips ∈ wsL_law := wi_14 (List.mem_of_getElem? (i := 11) rfl)
theorem Tim_X11_grips : Cond.instanceMethod yX11_grips ∈ lw_tbl := tb_5 (List.mem_of_getElem? (i := 181) (by decide +kernel))
theorem se_X11_X11_grips : Cond.selects RX11 yX11_grips yX11_grips ∈ wsL_law := wi_14 (List.mem_of_getElem? (i := 12) rfl)
theorem Tse_X11_X11_grips : Cond.selects RX11 yX11_grips yX11_grips ∈ lw_tbl := tb_5 (List.mem_of_getElem? (i := 182) (by decide +kernel))
theorem cd_X11_grips : Cond.code yX11_grips cX11_grips 2 (some .int) ∈ wsL_law := wi_14 (List.mem_of_getElem? (i := 13) rfl)
theorem Tcd_X11_grips : Cond.code yX11_grips cX11_grips 2 (some .int) ∈ lw_tbl := tb_5 (List.mem_of_getElem? (i := 183) rfl)
theorem ml_X11_214 : Cond.methodLink RX11 214 yX11_findGrips ∈ wsL_law := wi_14 (List.mem_of_getElem? (i := 14) rfl)
theorem Tml_X11_214 : Cond.methodLink RX11 214 yX11_findGrips ∈ lw_tbl := tb_5 (List.mem_of_getElem? (i := 184) (by decide +kernel))
theorem im_X11_findGrips : Cond.instanceMethod yX11_findGrips ∈ wsL_law := wi_14 (List.mem_of_getElem? (i := 15) rfl)
theorem Tim_X11_findGrips : Cond.instanceMethod yX11_findGrips ∈ lw_tbl := tb_5 (List.mem_of_getElem? (i := 186) (by decide +kernel))
theorem se_X11_X11_findGrips : Cond.selects RX11 yX11_findGrips yX11_findGrips ∈ wsL_law := wi_14 (List.mem_of_getElem? (i := 16) rfl)
theorem Tse_X11_X11_findGrips : Cond.selects RX11 yX11_findGrips yX11_findGrips ∈ lw_tbl := pv_6 (n := 47) (List.mem_of_getElem? (i := 6) rfl)
theorem cd_X11_findGrips : Cond.code yX11_findGrips cX11_findGrips 4 none ∈ wsL_law := wi_14 (List.mem_of_getElem? (i := 17) rfl)
theorem Tcd_X11_findGrips : Cond.code yX11_findGrips cX11_findGrips 4 none ∈ lw_tbl := tb_5 (List.mem_of_getElem? (i := 187) rfl)
theorem ml_X11_195 : Cond.methodLink RX11 195 yX11_walk ∈ wsL_law := wi_14 (List.mem_of_getElem? (i := 18) rfl)
theorem Tml_X11_195 : Cond.methodLink RX11 195 yX11_walk ∈ lw_tbl := tb_5 (List.mem_of_getElem? (i := 188) (by decide +kernel))
theorem im_X11_walk : Cond.instanceMethod yX11_walk ∈ wsL_law := wi_14 (List.mem_of_getElem? (i := 19) rfl)
theorem Tim_X11_walk : Cond.instanceMethod yX11_walk ∈ lw_tbl := tb_5 (List.mem_of_getElem? (i := 190) (by decide +kernel))
theorem se_X11_X11_walk : Cond.selects RX11 yX11_walk yX11_walk ∈ wsL_law := wi_14 (List.mem_of_getElem? (i := 20) rfl)
theorem Tse_X11_X11_walk : Cond.selects RX11 yX11_walk yX11_walk ∈ lw_tbl := pv_6 (n := 47) (List.mem_of_getElem? (i := 7) rfl)
theorem cd_X11_walk : Cond.code yX11_walk cX11_walk 6 none ∈ wsL_law := wi_14 (List.mem_of_getElem? (i := 21) rfl)
theorem Tcd_X11_walk : Cond.code yX11_walk cX11_walk 6 none ∈ lw_tbl := tb_5 (List.mem_of_getElem? (i := 191) rfl)
theorem ml_X11_199 : Cond.methodLink RX11 199 yX11_step ∈ wsL_law := wi_14 (List.mem_of_getElem? (i := 22) rfl)
theorem Tml_X11_199 : Cond.methodLink RX11 199 yX11_step ∈ lw_tbl := tb_5 (List.mem_of_getElem? (i := 192) (by decide +kernel))
theorem im_X11_step : Cond.instanceMethod yX11_step ∈ wsL_law := wi_14 (List.mem_of_getElem? (i := 23) rfl)
theorem Tim_X11_step : Cond.instanceMethod yX11_step ∈ lw_tbl := tb_5 (List.mem_of_getElem? (i := 194) (by decide +kernel))
theorem se_X11_X11_step : Cond.selects RX11 yX11_step yX11_step ∈ wsL_law := wi_14 (List.mem_of_getElem? (i := 24) rfl)
theorem Tse_X11_X11_step : Cond.selects RX11 yX11_step yX11_step ∈ lw_tbl := pv_6 (n := 47) (List.mem_of_getElem? (i := 8) rfl)
theorem cd_X11_step : Cond.code yX11_step cX11_step 5 (some .int) ∈ wsL_law := wi_14 (List.mem_of_getElem? (i := 25) rfl)
theorem Tcd_X11_step : Cond.code yX11_step cX11_step 5 (some .int) ∈ lw_tbl := tb_5 (List.mem_of_getElem? (i := 195) rfl)
theorem ml_X11_202 : Cond.methodLink RX11 202 yX11_keep ∈ wsL_law := wi_14 (List.mem_of_getElem? (i := 26) rfl)
theorem Tml_X11_202 : Cond.methodLink RX11 202 yX11_keep ∈ lw_tbl := tb_5 (List.mem_of_getElem? (i := 196) (by decide +kernel))
theorem im_X11_keep : Cond.instanceMethod yX11_keep ∈ wsL_law := wi_14 (List.mem_of_getElem? (i := 27) rfl)
theorem Tim_X11_keep : Cond.instanceMethod yX11_keep ∈ lw_tbl := tb_5 (List.mem_of_getElem? (i := 198) (by decide +kernel))
theorem se_X11_X11_keep : Cond.selects RX11 yX11_keep yX11_keep ∈ wsL_law := wi_14 (List.mem_of_getElem? (i := 28) rfl)
theorem Tse_X11_X11_keep : Cond.selects RX11 yX11_keep yX11_keep ∈ lw_tbl := pv_6 (n := 47) (List.mem_of_getElem? (i := 9) rfl)
theorem cd_X11_keep : Cond.code yX11_keep cX11_keep 14 none ∈ wsL_law := wi_14 (List.mem_of_getElem? (i := 29) rfl)
theorem Tcd_X11_keep : Cond.code yX11_keep cX11_keep 14 none ∈ lw_tbl := tb_5 (List.mem_of_getElem? (i := 199) rfl)
theorem tA_14 : ∀ w ∈ wA_14, w ∈ lw_tbl := List.forall_mem_cons.mpr ⟨Tst_X3_inOrder, List.forall_mem_cons.mpr ⟨Tcd_X3_inOrder, List.forall_mem_cons.mpr ⟨Tim_X2_isSpent, List.forall_mem_cons.mpr ⟨Tse_X2_X2_isSpent, List.forall_mem_cons.mpr ⟨Tcd_X2_isSpent, List.forall_mem_cons.mpr ⟨Tim_X2_size, List.forall_mem_cons.mpr ⟨Tse_X2_X2_size, List.forall_mem_cons.mpr ⟨Tcd_X2_size, List.forall_mem_cons.mpr ⟨Tml_X2_56, List.forall_mem_cons.mpr ⟨Tml_X2_52, List.forall_mem_cons.mpr ⟨Tml_L_60, List.forall_mem_cons.mpr ⟨Tim_X11_grips, List.forall_mem_cons.mpr ⟨Tse_X11_X11_grips, List.forall_mem_cons.mpr ⟨Tcd_X11_grips, List.forall_mem_cons.mpr ⟨Tml_X11_214, List.forall_mem_cons.mpr ⟨Tim_X11_findGrips, List.forall_mem_cons.mpr ⟨Tse_X11_X11_findGrips, List.forall_mem_cons.mpr ⟨Tcd_X11_findGrips, List.forall_mem_cons.mpr ⟨Tml_X11_195, List.forall_mem_cons.mpr ⟨Tim_X11_walk, List.forall_mem_cons.mpr ⟨Tse_X11_X11_walk, List.forall_mem_cons.mpr ⟨Tcd_X11_walk, List.forall_mem_cons.mpr ⟨Tml_X11_199, List.forall_mem_cons.mpr ⟨Tim_X11_step, List.forall_mem_cons.mpr ⟨Tse_X11_X11_step, List.forall_mem_cons.mpr ⟨Tcd_X11_step, List.forall_mem_cons.mpr ⟨Tml_X11_202, List.forall_mem_cons.mpr ⟨Tim_X11_keep, List.forall_mem_cons.mpr ⟨Tse_X11_X11_keep, List.forall_mem_cons.mpr ⟨Tcd_X11_keep, fun _ h => absurd h List.not_mem_nil⟩⟩⟩⟩⟩⟩⟩⟩⟩⟩⟩⟩⟩⟩⟩⟩⟩⟩⟩⟩⟩⟩⟩⟩⟩⟩⟩⟩⟩⟩
theorem ml_X11_192 : Cond.methodLink RX11 192 yX11_gripAt ∈ wsL_law := wi_15 (List.mem_of_getElem? (i := 0) rfl)
theorem Tml_X11_192 : Cond.methodLink RX11 192 yX11_gripAt ∈ lw_tbl := tb_5 (List.mem_of_getElem? (i := 200) (by decide +kernel))
theorem im_X11_gripAt : Cond.instanceMethod yX11_gripAt ∈ wsL_law := wi_15 (List.mem_of_getElem? (i := 1) rfl)
theorem Tim_X11_gripAt : Cond.instanceMethod yX11_gripAt ∈ lw_tbl := tb_5 (List.mem_of_getElem? (i := 202) (by decide +kernel))
theorem se_X11_X11_gripAt : Cond.selects RX11 yX11_gripAt yX11_gripAt ∈ wsL_law := wi_15 (List.mem_of_getElem? (i := 2) rfl)
theorem Tse_X11_X11_gripAt : Cond.selects RX11 yX11_gripAt yX11_gripAt ∈ lw_tbl := pv_6 (n := 47) (List.mem_of_getElem? (i := 10) rfl)
theorem cd_X11_gripAt : Cond.code yX11_gripAt cX11_gripAt 4 (some .int) ∈ wsL_law := wi_15 (List.mem_of_getElem? (i := 3) rfl)
theorem Tcd_X11_gripAt : Cond.code yX11_gripAt cX11_gripAt 4 (some .int) ∈ lw_tbl := tb_5 (List.mem_of_getElem? (i := 203) rfl)
theorem ml_X11_184 : Cond.methodLink RX11 184 yX11_fret ∈ wsL_law := wi_15 (List.mem_of_getElem? (i := 4) rfl)
theorem Tml_X11_184 : Cond.methodLink RX11 184 yX11_fret ∈ lw_tbl := tb_5 (List.mem_of_getElem? (i := 204) (by decide +kernel))
theorem im_X11_fret : Cond.instanceMethod yX11_fret ∈ wsL_law := wi_15 (List.mem_of_getElem? (i := 5) rfl)
theorem Tim_X11_fret : Cond.instanceMethod yX11_fret ∈ lw_tbl := tb_5 (List.mem_of_getElem? (i := 206) (by decide +kernel))
theorem se_X11_X11_fret : Cond.selects RX11 yX11_fret yX11_fret ∈ wsL_law := wi_15 (List.mem_of_getElem? (i := 6) rfl)
theorem Tse_X11_X11_fret : Cond.selects RX11 yX11_fret yX11_fret ∈ lw_tbl := pv_6 (n := 47) (List.mem_of_getElem? (i := 11) rfl)
theorem cd_X11_fret : Cond.code yX11_fret cX11_fret 4 (some .int) ∈ wsL_law := wi_15 (List.mem_of_getElem? (i := 7) rfl)
theorem Tcd_X11_fret : Cond.code yX11_fret cX11_fret 4 (some .int) ∈ lw_tbl := tb_5 (List.mem_of_getElem? (i := 207) rfl)
theorem ml_X11_205 : Cond.methodLink RX11 205 yX11_mayBe ∈ wsL_law := wi_15 (List.mem_of_getElem? (i := 8) rfl)
theorem Tml_X11_205 : Cond.methodLink RX11 205 yX11_mayBe ∈ lw_tbl := tb_5 (List.mem_of_getElem? (i := 208) (by decide +kernel))
theorem im_X11_mayBe : Cond.instanceMethod yX11_mayBe ∈ wsL_law := wi_15 (List.mem_of_getElem? (i := 9) rfl)
theorem Tim_X11_mayBe : Cond.instanceMethod yX11_mayBe ∈ lw_tbl := tb_5 (List.mem_of_getElem? (i := 210) (by decide +kernel))
theorem se_X11_X11_mayBe : Cond.selects RX11 yX11_mayBe yX11_mayBe ∈ wsL_law := wi_15 (List.mem_of_getElem? (i := 10) rfl)
theorem Tse_X11_X11_mayBe : Cond.selects RX11 yX11_mayBe yX11_mayBe ∈ lw_tbl := pv_6 (n := 47) (List.mem_of_getElem? (i := 12) rfl)
theorem cd_X11_mayBe : Cond.code yX11_mayBe cX11_mayBe 9 (some .boolean) ∈ wsL_law := wi_15 (List.mem_of_getElem? (i := 11) rfl)
theorem Tcd_X11_mayBe : Cond.code yX11_mayBe cX11_mayBe 9 (some .boolean) ∈ lw_tbl := tb_5 (List.mem_of_getElem? (i := 211) rfl)
theorem ml_X11_188 : Cond.methodLink RX11 188 yX11_goWith ∈ wsL_law := wi_15 (List.mem_of_getElem? (i := 12) rfl)
theorem Tml_X11_188 : Cond.methodLink RX11 188 yX11_goWith ∈ lw_tbl := tb_5 (List.mem_of_getElem? (i := 212) (by decide +kernel))
theorem im_X11_goWith : Cond.instanceMethod yX11_goWith ∈ wsL_law := wi_15 (List.mem_of_getElem? (i := 13) rfl)
theorem Tim_X11_goWith : Cond.instanceMethod yX11_goWith ∈ lw_tbl := tb_5 (List.mem_of_getElem? (i := 214) (by decide +kernel))
theorem se_X11_X11_goWith : Cond.selects RX11 yX11_goWith yX11_goWith ∈ wsL_law := wi_15 (List.mem_of_getElem? (i := 14) rfl)
theorem Tse_X11_X11_goWith : Cond.selects RX11 yX11_goWith yX11_goWith ∈ lw_tbl := pv_6 (n := 47) (List.mem_of_getElem? (i := 13) rfl)
theorem cd_X11_goWith : Cond.code yX11_goWith cX11_goWith 11 (some .boolean) ∈ wsL_law := wi_15 (List.mem_of_getElem? (i := 15) rfl)
theorem Tcd_X11_goWith : Cond.code yX11_goWith cX11_goWith 11 (some .boolean) ∈ lw_tbl := tb_5 (List.mem_of_getElem? (i := 215) rfl)
theorem ml_X11_208 : Cond.methodLink RX11 208 yX11_usesFinger ∈ wsL_law := wi_15 (List.mem_of_getElem? (i := 16) rfl)
theorem Tml_X11_208 : Cond.methodLink RX11 208 yX11_usesFinger ∈ lw_tbl := tb_5 (List.mem_of_getElem? (i := 216) (by decide +kernel))
theorem im_X11_usesFinger : Cond.instanceMethod yX11_usesFinger ∈ wsL_law := wi_15 (List.mem_of_getElem? (i := 17) rfl)
theorem Tim_X11_usesFinger : Cond.instanceMethod yX11_usesFinger ∈ lw_tbl := tb_5 (List.mem_of_getElem? (i := 218) (by decide +kernel))
theorem se_X11_X11_usesFinger : Cond.selects RX11 yX11_usesFinger yX11_usesFinger ∈ wsL_law := wi_15 (List.mem_of_getElem? (i := 18) rfl)
theorem Tse_X11_X11_usesFinger : Cond.selects RX11 yX11_usesFinger yX11_usesFinger ∈ lw_tbl := pv_6 (n := 47) (List.mem_of_getElem? (i := 14) rfl)
theorem cd_X11_usesFinger : Cond.code yX11_usesFinger cX11_usesFinger 5 (some .boolean) ∈ wsL_law := wi_15 (List.mem_of_getElem? (i := 19) rfl)
theorem Tcd_X11_usesFinger : Cond.code yX11_usesFinger cX11_usesFinger 5 (some .boolean) ∈ lw_tbl := tb_5 (List.mem_of_getElem? (i := 219) rfl)
theorem ml_X11_211 : Cond.methodLink RX11 211 yX11_isSpent ∈ wsL_law := wi_15 (List.mem_of_getElem? (i := 20) rfl)
theorem Tml_X11_211 : Cond.methodLink RX11 211 yX11_isSpent ∈ lw_tbl := tb_5 (List.mem_of_getElem? (i := 220) (by decide +kernel))
theorem im_X11_isSpent : Cond.instanceMethod yX11_isSpent ∈ wsL_law := wi_15 (List.mem_of_getElem? (i := 21) rfl)
theorem Tim_X11_isSpent : Cond.instanceMethod yX11_isSpent ∈ lw_tbl := tb_5 (List.mem_of_getElem? (i := 222) (by decide +kernel))
theorem se_X11_X11_isSpent : Cond.selects RX11 yX11_isSpent yX11_isSpent ∈ wsL_law := wi_15 (List.mem_of_getElem? (i := 22) rfl)
theorem Tse_X11_X11_isSpent : Cond.selects RX11 yX11_isSpent yX11_isSpent ∈ lw_tbl := pv_6 (n := 47) (List.mem_of_getElem? (i := 15) rfl)
theorem cd_X11_isSpent : Cond.code yX11_isSpent cX11_isSpent 3 (some .boolean) ∈ wsL_law := wi_15 (List.mem_of_getElem? (i := 23) rfl)
theorem Tcd_X11_isSpent : Cond.code yX11_isSpent cX11_isSpent 3 (some .boolean) ∈ lw_tbl := tb_5 (List.mem_of_getElem? (i := 223) rfl)
theorem ml_L_61 : Cond.methodLink RL 61 yX10_grip ∈ wsL_law := wi_15 (List.mem_of_getElem? (i := 24) rfl)
theorem Tml_L_61 : Cond.methodLink RL 61 yX10_grip ∈ lw_tbl := tb_3 (List.mem_of_getElem? (i := 29) (by decide +kernel))
theorem im_X10_grip : Cond.instanceMethod yX10_grip ∈ wsL_law := wi_15 (List.mem_of_getElem? (i := 25) rfl)
theorem Tim_X10_grip : Cond.instanceMethod yX10_grip ∈ lw_tbl := tb_3 (List.mem_of_getElem? (i := 30) (by decide +kernel))
theorem se_X10_X10_grip : Cond.selects RX10 yX10_grip yX10_grip ∈ wsL_law := wi_15 (List.mem_of_getElem? (i := 26) rfl)
theorem Tse_X10_X10_grip : Cond.selects RX10 yX10_grip yX10_grip ∈ lw_tbl := tb_3 (List.mem_of_getElem? (i := 31) (by decide +kernel))
theorem cd_X10_grip : Cond.code yX10_grip cX10_grip 7 (some .int) ∈ wsL_law := wi_15 (List.mem_of_getElem? (i := 27) rfl)
theorem Tcd_X10_grip : Cond.code yX10_grip cX10_grip 7 (some .int) ∈ lw_tbl := tb_3 (List.mem_of_getElem? (i := 32) rfl)
theorem im_X2_get : Cond.instanceMethod yX2_get ∈ wsL_law := wi_15 (List.mem_of_getElem? (i := 28) rfl)
theorem Tim_X2_get : Cond.instanceMethod yX2_get ∈ lw_tbl := tb_3 (List.mem_of_getElem? (i := 35) (by decide +kernel))
theorem se_X2_X2_get : Cond.selects RX2 yX2_get yX2_get ∈ wsL_law := wi_15 (List.mem_of_getElem? (i := 29) rfl)
theorem Tse_X2_X2_get : Cond.selects RX2 yX2_get yX2_get ∈ lw_tbl := pv_2 (n := 4) (List.mem_of_getElem? (i := 13) rfl)
theorem tA_15 : ∀ w ∈ wA_15, w ∈ lw_tbl := List.forall_mem_cons.mpr ⟨Tml_X11_192, List.forall_mem_cons.mpr ⟨Tim_X11_gripAt, List.forall_mem_cons.mpr ⟨Tse_X11_X11_gripAt, List.forall_mem_cons.mpr ⟨Tcd_X11_gripAt, List.forall_mem_cons.mpr ⟨Tml_X11_184, List.forall_mem_cons.mpr ⟨Tim_X11_fret, List.forall_mem_cons.mpr ⟨Tse_X11_X11_fret, List.forall_mem_cons.mpr ⟨Tcd_X11_fret, List.forall_mem_cons.mpr ⟨Tml_X11_205, List.forall_mem_cons.mpr ⟨Tim_X11_mayBe, List.forall_mem_cons.mpr ⟨Tse_X11_X11_mayBe, List.forall_mem_cons.mpr ⟨Tcd_X11_mayBe, List.forall_mem_cons.mpr ⟨Tml_X11_188, List.forall_mem_cons.mpr ⟨Tim_X11_goWith, List.forall_mem_cons.mpr ⟨Tse_X11_X11_goWith, List.forall_mem_cons.mpr ⟨Tcd_X11_goWith, List.forall_mem_cons.mpr ⟨Tml_X11_208, List.forall_mem_cons.mpr ⟨Tim_X11_usesFinger, List.forall_mem_cons.mpr ⟨Tse_X11_X11_usesFinger, List.forall_mem_cons.mpr ⟨Tcd_X11_usesFinger, List.forall_mem_cons.mpr ⟨Tml_X11_211, List.forall_mem_cons.mpr ⟨Tim_X11_isSpent, List.forall_mem_cons.mpr ⟨Tse_X11_X11_isSpent, List.forall_mem_cons.mpr ⟨Tcd_X11_isSpent, List.forall_mem_cons.mpr ⟨Tml_L_61, List.forall_mem_cons.mpr ⟨Tim_X10_grip, List.forall_mem_cons.mpr ⟨Tse_X10_X10_grip, List.forall_mem_cons.mpr ⟨Tcd_X10_grip, List.forall_mem_cons.mpr ⟨Tim_X2_get, List.forall_mem_cons.mpr ⟨Tse_X2_X2_get, fun _ h => absurd h List.not_mem_nil⟩⟩⟩⟩⟩⟩⟩⟩⟩⟩⟩⟩⟩⟩⟩⟩⟩⟩⟩⟩⟩⟩⟩⟩⟩⟩⟩⟩⟩⟩
theorem cd_X2_get : Cond.code yX2_get cX2_get 3 (some .long) ∈ wsL_law := wi_16 (List.mem_of_getElem? (i := 0) rfl)
theorem Tcd_X2_get : Cond.code yX2_get cX2_get 3 (some .long) ∈ lw_tbl := tb_3 (List.mem_of_getElem? (i := 36) rfl)
theorem st_X1_ofAll : Cond.static yX1_ofAll ∈ wsL_law := wi_16 (List.mem_of_getElem? (i := 1) rfl)
theorem Tst_X1_ofAll : Cond.static yX1_ofAll ∈ lw_tbl := tb_3 (List.mem_of_getElem? (i := 38) (by decide +kernel))
theorem cd_X1_ofAll : Cond.code yX1_ofAll cX1_ofAll 3 (some .int) ∈ wsL_law := wi_16 (List.mem_of_getElem? (i := 2) rfl)
theorem Tcd_X1_ofAll : Cond.code yX1_ofAll cX1_ofAll 3 (some .int) ∈ lw_tbl := tb_3 (List.mem_of_getElem? (i := 39) rfl)
theorem ml_X1_25 : Cond.methodLink RX1 25 yX1_place ∈ wsL_law := wi_16 (List.mem_of_getElem? (i := 3) rfl)
theorem Tml_X1_25 : Cond.methodLink RX1 25 yX1_place ∈ lw_tbl := tb_3 (List.mem_of_getElem? (i := 40) (by decide +kernel))
theorem st_X1_place : Cond.static yX1_place ∈ wsL_law := wi_16 (List.mem_of_getElem? (i := 4) rfl)
theorem Tst_X1_place : Cond.static yX1_place ∈ lw_tbl := tb_3 (List.mem_of_getElem? (i := 41) (by decide +kernel))
theorem cd_X1_place : Cond.code yX1_place cX1_place 2 (some .int) ∈ wsL_law := wi_16 (List.mem_of_getElem? (i := 5) rfl)
theorem Tcd_X1_place : Cond.code yX1_place cX1_place 2 (some .int) ∈ lw_tbl := tb_3 (List.mem_of_getElem? (i := 42) rfl)
theorem ml_X1_29 : Cond.methodLink RX1 29 yX1_cost ∈ wsL_law := wi_16 (List.mem_of_getElem? (i := 6) rfl)
theorem Tml_X1_29 : Cond.methodLink RX1 29 yX1_cost ∈ lw_tbl := tb_3 (List.mem_of_getElem? (i := 43) (by decide +kernel))
theorem st_X1_cost : Cond.static yX1_cost ∈ wsL_law := wi_16 (List.mem_of_getElem? (i := 7) rfl)
theorem Tst_X1_cost : Cond.static yX1_cost ∈ lw_tbl := tb_3 (List.mem_of_getElem? (i := 44) (by decide +kernel))
theorem cd_X1_cost : Cond.code yX1_cost cX1_cost 2 (some .int) ∈ wsL_law := wi_16 (List.mem_of_getElem? (i := 8) rfl)
theorem Tcd_X1_cost : Cond.code yX1_cost cX1_cost 2 (some .int) ∈ lw_tbl := tb_3 (List.mem_of_getElem? (i := 45) rfl)
theorem ml_X1_32 : Cond.methodLink RX1 32 yX1_bar ∈ wsL_law := wi_16 (List.mem_of_getElem? (i := 9) rfl)
theorem Tml_X1_32 : Cond.methodLink RX1 32 yX1_bar ∈ lw_tbl := tb_3 (List.mem_of_getElem? (i := 46) (by decide +kernel))
theorem st_X1_bar : Cond.static yX1_bar ∈ wsL_law := wi_16 (List.mem_of_getElem? (i := 10) rfl)
theorem Tst_X1_bar : Cond.static yX1_bar ∈ lw_tbl := tb_3 (List.mem_of_getElem? (i := 47) (by decide +kernel))
theorem cd_X1_bar : Cond.code yX1_bar cX1_bar 2 (some .int) ∈ wsL_law := wi_16 (List.mem_of_getElem? (i := 11) rfl)
theorem Tcd_X1_bar : Cond.code yX1_bar cX1_bar 2 (some .int) ∈ lw_tbl := tb_3 (List.mem_of_getElem? (i := 48) rfl)
theorem st_X1_ofNote : Cond.static yX1_ofNote ∈ wsL_law := wi_16 (List.mem_of_getElem? (i := 12) rfl)
theorem Tst_X1_ofNote : Cond.static yX1_ofNote ∈ lw_tbl := tb_3 (List.mem_of_getElem? (i := 50) (by decide +kernel))
theorem cd_X1_ofNote : Cond.code yX1_ofNote cX1_ofNote 4 (some .int) ∈ wsL_law := wi_16 (List.mem_of_getElem? (i := 13) rfl)
theorem Tcd_X1_ofNote : Cond.code yX1_ofNote cX1_ofNote 4 (some .int) ∈ lw_tbl := tb_3 (List.mem_of_getElem? (i := 51) rfl)
theorem ml_X1_15 : Cond.methodLink RX1 15 yX1_courseAt ∈ wsL_law := wi_16 (List.mem_of_getElem? (i := 14) rfl)
theorem Tml_X1_15 : Cond.methodLink RX1 15 yX1_courseAt ∈ lw_tbl := tb_3 (List.mem_of_getElem? (i := 52) (by decide +kernel))
theorem ml_X1_19 : Cond.methodLink RX1 19 yX1_fret ∈ wsL_law := wi_16 (List.mem_of_getElem? (i := 15) rfl)
theorem Tml_X1_19 : Cond.methodLink RX1 19 yX1_fret ∈ lw_tbl := tb_3 (List.mem_of_getElem? (i := 53) (by decide +kernel))
theorem ml_X1_22 : Cond.methodLink RX1 22 yX1_finger ∈ wsL_law := wi_16 (List.mem_of_getElem? (i := 16) rfl)
theorem Tml_X1_22 : Cond.methodLink RX1 22 yX1_finger ∈ lw_tbl := tb_3 (List.mem_of_getElem? (i := 54) (by decide +kernel))
theorem ml_L_65 : Cond.methodLink RL 65 yX11_grip ∈ wsL_law := wi_16 (List.mem_of_getElem? (i := 17) rfl)
theorem Tml_L_65 : Cond.methodLink RL 65 yX11_grip ∈ lw_tbl := tb_5 (List.mem_of_getElem? (i := 224) (by decide +kernel))
theorem im_X11_grip : Cond.instanceMethod yX11_grip ∈ wsL_law := wi_16 (List.mem_of_getElem? (i := 18) rfl)
theorem Tim_X11_grip : Cond.instanceMethod yX11_grip ∈ lw_tbl := tb_5 (List.mem_of_getElem? (i := 225) (by decide +kernel))
theorem se_X11_X11_grip : Cond.selects RX11 yX11_grip yX11_grip ∈ wsL_law := wi_16 (List.mem_of_getElem? (i := 19) rfl)
theorem Tse_X11_X11_grip : Cond.selects RX11 yX11_grip yX11_grip ∈ lw_tbl := tb_5 (List.mem_of_getElem? (i := 226) (by decide +kernel))
theorem cd_X11_grip : Cond.code yX11_grip cX11_grip 7 (some .int) ∈ wsL_law := wi_16 (List.mem_of_getElem? (i := 20) rfl)
theorem Tcd_X11_grip : Cond.code yX11_grip cX11_grip 7 (some .int) ∈ lw_tbl := tb_5 (List.mem_of_getElem? (i := 227) rfl)
theorem ml_X11_218 : Cond.methodLink RX11 218 yX11_count ∈ wsL_law := wi_16 (List.mem_of_getElem? (i := 21) rfl)
theorem Tml_X11_218 : Cond.methodLink RX11 218 yX11_count ∈ lw_tbl := tb_5 (List.mem_of_getElem? (i := 228) (by decide +kernel))
theorem im_X11_count : Cond.instanceMethod yX11_count ∈ wsL_law := wi_16 (List.mem_of_getElem? (i := 22) rfl)
theorem Tim_X11_count : Cond.instanceMethod yX11_count ∈ lw_tbl := tb_5 (List.mem_of_getElem? (i := 230) (by decide +kernel))
theorem se_X11_X11_count : Cond.selects RX11 yX11_count yX11_count ∈ wsL_law := wi_16 (List.mem_of_getElem? (i := 23) rfl)
theorem Tse_X11_X11_count : Cond.selects RX11 yX11_count yX11_count ∈ lw_tbl := pv_7 (n := 47) (List.mem_of_getElem? (i := 0) rfl)
theorem cd_X11_count : Cond.code yX11_count cX11_count 3 (some .int) ∈ wsL_law := wi_16 (List.mem_of_getElem? (i := 24) rfl)
theorem Tcd_X11_count : Cond.code yX11_count cX11_count 3 (some .int) ∈ lw_tbl := tb_5 (List.mem_of_getElem? (i := 231) rfl)
theorem ml_L_66 : Cond.methodLink RL 66 yX10_why ∈ wsL_law := wi_16 (List.mem_of_getElem? (i := 25) rfl)
theorem Tml_L_66 : Cond.methodLink RL 66 yX10_why ∈ lw_tbl := tb_3 (List.mem_of_getElem? (i := 55) (by decide +kernel))
theorem im_X10_why : Cond.instanceMethod yX10_why ∈ wsL_law := wi_16 (List.mem_of_getElem? (i := 26) rfl)
theorem Tim_X10_why : Cond.instanceMethod yX10_why ∈ lw_tbl := tb_3 (List.mem_of_getElem? (i := 56) (by decide +kernel))
theorem se_X10_X10_why : Cond.selects RX10 yX10_why yX10_why ∈ wsL_law := wi_16 (List.mem_of_getElem? (i := 27) rfl)
theorem Tse_X10_X10_why : Cond.selects RX10 yX10_why yX10_why ∈ lw_tbl := tb_3 (List.mem_of_getElem? (i := 57) (by decide +kernel))
theorem cd_X10_why : Cond.code yX10_why cX10_why 7 (some .int) ∈ wsL_law := wi_16 (List.mem_of_getElem? (i := 28) rfl)
theorem Tcd_X10_why : Cond.code yX10_why cX10_why 7 (some .int) ∈ lw_tbl := tb_3 (List.mem_of_getElem? (i := 58) rfl)
theorem fl_X10_211 : Cond.fieldLink RX10 211 "LuteFingers" "SETS" "[I" ∈ wsL_law := wi_16 (List.mem_of_getElem? (i := 29) rfl)
theorem Tfl_X10_211 : Cond.fieldLink RX10 211 "LuteFingers" "SETS" "[I" ∈ lw_tbl := tb_3 (List.mem_of_getElem? (i := 65) (by decide +kernel))
theorem tA_16 : ∀ w ∈ wA_16, w ∈ lw_tbl := List.forall_mem_cons.mpr ⟨Tcd_X2_get, List.forall_mem_cons.mpr ⟨Tst_X1_ofAll, List.forall_mem_cons.mpr ⟨Tcd_X1_ofAll, List.forall_mem_cons.mpr ⟨Tml_X1_25, List.forall_mem_cons.mpr ⟨Tst_X1_place, List.forall_mem_cons.mpr ⟨Tcd_X1_place, List.forall_mem_cons.mpr ⟨Tml_X1_29, List.forall_mem_cons.mpr ⟨Tst_X1_cost, List.forall_mem_cons.mpr ⟨Tcd_X1_cost, List.forall_mem_cons.mpr ⟨Tml_X1_32, List.forall_mem_cons.mpr ⟨Tst_X1_bar, List.forall_mem_cons.mpr ⟨Tcd_X1_bar, List.forall_mem_cons.mpr ⟨Tst_X1_ofNote, List.forall_mem_cons.mpr ⟨Tcd_X1_ofNote, List.forall_mem_cons.mpr ⟨Tml_X1_15, List.forall_mem_cons.mpr ⟨Tml_X1_19, List.forall_mem_cons.mpr ⟨Tml_X1_22, List.forall_mem_cons.mpr ⟨Tml_L_65, List.forall_mem_cons.mpr ⟨Tim_X11_grip, List.forall_mem_cons.mpr ⟨Tse_X11_X11_grip, List.forall_mem_cons.mpr ⟨Tcd_X11_grip, List.forall_mem_cons.mpr ⟨Tml_X11_218, List.forall_mem_cons.mpr ⟨Tim_X11_count, List.forall_mem_cons.mpr ⟨Tse_X11_X11_count, List.forall_mem_cons.mpr ⟨Tcd_X11_count, List.forall_mem_cons.mpr ⟨Tml_L_66, List.forall_mem_cons.mpr ⟨Tim_X10_why, List.forall_mem_cons.mpr ⟨Tse_X10_X10_why, List.forall_mem_cons.mpr ⟨Tcd_X10_why, List.forall_mem_cons.mpr ⟨Tfl_X10_211, fun _ h => absurd h List.not_mem_nil⟩⟩⟩⟩⟩⟩⟩⟩⟩⟩⟩⟩⟩⟩⟩⟩⟩⟩⟩⟩⟩⟩⟩⟩⟩⟩⟩⟩⟩⟩
theorem ml_X10_208 : Cond.methodLink RX10 208 yX10_hasGrip ∈ wsL_law := wi_17 (List.mem_of_getElem? (i := 0) rfl)
theorem Tml_X10_208 : Cond.methodLink RX10 208 yX10_hasGrip ∈ lw_tbl := tb_3 (List.mem_of_getElem? (i := 60) (by decide +kernel))
theorem im_X10_hasGrip : Cond.instanceMethod yX10_hasGrip ∈ wsL_law := wi_17 (List.mem_of_getElem? (i := 1) rfl)
theorem Tim_X10_hasGrip : Cond.instanceMethod yX10_hasGrip ∈ lw_tbl := tb_3 (List.mem_of_getElem? (i := 62) (by decide +kernel))
theorem se_X10_X10_hasGrip : Cond.selects RX10 yX10_hasGrip yX10_hasGrip ∈ wsL_law := wi_17 (List.mem_of_getElem? (i := 2) rfl)
theorem Tse_X10_X10_hasGrip : Cond.selects RX10 yX10_hasGrip yX10_hasGrip ∈ lw_tbl := pv_2 (n := 15) (List.mem_of_getElem? (i := 14) rfl)
theorem cd_X10_hasGrip : Cond.code yX10_hasGrip cX10_hasGrip 3 (some .boolean) ∈ wsL_law := wi_17 (List.mem_of_getElem? (i := 3) rfl)
theorem Tcd_X10_hasGrip : Cond.code yX10_hasGrip cX10_hasGrip 3 (some .boolean) ∈ lw_tbl := tb_3 (List.mem_of_getElem? (i := 63) rfl)
theorem ml_L_69 : Cond.methodLink RL 69 yX11_why ∈ wsL_law := wi_17 (List.mem_of_getElem? (i := 4) rfl)
theorem Tml_L_69 : Cond.methodLink RL 69 yX11_why ∈ lw_tbl := tb_5 (List.mem_of_getElem? (i := 232) (by decide +kernel))
theorem im_X11_why : Cond.instanceMethod yX11_why ∈ wsL_law := wi_17 (List.mem_of_getElem? (i := 5) rfl)
theorem Tim_X11_why : Cond.instanceMethod yX11_why ∈ lw_tbl := tb_5 (List.mem_of_getElem? (i := 233) (by decide +kernel))
theorem se_X11_X11_why : Cond.selects RX11 yX11_why yX11_why ∈ wsL_law := wi_17 (List.mem_of_getElem? (i := 6) rfl)
theorem Tse_X11_X11_why : Cond.selects RX11 yX11_why yX11_why ∈ lw_tbl := tb_5 (List.mem_of_getElem? (i := 234) (by decide +kernel))
theorem cd_X11_why : Cond.code yX11_why cX11_why 5 (some .int) ∈ wsL_law := wi_17 (List.mem_of_getElem? (i := 7) rfl)
theorem Tcd_X11_why : Cond.code yX11_why cX11_why 5 (some .int) ∈ lw_tbl := tb_5 (List.mem_of_getElem? (i := 235) rfl)
theorem ml_X11_221 : Cond.methodLink RX11 221 yX11_bits ∈ wsL_law := wi_17 (List.mem_of_getElem? (i := 8) rfl)
theorem Tml_X11_221 : Cond.methodLink RX11 221 yX11_bits ∈ lw_tbl := tb_5 (List.mem_of_getElem? (i := 236) (by decide +kernel))
theorem im_X11_bits : Cond.instanceMethod yX11_bits ∈ wsL_law := wi_17 (List.mem_of_getElem? (i := 9) rfl)
theorem Tim_X11_bits : Cond.instanceMethod yX11_bits ∈ lw_tbl := tb_5 (List.mem_of_getElem? (i := 238) (by decide +kernel))
theorem se_X11_X11_bits : Cond.selects RX11 yX11_bits yX11_bits ∈ wsL_law := wi_17 (List.mem_of_getElem? (i := 10) rfl)
theorem Tse_X11_X11_bits : Cond.selects RX11 yX11_bits yX11_bits ∈ lw_tbl := pv_7 (n := 47) (List.mem_of_getElem? (i := 1) rfl)
theorem cd_X11_bits : Cond.code yX11_bits cX11_bits 2 (some .int) ∈ wsL_law := wi_17 (List.mem_of_getElem? (i := 11) rfl)
theorem Tcd_X11_bits : Cond.code yX11_bits cX11_bits 2 (some .int) ∈ lw_tbl := tb_5 (List.mem_of_getElem? (i := 239) rfl)
theorem ml_L_70 : Cond.methodLink RL 70 yX10_way ∈ wsL_law := wi_17 (List.mem_of_getElem? (i := 12) rfl)
theorem Tml_L_70 : Cond.methodLink RL 70 yX10_way ∈ lw_tbl := tb_3 (List.mem_of_getElem? (i := 67) (by decide +kernel))
theorem im_X10_way : Cond.instanceMethod yX10_way ∈ wsL_law := wi_17 (List.mem_of_getElem? (i := 13) rfl)
theorem Tim_X10_way : Cond.instanceMethod yX10_way ∈ lw_tbl := tb_3 (List.mem_of_getElem? (i := 68) (by decide +kernel))
theorem se_X10_X10_way : Cond.selects RX10 yX10_way yX10_way ∈ wsL_law := wi_17 (List.mem_of_getElem? (i := 14) rfl)
theorem Tse_X10_X10_way : Cond.selects RX10 yX10_way yX10_way ∈ lw_tbl := tb_3 (List.mem_of_getElem? (i := 69) (by decide +kernel))
theorem cd_X10_way : Cond.code yX10_way cX10_way 2 (some .int) ∈ wsL_law := wi_17 (List.mem_of_getElem? (i := 15) rfl)
theorem Tcd_X10_way : Cond.code yX10_way cX10_way 2 (some .int) ∈ lw_tbl := tb_3 (List.mem_of_getElem? (i := 70) rfl)
theorem im_X8_atHand : Cond.instanceMethod yX8_atHand ∈ wsL_law := wi_17 (List.mem_of_getElem? (i := 16) rfl)
theorem Tim_X8_atHand : Cond.instanceMethod yX8_atHand ∈ lw_tbl := tb_3 (List.mem_of_getElem? (i := 73) (by decide +kernel))
theorem se_X8_X8_atHand : Cond.selects RX8 yX8_atHand yX8_atHand ∈ wsL_law := wi_17 (List.mem_of_getElem? (i := 17) rfl)
theorem Tse_X8_X8_atHand : Cond.selects RX8 yX8_atHand yX8_atHand ∈ lw_tbl := pv_2 (n := 5) (List.mem_of_getElem? (i := 15) rfl)
theorem cd_X8_atHand : Cond.code yX8_atHand cX8_atHand 1 (some .boolean) ∈ wsL_law := wi_17 (List.mem_of_getElem? (i := 18) rfl)
theorem Tcd_X8_atHand : Cond.code yX8_atHand cX8_atHand 1 (some .boolean) ∈ lw_tbl := tb_3 (List.mem_of_getElem? (i := 74) rfl)
theorem im_X2_keepAll : Cond.instanceMethod yX2_keepAll ∈ wsL_law := wi_17 (List.mem_of_getElem? (i := 19) rfl)
theorem Tim_X2_keepAll : Cond.instanceMethod yX2_keepAll ∈ lw_tbl := tb_3 (List.mem_of_getElem? (i := 77) (by decide +kernel))
theorem se_X2_X2_keepAll : Cond.selects RX2 yX2_keepAll yX2_keepAll ∈ wsL_law := wi_17 (List.mem_of_getElem? (i := 20) rfl)
theorem Tse_X2_X2_keepAll : Cond.selects RX2 yX2_keepAll yX2_keepAll ∈ lw_tbl := pv_3 (n := 4) (List.mem_of_getElem? (i := 0) rfl)
theorem cd_X2_keepAll : Cond.code yX2_keepAll cX2_keepAll 2 none ∈ wsL_law := wi_17 (List.mem_of_getElem? (i := 21) rfl)
theorem Tcd_X2_keepAll : Cond.code yX2_keepAll cX2_keepAll 2 none ∈ lw_tbl := tb_3 (List.mem_of_getElem? (i := 78) rfl)
theorem im_X9_lookThrough : Cond.instanceMethod yX9_lookThrough ∈ wsL_law := wi_17 (List.mem_of_getElem? (i := 22) rfl)
theorem Tim_X9_lookThrough : Cond.instanceMethod yX9_lookThrough ∈ lw_tbl := tb_3 (List.mem_of_getElem? (i := 81) (by decide +kernel))
theorem se_X9_X9_lookThrough : Cond.selects RX9 yX9_lookThrough yX9_lookThrough ∈ wsL_law := wi_17 (List.mem_of_getElem? (i := 23) rfl)
theorem Tse_X9_X9_lookThrough : Cond.selects RX9 yX9_lookThrough yX9_lookThrough ∈ lw_tbl := pv_3 (n := 8) (List.mem_of_getElem? (i := 1) rfl)
theorem cd_X9_lookThrough : Cond.code yX9_lookThrough cX9_lookThrough 3 (some .int) ∈ wsL_law := wi_17 (List.mem_of_getElem? (i := 24) rfl)
theorem Tcd_X9_lookThrough : Cond.code yX9_lookThrough cX9_lookThrough 3 (some .int) ∈ lw_tbl := tb_3 (List.mem_of_getElem? (i := 82) rfl)
theorem ml_X9_45 : Cond.methodLink RX9 45 yX9_allGrips ∈ wsL_law := wi_17 (List.mem_of_getElem? (i := 25) rfl)
theorem Tml_X9_45 : Cond.methodLink RX9 45 yX9_allGrips ∈ lw_tbl := tb_3 (List.mem_of_getElem? (i := 83) (by decide +kernel))
theorem im_X9_allGrips : Cond.instanceMethod yX9_allGrips ∈ wsL_law := wi_17 (List.mem_of_getElem? (i := 26) rfl)
theorem Tim_X9_allGrips : Cond.instanceMethod yX9_allGrips ∈ lw_tbl := tb_3 (List.mem_of_getElem? (i := 85) (by decide +kernel))
theorem se_X9_X9_allGrips : Cond.selects RX9 yX9_allGrips yX9_allGrips ∈ wsL_law := wi_17 (List.mem_of_getElem? (i := 27) rfl)
theorem Tse_X9_X9_allGrips : Cond.selects RX9 yX9_allGrips yX9_allGrips ∈ lw_tbl := pv_3 (n := 8) (List.mem_of_getElem? (i := 2) rfl)
theorem cd_X9_allGrips : Cond.code yX9_allGrips cX9_allGrips 3 (some .int) ∈ wsL_law := wi_17 (List.mem_of_getElem? (i := 28) rfl)
theorem Tcd_X9_allGrips : Cond.code yX9_allGrips cX9_allGrips 3 (some .int) ∈ lw_tbl := tb_3 (List.mem_of_getElem? (i := 86) rfl)
theorem ml_X9_49 : Cond.methodLink RX9 49 yX9_joinTicks ∈ wsL_law := wi_17 (List.mem_of_getElem? (i := 29) rfl)
theorem Tml_X9_49 : Cond.methodLink RX9 49 yX9_joinTicks ∈ lw_tbl := tb_3 (List.mem_of_getElem? (i := 88) (by decide +kernel))
theorem tA_17 : ∀ w ∈ wA_17, w ∈ lw_tbl := List.forall_mem_cons.mpr ⟨Tml_X10_208, List.forall_mem_cons.mpr ⟨Tim_X10_hasGrip, List.forall_mem_cons.mpr ⟨Tse_X10_X10_hasGrip, List.forall_mem_cons.mpr ⟨Tcd_X10_hasGrip, List.forall_mem_cons.mpr ⟨Tml_L_69, List.forall_mem_cons.mpr ⟨Tim_X11_why, List.forall_mem_cons.mpr ⟨Tse_X11_X11_why, List.forall_mem_cons.mpr ⟨Tcd_X11_why, List.forall_mem_cons.mpr ⟨Tml_X11_221, List.forall_mem_cons.mpr ⟨Tim_X11_bits, List.forall_mem_cons.mpr ⟨Tse_X11_X11_bits, List.forall_mem_cons.mpr ⟨Tcd_X11_bits, List.forall_mem_cons.mpr ⟨Tml_L_70, List.forall_mem_cons.mpr ⟨Tim_X10_way, List.forall_mem_cons.mpr ⟨Tse_X10_X10_way, List.forall_mem_cons.mpr ⟨Tcd_X10_way, List.forall_mem_cons.mpr ⟨Tim_X8_atHand, List.forall_mem_cons.mpr ⟨Tse_X8_X8_atHand, List.forall_mem_cons.mpr ⟨Tcd_X8_atHand, List.forall_mem_cons.mpr ⟨Tim_X2_keepAll, List.forall_mem_cons.mpr ⟨Tse_X2_X2_keepAll, List.forall_mem_cons.mpr ⟨Tcd_X2_keepAll, List.forall_mem_cons.mpr ⟨Tim_X9_lookThrough, List.forall_mem_cons.mpr ⟨Tse_X9_X9_lookThrough, List.forall_mem_cons.mpr ⟨Tcd_X9_lookThrough, List.forall_mem_cons.mpr ⟨Tml_X9_45, List.forall_mem_cons.mpr ⟨Tim_X9_allGrips, List.forall_mem_cons.mpr ⟨Tse_X9_X9_allGrips, List.forall_mem_cons.mpr ⟨Tcd_X9_allGrips, List.forall_mem_cons.mpr ⟨Tml_X9_49, fun _ h => absurd h List.not_mem_nil⟩⟩⟩⟩⟩⟩⟩⟩⟩⟩⟩⟩⟩⟩⟩⟩⟩⟩⟩⟩⟩⟩⟩⟩⟩⟩⟩⟩⟩⟩
theorem im_X9_joinTicks : Cond.instanceMethod yX9_joinTicks ∈ wsL_law := wi_18 (List.mem_of_getElem? (i := 0) rfl)
theorem Tim_X9_joinTicks : Cond.instanceMethod yX9_joinTicks ∈ lw_tbl := tb_3 (List.mem_of_getElem? (i := 90) (by decide +kernel))
theorem se_X9_X9_joinTicks : Cond.selects RX9 yX9_joinTicks yX9_joinTicks ∈ wsL_law := wi_18 (List.mem_of_getElem? (i := 1) rfl)
theorem Tse_X9_X9_joinTicks : Cond.selects RX9 yX9_joinTicks yX9_joinTicks ∈ lw_tbl := pv_3 (n := 8) (List.mem_of_getElem? (i := 3) rfl)
theorem cd_X9_joinTicks : Cond.code yX9_joinTicks cX9_joinTicks 12 (some .int) ∈ wsL_law := wi_18 (List.mem_of_getElem? (i := 2) rfl)
theorem Tcd_X9_joinTicks : Cond.code yX9_joinTicks cX9_joinTicks 12 (some .int) ∈ lw_tbl := tb_3 (List.mem_of_getElem? (i := 91) rfl)
theorem ml_X9_60 : Cond.methodLink RX9 60 yJ7_fill_fda19 ∈ wsL_law := wi_18 (List.mem_of_getElem? (i := 3) rfl)
theorem Tml_X9_60 : Cond.methodLink RX9 60 yJ7_fill_fda19 ∈ lw_tbl := tb_3 (List.mem_of_getElem? (i := 92) (by decide +kernel))
theorem st_J7_fill_fda19 : Cond.static yJ7_fill_fda19 ∈ wsL_law := wi_18 (List.mem_of_getElem? (i := 4) rfl)
theorem Tst_J7_fill_fda19 : Cond.static yJ7_fill_fda19 ∈ lw_tbl := tb_3 (List.mem_of_getElem? (i := 93) (by decide +kernel))
theorem cd_J7_fill_fda19 : Cond.code yJ7_fill_fda19 cJ7_fill_fda19 5 none ∈ wsL_law := wi_18 (List.mem_of_getElem? (i := 5) rfl)
theorem Tcd_J7_fill_fda19 : Cond.code yJ7_fill_fda19 cJ7_fill_fda19 5 none ∈ lw_tbl := tb_3 (List.mem_of_getElem? (i := 94) rfl)
theorem ml_J7_13 : Cond.methodLink RJ7 13 yJ7_rangeCheck_23922 ∈ wsL_law := wi_18 (List.mem_of_getElem? (i := 6) rfl)
theorem Tml_J7_13 : Cond.methodLink RJ7 13 yJ7_rangeCheck_23922 ∈ lw_tbl := tb_3 (List.mem_of_getElem? (i := 95) (by decide +kernel))
theorem st_J7_rangeCheck_23922 : Cond.static yJ7_rangeCheck_23922 ∈ wsL_law := wi_18 (List.mem_of_getElem? (i := 7) rfl)
theorem Tst_J7_rangeCheck_23922 : Cond.static yJ7_rangeCheck_23922 ∈ lw_tbl := tb_3 (List.mem_of_getElem? (i := 96) (by decide +kernel))
theorem cd_J7_rangeCheck_23922 : Cond.code yJ7_rangeCheck_23922 cJ7_rangeCheck_23922 3 none ∈ wsL_law := wi_18 (List.mem_of_getElem? (i := 8) rfl)
theorem Tcd_J7_rangeCheck_23922 : Cond.code yJ7_rangeCheck_23922 cJ7_rangeCheck_23922 3 none ∈ lw_tbl := tb_3 (List.mem_of_getElem? (i := 97) rfl)
theorem im_X5_tieMask : Cond.instanceMethod yX5_tieMask ∈ wsL_law := wi_18 (List.mem_of_getElem? (i := 9) rfl)
theorem Tim_X5_tieMask : Cond.instanceMethod yX5_tieMask ∈ lw_tbl := tb_3 (List.mem_of_getElem? (i := 101) (by decide +kernel))
theorem se_X5_X5_tieMask : Cond.selects RX5 yX5_tieMask yX5_tieMask ∈ wsL_law := wi_18 (List.mem_of_getElem? (i := 10) rfl)
theorem Tse_X5_X5_tieMask : Cond.selects RX5 yX5_tieMask yX5_tieMask ∈ lw_tbl := pv_3 (n := 7) (List.mem_of_getElem? (i := 4) rfl)
theorem cd_X5_tieMask : Cond.code yX5_tieMask cX5_tieMask 8 (some .long) ∈ wsL_law := wi_18 (List.mem_of_getElem? (i := 11) rfl)
theorem Tcd_X5_tieMask : Cond.code yX5_tieMask cX5_tieMask 8 (some .long) ∈ lw_tbl := tb_3 (List.mem_of_getElem? (i := 102) rfl)
theorem st_X1_hasNote : Cond.static yX1_hasNote ∈ wsL_law := wi_18 (List.mem_of_getElem? (i := 12) rfl)
theorem Tst_X1_hasNote : Cond.static yX1_hasNote ∈ lw_tbl := tb_3 (List.mem_of_getElem? (i := 104) (by decide +kernel))
theorem cd_X1_hasNote : Cond.code yX1_hasNote cX1_hasNote 3 (some .boolean) ∈ wsL_law := wi_18 (List.mem_of_getElem? (i := 13) rfl)
theorem Tcd_X1_hasNote : Cond.code yX1_hasNote cX1_hasNote 3 (some .boolean) ∈ lw_tbl := tb_3 (List.mem_of_getElem? (i := 105) rfl)
theorem ml_X5_57 : Cond.methodLink RX5 57 yX5_lookedAt ∈ wsL_law := wi_18 (List.mem_of_getElem? (i := 14) rfl)
theorem Tml_X5_57 : Cond.methodLink RX5 57 yX5_lookedAt ∈ lw_tbl := tb_3 (List.mem_of_getElem? (i := 106) (by decide +kernel))
theorem st_X5_lookedAt : Cond.static yX5_lookedAt ∈ wsL_law := wi_18 (List.mem_of_getElem? (i := 15) rfl)
theorem Tst_X5_lookedAt : Cond.static yX5_lookedAt ∈ lw_tbl := tb_3 (List.mem_of_getElem? (i := 107) (by decide +kernel))
theorem cd_X5_lookedAt : Cond.code yX5_lookedAt cX5_lookedAt 1 (some .long) ∈ wsL_law := wi_18 (List.mem_of_getElem? (i := 16) rfl)
theorem Tcd_X5_lookedAt : Cond.code yX5_lookedAt cX5_lookedAt 1 (some .long) ∈ lw_tbl := tb_3 (List.mem_of_getElem? (i := 108) rfl)
theorem ct_X5_63 : Cond.constantLong RX5 63 (63) ∈ wsL_law := wi_18 (List.mem_of_getElem? (i := 17) rfl)
theorem Tct_X5_63 : Cond.constantLong RX5 63 (63) ∈ lw_tbl := tb_3 (List.mem_of_getElem? (i := 109) (by decide +kernel))
theorem ct_X5_65 : Cond.constantLong RX5 65 (7) ∈ wsL_law := wi_18 (List.mem_of_getElem? (i := 18) rfl)
theorem Tct_X5_65 : Cond.constantLong RX5 65 (7) ∈ lw_tbl := tb_3 (List.mem_of_getElem? (i := 110) (by decide +kernel))
theorem im_X5_tieBits : Cond.instanceMethod yX5_tieBits ∈ wsL_law := wi_18 (List.mem_of_getElem? (i := 19) rfl)
theorem Tim_X5_tieBits : Cond.instanceMethod yX5_tieBits ∈ lw_tbl := tb_3 (List.mem_of_getElem? (i := 113) (by decide +kernel))
theorem se_X5_X5_tieBits : Cond.selects RX5 yX5_tieBits yX5_tieBits ∈ wsL_law := wi_18 (List.mem_of_getElem? (i := 20) rfl)
theorem Tse_X5_X5_tieBits : Cond.selects RX5 yX5_tieBits yX5_tieBits ∈ lw_tbl := pv_3 (n := 7) (List.mem_of_getElem? (i := 5) rfl)
theorem cd_X5_tieBits : Cond.code yX5_tieBits cX5_tieBits 15 (some .long) ∈ wsL_law := wi_18 (List.mem_of_getElem? (i := 21) rfl)
theorem Tcd_X5_tieBits : Cond.code yX5_tieBits cX5_tieBits 15 (some .long) ∈ lw_tbl := tb_3 (List.mem_of_getElem? (i := 114) rfl)
theorem ct_X5_61 : Cond.constantLong RX5 61 (-1) ∈ wsL_law := wi_18 (List.mem_of_getElem? (i := 22) rfl)
theorem Tct_X5_61 : Cond.constantLong RX5 61 (-1) ∈ lw_tbl := tb_3 (List.mem_of_getElem? (i := 115) (by decide +kernel))
theorem ml_X9_77 : Cond.methodLink RX9 77 yX9_isAlive ∈ wsL_law := wi_18 (List.mem_of_getElem? (i := 23) rfl)
theorem Tml_X9_77 : Cond.methodLink RX9 77 yX9_isAlive ∈ lw_tbl := tb_3 (List.mem_of_getElem? (i := 116) (by decide +kernel))
theorem im_X9_isAlive : Cond.instanceMethod yX9_isAlive ∈ wsL_law := wi_18 (List.mem_of_getElem? (i := 24) rfl)
theorem Tim_X9_isAlive : Cond.instanceMethod yX9_isAlive ∈ lw_tbl := tb_3 (List.mem_of_getElem? (i := 118) (by decide +kernel))
theorem se_X9_X9_isAlive : Cond.selects RX9 yX9_isAlive yX9_isAlive ∈ wsL_law := wi_18 (List.mem_of_getElem? (i := 25) rfl)
theorem Tse_X9_X9_isAlive : Cond.selects RX9 yX9_isAlive yX9_isAlive ∈ lw_tbl := pv_3 (n := 8) (List.mem_of_getElem? (i := 6) rfl)
theorem cd_X9_isAlive : Cond.code yX9_isAlive cX9_isAlive 3 (some .boolean) ∈ wsL_law := wi_18 (List.mem_of_getElem? (i := 26) rfl)
theorem Tcd_X9_isAlive : Cond.code yX9_isAlive cX9_isAlive 3 (some .boolean) ∈ lw_tbl := tb_3 (List.mem_of_getElem? (i := 119) rfl)
theorem ml_X9_52 : Cond.methodLink RX9 52 yX9_placesBehind ∈ wsL_law := wi_18 (List.mem_of_getElem? (i := 27) rfl)
theorem Tml_X9_52 : Cond.methodLink RX9 52 yX9_placesBehind ∈ lw_tbl := tb_3 (List.mem_of_getElem? (i := 120) (by decide +kernel))
theorem im_X9_placesBehind : Cond.instanceMethod yX9_placesBehind ∈ wsL_law := wi_18 (List.mem_of_getElem? (i := 28) rfl)
theorem Tim_X9_placesBehind : Cond.instanceMethod yX9_placesBehind ∈ lw_tbl := tb_3 (List.mem_of_getElem? (i := 122) (by decide +kernel))
theorem se_X9_X9_placesBehind : Cond.selects RX9 yX9_placesBehind yX9_placesBehind ∈ wsL_law := wi_18 (List.mem_of_getElem? (i := 29) rfl)
theorem Tse_X9_X9_placesBehind : Cond.selects RX9 yX9_placesBehind yX9_placesBehind ∈ lw_tbl := pv_3 (n := 8) (List.mem_of_getElem? (i := 7) rfl)
theorem tA_18 : ∀ w ∈ wA_18, w ∈ lw_tbl := List.forall_mem_cons.mpr ⟨Tim_X9_joinTicks, List.forall_mem_cons.mpr ⟨Tse_X9_X9_joinTicks, List.forall_mem_cons.mpr ⟨Tcd_X9_joinTicks, List.forall_mem_cons.mpr ⟨Tml_X9_60, List.forall_mem_cons.mpr ⟨Tst_J7_fill_fda19, List.forall_mem_cons.mpr ⟨Tcd_J7_fill_fda19, List.forall_mem_cons.mpr ⟨Tml_J7_13, List.forall_mem_cons.mpr ⟨Tst_J7_rangeCheck_23922, List.forall_mem_cons.mpr ⟨Tcd_J7_rangeCheck_23922, List.forall_mem_cons.mpr ⟨Tim_X5_tieMask, List.forall_mem_cons.mpr ⟨Tse_X5_X5_tieMask, List.forall_mem_cons.mpr ⟨Tcd_X5_tieMask, List.forall_mem_cons.mpr ⟨Tst_X1_hasNote, List.forall_mem_cons.mpr ⟨Tcd_X1_hasNote, List.forall_mem_cons.mpr ⟨Tml_X5_57, List.forall_mem_cons.mpr ⟨Tst_X5_lookedAt, List.forall_mem_cons.mpr ⟨Tcd_X5_lookedAt, List.forall_mem_cons.mpr ⟨Tct_X5_63, List.forall_mem_cons.mpr ⟨Tct_X5_65, List.forall_mem_cons.mpr ⟨Tim_X5_tieBits, List.forall_mem_cons.mpr ⟨Tse_X5_X5_tieBits, List.forall_mem_cons.mpr ⟨Tcd_X5_tieBits, List.forall_mem_cons.mpr ⟨Tct_X5_61, List.forall_mem_cons.mpr ⟨Tml_X9_77, List.forall_mem_cons.mpr ⟨Tim_X9_isAlive, List.forall_mem_cons.mpr ⟨Tse_X9_X9_isAlive, List.forall_mem_cons.mpr ⟨Tcd_X9_isAlive, List.forall_mem_cons.mpr ⟨Tml_X9_52, List.forall_mem_cons.mpr ⟨Tim_X9_placesBehind, List.forall_mem_cons.mpr ⟨Tse_X9_X9_placesBehind, fun _ h => absurd h List.not_mem_nil⟩⟩⟩⟩⟩⟩⟩⟩⟩⟩⟩⟩⟩⟩⟩⟩⟩⟩⟩⟩⟩⟩⟩⟩⟩⟩⟩⟩⟩⟩
theorem cd_X9_placesBehind : Cond.code yX9_placesBehind cX9_placesBehind 5 (some .int) ∈ wsL_law := wi_19 (List.mem_of_getElem? (i := 0) rfl)
theorem Tcd_X9_placesBehind : Cond.code yX9_placesBehind cX9_placesBehind 5 (some .int) ∈ lw_tbl := tb_3 (List.mem_of_getElem? (i := 123) rfl)
theorem ml_X10_225 : Cond.methodLink RX10 225 yX10_takeWays ∈ wsL_law := wi_19 (List.mem_of_getElem? (i := 1) rfl)
theorem Tml_X10_225 : Cond.methodLink RX10 225 yX10_takeWays ∈ lw_tbl := tb_3 (List.mem_of_getElem? (i := 125) (by decide +kernel))
theorem im_X10_takeWays : Cond.instanceMethod yX10_takeWays ∈ wsL_law := wi_19 (List.mem_of_getElem? (i := 2) rfl)
theorem Tim_X10_takeWays : Cond.instanceMethod yX10_takeWays ∈ lw_tbl := tb_3 (List.mem_of_getElem? (i := 127) (by decide +kernel))
theorem se_X10_X10_takeWays : Cond.selects RX10 yX10_takeWays yX10_takeWays ∈ wsL_law := wi_19 (List.mem_of_getElem? (i := 3) rfl)
theorem Tse_X10_X10_takeWays : Cond.selects RX10 yX10_takeWays yX10_takeWays ∈ lw_tbl := pv_3 (n := 15) (List.mem_of_getElem? (i := 8) rfl)
theorem cd_X10_takeWays : Cond.code yX10_takeWays cX10_takeWays 3 none ∈ wsL_law := wi_19 (List.mem_of_getElem? (i := 4) rfl)
theorem Tcd_X10_takeWays : Cond.code yX10_takeWays cX10_takeWays 3 none ∈ lw_tbl := tb_3 (List.mem_of_getElem? (i := 128) rfl)
theorem im_X9_findBest : Cond.instanceMethod yX9_findBest ∈ wsL_law := wi_19 (List.mem_of_getElem? (i := 5) rfl)
theorem Tim_X9_findBest : Cond.instanceMethod yX9_findBest ∈ lw_tbl := tb_3 (List.mem_of_getElem? (i := 131) (by decide +kernel))
theorem se_X9_X9_findBest : Cond.selects RX9 yX9_findBest yX9_findBest ∈ wsL_law := wi_19 (List.mem_of_getElem? (i := 6) rfl)
theorem Tse_X9_X9_findBest : Cond.selects RX9 yX9_findBest yX9_findBest ∈ lw_tbl := pv_3 (n := 8) (List.mem_of_getElem? (i := 9) rfl)
theorem cd_X9_findBest : Cond.code yX9_findBest cX9_findBest 4 (some .int) ∈ wsL_law := wi_19 (List.mem_of_getElem? (i := 7) rfl)
theorem Tcd_X9_findBest : Cond.code yX9_findBest cX9_findBest 4 (some .int) ∈ lw_tbl := tb_3 (List.mem_of_getElem? (i := 132) rfl)
theorem ml_X9_87 : Cond.methodLink RX9 87 Lib.Math.min.name ∈ wsL_law := wi_19 (List.mem_of_getElem? (i := 8) rfl)
theorem Tml_X9_87 : Cond.methodLink RX9 87 Lib.Math.min.name ∈ lw_tbl := tb_3 (List.mem_of_getElem? (i := 133) (by decide +kernel))
theorem ml_X9_93 : Cond.methodLink RX9 93 Lib.Math.max.name ∈ wsL_law := wi_19 (List.mem_of_getElem? (i := 9) rfl)
theorem Tml_X9_93 : Cond.methodLink RX9 93 Lib.Math.max.name ∈ lw_tbl := tb_3 (List.mem_of_getElem? (i := 134) (by decide +kernel))
theorem ct_X9_104 : Cond.constant RX9 104 (2147483647) ∈ wsL_law := wi_19 (List.mem_of_getElem? (i := 10) rfl)
theorem Tct_X9_104 : Cond.constant RX9 104 (2147483647) ∈ lw_tbl := tb_3 (List.mem_of_getElem? (i := 147) (by decide +kernel))
theorem ml_X9_96 : Cond.methodLink RX9 96 yX9_fillTick ∈ wsL_law := wi_19 (List.mem_of_getElem? (i := 11) rfl)
theorem Tml_X9_96 : Cond.methodLink RX9 96 yX9_fillTick ∈ lw_tbl := tb_3 (List.mem_of_getElem? (i := 135) (by decide +kernel))
theorem im_X9_fillTick : Cond.instanceMethod yX9_fillTick ∈ wsL_law := wi_19 (List.mem_of_getElem? (i := 12) rfl)
theorem Tim_X9_fillTick : Cond.instanceMethod yX9_fillTick ∈ lw_tbl := tb_3 (List.mem_of_getElem? (i := 137) (by decide +kernel))
theorem se_X9_X9_fillTick : Cond.selects RX9 yX9_fillTick yX9_fillTick ∈ wsL_law := wi_19 (List.mem_of_getElem? (i := 13) rfl)
theorem Tse_X9_X9_fillTick : Cond.selects RX9 yX9_fillTick yX9_fillTick ∈ lw_tbl := pv_3 (n := 8) (List.mem_of_getElem? (i := 10) rfl)
theorem cd_X9_fillTick : Cond.code yX9_fillTick cX9_fillTick 5 none ∈ wsL_law := wi_19 (List.mem_of_getElem? (i := 14) rfl)
theorem Tcd_X9_fillTick : Cond.code yX9_fillTick cX9_fillTick 5 none ∈ lw_tbl := tb_3 (List.mem_of_getElem? (i := 138) rfl)
theorem ml_X9_113 : Cond.methodLink RX9 113 yX9_fillSlot ∈ wsL_law := wi_19 (List.mem_of_getElem? (i := 15) rfl)
theorem Tml_X9_113 : Cond.methodLink RX9 113 yX9_fillSlot ∈ lw_tbl := tb_3 (List.mem_of_getElem? (i := 139) (by decide +kernel))
theorem im_X9_fillSlot : Cond.instanceMethod yX9_fillSlot ∈ wsL_law := wi_19 (List.mem_of_getElem? (i := 16) rfl)
theorem Tim_X9_fillSlot : Cond.instanceMethod yX9_fillSlot ∈ lw_tbl := tb_3 (List.mem_of_getElem? (i := 141) (by decide +kernel))
theorem se_X9_X9_fillSlot : Cond.selects RX9 yX9_fillSlot yX9_fillSlot ∈ wsL_law := wi_19 (List.mem_of_getElem? (i := 17) rfl)
theorem Tse_X9_X9_fillSlot : Cond.selects RX9 yX9_fillSlot yX9_fillSlot ∈ lw_tbl := pv_3 (n := 8) (List.mem_of_getElem? (i := 11) rfl)
theorem cd_X9_fillSlot : Cond.code yX9_fillSlot cX9_fillSlot 12 none ∈ wsL_law := wi_19 (List.mem_of_getElem? (i := 18) rfl)
theorem Tcd_X9_fillSlot : Cond.code yX9_fillSlot cX9_fillSlot 12 none ∈ lw_tbl := tb_3 (List.mem_of_getElem? (i := 142) rfl)
theorem ml_X9_105 : Cond.methodLink RX9 105 yX9_slot ∈ wsL_law := wi_19 (List.mem_of_getElem? (i := 19) rfl)
theorem Tml_X9_105 : Cond.methodLink RX9 105 yX9_slot ∈ lw_tbl := tb_3 (List.mem_of_getElem? (i := 143) (by decide +kernel))
theorem im_X9_slot : Cond.instanceMethod yX9_slot ∈ wsL_law := wi_19 (List.mem_of_getElem? (i := 20) rfl)
theorem Tim_X9_slot : Cond.instanceMethod yX9_slot ∈ lw_tbl := tb_3 (List.mem_of_getElem? (i := 145) (by decide +kernel))
theorem se_X9_X9_slot : Cond.selects RX9 yX9_slot yX9_slot ∈ wsL_law := wi_19 (List.mem_of_getElem? (i := 21) rfl)
theorem Tse_X9_X9_slot : Cond.selects RX9 yX9_slot yX9_slot ∈ lw_tbl := pv_3 (n := 8) (List.mem_of_getElem? (i := 12) rfl)
theorem cd_X9_slot : Cond.code yX9_slot cX9_slot 5 (some .int) ∈ wsL_law := wi_19 (List.mem_of_getElem? (i := 22) rfl)
theorem Tcd_X9_slot : Cond.code yX9_slot cX9_slot 5 (some .int) ∈ lw_tbl := tb_3 (List.mem_of_getElem? (i := 146) rfl)
theorem im_X4_stepCost : Cond.instanceMethod yX4_stepCost ∈ wsL_law := wi_19 (List.mem_of_getElem? (i := 23) rfl)
theorem Tim_X4_stepCost : Cond.instanceMethod yX4_stepCost ∈ lw_tbl := tb_3 (List.mem_of_getElem? (i := 151) (by decide +kernel))
theorem se_X4_X4_stepCost : Cond.selects RX4 yX4_stepCost yX4_stepCost ∈ wsL_law := wi_19 (List.mem_of_getElem? (i := 24) rfl)
theorem Tse_X4_X4_stepCost : Cond.selects RX4 yX4_stepCost yX4_stepCost ∈ lw_tbl := pv_3 (n := 7) (List.mem_of_getElem? (i := 13) rfl)
theorem cd_X4_stepCost : Cond.code yX4_stepCost cX4_stepCost 10 (some .int) ∈ wsL_law := wi_19 (List.mem_of_getElem? (i := 25) rfl)
theorem Tcd_X4_stepCost : Cond.code yX4_stepCost cX4_stepCost 10 (some .int) ∈ lw_tbl := tb_3 (List.mem_of_getElem? (i := 152) rfl)
theorem ml_X4_55 : Cond.methodLink RX4 55 Lib.Math.abs.name ∈ wsL_law := wi_19 (List.mem_of_getElem? (i := 26) rfl)
theorem Tml_X4_55 : Cond.methodLink RX4 55 Lib.Math.abs.name ∈ lw_tbl := tb_3 (List.mem_of_getElem? (i := 154) (by decide +kernel))
theorem st_J9_abs_0f7a4 : Cond.static Lib.Math.abs.name ∈ wsL_law := wi_19 (List.mem_of_getElem? (i := 27) rfl)
theorem Tst_J9_abs_0f7a4 : Cond.static Lib.Math.abs.name ∈ lw_tbl := tb_3 (List.mem_of_getElem? (i := 155) (by decide +kernel))
theorem cd_J9_abs_0f7a4 : Cond.code Lib.Math.abs.name Lib.Math.abs.code 1 (some .int) ∈ wsL_law := wi_19 (List.mem_of_getElem? (i := 28) rfl)
theorem Tcd_J9_abs_0f7a4 : Cond.code Lib.Math.abs.name Lib.Math.abs.code 1 (some .int) ∈ lw_tbl := tb_3 (List.mem_of_getElem? (i := 156) rfl)
theorem st_X1_leadCourse : Cond.static yX1_leadCourse ∈ wsL_law := wi_19 (List.mem_of_getElem? (i := 29) rfl)
theorem Tst_X1_leadCourse : Cond.static yX1_leadCourse ∈ lw_tbl := tb_3 (List.mem_of_getElem? (i := 158) (by decide +kernel))
theorem tA_19 : ∀ w ∈ wA_19, w ∈ lw_tbl := List.forall_mem_cons.mpr ⟨Tcd_X9_placesBehind, List.forall_mem_cons.mpr ⟨Tml_X10_225, List.forall_mem_cons.mpr ⟨Tim_X10_takeWays, List.forall_mem_cons.mpr ⟨Tse_X10_X10_takeWays, List.forall_mem_cons.mpr ⟨Tcd_X10_takeWays, List.forall_mem_cons.mpr ⟨Tim_X9_findBest, List.forall_mem_cons.mpr ⟨Tse_X9_X9_findBest, List.forall_mem_cons.mpr ⟨Tcd_X9_findBest, List.forall_mem_cons.mpr ⟨Tml_X9_87, List.forall_mem_cons.mpr ⟨Tml_X9_93, List.forall_mem_cons.mpr ⟨Tct_X9_104, List.forall_mem_cons.mpr ⟨Tml_X9_96, List.forall_mem_cons.mpr ⟨Tim_X9_fillTick, List.forall_mem_cons.mpr ⟨Tse_X9_X9_fillTick, List.forall_mem_cons.mpr ⟨Tcd_X9_fillTick, List.forall_mem_cons.mpr ⟨Tml_X9_113, List.forall_mem_cons.mpr ⟨Tim_X9_fillSlot, List.forall_mem_cons.mpr ⟨Tse_X9_X9_fillSlot, List.forall_mem_cons.mpr ⟨Tcd_X9_fillSlot, List.forall_mem_cons.mpr ⟨Tml_X9_105, List.forall_mem_cons.mpr ⟨Tim_X9_slot, List.forall_mem_cons.mpr ⟨Tse_X9_X9_slot, List.forall_mem_cons.mpr ⟨Tcd_X9_slot, List.forall_mem_cons.mpr ⟨Tim_X4_stepCost, List.forall_mem_cons.mpr ⟨Tse_X4_X4_stepCost, List.forall_mem_cons.mpr ⟨Tcd_X4_stepCost, List.forall_mem_cons.mpr ⟨Tml_X4_55, List.forall_mem_cons.mpr ⟨Tst_J9_abs_0f7a4, List.forall_mem_cons.mpr ⟨Tcd_J9_abs_0f7a4, List.forall_mem_cons.mpr ⟨Tst_X1_leadCourse, fun _ h => absurd h List.not_mem_nil⟩⟩⟩⟩⟩⟩⟩⟩⟩⟩⟩⟩⟩⟩⟩⟩⟩⟩⟩⟩⟩⟩⟩⟩⟩⟩⟩⟩⟩⟩
theorem cd_X1_leadCourse : Cond.code yX1_leadCourse cX1_leadCourse 4 (some .int) ∈ wsL_law := wi_20 (List.mem_of_getElem? (i := 0) rfl)
theorem Tcd_X1_leadCourse : Cond.code yX1_leadCourse cX1_leadCourse 4 (some .int) ∈ lw_tbl := tb_3 (List.mem_of_getElem? (i := 159) rfl)
theorem ml_X9_109 : Cond.methodLink RX9 109 yX9_merge ∈ wsL_law := wi_20 (List.mem_of_getElem? (i := 1) rfl)
theorem Tml_X9_109 : Cond.methodLink RX9 109 yX9_merge ∈ lw_tbl := tb_3 (List.mem_of_getElem? (i := 160) (by decide +kernel))
theorem im_X9_merge : Cond.instanceMethod yX9_merge ∈ wsL_law := wi_20 (List.mem_of_getElem? (i := 2) rfl)
theorem Tim_X9_merge : Cond.instanceMethod yX9_merge ∈ lw_tbl := tb_3 (List.mem_of_getElem? (i := 162) (by decide +kernel))
theorem se_X9_X9_merge : Cond.selects RX9 yX9_merge yX9_merge ∈ wsL_law := wi_20 (List.mem_of_getElem? (i := 3) rfl)
theorem Tse_X9_X9_merge : Cond.selects RX9 yX9_merge yX9_merge ∈ lw_tbl := pv_3 (n := 8) (List.mem_of_getElem? (i := 14) rfl)
theorem cd_X9_merge : Cond.code yX9_merge cX9_merge 8 none ∈ wsL_law := wi_20 (List.mem_of_getElem? (i := 4) rfl)
theorem Tcd_X9_merge : Cond.code yX9_merge cX9_merge 8 none ∈ lw_tbl := tb_3 (List.mem_of_getElem? (i := 163) rfl)
theorem ml_X9_126 : Cond.methodLink RX9 126 yX9_insert ∈ wsL_law := wi_20 (List.mem_of_getElem? (i := 5) rfl)
theorem Tml_X9_126 : Cond.methodLink RX9 126 yX9_insert ∈ lw_tbl := tb_3 (List.mem_of_getElem? (i := 164) (by decide +kernel))
theorem im_X9_insert : Cond.instanceMethod yX9_insert ∈ wsL_law := wi_20 (List.mem_of_getElem? (i := 6) rfl)
theorem Tim_X9_insert : Cond.instanceMethod yX9_insert ∈ lw_tbl := tb_3 (List.mem_of_getElem? (i := 166) (by decide +kernel))
theorem se_X9_X9_insert : Cond.selects RX9 yX9_insert yX9_insert ∈ wsL_law := wi_20 (List.mem_of_getElem? (i := 7) rfl)
theorem Tse_X9_X9_insert : Cond.selects RX9 yX9_insert yX9_insert ∈ lw_tbl := pv_3 (n := 8) (List.mem_of_getElem? (i := 15) rfl)
theorem cd_X9_insert : Cond.code yX9_insert cX9_insert 4 (some .boolean) ∈ wsL_law := wi_20 (List.mem_of_getElem? (i := 8) rfl)
theorem Tcd_X9_insert : Cond.code yX9_insert cX9_insert 4 (some .boolean) ∈ lw_tbl := tb_3 (List.mem_of_getElem? (i := 167) rfl)
theorem ml_X9_100 : Cond.methodLink RX9 100 yX9_head ∈ wsL_law := wi_20 (List.mem_of_getElem? (i := 9) rfl)
theorem Tml_X9_100 : Cond.methodLink RX9 100 yX9_head ∈ lw_tbl := tb_3 (List.mem_of_getElem? (i := 168) (by decide +kernel))
theorem im_X9_head : Cond.instanceMethod yX9_head ∈ wsL_law := wi_20 (List.mem_of_getElem? (i := 10) rfl)
theorem Tim_X9_head : Cond.instanceMethod yX9_head ∈ lw_tbl := tb_3 (List.mem_of_getElem? (i := 170) (by decide +kernel))
theorem se_X9_X9_head : Cond.selects RX9 yX9_head yX9_head ∈ wsL_law := wi_20 (List.mem_of_getElem? (i := 11) rfl)
theorem Tse_X9_X9_head : Cond.selects RX9 yX9_head yX9_head ∈ lw_tbl := pv_4 (n := 8) (List.mem_of_getElem? (i := 0) rfl)
theorem cd_X9_head : Cond.code yX9_head cX9_head 1 (some .int) ∈ wsL_law := wi_20 (List.mem_of_getElem? (i := 12) rfl)
theorem Tcd_X9_head : Cond.code yX9_head cX9_head 1 (some .int) ∈ lw_tbl := tb_3 (List.mem_of_getElem? (i := 171) rfl)
theorem im_X9_trace : Cond.instanceMethod yX9_trace ∈ wsL_law := wi_20 (List.mem_of_getElem? (i := 13) rfl)
theorem Tim_X9_trace : Cond.instanceMethod yX9_trace ∈ lw_tbl := tb_3 (List.mem_of_getElem? (i := 174) (by decide +kernel))
theorem se_X9_X9_trace : Cond.selects RX9 yX9_trace yX9_trace ∈ wsL_law := wi_20 (List.mem_of_getElem? (i := 14) rfl)
theorem Tse_X9_X9_trace : Cond.selects RX9 yX9_trace yX9_trace ∈ lw_tbl := pv_4 (n := 8) (List.mem_of_getElem? (i := 1) rfl)
theorem cd_X9_trace : Cond.code yX9_trace cX9_trace 10 (some .int) ∈ wsL_law := wi_20 (List.mem_of_getElem? (i := 15) rfl)
theorem Tcd_X9_trace : Cond.code yX9_trace cX9_trace 10 (some .int) ∈ lw_tbl := tb_3 (List.mem_of_getElem? (i := 175) rfl)
theorem ml_L_73 : Cond.methodLink RL 73 yX11_way ∈ wsL_law := wi_20 (List.mem_of_getElem? (i := 16) rfl)
theorem Tml_L_73 : Cond.methodLink RL 73 yX11_way ∈ lw_tbl := tb_6 (List.mem_of_getElem? (i := 0) (by decide +kernel))
theorem im_X11_way : Cond.instanceMethod yX11_way ∈ wsL_law := wi_20 (List.mem_of_getElem? (i := 17) rfl)
theorem Tim_X11_way : Cond.instanceMethod yX11_way ∈ lw_tbl := tb_6 (List.mem_of_getElem? (i := 1) (by decide +kernel))
theorem se_X11_X11_way : Cond.selects RX11 yX11_way yX11_way ∈ wsL_law := wi_20 (List.mem_of_getElem? (i := 18) rfl)
theorem Tse_X11_X11_way : Cond.selects RX11 yX11_way yX11_way ∈ lw_tbl := tb_6 (List.mem_of_getElem? (i := 2) (by decide +kernel))
theorem cd_X11_way : Cond.code yX11_way cX11_way 1 (some .int) ∈ wsL_law := wi_20 (List.mem_of_getElem? (i := 19) rfl)
theorem Tcd_X11_way : Cond.code yX11_way cX11_way 1 (some .int) ∈ lw_tbl := tb_6 (List.mem_of_getElem? (i := 3) rfl)
theorem ml_X11_245 : Cond.methodLink RX11 245 yX11_fill ∈ wsL_law := wi_20 (List.mem_of_getElem? (i := 20) rfl)
theorem Tml_X11_245 : Cond.methodLink RX11 245 yX11_fill ∈ lw_tbl := tb_6 (List.mem_of_getElem? (i := 4) (by decide +kernel))
theorem im_X11_fill : Cond.instanceMethod yX11_fill ∈ wsL_law := wi_20 (List.mem_of_getElem? (i := 21) rfl)
theorem Tim_X11_fill : Cond.instanceMethod yX11_fill ∈ lw_tbl := tb_6 (List.mem_of_getElem? (i := 6) (by decide +kernel))
theorem se_X11_X11_fill : Cond.selects RX11 yX11_fill yX11_fill ∈ wsL_law := wi_20 (List.mem_of_getElem? (i := 22) rfl)
theorem Tse_X11_X11_fill : Cond.selects RX11 yX11_fill yX11_fill ∈ lw_tbl := pv_7 (n := 47) (List.mem_of_getElem? (i := 2) rfl)
theorem cd_X11_fill : Cond.code yX11_fill cX11_fill 2 none ∈ wsL_law := wi_20 (List.mem_of_getElem? (i := 23) rfl)
theorem Tcd_X11_fill : Cond.code yX11_fill cX11_fill 2 none ∈ lw_tbl := tb_6 (List.mem_of_getElem? (i := 7) rfl)
theorem ml_X11_248 : Cond.methodLink RX11 248 yX11_ways ∈ wsL_law := wi_20 (List.mem_of_getElem? (i := 24) rfl)
theorem Tml_X11_248 : Cond.methodLink RX11 248 yX11_ways ∈ lw_tbl := tb_6 (List.mem_of_getElem? (i := 8) (by decide +kernel))
theorem im_X11_ways : Cond.instanceMethod yX11_ways ∈ wsL_law := wi_20 (List.mem_of_getElem? (i := 25) rfl)
theorem Tim_X11_ways : Cond.instanceMethod yX11_ways ∈ lw_tbl := tb_6 (List.mem_of_getElem? (i := 10) (by decide +kernel))
theorem se_X11_X11_ways : Cond.selects RX11 yX11_ways yX11_ways ∈ wsL_law := wi_20 (List.mem_of_getElem? (i := 26) rfl)
theorem Tse_X11_X11_ways : Cond.selects RX11 yX11_ways yX11_ways ∈ lw_tbl := pv_7 (n := 47) (List.mem_of_getElem? (i := 3) rfl)
theorem cd_X11_ways : Cond.code yX11_ways cX11_ways 5 none ∈ wsL_law := wi_20 (List.mem_of_getElem? (i := 27) rfl)
theorem Tcd_X11_ways : Cond.code yX11_ways cX11_ways 5 none ∈ lw_tbl := tb_6 (List.mem_of_getElem? (i := 11) rfl)
theorem ml_X11_228 : Cond.methodLink RX11 228 yX11_on ∈ wsL_law := wi_20 (List.mem_of_getElem? (i := 28) rfl)
theorem Tml_X11_228 : Cond.methodLink RX11 228 yX11_on ∈ lw_tbl := tb_6 (List.mem_of_getElem? (i := 12) (by decide +kernel))
theorem im_X11_on : Cond.instanceMethod yX11_on ∈ wsL_law := wi_20 (List.mem_of_getElem? (i := 29) rfl)
theorem Tim_X11_on : Cond.instanceMethod yX11_on ∈ lw_tbl := tb_6 (List.mem_of_getElem? (i := 14) (by decide +kernel))
theorem tA_20 : ∀ w ∈ wA_20, w ∈ lw_tbl := List.forall_mem_cons.mpr ⟨Tcd_X1_leadCourse, List.forall_mem_cons.mpr ⟨Tml_X9_109, List.forall_mem_cons.mpr ⟨Tim_X9_merge, List.forall_mem_cons.mpr ⟨Tse_X9_X9_merge, List.forall_mem_cons.mpr ⟨Tcd_X9_merge, List.forall_mem_cons.mpr ⟨Tml_X9_126, List.forall_mem_cons.mpr ⟨Tim_X9_insert, List.forall_mem_cons.mpr ⟨Tse_X9_X9_insert, List.forall_mem_cons.mpr ⟨Tcd_X9_insert, List.forall_mem_cons.mpr ⟨Tml_X9_100, List.forall_mem_cons.mpr ⟨Tim_X9_head, List.forall_mem_cons.mpr ⟨Tse_X9_X9_head, List.forall_mem_cons.mpr ⟨Tcd_X9_head, List.forall_mem_cons.mpr ⟨Tim_X9_trace, List.forall_mem_cons.mpr ⟨Tse_X9_X9_trace, List.forall_mem_cons.mpr ⟨Tcd_X9_trace, List.forall_mem_cons.mpr ⟨Tml_L_73, List.forall_mem_cons.mpr ⟨Tim_X11_way, List.forall_mem_cons.mpr ⟨Tse_X11_X11_way, List.forall_mem_cons.mpr ⟨Tcd_X11_way, List.forall_mem_cons.mpr ⟨Tml_X11_245, List.forall_mem_cons.mpr ⟨Tim_X11_fill, List.forall_mem_cons.mpr ⟨Tse_X11_X11_fill, List.forall_mem_cons.mpr ⟨Tcd_X11_fill, List.forall_mem_cons.mpr ⟨Tml_X11_248, List.forall_mem_cons.mpr ⟨Tim_X11_ways, List.forall_mem_cons.mpr ⟨Tse_X11_X11_ways, List.forall_mem_cons.mpr ⟨Tcd_X11_ways, List.forall_mem_cons.mpr ⟨Tml_X11_228, List.forall_mem_cons.mpr ⟨Tim_X11_on, fun _ h => absurd h List.not_mem_nil⟩⟩⟩⟩⟩⟩⟩⟩⟩⟩⟩⟩⟩⟩⟩⟩⟩⟩⟩⟩⟩⟩⟩⟩⟩⟩⟩⟩⟩⟩
theorem se_X11_X11_on : Cond.selects RX11 yX11_on yX11_on ∈ wsL_law := wi_21 (List.mem_of_getElem? (i := 0) rfl)
theorem Tse_X11_X11_on : Cond.selects RX11 yX11_on yX11_on ∈ lw_tbl := pv_7 (n := 47) (List.mem_of_getElem? (i := 4) rfl)
theorem cd_X11_on : Cond.code yX11_on cX11_on 15 none ∈ wsL_law := wi_21 (List.mem_of_getElem? (i := 1) rfl)
theorem Tcd_X11_on : Cond.code yX11_on cX11_on 15 none ∈ lw_tbl := tb_6 (List.mem_of_getElem? (i := 15) rfl)
theorem ml_X11_232 : Cond.methodLink RX11 232 yX11_state ∈ wsL_law := wi_21 (List.mem_of_getElem? (i := 2) rfl)
theorem Tml_X11_232 : Cond.methodLink RX11 232 yX11_state ∈ lw_tbl := tb_6 (List.mem_of_getElem? (i := 16) (by decide +kernel))
theorem im_X11_state : Cond.instanceMethod yX11_state ∈ wsL_law := wi_21 (List.mem_of_getElem? (i := 3) rfl)
theorem Tim_X11_state : Cond.instanceMethod yX11_state ∈ lw_tbl := tb_6 (List.mem_of_getElem? (i := 18) (by decide +kernel))
theorem se_X11_X11_state : Cond.selects RX11 yX11_state yX11_state ∈ wsL_law := wi_21 (List.mem_of_getElem? (i := 4) rfl)
theorem Tse_X11_X11_state : Cond.selects RX11 yX11_state yX11_state ∈ lw_tbl := pv_7 (n := 47) (List.mem_of_getElem? (i := 5) rfl)
theorem cd_X11_state : Cond.code yX11_state cX11_state 4 (some .int) ∈ wsL_law := wi_21 (List.mem_of_getElem? (i := 5) rfl)
theorem Tcd_X11_state : Cond.code yX11_state cX11_state 4 (some .int) ∈ lw_tbl := tb_6 (List.mem_of_getElem? (i := 19) rfl)
theorem ml_X11_235 : Cond.methodLink RX11 235 yX11_shift ∈ wsL_law := wi_21 (List.mem_of_getElem? (i := 6) rfl)
theorem Tml_X11_235 : Cond.methodLink RX11 235 yX11_shift ∈ lw_tbl := tb_6 (List.mem_of_getElem? (i := 20) (by decide +kernel))
theorem im_X11_shift : Cond.instanceMethod yX11_shift ∈ wsL_law := wi_21 (List.mem_of_getElem? (i := 7) rfl)
theorem Tim_X11_shift : Cond.instanceMethod yX11_shift ∈ lw_tbl := tb_6 (List.mem_of_getElem? (i := 22) (by decide +kernel))
theorem se_X11_X11_shift : Cond.selects RX11 yX11_shift yX11_shift ∈ wsL_law := wi_21 (List.mem_of_getElem? (i := 8) rfl)
theorem Tse_X11_X11_shift : Cond.selects RX11 yX11_shift yX11_shift ∈ lw_tbl := pv_7 (n := 47) (List.mem_of_getElem? (i := 6) rfl)
theorem cd_X11_shift : Cond.code yX11_shift cX11_shift 3 (some .int) ∈ wsL_law := wi_21 (List.mem_of_getElem? (i := 9) rfl)
theorem Tcd_X11_shift : Cond.code yX11_shift cX11_shift 3 (some .int) ∈ lw_tbl := tb_6 (List.mem_of_getElem? (i := 23) rfl)
theorem ml_X11_238 : Cond.methodLink RX11 238 yX11_goesOn ∈ wsL_law := wi_21 (List.mem_of_getElem? (i := 10) rfl)
theorem Tml_X11_238 : Cond.methodLink RX11 238 yX11_goesOn ∈ lw_tbl := tb_6 (List.mem_of_getElem? (i := 24) (by decide +kernel))
theorem im_X11_goesOn : Cond.instanceMethod yX11_goesOn ∈ wsL_law := wi_21 (List.mem_of_getElem? (i := 11) rfl)
theorem Tim_X11_goesOn : Cond.instanceMethod yX11_goesOn ∈ lw_tbl := tb_6 (List.mem_of_getElem? (i := 26) (by decide +kernel))
theorem se_X11_X11_goesOn : Cond.selects RX11 yX11_goesOn yX11_goesOn ∈ wsL_law := wi_21 (List.mem_of_getElem? (i := 12) rfl)
theorem Tse_X11_X11_goesOn : Cond.selects RX11 yX11_goesOn yX11_goesOn ∈ lw_tbl := pv_7 (n := 47) (List.mem_of_getElem? (i := 7) rfl)
theorem cd_X11_goesOn : Cond.code yX11_goesOn cX11_goesOn 9 (some .boolean) ∈ wsL_law := wi_21 (List.mem_of_getElem? (i := 13) rfl)
theorem Tcd_X11_goesOn : Cond.code yX11_goesOn cX11_goesOn 9 (some .boolean) ∈ lw_tbl := tb_6 (List.mem_of_getElem? (i := 27) rfl)
theorem ml_X11_242 : Cond.methodLink RX11 242 yX11_crossing ∈ wsL_law := wi_21 (List.mem_of_getElem? (i := 14) rfl)
theorem Tml_X11_242 : Cond.methodLink RX11 242 yX11_crossing ∈ lw_tbl := tb_6 (List.mem_of_getElem? (i := 28) (by decide +kernel))
theorem im_X11_crossing : Cond.instanceMethod yX11_crossing ∈ wsL_law := wi_21 (List.mem_of_getElem? (i := 15) rfl)
theorem Tim_X11_crossing : Cond.instanceMethod yX11_crossing ∈ lw_tbl := tb_6 (List.mem_of_getElem? (i := 30) (by decide +kernel))
theorem se_X11_X11_crossing : Cond.selects RX11 yX11_crossing yX11_crossing ∈ wsL_law := wi_21 (List.mem_of_getElem? (i := 16) rfl)
theorem Tse_X11_X11_crossing : Cond.selects RX11 yX11_crossing yX11_crossing ∈ lw_tbl := pv_7 (n := 47) (List.mem_of_getElem? (i := 8) rfl)
theorem cd_X11_crossing : Cond.code yX11_crossing cX11_crossing 7 (some .int) ∈ wsL_law := wi_21 (List.mem_of_getElem? (i := 17) rfl)
theorem Tcd_X11_crossing : Cond.code yX11_crossing cX11_crossing 7 (some .int) ∈ lw_tbl := tb_6 (List.mem_of_getElem? (i := 31) rfl)
theorem ml_X11_225 : Cond.methodLink RX11 225 yX11_firstNote ∈ wsL_law := wi_21 (List.mem_of_getElem? (i := 18) rfl)
theorem Tml_X11_225 : Cond.methodLink RX11 225 yX11_firstNote ∈ lw_tbl := tb_6 (List.mem_of_getElem? (i := 32) (by decide +kernel))
theorem im_X11_firstNote : Cond.instanceMethod yX11_firstNote ∈ wsL_law := wi_21 (List.mem_of_getElem? (i := 19) rfl)
theorem Tim_X11_firstNote : Cond.instanceMethod yX11_firstNote ∈ lw_tbl := tb_6 (List.mem_of_getElem? (i := 34) (by decide +kernel))
theorem se_X11_X11_firstNote : Cond.selects RX11 yX11_firstNote yX11_firstNote ∈ wsL_law := wi_21 (List.mem_of_getElem? (i := 20) rfl)
theorem Tse_X11_X11_firstNote : Cond.selects RX11 yX11_firstNote yX11_firstNote ∈ lw_tbl := pv_7 (n := 47) (List.mem_of_getElem? (i := 9) rfl)
theorem cd_X11_firstNote : Cond.code yX11_firstNote cX11_firstNote 4 (some .int) ∈ wsL_law := wi_21 (List.mem_of_getElem? (i := 21) rfl)
theorem Tcd_X11_firstNote : Cond.code yX11_firstNote cX11_firstNote 4 (some .int) ∈ lw_tbl := tb_6 (List.mem_of_getElem? (i := 35) rfl)
theorem ml_X11_252 : Cond.methodLink RX11 252 yX11_picks ∈ wsL_law := wi_21 (List.mem_of_getElem? (i := 22) rfl)
theorem Tml_X11_252 : Cond.methodLink RX11 252 yX11_picks ∈ lw_tbl := tb_6 (List.mem_of_getElem? (i := 36) (by decide +kernel))
theorem im_X11_picks : Cond.instanceMethod yX11_picks ∈ wsL_law := wi_21 (List.mem_of_getElem? (i := 23) rfl)
theorem Tim_X11_picks : Cond.instanceMethod yX11_picks ∈ lw_tbl := tb_6 (List.mem_of_getElem? (i := 38) (by decide +kernel))
theorem se_X11_X11_picks : Cond.selects RX11 yX11_picks yX11_picks ∈ wsL_law := wi_21 (List.mem_of_getElem? (i := 24) rfl)
theorem Tse_X11_X11_picks : Cond.selects RX11 yX11_picks yX11_picks ∈ lw_tbl := pv_7 (n := 47) (List.mem_of_getElem? (i := 10) rfl)
theorem cd_X11_picks : Cond.code yX11_picks cX11_picks 9 (some .boolean) ∈ wsL_law := wi_21 (List.mem_of_getElem? (i := 25) rfl)
theorem Tcd_X11_picks : Cond.code yX11_picks cX11_picks 9 (some .boolean) ∈ lw_tbl := tb_6 (List.mem_of_getElem? (i := 39) rfl)
theorem ml_X11_255 : Cond.methodLink RX11 255 yX11_breakAt ∈ wsL_law := wi_21 (List.mem_of_getElem? (i := 26) rfl)
theorem Tml_X11_255 : Cond.methodLink RX11 255 yX11_breakAt ∈ lw_tbl := tb_6 (List.mem_of_getElem? (i := 40) (by decide +kernel))
theorem im_X11_breakAt : Cond.instanceMethod yX11_breakAt ∈ wsL_law := wi_21 (List.mem_of_getElem? (i := 27) rfl)
theorem Tim_X11_breakAt : Cond.instanceMethod yX11_breakAt ∈ lw_tbl := tb_6 (List.mem_of_getElem? (i := 42) (by decide +kernel))
theorem se_X11_X11_breakAt : Cond.selects RX11 yX11_breakAt yX11_breakAt ∈ wsL_law := wi_21 (List.mem_of_getElem? (i := 28) rfl)
theorem Tse_X11_X11_breakAt : Cond.selects RX11 yX11_breakAt yX11_breakAt ∈ lw_tbl := pv_7 (n := 47) (List.mem_of_getElem? (i := 11) rfl)
theorem cd_X11_breakAt : Cond.code yX11_breakAt cX11_breakAt 7 (some .int) ∈ wsL_law := wi_21 (List.mem_of_getElem? (i := 29) rfl)
theorem Tcd_X11_breakAt : Cond.code yX11_breakAt cX11_breakAt 7 (some .int) ∈ lw_tbl := tb_6 (List.mem_of_getElem? (i := 43) rfl)
theorem tA_21 : ∀ w ∈ wA_21, w ∈ lw_tbl := List.forall_mem_cons.mpr ⟨Tse_X11_X11_on, List.forall_mem_cons.mpr ⟨Tcd_X11_on, List.forall_mem_cons.mpr ⟨Tml_X11_232, List.forall_mem_cons.mpr ⟨Tim_X11_state, List.forall_mem_cons.mpr ⟨Tse_X11_X11_state, List.forall_mem_cons.mpr ⟨Tcd_X11_state, List.forall_mem_cons.mpr ⟨Tml_X11_235, List.forall_mem_cons.mpr ⟨Tim_X11_shift, List.forall_mem_cons.mpr ⟨Tse_X11_X11_shift, List.forall_mem_cons.mpr ⟨Tcd_X11_shift, List.forall_mem_cons.mpr ⟨Tml_X11_238, List.forall_mem_cons.mpr ⟨Tim_X11_goesOn, List.forall_mem_cons.mpr ⟨Tse_X11_X11_goesOn, List.forall_mem_cons.mpr ⟨Tcd_X11_goesOn, List.forall_mem_cons.mpr ⟨Tml_X11_242, List.forall_mem_cons.mpr ⟨Tim_X11_crossing, List.forall_mem_cons.mpr ⟨Tse_X11_X11_crossing, List.forall_mem_cons.mpr ⟨Tcd_X11_crossing, List.forall_mem_cons.mpr ⟨Tml_X11_225, List.forall_mem_cons.mpr ⟨Tim_X11_firstNote, List.forall_mem_cons.mpr ⟨Tse_X11_X11_firstNote, List.forall_mem_cons.mpr ⟨Tcd_X11_firstNote, List.forall_mem_cons.mpr ⟨Tml_X11_252, List.forall_mem_cons.mpr ⟨Tim_X11_picks, List.forall_mem_cons.mpr ⟨Tse_X11_X11_picks, List.forall_mem_cons.mpr ⟨Tcd_X11_picks, List.forall_mem_cons.mpr ⟨Tml_X11_255, List.forall_mem_cons.mpr ⟨Tim_X11_breakAt, List.forall_mem_cons.mpr ⟨Tse_X11_X11_breakAt, List.forall_mem_cons.mpr ⟨Tcd_X11_breakAt, fun _ h => absurd h List.not_mem_nil⟩⟩⟩⟩⟩⟩⟩⟩⟩⟩⟩⟩⟩⟩⟩⟩⟩⟩⟩⟩⟩⟩⟩⟩⟩⟩⟩⟩⟩⟩
theorem ml_X11_259 : Cond.methodLink RX11 259 yX11_takeWay ∈ wsL_law := wi_22 (List.mem_of_getElem? (i := 0) rfl)
theorem Tml_X11_259 : Cond.methodLink RX11 259 yX11_takeWay ∈ lw_tbl := tb_6 (List.mem_of_getElem? (i := 44) (by decide +kernel))
theorem im_X11_takeWay : Cond.instanceMethod yX11_takeWay ∈ wsL_law := wi_22 (List.mem_of_getElem? (i := 1) rfl)
theorem Tim_X11_takeWay : Cond.instanceMethod yX11_takeWay ∈ lw_tbl := tb_6 (List.mem_of_getElem? (i := 46) (by decide +kernel))
theorem se_X11_X11_takeWay : Cond.selects RX11 yX11_takeWay yX11_takeWay ∈ wsL_law := wi_22 (List.mem_of_getElem? (i := 2) rfl)
theorem Tse_X11_X11_takeWay : Cond.selects RX11 yX11_takeWay yX11_takeWay ∈ lw_tbl := pv_7 (n := 47) (List.mem_of_getElem? (i := 12) rfl)
theorem cd_X11_takeWay : Cond.code yX11_takeWay cX11_takeWay 3 none ∈ wsL_law := wi_22 (List.mem_of_getElem? (i := 3) rfl)
theorem Tcd_X11_takeWay : Cond.code yX11_takeWay cX11_takeWay 3 none ∈ lw_tbl := tb_6 (List.mem_of_getElem? (i := 47) rfl)
theorem ml_L_74 : Cond.methodLink RL 74 yX10_next ∈ wsL_law := wi_22 (List.mem_of_getElem? (i := 4) rfl)
theorem Tml_L_74 : Cond.methodLink RL 74 yX10_next ∈ lw_tbl := tb_3 (List.mem_of_getElem? (i := 176) (by decide +kernel))
theorem im_X10_next : Cond.instanceMethod yX10_next ∈ wsL_law := wi_22 (List.mem_of_getElem? (i := 5) rfl)
theorem Tim_X10_next : Cond.instanceMethod yX10_next ∈ lw_tbl := tb_3 (List.mem_of_getElem? (i := 177) (by decide +kernel))
theorem se_X10_X10_next : Cond.selects RX10 yX10_next yX10_next ∈ wsL_law := wi_22 (List.mem_of_getElem? (i := 6) rfl)
theorem Tse_X10_X10_next : Cond.selects RX10 yX10_next yX10_next ∈ lw_tbl := tb_3 (List.mem_of_getElem? (i := 178) (by decide +kernel))
theorem cd_X10_next : Cond.code yX10_next cX10_next 1 (some .int) ∈ wsL_law := wi_22 (List.mem_of_getElem? (i := 7) rfl)
theorem Tcd_X10_next : Cond.code yX10_next cX10_next 1 (some .int) ∈ lw_tbl := tb_3 (List.mem_of_getElem? (i := 179) rfl)
theorem ml_L_77 : Cond.methodLink RL 77 yX11_next ∈ wsL_law := wi_22 (List.mem_of_getElem? (i := 8) rfl)
theorem Tml_L_77 : Cond.methodLink RL 77 yX11_next ∈ lw_tbl := tb_6 (List.mem_of_getElem? (i := 48) (by decide +kernel))
theorem im_X11_next : Cond.instanceMethod yX11_next ∈ wsL_law := wi_22 (List.mem_of_getElem? (i := 9) rfl)
theorem Tim_X11_next : Cond.instanceMethod yX11_next ∈ lw_tbl := tb_6 (List.mem_of_getElem? (i := 49) (by decide +kernel))
theorem se_X11_X11_next : Cond.selects RX11 yX11_next yX11_next ∈ wsL_law := wi_22 (List.mem_of_getElem? (i := 10) rfl)
theorem Tse_X11_X11_next : Cond.selects RX11 yX11_next yX11_next ∈ lw_tbl := tb_6 (List.mem_of_getElem? (i := 50) (by decide +kernel))
theorem cd_X11_next : Cond.code yX11_next cX11_next 1 (some .int) ∈ wsL_law := wi_22 (List.mem_of_getElem? (i := 11) rfl)
theorem Tcd_X11_next : Cond.code yX11_next cX11_next 1 (some .int) ∈ lw_tbl := tb_6 (List.mem_of_getElem? (i := 51) rfl)
theorem ml_L_78 : Cond.methodLink RL 78 yX10_at ∈ wsL_law := wi_22 (List.mem_of_getElem? (i := 12) rfl)
theorem Tml_L_78 : Cond.methodLink RL 78 yX10_at ∈ lw_tbl := tb_3 (List.mem_of_getElem? (i := 180) (by decide +kernel))
theorem im_X10_at : Cond.instanceMethod yX10_at ∈ wsL_law := wi_22 (List.mem_of_getElem? (i := 13) rfl)
theorem Tim_X10_at : Cond.instanceMethod yX10_at ∈ lw_tbl := tb_3 (List.mem_of_getElem? (i := 181) (by decide +kernel))
theorem se_X10_X10_at : Cond.selects RX10 yX10_at yX10_at ∈ wsL_law := wi_22 (List.mem_of_getElem? (i := 14) rfl)
theorem Tse_X10_X10_at : Cond.selects RX10 yX10_at yX10_at ∈ lw_tbl := tb_3 (List.mem_of_getElem? (i := 182) (by decide +kernel))
theorem cd_X10_at : Cond.code yX10_at cX10_at 2 (some .int) ∈ wsL_law := wi_22 (List.mem_of_getElem? (i := 15) rfl)
theorem Tcd_X10_at : Cond.code yX10_at cX10_at 2 (some .int) ∈ lw_tbl := tb_3 (List.mem_of_getElem? (i := 183) rfl)
theorem im_X8_start : Cond.instanceMethod yX8_start ∈ wsL_law := wi_22 (List.mem_of_getElem? (i := 16) rfl)
theorem Tim_X8_start : Cond.instanceMethod yX8_start ∈ lw_tbl := tb_3 (List.mem_of_getElem? (i := 186) (by decide +kernel))
theorem se_X8_X8_start : Cond.selects RX8 yX8_start yX8_start ∈ wsL_law := wi_22 (List.mem_of_getElem? (i := 17) rfl)
theorem Tse_X8_X8_start : Cond.selects RX8 yX8_start yX8_start ∈ lw_tbl := pv_4 (n := 5) (List.mem_of_getElem? (i := 2) rfl)
theorem cd_X8_start : Cond.code yX8_start cX8_start 1 (some .int) ∈ wsL_law := wi_22 (List.mem_of_getElem? (i := 18) rfl)
theorem Tcd_X8_start : Cond.code yX8_start cX8_start 1 (some .int) ∈ lw_tbl := tb_3 (List.mem_of_getElem? (i := 187) rfl)
theorem ml_L_81 : Cond.methodLink RL 81 yX11_at ∈ wsL_law := wi_22 (List.mem_of_getElem? (i := 19) rfl)
theorem Tml_L_81 : Cond.methodLink RL 81 yX11_at ∈ lw_tbl := tb_6 (List.mem_of_getElem? (i := 52) (by decide +kernel))
theorem im_X11_at : Cond.instanceMethod yX11_at ∈ wsL_law := wi_22 (List.mem_of_getElem? (i := 20) rfl)
theorem Tim_X11_at : Cond.instanceMethod yX11_at ∈ lw_tbl := tb_6 (List.mem_of_getElem? (i := 53) (by decide +kernel))
theorem se_X11_X11_at : Cond.selects RX11 yX11_at yX11_at ∈ wsL_law := wi_22 (List.mem_of_getElem? (i := 21) rfl)
theorem Tse_X11_X11_at : Cond.selects RX11 yX11_at yX11_at ∈ lw_tbl := tb_6 (List.mem_of_getElem? (i := 54) (by decide +kernel))
theorem cd_X11_at : Cond.code yX11_at cX11_at 2 (some .int) ∈ wsL_law := wi_22 (List.mem_of_getElem? (i := 22) rfl)
theorem Tcd_X11_at : Cond.code yX11_at cX11_at 2 (some .int) ∈ lw_tbl := tb_6 (List.mem_of_getElem? (i := 55) rfl)
theorem ml_L_82 : Cond.methodLink RL 82 yX10_rank ∈ wsL_law := wi_22 (List.mem_of_getElem? (i := 23) rfl)
theorem Tml_L_82 : Cond.methodLink RL 82 yX10_rank ∈ lw_tbl := tb_3 (List.mem_of_getElem? (i := 188) (by decide +kernel))
theorem im_X10_rank : Cond.instanceMethod yX10_rank ∈ wsL_law := wi_22 (List.mem_of_getElem? (i := 24) rfl)
theorem Tim_X10_rank : Cond.instanceMethod yX10_rank ∈ lw_tbl := tb_3 (List.mem_of_getElem? (i := 189) (by decide +kernel))
theorem se_X10_X10_rank : Cond.selects RX10 yX10_rank yX10_rank ∈ wsL_law := wi_22 (List.mem_of_getElem? (i := 25) rfl)
theorem Tse_X10_X10_rank : Cond.selects RX10 yX10_rank yX10_rank ∈ lw_tbl := tb_3 (List.mem_of_getElem? (i := 190) (by decide +kernel))
theorem cd_X10_rank : Cond.code yX10_rank cX10_rank 4 (some .int) ∈ wsL_law := wi_22 (List.mem_of_getElem? (i := 26) rfl)
theorem Tcd_X10_rank : Cond.code yX10_rank cX10_rank 4 (some .int) ∈ lw_tbl := tb_3 (List.mem_of_getElem? (i := 191) rfl)
theorem ml_X10_250 : Cond.methodLink RX10 250 Lib.Math.max.name ∈ wsL_law := wi_22 (List.mem_of_getElem? (i := 27) rfl)
theorem Tml_X10_250 : Cond.methodLink RX10 250 Lib.Math.max.name ∈ lw_tbl := tb_3 (List.mem_of_getElem? (i := 196) (by decide +kernel))
theorem im_X9_costOfSpan : Cond.instanceMethod yX9_costOfSpan ∈ wsL_law := wi_22 (List.mem_of_getElem? (i := 28) rfl)
theorem Tim_X9_costOfSpan : Cond.instanceMethod yX9_costOfSpan ∈ lw_tbl := tb_3 (List.mem_of_getElem? (i := 194) (by decide +kernel))
theorem se_X9_X9_costOfSpan : Cond.selects RX9 yX9_costOfSpan yX9_costOfSpan ∈ wsL_law := wi_22 (List.mem_of_getElem? (i := 29) rfl)
theorem Tse_X9_X9_costOfSpan : Cond.selects RX9 yX9_costOfSpan yX9_costOfSpan ∈ lw_tbl := pv_4 (n := 8) (List.mem_of_getElem? (i := 3) rfl)
theorem tA_22 : ∀ w ∈ wA_22, w ∈ lw_tbl := List.forall_mem_cons.mpr ⟨Tml_X11_259, List.forall_mem_cons.mpr ⟨Tim_X11_takeWay, List.forall_mem_cons.mpr ⟨Tse_X11_X11_takeWay, List.forall_mem_cons.mpr ⟨Tcd_X11_takeWay, List.forall_mem_cons.mpr ⟨Tml_L_74, List.forall_mem_cons.mpr ⟨Tim_X10_next, List.forall_mem_cons.mpr ⟨Tse_X10_X10_next, List.forall_mem_cons.mpr ⟨Tcd_X10_next, List.forall_mem_cons.mpr ⟨Tml_L_77, List.forall_mem_cons.mpr ⟨Tim_X11_next, List.forall_mem_cons.mpr ⟨Tse_X11_X11_next, List.forall_mem_cons.mpr ⟨Tcd_X11_next, List.forall_mem_cons.mpr ⟨Tml_L_78, List.forall_mem_cons.mpr ⟨Tim_X10_at, List.forall_mem_cons.mpr ⟨Tse_X10_X10_at, List.forall_mem_cons.mpr ⟨Tcd_X10_at, List.forall_mem_cons.mpr ⟨Tim_X8_start, List.forall_mem_cons.mpr ⟨Tse_X8_X8_start, List.forall_mem_cons.mpr ⟨Tcd_X8_start, List.forall_mem_cons.mpr ⟨Tml_L_81, List.forall_mem_cons.mpr ⟨Tim_X11_at, List.forall_mem_cons.mpr ⟨Tse_X11_X11_at, List.forall_mem_cons.mpr ⟨Tcd_X11_at, List.forall_mem_cons.mpr ⟨Tml_L_82, List.forall_mem_cons.mpr ⟨Tim_X10_rank, List.forall_mem_cons.mpr ⟨Tse_X10_X10_rank, List.forall_mem_cons.mpr ⟨Tcd_X10_rank, List.forall_mem_cons.mpr ⟨Tml_X10_250, List.forall_mem_cons.mpr ⟨Tim_X9_costOfSpan, List.forall_mem_cons.mpr ⟨Tse_X9_X9_costOfSpan, fun _ h => absurd h List.not_mem_nil⟩⟩⟩⟩⟩⟩⟩⟩⟩⟩⟩⟩⟩⟩⟩⟩⟩⟩⟩⟩⟩⟩⟩⟩⟩⟩⟩⟩⟩⟩
theorem cd_X9_costOfSpan : Cond.code yX9_costOfSpan cX9_costOfSpan 13 (some .int) ∈ wsL_law := wi_23 (List.mem_of_getElem? (i := 0) rfl)
theorem Tcd_X9_costOfSpan : Cond.code yX9_costOfSpan cX9_costOfSpan 13 (some .int) ∈ lw_tbl := tb_3 (List.mem_of_getElem? (i := 195) rfl)
theorem ml_L_85 : Cond.methodLink RL 85 yX11_rank ∈ wsL_law := wi_23 (List.mem_of_getElem? (i := 1) rfl)
theorem Tml_L_85 : Cond.methodLink RL 85 yX11_rank ∈ lw_tbl := tb_6 (List.mem_of_getElem? (i := 56) (by decide +kernel))
theorem im_X11_rank : Cond.instanceMethod yX11_rank ∈ wsL_law := wi_23 (List.mem_of_getElem? (i := 2) rfl)
theorem Tim_X11_rank : Cond.instanceMethod yX11_rank ∈ lw_tbl := tb_6 (List.mem_of_getElem? (i := 57) (by decide +kernel))
theorem se_X11_X11_rank : Cond.selects RX11 yX11_rank yX11_rank ∈ wsL_law := wi_23 (List.mem_of_getElem? (i := 3) rfl)
theorem Tse_X11_X11_rank : Cond.selects RX11 yX11_rank yX11_rank ∈ lw_tbl := tb_6 (List.mem_of_getElem? (i := 58) (by decide +kernel))
theorem cd_X11_rank : Cond.code yX11_rank cX11_rank 5 (some .int) ∈ wsL_law := wi_23 (List.mem_of_getElem? (i := 4) rfl)
theorem Tcd_X11_rank : Cond.code yX11_rank cX11_rank 5 (some .int) ∈ lw_tbl := tb_6 (List.mem_of_getElem? (i := 59) rfl)
theorem ml_X11_262 : Cond.methodLink RX11 262 yX11_costOf ∈ wsL_law := wi_23 (List.mem_of_getElem? (i := 5) rfl)
theorem Tml_X11_262 : Cond.methodLink RX11 262 yX11_costOf ∈ lw_tbl := tb_6 (List.mem_of_getElem? (i := 60) (by decide +kernel))
theorem im_X11_costOf : Cond.instanceMethod yX11_costOf ∈ wsL_law := wi_23 (List.mem_of_getElem? (i := 6) rfl)
theorem Tim_X11_costOf : Cond.instanceMethod yX11_costOf ∈ lw_tbl := tb_6 (List.mem_of_getElem? (i := 62) (by decide +kernel))
theorem se_X11_X11_costOf : Cond.selects RX11 yX11_costOf yX11_costOf ∈ wsL_law := wi_23 (List.mem_of_getElem? (i := 7) rfl)
theorem Tse_X11_X11_costOf : Cond.selects RX11 yX11_costOf yX11_costOf ∈ lw_tbl := pv_7 (n := 47) (List.mem_of_getElem? (i := 13) rfl)
theorem cd_X11_costOf : Cond.code yX11_costOf cX11_costOf 8 (some .int) ∈ wsL_law := wi_23 (List.mem_of_getElem? (i := 8) rfl)
theorem Tcd_X11_costOf : Cond.code yX11_costOf cX11_costOf 8 (some .int) ∈ lw_tbl := tb_6 (List.mem_of_getElem? (i := 63) rfl)
theorem ml_L_86 : Cond.methodLink RL 86 yX10_say ∈ wsL_law := wi_23 (List.mem_of_getElem? (i := 9) rfl)
theorem Tml_L_86 : Cond.methodLink RL 86 yX10_say ∈ lw_tbl := tb_3 (List.mem_of_getElem? (i := 197) (by decide +kernel))
theorem im_X10_say : Cond.instanceMethod yX10_say ∈ wsL_law := wi_23 (List.mem_of_getElem? (i := 10) rfl)
theorem Tim_X10_say : Cond.instanceMethod yX10_say ∈ lw_tbl := tb_3 (List.mem_of_getElem? (i := 198) (by decide +kernel))
theorem se_X10_X10_say : Cond.selects RX10 yX10_say yX10_say ∈ wsL_law := wi_23 (List.mem_of_getElem? (i := 11) rfl)
theorem Tse_X10_X10_say : Cond.selects RX10 yX10_say yX10_say ∈ lw_tbl := tb_3 (List.mem_of_getElem? (i := 199) (by decide +kernel))
theorem cd_X10_say : Cond.code yX10_say cX10_say 2 (some .int) ∈ wsL_law := wi_23 (List.mem_of_getElem? (i := 12) rfl)
theorem Tcd_X10_say : Cond.code yX10_say cX10_say 2 (some .int) ∈ lw_tbl := tb_3 (List.mem_of_getElem? (i := 200) rfl)
theorem ml_L_89 : Cond.methodLink RL 89 yX11_say ∈ wsL_law := wi_23 (List.mem_of_getElem? (i := 13) rfl)
theorem Tml_L_89 : Cond.methodLink RL 89 yX11_say ∈ lw_tbl := tb_6 (List.mem_of_getElem? (i := 64) (by decide +kernel))
theorem im_X11_say : Cond.instanceMethod yX11_say ∈ wsL_law := wi_23 (List.mem_of_getElem? (i := 14) rfl)
theorem Tim_X11_say : Cond.instanceMethod yX11_say ∈ lw_tbl := tb_6 (List.mem_of_getElem? (i := 65) (by decide +kernel))
theorem se_X11_X11_say : Cond.selects RX11 yX11_say yX11_say ∈ wsL_law := wi_23 (List.mem_of_getElem? (i := 15) rfl)
theorem Tse_X11_X11_say : Cond.selects RX11 yX11_say yX11_say ∈ lw_tbl := tb_6 (List.mem_of_getElem? (i := 66) (by decide +kernel))
theorem cd_X11_say : Cond.code yX11_say cX11_say 2 (some .int) ∈ wsL_law := wi_23 (List.mem_of_getElem? (i := 16) rfl)
theorem Tcd_X11_say : Cond.code yX11_say cX11_say 2 (some .int) ∈ lw_tbl := tb_6 (List.mem_of_getElem? (i := 67) rfl)
theorem ml_L_90 : Cond.methodLink RL 90 yX10_check ∈ wsL_law := wi_23 (List.mem_of_getElem? (i := 17) rfl)
theorem Tml_L_90 : Cond.methodLink RL 90 yX10_check ∈ lw_tbl := tb_3 (List.mem_of_getElem? (i := 201) (by decide +kernel))
theorem im_X10_check : Cond.instanceMethod yX10_check ∈ wsL_law := wi_23 (List.mem_of_getElem? (i := 18) rfl)
theorem Tim_X10_check : Cond.instanceMethod yX10_check ∈ lw_tbl := tb_3 (List.mem_of_getElem? (i := 202) (by decide +kernel))
theorem se_X10_X10_check : Cond.selects RX10 yX10_check yX10_check ∈ wsL_law := wi_23 (List.mem_of_getElem? (i := 19) rfl)
theorem Tse_X10_X10_check : Cond.selects RX10 yX10_check yX10_check ∈ lw_tbl := tb_3 (List.mem_of_getElem? (i := 203) (by decide +kernel))
theorem cd_X10_check : Cond.code yX10_check cX10_check 3 (some .int) ∈ wsL_law := wi_23 (List.mem_of_getElem? (i := 20) rfl)
theorem Tcd_X10_check : Cond.code yX10_check cX10_check 3 (some .int) ∈ lw_tbl := tb_3 (List.mem_of_getElem? (i := 204) rfl)
theorem ml_X10_255 : Cond.methodLink RX10 255 yX10_goesOn ∈ wsL_law := wi_23 (List.mem_of_getElem? (i := 21) rfl)
theorem Tml_X10_255 : Cond.methodLink RX10 255 yX10_goesOn ∈ lw_tbl := tb_3 (List.mem_of_getElem? (i := 205) (by decide +kernel))
theorem im_X10_goesOn : Cond.instanceMethod yX10_goesOn ∈ wsL_law := wi_23 (List.mem_of_getElem? (i := 22) rfl)
theorem Tim_X10_goesOn : Cond.instanceMethod yX10_goesOn ∈ lw_tbl := tb_3 (List.mem_of_getElem? (i := 207) (by decide +kernel))
theorem se_X10_X10_goesOn : Cond.selects RX10 yX10_goesOn yX10_goesOn ∈ wsL_law := wi_23 (List.mem_of_getElem? (i := 23) rfl)
theorem Tse_X10_X10_goesOn : Cond.selects RX10 yX10_goesOn yX10_goesOn ∈ lw_tbl := pv_4 (n := 15) (List.mem_of_getElem? (i := 4) rfl)
theorem cd_X10_goesOn : Cond.code yX10_goesOn cX10_goesOn 6 (some .boolean) ∈ wsL_law := wi_23 (List.mem_of_getElem? (i := 24) rfl)
theorem Tcd_X10_goesOn : Cond.code yX10_goesOn cX10_goesOn 6 (some .boolean) ∈ lw_tbl := tb_3 (List.mem_of_getElem? (i := 208) rfl)
theorem ml_L_93 : Cond.methodLink RL 93 yX11_check ∈ wsL_law := wi_23 (List.mem_of_getElem? (i := 25) rfl)
theorem Tml_L_93 : Cond.methodLink RL 93 yX11_check ∈ lw_tbl := tb_6 (List.mem_of_getElem? (i := 68) (by decide +kernel))
theorem im_X11_check : Cond.instanceMethod yX11_check ∈ wsL_law := wi_23 (List.mem_of_getElem? (i := 26) rfl)
theorem Tim_X11_check : Cond.instanceMethod yX11_check ∈ lw_tbl := tb_6 (List.mem_of_getElem? (i := 69) (by decide +kernel))
theorem se_X11_X11_check : Cond.selects RX11 yX11_check yX11_check ∈ wsL_law := wi_23 (List.mem_of_getElem? (i := 27) rfl)
theorem Tse_X11_X11_check : Cond.selects RX11 yX11_check yX11_check ∈ lw_tbl := tb_6 (List.mem_of_getElem? (i := 70) (by decide +kernel))
theorem cd_X11_check : Cond.code yX11_check cX11_check 3 (some .int) ∈ wsL_law := wi_23 (List.mem_of_getElem? (i := 28) rfl)
theorem Tcd_X11_check : Cond.code yX11_check cX11_check 3 (some .int) ∈ lw_tbl := tb_6 (List.mem_of_getElem? (i := 71) rfl)
theorem ml_L_94 : Cond.methodLink RL 94 yX10_arrange ∈ wsL_law := wi_23 (List.mem_of_getElem? (i := 29) rfl)
theorem Tml_L_94 : Cond.methodLink RL 94 yX10_arrange ∈ lw_tbl := tb_3 (List.mem_of_getElem? (i := 211) (by decide +kernel))
theorem tA_23 : ∀ w ∈ wA_23, w ∈ lw_tbl := List.forall_mem_cons.mpr ⟨Tcd_X9_costOfSpan, List.forall_mem_cons.mpr ⟨Tml_L_85, List.forall_mem_cons.mpr ⟨Tim_X11_rank, List.forall_mem_cons.mpr ⟨Tse_X11_X11_rank, List.forall_mem_cons.mpr ⟨Tcd_X11_rank, List.forall_mem_cons.mpr ⟨Tml_X11_262, List.forall_mem_cons.mpr ⟨Tim_X11_costOf, List.forall_mem_cons.mpr ⟨Tse_X11_X11_costOf, List.forall_mem_cons.mpr ⟨Tcd_X11_costOf, List.forall_mem_cons.mpr ⟨Tml_L_86, List.forall_mem_cons.mpr ⟨Tim_X10_say, List.forall_mem_cons.mpr ⟨Tse_X10_X10_say, List.forall_mem_cons.mpr ⟨Tcd_X10_say, List.forall_mem_cons.mpr ⟨Tml_L_89, List.forall_mem_cons.mpr ⟨Tim_X11_say, List.forall_mem_cons.mpr ⟨Tse_X11_X11_say, List.forall_mem_cons.mpr ⟨Tcd_X11_say, List.forall_mem_cons.mpr ⟨Tml_L_90, List.forall_mem_cons.mpr ⟨Tim_X10_check, List.forall_mem_cons.mpr ⟨Tse_X10_X10_check, List.forall_mem_cons.mpr ⟨Tcd_X10_check, List.forall_mem_cons.mpr ⟨Tml_X10_255, List.forall_mem_cons.mpr ⟨Tim_X10_goesOn, List.forall_mem_cons.mpr ⟨Tse_X10_X10_goesOn, List.forall_mem_cons.mpr ⟨Tcd_X10_goesOn, List.forall_mem_cons.mpr ⟨Tml_L_93, List.forall_mem_cons.mpr ⟨Tim_X11_check, List.forall_mem_cons.mpr ⟨Tse_X11_X11_check, List.forall_mem_cons.mpr ⟨Tcd_X11_check, List.forall_mem_cons.mpr ⟨Tml_L_94, fun _ h => absurd h List.not_mem_nil⟩⟩⟩⟩⟩⟩⟩⟩⟩⟩⟩⟩⟩⟩⟩⟩⟩⟩⟩⟩⟩⟩⟩⟩⟩⟩⟩⟩⟩⟩
theorem im_X10_arrange : Cond.instanceMethod yX10_arrange ∈ wsL_law := wi_24 (List.mem_of_getElem? (i := 0) rfl)
theorem Tim_X10_arrange : Cond.instanceMethod yX10_arrange ∈ lw_tbl := tb_3 (List.mem_of_getElem? (i := 212) (by decide +kernel))
theorem se_X10_X10_arrange : Cond.selects RX10 yX10_arrange yX10_arrange ∈ wsL_law := wi_24 (List.mem_of_getElem? (i := 1) rfl)
theorem Tse_X10_X10_arrange : Cond.selects RX10 yX10_arrange yX10_arrange ∈ lw_tbl := tb_3 (List.mem_of_getElem? (i := 213) (by decide +kernel))
theorem cd_X10_arrange : Cond.code yX10_arrange cX10_arrange 2 (some .int) ∈ wsL_law := wi_24 (List.mem_of_getElem? (i := 2) rfl)
theorem Tcd_X10_arrange : Cond.code yX10_arrange cX10_arrange 2 (some .int) ∈ lw_tbl := tb_3 (List.mem_of_getElem? (i := 214) rfl)
theorem cl_X10_258 : Cond.classLink RX10 258 RX0 ∈ wsL_law := wi_24 (List.mem_of_getElem? (i := 3) rfl)
theorem Tcl_X10_258 : Cond.classLink RX10 258 RX0 ∈ lw_tbl := tb_3 (List.mem_of_getElem? (i := 215) (by decide +kernel))
theorem is_X0 : Cond.instantiable RX0 10 ∈ wsL_law := wi_24 (List.mem_of_getElem? (i := 4) rfl)
theorem Tis_X0 : Cond.instantiable RX0 10 ∈ lw_tbl := tb_3 (List.mem_of_getElem? (i := 216) (by decide +kernel))
theorem iz_X0 : Cond.initialized RX0 ∈ wsL_law := wi_24 (List.mem_of_getElem? (i := 5) rfl)
theorem Tiz_X0 : Cond.initialized RX0 ∈ lw_tbl := tb_1 (List.mem_of_getElem? (i := 14) (by decide +kernel))
theorem im_X0_init : Cond.instanceMethod yX0_init ∈ wsL_law := wi_24 (List.mem_of_getElem? (i := 6) rfl)
theorem Tim_X0_init : Cond.instanceMethod yX0_init ∈ lw_tbl := tb_3 (List.mem_of_getElem? (i := 218) (by decide +kernel))
theorem cd_X0_init : Cond.code yX0_init cX0_init 3 none ∈ wsL_law := wi_24 (List.mem_of_getElem? (i := 7) rfl)
theorem Tcd_X0_init : Cond.code yX0_init cX0_init 3 none ∈ lw_tbl := tb_3 (List.mem_of_getElem? (i := 219) rfl)
theorem ml_X0_3 : Cond.methodLink RX0 3 objectInit ∈ wsL_law := wi_24 (List.mem_of_getElem? (i := 8) rfl)
theorem Tml_X0_3 : Cond.methodLink RX0 3 objectInit ∈ lw_tbl := tb_3 (List.mem_of_getElem? (i := 220) (by decide +kernel))
theorem fl_X0_11 : Cond.fieldLink RX0 11 "LuteFingers$Arranger" "rows" "[J" ∈ wsL_law := wi_24 (List.mem_of_getElem? (i := 9) rfl)
theorem Tfl_X0_11 : Cond.fieldLink RX0 11 "LuteFingers$Arranger" "rows" "[J" ∈ lw_tbl := tb_3 (List.mem_of_getElem? (i := 223) (by decide +kernel))
theorem fl_X0_15 : Cond.fieldLink RX0 15 "LuteFingers$Arranger" "sizes" "[I" ∈ wsL_law := wi_24 (List.mem_of_getElem? (i := 10) rfl)
theorem Tfl_X0_15 : Cond.fieldLink RX0 15 "LuteFingers$Arranger" "sizes" "[I" ∈ lw_tbl := tb_3 (List.mem_of_getElem? (i := 224) (by decide +kernel))
theorem fl_X0_19 : Cond.fieldLink RX0 19 "LuteFingers$Arranger" "values" "[I" ∈ wsL_law := wi_24 (List.mem_of_getElem? (i := 11) rfl)
theorem Tfl_X0_19 : Cond.fieldLink RX0 19 "LuteFingers$Arranger" "values" "[I" ∈ lw_tbl := tb_3 (List.mem_of_getElem? (i := 225) (by decide +kernel))
theorem fl_X0_22 : Cond.fieldLink RX0 22 "LuteFingers$Arranger" "askMasks" "[J" ∈ wsL_law := wi_24 (List.mem_of_getElem? (i := 12) rfl)
theorem Tfl_X0_22 : Cond.fieldLink RX0 22 "LuteFingers$Arranger" "askMasks" "[J" ∈ lw_tbl := tb_3 (List.mem_of_getElem? (i := 226) (by decide +kernel))
theorem fl_X0_25 : Cond.fieldLink RX0 25 "LuteFingers$Arranger" "askBits" "[J" ∈ wsL_law := wi_24 (List.mem_of_getElem? (i := 13) rfl)
theorem Tfl_X0_25 : Cond.fieldLink RX0 25 "LuteFingers$Arranger" "askBits" "[J" ∈ lw_tbl := tb_3 (List.mem_of_getElem? (i := 227) (by decide +kernel))
theorem fl_X0_28 : Cond.fieldLink RX0 28 "LuteFingers$Arranger" "askValues" "[I" ∈ wsL_law := wi_24 (List.mem_of_getElem? (i := 14) rfl)
theorem Tfl_X0_28 : Cond.fieldLink RX0 28 "LuteFingers$Arranger" "askValues" "[I" ∈ lw_tbl := tb_3 (List.mem_of_getElem? (i := 228) (by decide +kernel))
theorem fl_X0_31 : Cond.fieldLink RX0 31 "LuteFingers$Arranger" "asks" "I" ∈ wsL_law := wi_24 (List.mem_of_getElem? (i := 15) rfl)
theorem Tfl_X0_31 : Cond.fieldLink RX0 31 "LuteFingers$Arranger" "asks" "I" ∈ lw_tbl := tb_3 (List.mem_of_getElem? (i := 229) (by decide +kernel))
theorem fl_X0_35 : Cond.fieldLink RX0 35 "LuteFingers$Arranger" "leftMasks" "[I" ∈ wsL_law := wi_24 (List.mem_of_getElem? (i := 16) rfl)
theorem Tfl_X0_35 : Cond.fieldLink RX0 35 "LuteFingers$Arranger" "leftMasks" "[I" ∈ lw_tbl := tb_3 (List.mem_of_getElem? (i := 230) (by decide +kernel))
theorem fl_X0_38 : Cond.fieldLink RX0 38 "LuteFingers$Arranger" "piece" "LLuteFingers$Piece;" ∈ wsL_law := wi_24 (List.mem_of_getElem? (i := 17) rfl)
theorem Tfl_X0_38 : Cond.fieldLink RX0 38 "LuteFingers$Arranger" "piece" "LLuteFingers$Piece;" ∈ lw_tbl := tb_3 (List.mem_of_getElem? (i := 221) (by decide +kernel))
theorem fl_X0_42 : Cond.fieldLink RX0 42 "LuteFingers$Arranger" "search" "LLuteFingers$GripSearch;" ∈ wsL_law := wi_24 (List.mem_of_getElem? (i := 18) rfl)
theorem Tfl_X0_42 : Cond.fieldLink RX0 42 "LuteFingers$Arranger" "search" "LLuteFingers$GripSearch;" ∈ lw_tbl := tb_3 (List.mem_of_getElem? (i := 222) (by decide +kernel))
theorem im_X0_listGrips : Cond.instanceMethod yX0_listGrips ∈ wsL_law := wi_24 (List.mem_of_getElem? (i := 19) rfl)
theorem Tim_X0_listGrips : Cond.instanceMethod yX0_listGrips ∈ lw_tbl := tb_4 (List.mem_of_getElem? (i := 15) (by decide +kernel))
theorem se_X0_X0_listGrips : Cond.selects RX0 yX0_listGrips yX0_listGrips ∈ wsL_law := wi_24 (List.mem_of_getElem? (i := 20) rfl)
theorem Tse_X0_X0_listGrips : Cond.selects RX0 yX0_listGrips yX0_listGrips ∈ lw_tbl := pv_4 (n := 10) (List.mem_of_getElem? (i := 5) rfl)
theorem cd_X0_listGrips : Cond.code yX0_listGrips cX0_listGrips 4 (some .boolean) ∈ wsL_law := wi_24 (List.mem_of_getElem? (i := 21) rfl)
theorem Tcd_X0_listGrips : Cond.code yX0_listGrips cX0_listGrips 4 (some .boolean) ∈ lw_tbl := tb_4 (List.mem_of_getElem? (i := 16) rfl)
theorem im_X0_chooseLeft : Cond.instanceMethod yX0_chooseLeft ∈ wsL_law := wi_24 (List.mem_of_getElem? (i := 22) rfl)
theorem Tim_X0_chooseLeft : Cond.instanceMethod yX0_chooseLeft ∈ lw_tbl := tb_4 (List.mem_of_getElem? (i := 21) (by decide +kernel))
theorem se_X0_X0_chooseLeft : Cond.selects RX0 yX0_chooseLeft yX0_chooseLeft ∈ wsL_law := wi_24 (List.mem_of_getElem? (i := 23) rfl)
theorem Tse_X0_X0_chooseLeft : Cond.selects RX0 yX0_chooseLeft yX0_chooseLeft ∈ lw_tbl := pv_4 (n := 10) (List.mem_of_getElem? (i := 6) rfl)
theorem cd_X0_chooseLeft : Cond.code yX0_chooseLeft cX0_chooseLeft 2 (some .int) ∈ wsL_law := wi_24 (List.mem_of_getElem? (i := 24) rfl)
theorem Tcd_X0_chooseLeft : Cond.code yX0_chooseLeft cX0_chooseLeft 2 (some .int) ∈ lw_tbl := tb_4 (List.mem_of_getElem? (i := 22) rfl)
theorem ml_X0_60 : Cond.methodLink RX0 60 yX0_addAsk ∈ wsL_law := wi_24 (List.mem_of_getElem? (i := 25) rfl)
theorem Tml_X0_60 : Cond.methodLink RX0 60 yX0_addAsk ∈ lw_tbl := tb_4 (List.mem_of_getElem? (i := 23) (by decide +kernel))
theorem im_X0_addAsk : Cond.instanceMethod yX0_addAsk ∈ wsL_law := wi_24 (List.mem_of_getElem? (i := 26) rfl)
theorem Tim_X0_addAsk : Cond.instanceMethod yX0_addAsk ∈ lw_tbl := tb_4 (List.mem_of_getElem? (i := 25) (by decide +kernel))
theorem se_X0_X0_addAsk : Cond.selects RX0 yX0_addAsk yX0_addAsk ∈ wsL_law := wi_24 (List.mem_of_getElem? (i := 27) rfl)
theorem Tse_X0_X0_addAsk : Cond.selects RX0 yX0_addAsk yX0_addAsk ∈ lw_tbl := pv_4 (n := 10) (List.mem_of_getElem? (i := 7) rfl)
theorem cd_X0_addAsk : Cond.code yX0_addAsk cX0_addAsk 7 none ∈ wsL_law := wi_24 (List.mem_of_getElem? (i := 28) rfl)
theorem Tcd_X0_addAsk : Cond.code yX0_addAsk cX0_addAsk 7 none ∈ lw_tbl := tb_4 (List.mem_of_getElem? (i := 26) rfl)
theorem ml_X0_77 : Cond.methodLink RX0 77 Lib.Math.min.name ∈ wsL_law := wi_24 (List.mem_of_getElem? (i := 29) rfl)
theorem Tml_X0_77 : Cond.methodLink RX0 77 Lib.Math.min.name ∈ lw_tbl := tb_4 (List.mem_of_getElem? (i := 27) (by decide +kernel))
theorem tA_24 : ∀ w ∈ wA_24, w ∈ lw_tbl := List.forall_mem_cons.mpr ⟨Tim_X10_arrange, List.forall_mem_cons.mpr ⟨Tse_X10_X10_arrange, List.forall_mem_cons.mpr ⟨Tcd_X10_arrange, List.forall_mem_cons.mpr ⟨Tcl_X10_258, List.forall_mem_cons.mpr ⟨Tis_X0, List.forall_mem_cons.mpr ⟨Tiz_X0, List.forall_mem_cons.mpr ⟨Tim_X0_init, List.forall_mem_cons.mpr ⟨Tcd_X0_init, List.forall_mem_cons.mpr ⟨Tml_X0_3, List.forall_mem_cons.mpr ⟨Tfl_X0_11, List.forall_mem_cons.mpr ⟨Tfl_X0_15, List.forall_mem_cons.mpr ⟨Tfl_X0_19, List.forall_mem_cons.mpr ⟨Tfl_X0_22, List.forall_mem_cons.mpr ⟨Tfl_X0_25, List.forall_mem_cons.mpr ⟨Tfl_X0_28, List.forall_mem_cons.mpr ⟨Tfl_X0_31, List.forall_mem_cons.mpr ⟨Tfl_X0_35, List.forall_mem_cons.mpr ⟨Tfl_X0_38, List.forall_mem_cons.mpr ⟨Tfl_X0_42, List.forall_mem_cons.mpr ⟨Tim_X0_listGrips, List.forall_mem_cons.mpr ⟨Tse_X0_X0_listGrips, List.forall_mem_cons.mpr ⟨Tcd_X0_listGrips, List.forall_mem_cons.mpr ⟨Tim_X0_chooseLeft, List.forall_mem_cons.mpr ⟨Tse_X0_X0_chooseLeft, List.forall_mem_cons.mpr ⟨Tcd_X0_chooseLeft, List.forall_mem_cons.mpr ⟨Tml_X0_60, List.forall_mem_cons.mpr ⟨Tim_X0_addAsk, List.forall_mem_cons.mpr ⟨Tse_X0_X0_addAsk, List.forall_mem_cons.mpr ⟨Tcd_X0_addAsk, List.forall_mem_cons.mpr ⟨Tml_X0_77, fun _ h => absurd h List.not_mem_nil⟩⟩⟩⟩⟩⟩⟩⟩⟩⟩⟩⟩⟩⟩⟩⟩⟩⟩⟩⟩⟩⟩⟩⟩⟩⟩⟩⟩⟩⟩
theorem ml_X0_64 : Cond.methodLink RX0 64 yX0_valueTick ∈ wsL_law := wi_25 (List.mem_of_getElem? (i := 0) rfl)
theorem Tml_X0_64 : Cond.methodLink RX0 64 yX0_valueTick ∈ lw_tbl := tb_4 (List.mem_of_getElem? (i := 28) (by decide +kernel))
theorem im_X0_valueTick : Cond.instanceMethod yX0_valueTick ∈ wsL_law := wi_25 (List.mem_of_getElem? (i := 1) rfl)
theorem Tim_X0_valueTick : Cond.instanceMethod yX0_valueTick ∈ lw_tbl := tb_4 (List.mem_of_getElem? (i := 30) (by decide +kernel))
theorem se_X0_X0_valueTick : Cond.selects RX0 yX0_valueTick yX0_valueTick ∈ wsL_law := wi_25 (List.mem_of_getElem? (i := 2) rfl)
theorem Tse_X0_X0_valueTick : Cond.selects RX0 yX0_valueTick yX0_valueTick ∈ lw_tbl := pv_4 (n := 10) (List.mem_of_getElem? (i := 8) rfl)
theorem cd_X0_valueTick : Cond.code yX0_valueTick cX0_valueTick 8 none ∈ wsL_law := wi_25 (List.mem_of_getElem? (i := 3) rfl)
theorem Tcd_X0_valueTick : Cond.code yX0_valueTick cX0_valueTick 8 none ∈ lw_tbl := tb_4 (List.mem_of_getElem? (i := 31) rfl)
theorem ct_X0_90 : Cond.constant RX0 90 (2147483647) ∈ wsL_law := wi_25 (List.mem_of_getElem? (i := 4) rfl)
theorem Tct_X0_90 : Cond.constant RX0 90 (2147483647) ∈ lw_tbl := tb_4 (List.mem_of_getElem? (i := 41) (by decide +kernel))
theorem ml_X0_83 : Cond.methodLink RX0 83 yX0_ownValue ∈ wsL_law := wi_25 (List.mem_of_getElem? (i := 5) rfl)
theorem Tml_X0_83 : Cond.methodLink RX0 83 yX0_ownValue ∈ lw_tbl := tb_4 (List.mem_of_getElem? (i := 32) (by decide +kernel))
theorem im_X0_ownValue : Cond.instanceMethod yX0_ownValue ∈ wsL_law := wi_25 (List.mem_of_getElem? (i := 6) rfl)
theorem Tim_X0_ownValue : Cond.instanceMethod yX0_ownValue ∈ lw_tbl := tb_4 (List.mem_of_getElem? (i := 34) (by decide +kernel))
theorem se_X0_X0_ownValue : Cond.selects RX0 yX0_ownValue yX0_ownValue ∈ wsL_law := wi_25 (List.mem_of_getElem? (i := 7) rfl)
theorem Tse_X0_X0_ownValue : Cond.selects RX0 yX0_ownValue yX0_ownValue ∈ lw_tbl := pv_4 (n := 10) (List.mem_of_getElem? (i := 9) rfl)
theorem cd_X0_ownValue : Cond.code yX0_ownValue cX0_ownValue 5 (some .int) ∈ wsL_law := wi_25 (List.mem_of_getElem? (i := 8) rfl)
theorem Tcd_X0_ownValue : Cond.code yX0_ownValue cX0_ownValue 5 (some .int) ∈ lw_tbl := tb_4 (List.mem_of_getElem? (i := 35) rfl)
theorem ml_X0_95 : Cond.methodLink RX0 95 yJ6_bitCount_0f7a4 ∈ wsL_law := wi_25 (List.mem_of_getElem? (i := 9) rfl)
theorem Tml_X0_95 : Cond.methodLink RX0 95 yJ6_bitCount_0f7a4 ∈ lw_tbl := tb_4 (List.mem_of_getElem? (i := 36) (by decide +kernel))
theorem ml_X0_86 : Cond.methodLink RX0 86 yX0_valueBehind ∈ wsL_law := wi_25 (List.mem_of_getElem? (i := 10) rfl)
theorem Tml_X0_86 : Cond.methodLink RX0 86 yX0_valueBehind ∈ lw_tbl := tb_4 (List.mem_of_getElem? (i := 37) (by decide +kernel))
theorem im_X0_valueBehind : Cond.instanceMethod yX0_valueBehind ∈ wsL_law := wi_25 (List.mem_of_getElem? (i := 11) rfl)
theorem Tim_X0_valueBehind : Cond.instanceMethod yX0_valueBehind ∈ lw_tbl := tb_4 (List.mem_of_getElem? (i := 39) (by decide +kernel))
theorem se_X0_X0_valueBehind : Cond.selects RX0 yX0_valueBehind yX0_valueBehind ∈ wsL_law := wi_25 (List.mem_of_getElem? (i := 12) rfl)
theorem Tse_X0_X0_valueBehind : Cond.selects RX0 yX0_valueBehind yX0_valueBehind ∈ lw_tbl := pv_4 (n := 10) (List.mem_of_getElem? (i := 10) rfl)
theorem cd_X0_valueBehind : Cond.code yX0_valueBehind cX0_valueBehind 5 (some .int) ∈ wsL_law := wi_25 (List.mem_of_getElem? (i := 13) rfl)
theorem Tcd_X0_valueBehind : Cond.code yX0_valueBehind cX0_valueBehind 5 (some .int) ∈ lw_tbl := tb_4 (List.mem_of_getElem? (i := 40) rfl)
theorem ml_X0_68 : Cond.methodLink RX0 68 yX0_collectAsks ∈ wsL_law := wi_25 (List.mem_of_getElem? (i := 14) rfl)
theorem Tml_X0_68 : Cond.methodLink RX0 68 yX0_collectAsks ∈ lw_tbl := tb_4 (List.mem_of_getElem? (i := 42) (by decide +kernel))
theorem im_X0_collectAsks : Cond.instanceMethod yX0_collectAsks ∈ wsL_law := wi_25 (List.mem_of_getElem? (i := 15) rfl)
theorem Tim_X0_collectAsks : Cond.instanceMethod yX0_collectAsks ∈ lw_tbl := tb_4 (List.mem_of_getElem? (i := 44) (by decide +kernel))
theorem se_X0_X0_collectAsks : Cond.selects RX0 yX0_collectAsks yX0_collectAsks ∈ wsL_law := wi_25 (List.mem_of_getElem? (i := 16) rfl)
theorem Tse_X0_X0_collectAsks : Cond.selects RX0 yX0_collectAsks yX0_collectAsks ∈ lw_tbl := pv_4 (n := 10) (List.mem_of_getElem? (i := 11) rfl)
theorem cd_X0_collectAsks : Cond.code yX0_collectAsks cX0_collectAsks 7 none ∈ wsL_law := wi_25 (List.mem_of_getElem? (i := 17) rfl)
theorem Tcd_X0_collectAsks : Cond.code yX0_collectAsks cX0_collectAsks 7 none ∈ lw_tbl := tb_4 (List.mem_of_getElem? (i := 45) rfl)
theorem ct_X0_104 : Cond.constantLong RX0 104 (-1) ∈ wsL_law := wi_25 (List.mem_of_getElem? (i := 18) rfl)
theorem Tct_X0_104 : Cond.constantLong RX0 104 (-1) ∈ lw_tbl := tb_4 (List.mem_of_getElem? (i := 47) (by decide +kernel))
theorem ml_X0_71 : Cond.methodLink RX0 71 yX0_leastValue ∈ wsL_law := wi_25 (List.mem_of_getElem? (i := 19) rfl)
theorem Tml_X0_71 : Cond.methodLink RX0 71 yX0_leastValue ∈ lw_tbl := tb_4 (List.mem_of_getElem? (i := 49) (by decide +kernel))
theorem im_X0_leastValue : Cond.instanceMethod yX0_leastValue ∈ wsL_law := wi_25 (List.mem_of_getElem? (i := 20) rfl)
theorem Tim_X0_leastValue : Cond.instanceMethod yX0_leastValue ∈ lw_tbl := tb_4 (List.mem_of_getElem? (i := 51) (by decide +kernel))
theorem se_X0_X0_leastValue : Cond.selects RX0 yX0_leastValue yX0_leastValue ∈ wsL_law := wi_25 (List.mem_of_getElem? (i := 21) rfl)
theorem Tse_X0_X0_leastValue : Cond.selects RX0 yX0_leastValue yX0_leastValue ∈ lw_tbl := pv_4 (n := 10) (List.mem_of_getElem? (i := 12) rfl)
theorem cd_X0_leastValue : Cond.code yX0_leastValue cX0_leastValue 6 (some .int) ∈ wsL_law := wi_25 (List.mem_of_getElem? (i := 22) rfl)
theorem Tcd_X0_leastValue : Cond.code yX0_leastValue cX0_leastValue 6 (some .int) ∈ lw_tbl := tb_4 (List.mem_of_getElem? (i := 52) rfl)
theorem ml_X0_74 : Cond.methodLink RX0 74 yX0_walk ∈ wsL_law := wi_25 (List.mem_of_getElem? (i := 23) rfl)
theorem Tml_X0_74 : Cond.methodLink RX0 74 yX0_walk ∈ lw_tbl := tb_4 (List.mem_of_getElem? (i := 53) (by decide +kernel))
theorem im_X0_walk : Cond.instanceMethod yX0_walk ∈ wsL_law := wi_25 (List.mem_of_getElem? (i := 24) rfl)
theorem Tim_X0_walk : Cond.instanceMethod yX0_walk ∈ lw_tbl := tb_4 (List.mem_of_getElem? (i := 55) (by decide +kernel))
theorem se_X0_X0_walk : Cond.selects RX0 yX0_walk yX0_walk ∈ wsL_law := wi_25 (List.mem_of_getElem? (i := 25) rfl)
theorem Tse_X0_X0_walk : Cond.selects RX0 yX0_walk yX0_walk ∈ lw_tbl := pv_4 (n := 10) (List.mem_of_getElem? (i := 13) rfl)
theorem cd_X0_walk : Cond.code yX0_walk cX0_walk 10 none ∈ wsL_law := wi_25 (List.mem_of_getElem? (i := 26) rfl)
theorem Tcd_X0_walk : Cond.code yX0_walk cX0_walk 10 none ∈ lw_tbl := tb_4 (List.mem_of_getElem? (i := 56) rfl)
theorem ml_X0_109 : Cond.methodLink RX0 109 yX0_gripsWith ∈ wsL_law := wi_25 (List.mem_of_getElem? (i := 27) rfl)
theorem Tml_X0_109 : Cond.methodLink RX0 109 yX0_gripsWith ∈ lw_tbl := tb_4 (List.mem_of_getElem? (i := 57) (by decide +kernel))
theorem im_X0_gripsWith : Cond.instanceMethod yX0_gripsWith ∈ wsL_law := wi_25 (List.mem_of_getElem? (i := 28) rfl)
theorem Tim_X0_gripsWith : Cond.instanceMethod yX0_gripsWith ∈ lw_tbl := tb_4 (List.mem_of_getElem? (i := 59) (by decide +kernel))
theorem se_X0_X0_gripsWith : Cond.selects RX0 yX0_gripsWith yX0_gripsWith ∈ wsL_law := wi_25 (List.mem_of_getElem? (i := 29) rfl)
theorem Tse_X0_X0_gripsWith : Cond.selects RX0 yX0_gripsWith yX0_gripsWith ∈ lw_tbl := pv_4 (n := 10) (List.mem_of_getElem? (i := 14) rfl)
theorem tA_25 : ∀ w ∈ wA_25, w ∈ lw_tbl := List.forall_mem_cons.mpr ⟨Tml_X0_64, List.forall_mem_cons.mpr ⟨Tim_X0_valueTick, List.forall_mem_cons.mpr ⟨Tse_X0_X0_valueTick, List.forall_mem_cons.mpr ⟨Tcd_X0_valueTick, List.forall_mem_cons.mpr ⟨Tct_X0_90, List.forall_mem_cons.mpr ⟨Tml_X0_83, List.forall_mem_cons.mpr ⟨Tim_X0_ownValue, List.forall_mem_cons.mpr ⟨Tse_X0_X0_ownValue, List.forall_mem_cons.mpr ⟨Tcd_X0_ownValue, List.forall_mem_cons.mpr ⟨Tml_X0_95, List.forall_mem_cons.mpr ⟨Tml_X0_86, List.forall_mem_cons.mpr ⟨Tim_X0_valueBehind, List.forall_mem_cons.mpr ⟨Tse_X0_X0_valueBehind, List.forall_mem_cons.mpr ⟨Tcd_X0_valueBehind, List.forall_mem_cons.mpr ⟨Tml_X0_68, List.forall_mem_cons.mpr ⟨Tim_X0_collectAsks, List.forall_mem_cons.mpr ⟨Tse_X0_X0_collectAsks, List.forall_mem_cons.mpr ⟨Tcd_X0_collectAsks, List.forall_mem_cons.mpr ⟨Tct_X0_104, List.forall_mem_cons.mpr ⟨Tml_X0_71, List.forall_mem_cons.mpr ⟨Tim_X0_leastValue, List.forall_mem_cons.mpr ⟨Tse_X0_X0_leastValue, List.forall_mem_cons.mpr ⟨Tcd_X0_leastValue, List.forall_mem_cons.mpr ⟨Tml_X0_74, List.forall_mem_cons.mpr ⟨Tim_X0_walk, List.forall_mem_cons.mpr ⟨Tse_X0_X0_walk, List.forall_mem_cons.mpr ⟨Tcd_X0_walk, List.forall_mem_cons.mpr ⟨Tml_X0_109, List.forall_mem_cons.mpr ⟨Tim_X0_gripsWith, List.forall_mem_cons.mpr ⟨Tse_X0_X0_gripsWith, fun _ h => absurd h List.not_mem_nil⟩⟩⟩⟩⟩⟩⟩⟩⟩⟩⟩⟩⟩⟩⟩⟩⟩⟩⟩⟩⟩⟩⟩⟩⟩⟩⟩⟩⟩⟩
theorem cd_X0_gripsWith : Cond.code yX0_gripsWith cX0_gripsWith 8 (some .int) ∈ wsL_law := wi_26 (List.mem_of_getElem? (i := 0) rfl)
theorem Tcd_X0_gripsWith : Cond.code yX0_gripsWith cX0_gripsWith 8 (some .int) ∈ lw_tbl := tb_4 (List.mem_of_getElem? (i := 60) rfl)
theorem ml_X0_113 : Cond.methodLink RX0 113 yX0_follows ∈ wsL_law := wi_26 (List.mem_of_getElem? (i := 1) rfl)
theorem Tml_X0_113 : Cond.methodLink RX0 113 yX0_follows ∈ lw_tbl := tb_4 (List.mem_of_getElem? (i := 61) (by decide +kernel))
theorem im_X0_follows : Cond.instanceMethod yX0_follows ∈ wsL_law := wi_26 (List.mem_of_getElem? (i := 2) rfl)
theorem Tim_X0_follows : Cond.instanceMethod yX0_follows ∈ lw_tbl := tb_4 (List.mem_of_getElem? (i := 63) (by decide +kernel))
theorem se_X0_X0_follows : Cond.selects RX0 yX0_follows yX0_follows ∈ wsL_law := wi_26 (List.mem_of_getElem? (i := 3) rfl)
theorem Tse_X0_X0_follows : Cond.selects RX0 yX0_follows yX0_follows ∈ lw_tbl := pv_4 (n := 10) (List.mem_of_getElem? (i := 15) rfl)
theorem cd_X0_follows : Cond.code yX0_follows cX0_follows 11 (some .boolean) ∈ wsL_law := wi_26 (List.mem_of_getElem? (i := 4) rfl)
theorem Tcd_X0_follows : Cond.code yX0_follows cX0_follows 11 (some .boolean) ∈ lw_tbl := tb_4 (List.mem_of_getElem? (i := 64) rfl)
theorem ml_X10_274 : Cond.methodLink RX10 274 yX10_firstCost ∈ wsL_law := wi_26 (List.mem_of_getElem? (i := 5) rfl)
theorem Tml_X10_274 : Cond.methodLink RX10 274 yX10_firstCost ∈ lw_tbl := tb_4 (List.mem_of_getElem? (i := 66) (by decide +kernel))
theorem im_X10_firstCost : Cond.instanceMethod yX10_firstCost ∈ wsL_law := wi_26 (List.mem_of_getElem? (i := 6) rfl)
theorem Tim_X10_firstCost : Cond.instanceMethod yX10_firstCost ∈ lw_tbl := tb_4 (List.mem_of_getElem? (i := 68) (by decide +kernel))
theorem se_X10_X10_firstCost : Cond.selects RX10 yX10_firstCost yX10_firstCost ∈ wsL_law := wi_26 (List.mem_of_getElem? (i := 7) rfl)
theorem Tse_X10_X10_firstCost : Cond.selects RX10 yX10_firstCost yX10_firstCost ∈ lw_tbl := pv_5 (n := 15) (List.mem_of_getElem? (i := 0) rfl)
theorem cd_X10_firstCost : Cond.code yX10_firstCost cX10_firstCost 2 (some .int) ∈ wsL_law := wi_26 (List.mem_of_getElem? (i := 8) rfl)
theorem Tcd_X10_firstCost : Cond.code yX10_firstCost cX10_firstCost 2 (some .int) ∈ lw_tbl := tb_4 (List.mem_of_getElem? (i := 69) rfl)
theorem im_X9_headCost : Cond.instanceMethod yX9_headCost ∈ wsL_law := wi_26 (List.mem_of_getElem? (i := 9) rfl)
theorem Tim_X9_headCost : Cond.instanceMethod yX9_headCost ∈ lw_tbl := tb_4 (List.mem_of_getElem? (i := 72) (by decide +kernel))
theorem se_X9_X9_headCost : Cond.selects RX9 yX9_headCost yX9_headCost ∈ wsL_law := wi_26 (List.mem_of_getElem? (i := 10) rfl)
theorem Tse_X9_X9_headCost : Cond.selects RX9 yX9_headCost yX9_headCost ∈ lw_tbl := pv_5 (n := 8) (List.mem_of_getElem? (i := 1) rfl)
theorem cd_X9_headCost : Cond.code yX9_headCost cX9_headCost 2 (some .int) ∈ wsL_law := wi_26 (List.mem_of_getElem? (i := 11) rfl)
theorem Tcd_X9_headCost : Cond.code yX9_headCost cX9_headCost 2 (some .int) ∈ lw_tbl := tb_4 (List.mem_of_getElem? (i := 73) rfl)
theorem ml_L_97 : Cond.methodLink RL 97 yX11_arrange ∈ wsL_law := wi_26 (List.mem_of_getElem? (i := 12) rfl)
theorem Tml_L_97 : Cond.methodLink RL 97 yX11_arrange ∈ lw_tbl := tb_6 (List.mem_of_getElem? (i := 72) (by decide +kernel))
theorem im_X11_arrange : Cond.instanceMethod yX11_arrange ∈ wsL_law := wi_26 (List.mem_of_getElem? (i := 13) rfl)
theorem Tim_X11_arrange : Cond.instanceMethod yX11_arrange ∈ lw_tbl := tb_6 (List.mem_of_getElem? (i := 73) (by decide +kernel))
theorem se_X11_X11_arrange : Cond.selects RX11 yX11_arrange yX11_arrange ∈ wsL_law := wi_26 (List.mem_of_getElem? (i := 14) rfl)
theorem Tse_X11_X11_arrange : Cond.selects RX11 yX11_arrange yX11_arrange ∈ lw_tbl := tb_6 (List.mem_of_getElem? (i := 74) (by decide +kernel))
theorem cd_X11_arrange : Cond.code yX11_arrange cX11_arrange 6 (some .int) ∈ wsL_law := wi_26 (List.mem_of_getElem? (i := 15) rfl)
theorem Tcd_X11_arrange : Cond.code yX11_arrange cX11_arrange 6 (some .int) ∈ lw_tbl := tb_6 (List.mem_of_getElem? (i := 75) rfl)
theorem ml_X11_269 : Cond.methodLink RX11 269 yX11_least ∈ wsL_law := wi_26 (List.mem_of_getElem? (i := 16) rfl)
theorem Tml_X11_269 : Cond.methodLink RX11 269 yX11_least ∈ lw_tbl := tb_6 (List.mem_of_getElem? (i := 76) (by decide +kernel))
theorem im_X11_least : Cond.instanceMethod yX11_least ∈ wsL_law := wi_26 (List.mem_of_getElem? (i := 17) rfl)
theorem Tim_X11_least : Cond.instanceMethod yX11_least ∈ lw_tbl := tb_6 (List.mem_of_getElem? (i := 78) (by decide +kernel))
theorem se_X11_X11_least : Cond.selects RX11 yX11_least yX11_least ∈ wsL_law := wi_26 (List.mem_of_getElem? (i := 18) rfl)
theorem Tse_X11_X11_least : Cond.selects RX11 yX11_least yX11_least ∈ lw_tbl := pv_7 (n := 47) (List.mem_of_getElem? (i := 14) rfl)
theorem cd_X11_least : Cond.code yX11_least cX11_least 8 (some .int) ∈ wsL_law := wi_26 (List.mem_of_getElem? (i := 19) rfl)
theorem Tcd_X11_least : Cond.code yX11_least cX11_least 8 (some .int) ∈ lw_tbl := tb_6 (List.mem_of_getElem? (i := 79) rfl)
theorem ml_X11_266 : Cond.methodLink RX11 266 yX11_mayLeave ∈ wsL_law := wi_26 (List.mem_of_getElem? (i := 20) rfl)
theorem Tml_X11_266 : Cond.methodLink RX11 266 yX11_mayLeave ∈ lw_tbl := tb_6 (List.mem_of_getElem? (i := 80) (by decide +kernel))
theorem im_X11_mayLeave : Cond.instanceMethod yX11_mayLeave ∈ wsL_law := wi_26 (List.mem_of_getElem? (i := 21) rfl)
theorem Tim_X11_mayLeave : Cond.instanceMethod yX11_mayLeave ∈ lw_tbl := tb_6 (List.mem_of_getElem? (i := 82) (by decide +kernel))
theorem se_X11_X11_mayLeave : Cond.selects RX11 yX11_mayLeave yX11_mayLeave ∈ wsL_law := wi_26 (List.mem_of_getElem? (i := 22) rfl)
theorem Tse_X11_X11_mayLeave : Cond.selects RX11 yX11_mayLeave yX11_mayLeave ∈ lw_tbl := pv_7 (n := 47) (List.mem_of_getElem? (i := 15) rfl)
theorem cd_X11_mayLeave : Cond.code yX11_mayLeave cX11_mayLeave 6 (some .boolean) ∈ wsL_law := wi_26 (List.mem_of_getElem? (i := 23) rfl)
theorem Tcd_X11_mayLeave : Cond.code yX11_mayLeave cX11_mayLeave 6 (some .boolean) ∈ lw_tbl := tb_6 (List.mem_of_getElem? (i := 83) rfl)
theorem ml_X11_272 : Cond.methodLink RX11 272 yX11_own ∈ wsL_law := wi_26 (List.mem_of_getElem? (i := 24) rfl)
theorem Tml_X11_272 : Cond.methodLink RX11 272 yX11_own ∈ lw_tbl := tb_6 (List.mem_of_getElem? (i := 84) (by decide +kernel))
theorem im_X11_own : Cond.instanceMethod yX11_own ∈ wsL_law := wi_26 (List.mem_of_getElem? (i := 25) rfl)
theorem Tim_X11_own : Cond.instanceMethod yX11_own ∈ lw_tbl := tb_6 (List.mem_of_getElem? (i := 86) (by decide +kernel))
theorem se_X11_X11_own : Cond.selects RX11 yX11_own yX11_own ∈ wsL_law := wi_26 (List.mem_of_getElem? (i := 26) rfl)
theorem Tse_X11_X11_own : Cond.selects RX11 yX11_own yX11_own ∈ lw_tbl := pv_8 (n := 47) (List.mem_of_getElem? (i := 0) rfl)
theorem cd_X11_own : Cond.code yX11_own cX11_own 5 (some .int) ∈ wsL_law := wi_26 (List.mem_of_getElem? (i := 27) rfl)
theorem Tcd_X11_own : Cond.code yX11_own cX11_own 5 (some .int) ∈ lw_tbl := tb_6 (List.mem_of_getElem? (i := 87) rfl)
theorem ml_X11_275 : Cond.methodLink RX11 275 yX11_masks ∈ wsL_law := wi_26 (List.mem_of_getElem? (i := 28) rfl)
theorem Tml_X11_275 : Cond.methodLink RX11 275 yX11_masks ∈ lw_tbl := tb_6 (List.mem_of_getElem? (i := 88) (by decide +kernel))
theorem im_X11_masks : Cond.instanceMethod yX11_masks ∈ wsL_law := wi_26 (List.mem_of_getElem? (i := 29) rfl)
theorem Tim_X11_masks : Cond.instanceMethod yX11_masks ∈ lw_tbl := tb_6 (List.mem_of_getElem? (i := 90) (by decide +kernel))
theorem tA_26 : ∀ w ∈ wA_26, w ∈ lw_tbl := List.forall_mem_cons.mpr ⟨Tcd_X0_gripsWith, List.forall_mem_cons.mpr ⟨Tml_X0_113, List.forall_mem_cons.mpr ⟨Tim_X0_follows, List.forall_mem_cons.mpr ⟨Tse_X0_X0_follows, List.forall_mem_cons.mpr ⟨Tcd_X0_follows, List.forall_mem_cons.mpr ⟨Tml_X10_274, List.forall_mem_cons.mpr ⟨Tim_X10_firstCost, List.forall_mem_cons.mpr ⟨Tse_X10_X10_firstCost, List.forall_mem_cons.mpr ⟨Tcd_X10_firstCost, List.forall_mem_cons.mpr ⟨Tim_X9_headCost, List.forall_mem_cons.mpr ⟨Tse_X9_X9_headCost, List.forall_mem_cons.mpr ⟨Tcd_X9_headCost, List.forall_mem_cons.mpr ⟨Tml_L_97, List.forall_mem_cons.mpr ⟨Tim_X11_arrange, List.forall_mem_cons.mpr ⟨Tse_X11_X11_arrange, List.forall_mem_cons.mpr ⟨Tcd_X11_arrange, List.forall_mem_cons.mpr ⟨Tml_X11_269, List.forall_mem_cons.mpr ⟨Tim_X11_least, List.forall_mem_cons.mpr ⟨Tse_X11_X11_least, List.forall_mem_cons.mpr ⟨Tcd_X11_least, List.forall_mem_cons.mpr ⟨Tml_X11_266, List.forall_mem_cons.mpr ⟨Tim_X11_mayLeave, List.forall_mem_cons.mpr ⟨Tse_X11_X11_mayLeave, List.forall_mem_cons.mpr ⟨Tcd_X11_mayLeave, List.forall_mem_cons.mpr ⟨Tml_X11_272, List.forall_mem_cons.mpr ⟨Tim_X11_own, List.forall_mem_cons.mpr ⟨Tse_X11_X11_own, List.forall_mem_cons.mpr ⟨Tcd_X11_own, List.forall_mem_cons.mpr ⟨Tml_X11_275, List.forall_mem_cons.mpr ⟨Tim_X11_masks, fun _ h => absurd h List.not_mem_nil⟩⟩⟩⟩⟩⟩⟩⟩⟩⟩⟩⟩⟩⟩⟩⟩⟩⟩⟩⟩⟩⟩⟩⟩⟩⟩⟩⟩⟩⟩
theorem se_X11_X11_masks : Cond.selects RX11 yX11_masks yX11_masks ∈ wsL_law := wi_27 (List.mem_of_getElem? (i := 0) rfl)
theorem Tse_X11_X11_masks : Cond.selects RX11 yX11_masks yX11_masks ∈ lw_tbl := pv_8 (n := 47) (List.mem_of_getElem? (i := 1) rfl)
theorem cd_X11_masks : Cond.code yX11_masks cX11_masks 5 none ∈ wsL_law := wi_27 (List.mem_of_getElem? (i := 1) rfl)
theorem Tcd_X11_masks : Cond.code yX11_masks cX11_masks 5 none ∈ lw_tbl := tb_6 (List.mem_of_getElem? (i := 91) rfl)
theorem ml_X11_278 : Cond.methodLink RX11 278 yX11_better ∈ wsL_law := wi_27 (List.mem_of_getElem? (i := 2) rfl)
theorem Tml_X11_278 : Cond.methodLink RX11 278 yX11_better ∈ lw_tbl := tb_6 (List.mem_of_getElem? (i := 92) (by decide +kernel))
theorem im_X11_better : Cond.instanceMethod yX11_better ∈ wsL_law := wi_27 (List.mem_of_getElem? (i := 3) rfl)
theorem Tim_X11_better : Cond.instanceMethod yX11_better ∈ lw_tbl := tb_6 (List.mem_of_getElem? (i := 94) (by decide +kernel))
theorem se_X11_X11_better : Cond.selects RX11 yX11_better yX11_better ∈ wsL_law := wi_27 (List.mem_of_getElem? (i := 4) rfl)
theorem Tse_X11_X11_better : Cond.selects RX11 yX11_better yX11_better ∈ lw_tbl := pv_8 (n := 47) (List.mem_of_getElem? (i := 2) rfl)
theorem cd_X11_better : Cond.code yX11_better cX11_better 3 (some .int) ∈ wsL_law := wi_27 (List.mem_of_getElem? (i := 5) rfl)
theorem Tcd_X11_better : Cond.code yX11_better cX11_better 3 (some .int) ∈ lw_tbl := tb_6 (List.mem_of_getElem? (i := 95) rfl)
theorem ml_X11_281 : Cond.methodLink RX11 281 yX11_alive ∈ wsL_law := wi_27 (List.mem_of_getElem? (i := 6) rfl)
theorem Tml_X11_281 : Cond.methodLink RX11 281 yX11_alive ∈ lw_tbl := tb_6 (List.mem_of_getElem? (i := 96) (by decide +kernel))
theorem im_X11_alive : Cond.instanceMethod yX11_alive ∈ wsL_law := wi_27 (List.mem_of_getElem? (i := 7) rfl)
theorem Tim_X11_alive : Cond.instanceMethod yX11_alive ∈ lw_tbl := tb_6 (List.mem_of_getElem? (i := 98) (by decide +kernel))
theorem se_X11_X11_alive : Cond.selects RX11 yX11_alive yX11_alive ∈ wsL_law := wi_27 (List.mem_of_getElem? (i := 8) rfl)
theorem Tse_X11_X11_alive : Cond.selects RX11 yX11_alive yX11_alive ∈ lw_tbl := pv_8 (n := 47) (List.mem_of_getElem? (i := 3) rfl)
theorem cd_X11_alive : Cond.code yX11_alive cX11_alive 9 (some .boolean) ∈ wsL_law := wi_27 (List.mem_of_getElem? (i := 9) rfl)
theorem Tcd_X11_alive : Cond.code yX11_alive cX11_alive 9 (some .boolean) ∈ lw_tbl := tb_6 (List.mem_of_getElem? (i := 99) rfl)
theorem ml_L_98 : Cond.methodLink RL 98 yX10_left ∈ wsL_law := wi_27 (List.mem_of_getElem? (i := 10) rfl)
theorem Tml_L_98 : Cond.methodLink RL 98 yX10_left ∈ lw_tbl := tb_4 (List.mem_of_getElem? (i := 74) (by decide +kernel))
theorem im_X10_left : Cond.instanceMethod yX10_left ∈ wsL_law := wi_27 (List.mem_of_getElem? (i := 11) rfl)
theorem Tim_X10_left : Cond.instanceMethod yX10_left ∈ lw_tbl := tb_4 (List.mem_of_getElem? (i := 75) (by decide +kernel))
theorem se_X10_X10_left : Cond.selects RX10 yX10_left yX10_left ∈ wsL_law := wi_27 (List.mem_of_getElem? (i := 12) rfl)
theorem Tse_X10_X10_left : Cond.selects RX10 yX10_left yX10_left ∈ lw_tbl := tb_4 (List.mem_of_getElem? (i := 76) (by decide +kernel))
theorem cd_X10_left : Cond.code yX10_left cX10_left 2 (some .int) ∈ wsL_law := wi_27 (List.mem_of_getElem? (i := 13) rfl)
theorem Tcd_X10_left : Cond.code yX10_left cX10_left 2 (some .int) ∈ lw_tbl := tb_4 (List.mem_of_getElem? (i := 77) rfl)
theorem ml_L_101 : Cond.methodLink RL 101 yX11_left ∈ wsL_law := wi_27 (List.mem_of_getElem? (i := 14) rfl)
theorem Tml_L_101 : Cond.methodLink RL 101 yX11_left ∈ lw_tbl := tb_6 (List.mem_of_getElem? (i := 100) (by decide +kernel))
theorem im_X11_left : Cond.instanceMethod yX11_left ∈ wsL_law := wi_27 (List.mem_of_getElem? (i := 15) rfl)
theorem Tim_X11_left : Cond.instanceMethod yX11_left ∈ lw_tbl := tb_6 (List.mem_of_getElem? (i := 101) (by decide +kernel))
theorem se_X11_X11_left : Cond.selects RX11 yX11_left yX11_left ∈ wsL_law := wi_27 (List.mem_of_getElem? (i := 16) rfl)
theorem Tse_X11_X11_left : Cond.selects RX11 yX11_left yX11_left ∈ lw_tbl := tb_6 (List.mem_of_getElem? (i := 102) (by decide +kernel))
theorem cd_X11_left : Cond.code yX11_left cX11_left 2 (some .int) ∈ wsL_law := wi_27 (List.mem_of_getElem? (i := 17) rfl)
theorem Tcd_X11_left : Cond.code yX11_left cX11_left 2 (some .int) ∈ lw_tbl := tb_6 (List.mem_of_getElem? (i := 103) rfl)
theorem ml_L_102 : Cond.methodLink RL 102 yX10_rest ∈ wsL_law := wi_27 (List.mem_of_getElem? (i := 18) rfl)
theorem Tml_L_102 : Cond.methodLink RL 102 yX10_rest ∈ lw_tbl := tb_4 (List.mem_of_getElem? (i := 78) (by decide +kernel))
theorem im_X10_rest : Cond.instanceMethod yX10_rest ∈ wsL_law := wi_27 (List.mem_of_getElem? (i := 19) rfl)
theorem Tim_X10_rest : Cond.instanceMethod yX10_rest ∈ lw_tbl := tb_4 (List.mem_of_getElem? (i := 79) (by decide +kernel))
theorem se_X10_X10_rest : Cond.selects RX10 yX10_rest yX10_rest ∈ wsL_law := wi_27 (List.mem_of_getElem? (i := 20) rfl)
theorem Tse_X10_X10_rest : Cond.selects RX10 yX10_rest yX10_rest ∈ lw_tbl := tb_4 (List.mem_of_getElem? (i := 80) (by decide +kernel))
theorem cd_X10_rest : Cond.code yX10_rest cX10_rest 1 (some .int) ∈ wsL_law := wi_27 (List.mem_of_getElem? (i := 21) rfl)
theorem Tcd_X10_rest : Cond.code yX10_rest cX10_rest 1 (some .int) ∈ lw_tbl := tb_4 (List.mem_of_getElem? (i := 81) rfl)
theorem ml_L_105 : Cond.methodLink RL 105 yX11_rest ∈ wsL_law := wi_27 (List.mem_of_getElem? (i := 22) rfl)
theorem Tml_L_105 : Cond.methodLink RL 105 yX11_rest ∈ lw_tbl := tb_6 (List.mem_of_getElem? (i := 104) (by decide +kernel))
theorem im_X11_rest : Cond.instanceMethod yX11_rest ∈ wsL_law := wi_27 (List.mem_of_getElem? (i := 23) rfl)
theorem Tim_X11_rest : Cond.instanceMethod yX11_rest ∈ lw_tbl := tb_6 (List.mem_of_getElem? (i := 105) (by decide +kernel))
theorem se_X11_X11_rest : Cond.selects RX11 yX11_rest yX11_rest ∈ wsL_law := wi_27 (List.mem_of_getElem? (i := 24) rfl)
theorem Tse_X11_X11_rest : Cond.selects RX11 yX11_rest yX11_rest ∈ lw_tbl := tb_6 (List.mem_of_getElem? (i := 106) (by decide +kernel))
theorem cd_X11_rest : Cond.code yX11_rest cX11_rest 1 (some .int) ∈ wsL_law := wi_27 (List.mem_of_getElem? (i := 25) rfl)
theorem Tcd_X11_rest : Cond.code yX11_rest cX11_rest 1 (some .int) ∈ lw_tbl := tb_6 (List.mem_of_getElem? (i := 107) rfl)
theorem ml_L_106 : Cond.methodLink RL 106 yX10_tuning ∈ wsL_law := wi_27 (List.mem_of_getElem? (i := 26) rfl)
theorem Tml_L_106 : Cond.methodLink RL 106 yX10_tuning ∈ lw_tbl := tb_4 (List.mem_of_getElem? (i := 82) (by decide +kernel))
theorem im_X10_tuning : Cond.instanceMethod yX10_tuning ∈ wsL_law := wi_27 (List.mem_of_getElem? (i := 27) rfl)
theorem Tim_X10_tuning : Cond.instanceMethod yX10_tuning ∈ lw_tbl := tb_4 (List.mem_of_getElem? (i := 83) (by decide +kernel))
theorem se_X10_X10_tuning : Cond.selects RX10 yX10_tuning yX10_tuning ∈ wsL_law := wi_27 (List.mem_of_getElem? (i := 28) rfl)
theorem Tse_X10_X10_tuning : Cond.selects RX10 yX10_tuning yX10_tuning ∈ lw_tbl := tb_4 (List.mem_of_getElem? (i := 84) (by decide +kernel))
theorem cd_X10_tuning : Cond.code yX10_tuning cX10_tuning 4 (some .int) ∈ wsL_law := wi_27 (List.mem_of_getElem? (i := 29) rfl)
theorem Tcd_X10_tuning : Cond.code yX10_tuning cX10_tuning 4 (some .int) ∈ lw_tbl := tb_4 (List.mem_of_getElem? (i := 85) rfl)
theorem tA_27 : ∀ w ∈ wA_27, w ∈ lw_tbl := List.forall_mem_cons.mpr ⟨Tse_X11_X11_masks, List.forall_mem_cons.mpr ⟨Tcd_X11_masks, List.forall_mem_cons.mpr ⟨Tml_X11_278, List.forall_mem_cons.mpr ⟨Tim_X11_better, List.forall_mem_cons.mpr ⟨Tse_X11_X11_better, List.forall_mem_cons.mpr ⟨Tcd_X11_better, List.forall_mem_cons.mpr ⟨Tml_X11_281, List.forall_mem_cons.mpr ⟨Tim_X11_alive, List.forall_mem_cons.mpr ⟨Tse_X11_X11_alive, List.forall_mem_cons.mpr ⟨Tcd_X11_alive, List.forall_mem_cons.mpr ⟨Tml_L_98, List.forall_mem_cons.mpr ⟨Tim_X10_left, List.forall_mem_cons.mpr ⟨Tse_X10_X10_left, List.forall_mem_cons.mpr ⟨Tcd_X10_left, List.forall_mem_cons.mpr ⟨Tml_L_101, List.forall_mem_cons.mpr ⟨Tim_X11_left, List.forall_mem_cons.mpr ⟨Tse_X11_X11_left, List.forall_mem_cons.mpr ⟨Tcd_X11_left, List.forall_mem_cons.mpr ⟨Tml_L_102, List.forall_mem_cons.mpr ⟨Tim_X10_rest, List.forall_mem_cons.mpr ⟨Tse_X10_X10_rest, List.forall_mem_cons.mpr ⟨Tcd_X10_rest, List.forall_mem_cons.mpr ⟨Tml_L_105, List.forall_mem_cons.mpr ⟨Tim_X11_rest, List.forall_mem_cons.mpr ⟨Tse_X11_X11_rest, List.forall_mem_cons.mpr ⟨Tcd_X11_rest, List.forall_mem_cons.mpr ⟨Tml_L_106, List.forall_mem_cons.mpr ⟨Tim_X10_tuning, List.forall_mem_cons.mpr ⟨Tse_X10_X10_tuning, List.forall_mem_cons.mpr ⟨Tcd_X10_tuning, fun _ h => absurd h List.not_mem_nil⟩⟩⟩⟩⟩⟩⟩⟩⟩⟩⟩⟩⟩⟩⟩⟩⟩⟩⟩⟩⟩⟩⟩⟩⟩⟩⟩⟩⟩⟩
theorem ml_L_109 : Cond.methodLink RL 109 yX11_tuning ∈ wsL_law := wi_28 (List.mem_of_getElem? (i := 0) rfl)
theorem Tml_L_109 : Cond.methodLink RL 109 yX11_tuning ∈ lw_tbl := tb_6 (List.mem_of_getElem? (i := 108) (by decide +kernel))
theorem im_X11_tuning : Cond.instanceMethod yX11_tuning ∈ wsL_law := wi_28 (List.mem_of_getElem? (i := 1) rfl)
theorem Tim_X11_tuning : Cond.instanceMethod yX11_tuning ∈ lw_tbl := tb_6 (List.mem_of_getElem? (i := 109) (by decide +kernel))
theorem se_X11_X11_tuning : Cond.selects RX11 yX11_tuning yX11_tuning ∈ wsL_law := wi_28 (List.mem_of_getElem? (i := 2) rfl)
theorem Tse_X11_X11_tuning : Cond.selects RX11 yX11_tuning yX11_tuning ∈ lw_tbl := tb_6 (List.mem_of_getElem? (i := 110) (by decide +kernel))
theorem cd_X11_tuning : Cond.code yX11_tuning cX11_tuning 5 (some .int) ∈ wsL_law := wi_28 (List.mem_of_getElem? (i := 3) rfl)
theorem Tcd_X11_tuning : Cond.code yX11_tuning cX11_tuning 5 (some .int) ∈ lw_tbl := tb_6 (List.mem_of_getElem? (i := 111) rfl)
theorem ml_L_110 : Cond.methodLink RL 110 yX10_choose ∈ wsL_law := wi_28 (List.mem_of_getElem? (i := 4) rfl)
theorem Tml_L_110 : Cond.methodLink RL 110 yX10_choose ∈ lw_tbl := tb_4 (List.mem_of_getElem? (i := 86) (by decide +kernel))
theorem im_X10_choose : Cond.instanceMethod yX10_choose ∈ wsL_law := wi_28 (List.mem_of_getElem? (i := 5) rfl)
theorem Tim_X10_choose : Cond.instanceMethod yX10_choose ∈ lw_tbl := tb_4 (List.mem_of_getElem? (i := 87) (by decide +kernel))
theorem se_X10_X10_choose : Cond.selects RX10 yX10_choose yX10_choose ∈ wsL_law := wi_28 (List.mem_of_getElem? (i := 6) rfl)
theorem Tse_X10_X10_choose : Cond.selects RX10 yX10_choose yX10_choose ∈ lw_tbl := tb_4 (List.mem_of_getElem? (i := 88) (by decide +kernel))
theorem cd_X10_choose : Cond.code yX10_choose cX10_choose 5 (some .int) ∈ wsL_law := wi_28 (List.mem_of_getElem? (i := 7) rfl)
theorem Tcd_X10_choose : Cond.code yX10_choose cX10_choose 5 (some .int) ∈ lw_tbl := tb_4 (List.mem_of_getElem? (i := 89) rfl)
theorem ml_X10_280 : Cond.methodLink RX10 280 yX10_costWithTuning ∈ wsL_law := wi_28 (List.mem_of_getElem? (i := 8) rfl)
theorem Tml_X10_280 : Cond.methodLink RX10 280 yX10_costWithTuning ∈ lw_tbl := tb_4 (List.mem_of_getElem? (i := 90) (by decide +kernel))
theorem im_X10_costWithTuning : Cond.instanceMethod yX10_costWithTuning ∈ wsL_law := wi_28 (List.mem_of_getElem? (i := 9) rfl)
theorem Tim_X10_costWithTuning : Cond.instanceMethod yX10_costWithTuning ∈ lw_tbl := tb_4 (List.mem_of_getElem? (i := 92) (by decide +kernel))
theorem se_X10_X10_costWithTuning : Cond.selects RX10 yX10_costWithTuning yX10_costWithTuning ∈ wsL_law := wi_28 (List.mem_of_getElem? (i := 10) rfl)
theorem Tse_X10_X10_costWithTuning : Cond.selects RX10 yX10_costWithTuning yX10_costWithTuning ∈ lw_tbl := pv_5 (n := 15) (List.mem_of_getElem? (i := 2) rfl)
theorem cd_X10_costWithTuning : Cond.code yX10_costWithTuning cX10_costWithTuning 3 (some .int) ∈ wsL_law := wi_28 (List.mem_of_getElem? (i := 11) rfl)
theorem Tcd_X10_costWithTuning : Cond.code yX10_costWithTuning cX10_costWithTuning 3 (some .int) ∈ lw_tbl := tb_4 (List.mem_of_getElem? (i := 93) rfl)
theorem im_X4_swapTuning : Cond.instanceMethod yX4_swapTuning ∈ wsL_law := wi_28 (List.mem_of_getElem? (i := 12) rfl)
theorem Tim_X4_swapTuning : Cond.instanceMethod yX4_swapTuning ∈ lw_tbl := tb_4 (List.mem_of_getElem? (i := 96) (by decide +kernel))
theorem se_X4_X4_swapTuning : Cond.selects RX4 yX4_swapTuning yX4_swapTuning ∈ wsL_law := wi_28 (List.mem_of_getElem? (i := 13) rfl)
theorem Tse_X4_X4_swapTuning : Cond.selects RX4 yX4_swapTuning yX4_swapTuning ∈ lw_tbl := pv_5 (n := 7) (List.mem_of_getElem? (i := 3) rfl)
theorem cd_X4_swapTuning : Cond.code yX4_swapTuning cX4_swapTuning 3 none ∈ wsL_law := wi_28 (List.mem_of_getElem? (i := 14) rfl)
theorem Tcd_X4_swapTuning : Cond.code yX4_swapTuning cX4_swapTuning 3 none ∈ lw_tbl := tb_4 (List.mem_of_getElem? (i := 97) rfl)
theorem ml_L_113 : Cond.methodLink RL 113 yX11_choose ∈ wsL_law := wi_28 (List.mem_of_getElem? (i := 15) rfl)
theorem Tml_L_113 : Cond.methodLink RL 113 yX11_choose ∈ lw_tbl := tb_6 (List.mem_of_getElem? (i := 112) (by decide +kernel))
theorem im_X11_choose : Cond.instanceMethod yX11_choose ∈ wsL_law := wi_28 (List.mem_of_getElem? (i := 16) rfl)
theorem Tim_X11_choose : Cond.instanceMethod yX11_choose ∈ lw_tbl := tb_6 (List.mem_of_getElem? (i := 113) (by decide +kernel))
theorem se_X11_X11_choose : Cond.selects RX11 yX11_choose yX11_choose ∈ wsL_law := wi_28 (List.mem_of_getElem? (i := 17) rfl)
theorem Tse_X11_X11_choose : Cond.selects RX11 yX11_choose yX11_choose ∈ lw_tbl := tb_6 (List.mem_of_getElem? (i := 114) (by decide +kernel))
theorem cd_X11_choose : Cond.code yX11_choose cX11_choose 5 (some .int) ∈ wsL_law := wi_28 (List.mem_of_getElem? (i := 18) rfl)
theorem Tcd_X11_choose : Cond.code yX11_choose cX11_choose 5 (some .int) ∈ lw_tbl := tb_6 (List.mem_of_getElem? (i := 115) rfl)
theorem ml_L_114 : Cond.methodLink RL 114 yX10_feed ∈ wsL_law := wi_28 (List.mem_of_getElem? (i := 19) rfl)
theorem Tml_L_114 : Cond.methodLink RL 114 yX10_feed ∈ lw_tbl := tb_4 (List.mem_of_getElem? (i := 99) (by decide +kernel))
theorem im_X10_feed : Cond.instanceMethod yX10_feed ∈ wsL_law := wi_28 (List.mem_of_getElem? (i := 20) rfl)
theorem Tim_X10_feed : Cond.instanceMethod yX10_feed ∈ lw_tbl := tb_4 (List.mem_of_getElem? (i := 100) (by decide +kernel))
theorem se_X10_X10_feed : Cond.selects RX10 yX10_feed yX10_feed ∈ wsL_law := wi_28 (List.mem_of_getElem? (i := 21) rfl)
theorem Tse_X10_X10_feed : Cond.selects RX10 yX10_feed yX10_feed ∈ lw_tbl := tb_4 (List.mem_of_getElem? (i := 101) (by decide +kernel))
theorem cd_X10_feed : Cond.code yX10_feed cX10_feed 2 (some .int) ∈ wsL_law := wi_28 (List.mem_of_getElem? (i := 22) rfl)
theorem Tcd_X10_feed : Cond.code yX10_feed cX10_feed 2 (some .int) ∈ lw_tbl := tb_4 (List.mem_of_getElem? (i := 102) rfl)
theorem im_X6_append : Cond.instanceMethod yX6_append ∈ wsL_law := wi_28 (List.mem_of_getElem? (i := 23) rfl)
theorem Tim_X6_append : Cond.instanceMethod yX6_append ∈ lw_tbl := tb_4 (List.mem_of_getElem? (i := 105) (by decide +kernel))
theorem se_X6_X6_append : Cond.selects RX6 yX6_append yX6_append ∈ wsL_law := wi_28 (List.mem_of_getElem? (i := 24) rfl)
theorem Tse_X6_X6_append : Cond.selects RX6 yX6_append yX6_append ∈ lw_tbl := pv_5 (n := 2) (List.mem_of_getElem? (i := 4) rfl)
theorem cd_X6_append : Cond.code yX6_append cX6_append 2 none ∈ wsL_law := wi_28 (List.mem_of_getElem? (i := 25) rfl)
theorem Tcd_X6_append : Cond.code yX6_append cX6_append 2 none ∈ lw_tbl := tb_4 (List.mem_of_getElem? (i := 106) rfl)
theorem ml_L_117 : Cond.methodLink RL 117 yX11_feed ∈ wsL_law := wi_28 (List.mem_of_getElem? (i := 26) rfl)
theorem Tml_L_117 : Cond.methodLink RL 117 yX11_feed ∈ lw_tbl := tb_6 (List.mem_of_getElem? (i := 116) (by decide +kernel))
theorem im_X11_feed : Cond.instanceMethod yX11_feed ∈ wsL_law := wi_28 (List.mem_of_getElem? (i := 27) rfl)
theorem Tim_X11_feed : Cond.instanceMethod yX11_feed ∈ lw_tbl := tb_6 (List.mem_of_getElem? (i := 117) (by decide +kernel))
theorem se_X11_X11_feed : Cond.selects RX11 yX11_feed yX11_feed ∈ wsL_law := wi_28 (List.mem_of_getElem? (i := 28) rfl)
theorem Tse_X11_X11_feed : Cond.selects RX11 yX11_feed yX11_feed ∈ lw_tbl := tb_6 (List.mem_of_getElem? (i := 118) (by decide +kernel))
theorem cd_X11_feed : Cond.code yX11_feed cX11_feed 2 (some .int) ∈ wsL_law := wi_28 (List.mem_of_getElem? (i := 29) rfl)
theorem Tcd_X11_feed : Cond.code yX11_feed cX11_feed 2 (some .int) ∈ lw_tbl := tb_6 (List.mem_of_getElem? (i := 119) rfl)
theorem tA_28 : ∀ w ∈ wA_28, w ∈ lw_tbl := List.forall_mem_cons.mpr ⟨Tml_L_109, List.forall_mem_cons.mpr ⟨Tim_X11_tuning, List.forall_mem_cons.mpr ⟨Tse_X11_X11_tuning, List.forall_mem_cons.mpr ⟨Tcd_X11_tuning, List.forall_mem_cons.mpr ⟨Tml_L_110, List.forall_mem_cons.mpr ⟨Tim_X10_choose, List.forall_mem_cons.mpr ⟨Tse_X10_X10_choose, List.forall_mem_cons.mpr ⟨Tcd_X10_choose, List.forall_mem_cons.mpr ⟨Tml_X10_280, List.forall_mem_cons.mpr ⟨Tim_X10_costWithTuning, List.forall_mem_cons.mpr ⟨Tse_X10_X10_costWithTuning, List.forall_mem_cons.mpr ⟨Tcd_X10_costWithTuning, List.forall_mem_cons.mpr ⟨Tim_X4_swapTuning, List.forall_mem_cons.mpr ⟨Tse_X4_X4_swapTuning, List.forall_mem_cons.mpr ⟨Tcd_X4_swapTuning, List.forall_mem_cons.mpr ⟨Tml_L_113, List.forall_mem_cons.mpr ⟨Tim_X11_choose, List.forall_mem_cons.mpr ⟨Tse_X11_X11_choose, List.forall_mem_cons.mpr ⟨Tcd_X11_choose, List.forall_mem_cons.mpr ⟨Tml_L_114, List.forall_mem_cons.mpr ⟨Tim_X10_feed, List.forall_mem_cons.mpr ⟨Tse_X10_X10_feed, List.forall_mem_cons.mpr ⟨Tcd_X10_feed, List.forall_mem_cons.mpr ⟨Tim_X6_append, List.forall_mem_cons.mpr ⟨Tse_X6_X6_append, List.forall_mem_cons.mpr ⟨Tcd_X6_append, List.forall_mem_cons.mpr ⟨Tml_L_117, List.forall_mem_cons.mpr ⟨Tim_X11_feed, List.forall_mem_cons.mpr ⟨Tse_X11_X11_feed, List.forall_mem_cons.mpr ⟨Tcd_X11_feed, fun _ h => absurd h List.not_mem_nil⟩⟩⟩⟩⟩⟩⟩⟩⟩⟩⟩⟩⟩⟩⟩⟩⟩⟩⟩⟩⟩⟩⟩⟩⟩⟩⟩⟩⟩⟩
theorem ml_L_118 : Cond.methodLink RL 118 yX10_wipe ∈ wsL_law := wi_29 (List.mem_of_getElem? (i := 0) rfl)
theorem Tml_L_118 : Cond.methodLink RL 118 yX10_wipe ∈ lw_tbl := tb_4 (List.mem_of_getElem? (i := 107) (by decide +kernel))
theorem im_X10_wipe : Cond.instanceMethod yX10_wipe ∈ wsL_law := wi_29 (List.mem_of_getElem? (i := 1) rfl)
theorem Tim_X10_wipe : Cond.instanceMethod yX10_wipe ∈ lw_tbl := tb_4 (List.mem_of_getElem? (i := 108) (by decide +kernel))
theorem se_X10_X10_wipe : Cond.selects RX10 yX10_wipe yX10_wipe ∈ wsL_law := wi_29 (List.mem_of_getElem? (i := 2) rfl)
theorem Tse_X10_X10_wipe : Cond.selects RX10 yX10_wipe yX10_wipe ∈ lw_tbl := tb_4 (List.mem_of_getElem? (i := 109) (by decide +kernel))
theorem cd_X10_wipe : Cond.code yX10_wipe cX10_wipe 2 (some .int) ∈ wsL_law := wi_29 (List.mem_of_getElem? (i := 3) rfl)
theorem Tcd_X10_wipe : Cond.code yX10_wipe cX10_wipe 2 (some .int) ∈ lw_tbl := tb_4 (List.mem_of_getElem? (i := 110) rfl)
theorem ml_L_121 : Cond.methodLink RL 121 yX11_wipe ∈ wsL_law := wi_29 (List.mem_of_getElem? (i := 4) rfl)
theorem Tml_L_121 : Cond.methodLink RL 121 yX11_wipe ∈ lw_tbl := tb_6 (List.mem_of_getElem? (i := 120) (by decide +kernel))
theorem im_X11_wipe : Cond.instanceMethod yX11_wipe ∈ wsL_law := wi_29 (List.mem_of_getElem? (i := 5) rfl)
theorem Tim_X11_wipe : Cond.instanceMethod yX11_wipe ∈ lw_tbl := tb_6 (List.mem_of_getElem? (i := 121) (by decide +kernel))
theorem se_X11_X11_wipe : Cond.selects RX11 yX11_wipe yX11_wipe ∈ wsL_law := wi_29 (List.mem_of_getElem? (i := 6) rfl)
theorem Tse_X11_X11_wipe : Cond.selects RX11 yX11_wipe yX11_wipe ∈ lw_tbl := tb_6 (List.mem_of_getElem? (i := 122) (by decide +kernel))
theorem cd_X11_wipe : Cond.code yX11_wipe cX11_wipe 2 (some .int) ∈ wsL_law := wi_29 (List.mem_of_getElem? (i := 7) rfl)
theorem Tcd_X11_wipe : Cond.code yX11_wipe cX11_wipe 2 (some .int) ∈ lw_tbl := tb_6 (List.mem_of_getElem? (i := 123) rfl)
theorem ml_L_122 : Cond.methodLink RL 122 yX10_tape ∈ wsL_law := wi_29 (List.mem_of_getElem? (i := 8) rfl)
theorem Tml_L_122 : Cond.methodLink RL 122 yX10_tape ∈ lw_tbl := tb_4 (List.mem_of_getElem? (i := 111) (by decide +kernel))
theorem im_X10_tape : Cond.instanceMethod yX10_tape ∈ wsL_law := wi_29 (List.mem_of_getElem? (i := 9) rfl)
theorem Tim_X10_tape : Cond.instanceMethod yX10_tape ∈ lw_tbl := tb_4 (List.mem_of_getElem? (i := 112) (by decide +kernel))
theorem se_X10_X10_tape : Cond.selects RX10 yX10_tape yX10_tape ∈ wsL_law := wi_29 (List.mem_of_getElem? (i := 10) rfl)
theorem Tse_X10_X10_tape : Cond.selects RX10 yX10_tape yX10_tape ∈ lw_tbl := tb_4 (List.mem_of_getElem? (i := 113) (by decide +kernel))
theorem cd_X10_tape : Cond.code yX10_tape cX10_tape 2 (some .int) ∈ wsL_law := wi_29 (List.mem_of_getElem? (i := 11) rfl)
theorem Tcd_X10_tape : Cond.code yX10_tape cX10_tape 2 (some .int) ∈ lw_tbl := tb_4 (List.mem_of_getElem? (i := 114) rfl)
theorem ml_L_125 : Cond.methodLink RL 125 yX11_tape ∈ wsL_law := wi_29 (List.mem_of_getElem? (i := 12) rfl)
theorem Tml_L_125 : Cond.methodLink RL 125 yX11_tape ∈ lw_tbl := tb_6 (List.mem_of_getElem? (i := 124) (by decide +kernel))
theorem im_X11_tape : Cond.instanceMethod yX11_tape ∈ wsL_law := wi_29 (List.mem_of_getElem? (i := 13) rfl)
theorem Tim_X11_tape : Cond.instanceMethod yX11_tape ∈ lw_tbl := tb_6 (List.mem_of_getElem? (i := 125) (by decide +kernel))
theorem se_X11_X11_tape : Cond.selects RX11 yX11_tape yX11_tape ∈ wsL_law := wi_29 (List.mem_of_getElem? (i := 14) rfl)
theorem Tse_X11_X11_tape : Cond.selects RX11 yX11_tape yX11_tape ∈ lw_tbl := tb_6 (List.mem_of_getElem? (i := 126) (by decide +kernel))
theorem cd_X11_tape : Cond.code yX11_tape cX11_tape 2 (some .int) ∈ wsL_law := wi_29 (List.mem_of_getElem? (i := 15) rfl)
theorem Tcd_X11_tape : Cond.code yX11_tape cX11_tape 2 (some .int) ∈ lw_tbl := tb_6 (List.mem_of_getElem? (i := 127) rfl)
theorem ml_L_126 : Cond.methodLink RL 126 yX10_write ∈ wsL_law := wi_29 (List.mem_of_getElem? (i := 16) rfl)
theorem Tml_L_126 : Cond.methodLink RL 126 yX10_write ∈ lw_tbl := tb_4 (List.mem_of_getElem? (i := 115) (by decide +kernel))
theorem im_X10_write : Cond.instanceMethod yX10_write ∈ wsL_law := wi_29 (List.mem_of_getElem? (i := 17) rfl)
theorem Tim_X10_write : Cond.instanceMethod yX10_write ∈ lw_tbl := tb_4 (List.mem_of_getElem? (i := 116) (by decide +kernel))
theorem se_X10_X10_write : Cond.selects RX10 yX10_write yX10_write ∈ wsL_law := wi_29 (List.mem_of_getElem? (i := 18) rfl)
theorem Tse_X10_X10_write : Cond.selects RX10 yX10_write yX10_write ∈ lw_tbl := tb_4 (List.mem_of_getElem? (i := 117) (by decide +kernel))
theorem cd_X10_write : Cond.code yX10_write cX10_write 2 (some .int) ∈ wsL_law := wi_29 (List.mem_of_getElem? (i := 19) rfl)
theorem Tcd_X10_write : Cond.code yX10_write cX10_write 2 (some .int) ∈ lw_tbl := tb_4 (List.mem_of_getElem? (i := 118) rfl)
theorem im_X6_appendLine : Cond.instanceMethod yX6_appendLine ∈ wsL_law := wi_29 (List.mem_of_getElem? (i := 20) rfl)
theorem Tim_X6_appendLine : Cond.instanceMethod yX6_appendLine ∈ lw_tbl := tb_4 (List.mem_of_getElem? (i := 121) (by decide +kernel))
theorem se_X6_X6_appendLine : Cond.selects RX6 yX6_appendLine yX6_appendLine ∈ wsL_law := wi_29 (List.mem_of_getElem? (i := 21) rfl)
theorem Tse_X6_X6_appendLine : Cond.selects RX6 yX6_appendLine yX6_appendLine ∈ lw_tbl := pv_5 (n := 2) (List.mem_of_getElem? (i := 5) rfl)
theorem cd_X6_appendLine : Cond.code yX6_appendLine cX6_appendLine 6 none ∈ wsL_law := wi_29 (List.mem_of_getElem? (i := 22) rfl)
theorem Tcd_X6_appendLine : Cond.code yX6_appendLine cX6_appendLine 6 none ∈ lw_tbl := tb_4 (List.mem_of_getElem? (i := 122) rfl)
theorem ml_X6_19 : Cond.methodLink RX6 19 yX6_noteOn ∈ wsL_law := wi_29 (List.mem_of_getElem? (i := 23) rfl)
theorem Tml_X6_19 : Cond.methodLink RX6 19 yX6_noteOn ∈ lw_tbl := tb_4 (List.mem_of_getElem? (i := 123) (by decide +kernel))
theorem st_X6_noteOn : Cond.static yX6_noteOn ∈ wsL_law := wi_29 (List.mem_of_getElem? (i := 24) rfl)
theorem Tst_X6_noteOn : Cond.static yX6_noteOn ∈ lw_tbl := tb_4 (List.mem_of_getElem? (i := 124) (by decide +kernel))
theorem cd_X6_noteOn : Cond.code yX6_noteOn cX6_noteOn 4 (some .int) ∈ wsL_law := wi_29 (List.mem_of_getElem? (i := 25) rfl)
theorem Tcd_X6_noteOn : Cond.code yX6_noteOn cX6_noteOn 4 (some .int) ∈ lw_tbl := tb_4 (List.mem_of_getElem? (i := 125) rfl)
theorem ml_X6_28 : Cond.methodLink RX6 28 yX6_append ∈ wsL_law := wi_29 (List.mem_of_getElem? (i := 26) rfl)
theorem Tml_X6_28 : Cond.methodLink RX6 28 yX6_append ∈ lw_tbl := tb_4 (List.mem_of_getElem? (i := 128) (by decide +kernel))
theorem ml_L_129 : Cond.methodLink RL 129 yX11_write ∈ wsL_law := wi_29 (List.mem_of_getElem? (i := 27) rfl)
theorem Tml_L_129 : Cond.methodLink RL 129 yX11_write ∈ lw_tbl := tb_6 (List.mem_of_getElem? (i := 128) (by decide +kernel))
theorem im_X11_write : Cond.instanceMethod yX11_write ∈ wsL_law := wi_29 (List.mem_of_getElem? (i := 28) rfl)
theorem Tim_X11_write : Cond.instanceMethod yX11_write ∈ lw_tbl := tb_6 (List.mem_of_getElem? (i := 129) (by decide +kernel))
theorem se_X11_X11_write : Cond.selects RX11 yX11_write yX11_write ∈ wsL_law := wi_29 (List.mem_of_getElem? (i := 29) rfl)
theorem Tse_X11_X11_write : Cond.selects RX11 yX11_write yX11_write ∈ lw_tbl := tb_6 (List.mem_of_getElem? (i := 130) (by decide +kernel))
theorem tA_29 : ∀ w ∈ wA_29, w ∈ lw_tbl := List.forall_mem_cons.mpr ⟨Tml_L_118, List.forall_mem_cons.mpr ⟨Tim_X10_wipe, List.forall_mem_cons.mpr ⟨Tse_X10_X10_wipe, List.forall_mem_cons.mpr ⟨Tcd_X10_wipe, List.forall_mem_cons.mpr ⟨Tml_L_121, List.forall_mem_cons.mpr ⟨Tim_X11_wipe, List.forall_mem_cons.mpr ⟨Tse_X11_X11_wipe, List.forall_mem_cons.mpr ⟨Tcd_X11_wipe, List.forall_mem_cons.mpr ⟨Tml_L_122, List.forall_mem_cons.mpr ⟨Tim_X10_tape, List.forall_mem_cons.mpr ⟨Tse_X10_X10_tape, List.forall_mem_cons.mpr ⟨Tcd_X10_tape, List.forall_mem_cons.mpr ⟨Tml_L_125, List.forall_mem_cons.mpr ⟨Tim_X11_tape, List.forall_mem_cons.mpr ⟨Tse_X11_X11_tape, List.forall_mem_cons.mpr ⟨Tcd_X11_tape, List.forall_mem_cons.mpr ⟨Tml_L_126, List.forall_mem_cons.mpr ⟨Tim_X10_write, List.forall_mem_cons.mpr ⟨Tse_X10_X10_write, List.forall_mem_cons.mpr ⟨Tcd_X10_write, List.forall_mem_cons.mpr ⟨Tim_X6_appendLine, List.forall_mem_cons.mpr ⟨Tse_X6_X6_appendLine, List.forall_mem_cons.mpr ⟨Tcd_X6_appendLine, List.forall_mem_cons.mpr ⟨Tml_X6_19, List.forall_mem_cons.mpr ⟨Tst_X6_noteOn, List.forall_mem_cons.mpr ⟨Tcd_X6_noteOn, List.forall_mem_cons.mpr ⟨Tml_X6_28, List.forall_mem_cons.mpr ⟨Tml_L_129, List.forall_mem_cons.mpr ⟨Tim_X11_write, List.forall_mem_cons.mpr ⟨Tse_X11_X11_write, fun _ h => absurd h List.not_mem_nil⟩⟩⟩⟩⟩⟩⟩⟩⟩⟩⟩⟩⟩⟩⟩⟩⟩⟩⟩⟩⟩⟩⟩⟩⟩⟩⟩⟩⟩⟩
theorem cd_X11_write : Cond.code yX11_write cX11_write 5 (some .int) ∈ wsL_law := wi_30 (List.mem_of_getElem? (i := 0) rfl)
theorem Tcd_X11_write : Cond.code yX11_write cX11_write 5 (some .int) ∈ lw_tbl := tb_6 (List.mem_of_getElem? (i := 131) rfl)
theorem ml_X11_284 : Cond.methodLink RX11 284 yX11_noteOn ∈ wsL_law := wi_30 (List.mem_of_getElem? (i := 1) rfl)
theorem Tml_X11_284 : Cond.methodLink RX11 284 yX11_noteOn ∈ lw_tbl := tb_6 (List.mem_of_getElem? (i := 132) (by decide +kernel))
theorem im_X11_noteOn : Cond.instanceMethod yX11_noteOn ∈ wsL_law := wi_30 (List.mem_of_getElem? (i := 2) rfl)
theorem Tim_X11_noteOn : Cond.instanceMethod yX11_noteOn ∈ lw_tbl := tb_6 (List.mem_of_getElem? (i := 134) (by decide +kernel))
theorem se_X11_X11_noteOn : Cond.selects RX11 yX11_noteOn yX11_noteOn ∈ wsL_law := wi_30 (List.mem_of_getElem? (i := 3) rfl)
theorem Tse_X11_X11_noteOn : Cond.selects RX11 yX11_noteOn yX11_noteOn ∈ lw_tbl := pv_8 (n := 47) (List.mem_of_getElem? (i := 4) rfl)
theorem cd_X11_noteOn : Cond.code yX11_noteOn cX11_noteOn 5 (some .int) ∈ wsL_law := wi_30 (List.mem_of_getElem? (i := 4) rfl)
theorem Tcd_X11_noteOn : Cond.code yX11_noteOn cX11_noteOn 5 (some .int) ∈ lw_tbl := tb_6 (List.mem_of_getElem? (i := 135) rfl)
theorem ml_X11_287 : Cond.methodLink RX11 287 yX11_say_ ∈ wsL_law := wi_30 (List.mem_of_getElem? (i := 5) rfl)
theorem Tml_X11_287 : Cond.methodLink RX11 287 yX11_say_ ∈ lw_tbl := tb_6 (List.mem_of_getElem? (i := 136) (by decide +kernel))
theorem im_X11_say_ : Cond.instanceMethod yX11_say_ ∈ wsL_law := wi_30 (List.mem_of_getElem? (i := 6) rfl)
theorem Tim_X11_say_ : Cond.instanceMethod yX11_say_ ∈ lw_tbl := tb_6 (List.mem_of_getElem? (i := 138) (by decide +kernel))
theorem se_X11_X11_say_ : Cond.selects RX11 yX11_say_ yX11_say_ ∈ wsL_law := wi_30 (List.mem_of_getElem? (i := 7) rfl)
theorem Tse_X11_X11_say_ : Cond.selects RX11 yX11_say_ yX11_say_ ∈ lw_tbl := pv_8 (n := 47) (List.mem_of_getElem? (i := 5) rfl)
theorem cd_X11_say_ : Cond.code yX11_say_ cX11_say_ 3 none ∈ wsL_law := wi_30 (List.mem_of_getElem? (i := 8) rfl)
theorem Tcd_X11_say_ : Cond.code yX11_say_ cX11_say_ 3 none ∈ lw_tbl := tb_6 (List.mem_of_getElem? (i := 139) rfl)
theorem ml_L_130 : Cond.methodLink RL 130 yX10_read ∈ wsL_law := wi_30 (List.mem_of_getElem? (i := 9) rfl)
theorem Tml_L_130 : Cond.methodLink RL 130 yX10_read ∈ lw_tbl := tb_4 (List.mem_of_getElem? (i := 130) (by decide +kernel))
theorem im_X10_read : Cond.instanceMethod yX10_read ∈ wsL_law := wi_30 (List.mem_of_getElem? (i := 10) rfl)
theorem Tim_X10_read : Cond.instanceMethod yX10_read ∈ lw_tbl := tb_4 (List.mem_of_getElem? (i := 131) (by decide +kernel))
theorem se_X10_X10_read : Cond.selects RX10 yX10_read yX10_read ∈ wsL_law := wi_30 (List.mem_of_getElem? (i := 11) rfl)
theorem Tse_X10_X10_read : Cond.selects RX10 yX10_read yX10_read ∈ lw_tbl := tb_4 (List.mem_of_getElem? (i := 132) (by decide +kernel))
theorem cd_X10_read : Cond.code yX10_read cX10_read 2 (some .int) ∈ wsL_law := wi_30 (List.mem_of_getElem? (i := 12) rfl)
theorem Tcd_X10_read : Cond.code yX10_read cX10_read 2 (some .int) ∈ lw_tbl := tb_4 (List.mem_of_getElem? (i := 133) rfl)
theorem cl_X10_296 : Cond.classLink RX10 296 RX7 ∈ wsL_law := wi_30 (List.mem_of_getElem? (i := 13) rfl)
theorem Tcl_X10_296 : Cond.classLink RX10 296 RX7 ∈ lw_tbl := tb_4 (List.mem_of_getElem? (i := 134) (by decide +kernel))
theorem is_X7 : Cond.instantiable RX7 4 ∈ wsL_law := wi_30 (List.mem_of_getElem? (i := 14) rfl)
theorem Tis_X7 : Cond.instantiable RX7 4 ∈ lw_tbl := tb_4 (List.mem_of_getElem? (i := 135) (by decide +kernel))
theorem iz_X7 : Cond.initialized RX7 ∈ wsL_law := wi_30 (List.mem_of_getElem? (i := 15) rfl)
theorem Tiz_X7 : Cond.initialized RX7 ∈ lw_tbl := tb_1 (List.mem_of_getElem? (i := 15) (by decide +kernel))
theorem im_X7_init : Cond.instanceMethod yX7_init ∈ wsL_law := wi_30 (List.mem_of_getElem? (i := 16) rfl)
theorem Tim_X7_init : Cond.instanceMethod yX7_init ∈ lw_tbl := tb_4 (List.mem_of_getElem? (i := 137) (by decide +kernel))
theorem cd_X7_init : Cond.code yX7_init cX7_init 4 none ∈ wsL_law := wi_30 (List.mem_of_getElem? (i := 17) rfl)
theorem Tcd_X7_init : Cond.code yX7_init cX7_init 4 none ∈ lw_tbl := tb_4 (List.mem_of_getElem? (i := 138) rfl)
theorem ml_X7_3 : Cond.methodLink RX7 3 objectInit ∈ wsL_law := wi_30 (List.mem_of_getElem? (i := 18) rfl)
theorem Tml_X7_3 : Cond.methodLink RX7 3 objectInit ∈ lw_tbl := tb_4 (List.mem_of_getElem? (i := 139) (by decide +kernel))
theorem fl_X7_9 : Cond.fieldLink RX7 9 "LuteFingers$TapeReader" "place" "I" ∈ wsL_law := wi_30 (List.mem_of_getElem? (i := 19) rfl)
theorem Tfl_X7_9 : Cond.fieldLink RX7 9 "LuteFingers$TapeReader" "place" "I" ∈ lw_tbl := tb_4 (List.mem_of_getElem? (i := 143) (by decide +kernel))
theorem fl_X7_15 : Cond.fieldLink RX7 15 "LuteFingers$TapeReader" "tape" "LLuteFingers$Tape;" ∈ wsL_law := wi_30 (List.mem_of_getElem? (i := 20) rfl)
theorem Tfl_X7_15 : Cond.fieldLink RX7 15 "LuteFingers$TapeReader" "tape" "LLuteFingers$Tape;" ∈ lw_tbl := tb_4 (List.mem_of_getElem? (i := 140) (by decide +kernel))
theorem fl_X7_19 : Cond.fieldLink RX7 19 "LuteFingers$TapeReader" "lute" "LLuteFingers$Lute;" ∈ wsL_law := wi_30 (List.mem_of_getElem? (i := 21) rfl)
theorem Tfl_X7_19 : Cond.fieldLink RX7 19 "LuteFingers$TapeReader" "lute" "LLuteFingers$Lute;" ∈ lw_tbl := tb_4 (List.mem_of_getElem? (i := 141) (by decide +kernel))
theorem fl_X7_23 : Cond.fieldLink RX7 23 "LuteFingers$TapeReader" "piece" "LLuteFingers$Piece;" ∈ wsL_law := wi_30 (List.mem_of_getElem? (i := 22) rfl)
theorem Tfl_X7_23 : Cond.fieldLink RX7 23 "LuteFingers$TapeReader" "piece" "LLuteFingers$Piece;" ∈ lw_tbl := tb_4 (List.mem_of_getElem? (i := 142) (by decide +kernel))
theorem im_X7_findFault : Cond.instanceMethod yX7_findFault ∈ wsL_law := wi_30 (List.mem_of_getElem? (i := 23) rfl)
theorem Tim_X7_findFault : Cond.instanceMethod yX7_findFault ∈ lw_tbl := tb_4 (List.mem_of_getElem? (i := 155) (by decide +kernel))
theorem se_X7_X7_findFault : Cond.selects RX7 yX7_findFault yX7_findFault ∈ wsL_law := wi_30 (List.mem_of_getElem? (i := 24) rfl)
theorem Tse_X7_X7_findFault : Cond.selects RX7 yX7_findFault yX7_findFault ∈ lw_tbl := pv_5 (n := 4) (List.mem_of_getElem? (i := 6) rfl)
theorem cd_X7_findFault : Cond.code yX7_findFault cX7_findFault 2 (some .int) ∈ wsL_law := wi_30 (List.mem_of_getElem? (i := 25) rfl)
theorem Tcd_X7_findFault : Cond.code yX7_findFault cX7_findFault 2 (some .int) ∈ lw_tbl := tb_4 (List.mem_of_getElem? (i := 156) rfl)
theorem ml_X7_37 : Cond.methodLink RX7 37 yX7_readLine ∈ wsL_law := wi_30 (List.mem_of_getElem? (i := 26) rfl)
theorem Tml_X7_37 : Cond.methodLink RX7 37 yX7_readLine ∈ lw_tbl := tb_4 (List.mem_of_getElem? (i := 158) (by decide +kernel))
theorem im_X7_readLine : Cond.instanceMethod yX7_readLine ∈ wsL_law := wi_30 (List.mem_of_getElem? (i := 27) rfl)
theorem Tim_X7_readLine : Cond.instanceMethod yX7_readLine ∈ lw_tbl := tb_4 (List.mem_of_getElem? (i := 160) (by decide +kernel))
theorem se_X7_X7_readLine : Cond.selects RX7 yX7_readLine yX7_readLine ∈ wsL_law := wi_30 (List.mem_of_getElem? (i := 28) rfl)
theorem Tse_X7_X7_readLine : Cond.selects RX7 yX7_readLine yX7_readLine ∈ lw_tbl := pv_5 (n := 4) (List.mem_of_getElem? (i := 7) rfl)
theorem cd_X7_readLine : Cond.code yX7_readLine cX7_readLine 2 (some .boolean) ∈ wsL_law := wi_30 (List.mem_of_getElem? (i := 29) rfl)
theorem Tcd_X7_readLine : Cond.code yX7_readLine cX7_readLine 2 (some .boolean) ∈ lw_tbl := tb_4 (List.mem_of_getElem? (i := 161) rfl)
theorem tA_30 : ∀ w ∈ wA_30, w ∈ lw_tbl := List.forall_mem_cons.mpr ⟨Tcd_X11_write, List.forall_mem_cons.mpr ⟨Tml_X11_284, List.forall_mem_cons.mpr ⟨Tim_X11_noteOn, List.forall_mem_cons.mpr ⟨Tse_X11_X11_noteOn, List.forall_mem_cons.mpr ⟨Tcd_X11_noteOn, List.forall_mem_cons.mpr ⟨Tml_X11_287, List.forall_mem_cons.mpr ⟨Tim_X11_say_, List.forall_mem_cons.mpr ⟨Tse_X11_X11_say_, List.forall_mem_cons.mpr ⟨Tcd_X11_say_, List.forall_mem_cons.mpr ⟨Tml_L_130, List.forall_mem_cons.mpr ⟨Tim_X10_read, List.forall_mem_cons.mpr ⟨Tse_X10_X10_read, List.forall_mem_cons.mpr ⟨Tcd_X10_read, List.forall_mem_cons.mpr ⟨Tcl_X10_296, List.forall_mem_cons.mpr ⟨Tis_X7, List.forall_mem_cons.mpr ⟨Tiz_X7, List.forall_mem_cons.mpr ⟨Tim_X7_init, List.forall_mem_cons.mpr ⟨Tcd_X7_init, List.forall_mem_cons.mpr ⟨Tml_X7_3, List.forall_mem_cons.mpr ⟨Tfl_X7_9, List.forall_mem_cons.mpr ⟨Tfl_X7_15, List.forall_mem_cons.mpr ⟨Tfl_X7_19, List.forall_mem_cons.mpr ⟨Tfl_X7_23, List.forall_mem_cons.mpr ⟨Tim_X7_findFault, List.forall_mem_cons.mpr ⟨Tse_X7_X7_findFault, List.forall_mem_cons.mpr ⟨Tcd_X7_findFault, List.forall_mem_cons.mpr ⟨Tml_X7_37, List.forall_mem_cons.mpr ⟨Tim_X7_readLine, List.forall_mem_cons.mpr ⟨Tse_X7_X7_readLine, List.forall_mem_cons.mpr ⟨Tcd_X7_readLine, fun _ h => absurd h List.not_mem_nil⟩⟩⟩⟩⟩⟩⟩⟩⟩⟩⟩⟩⟩⟩⟩⟩⟩⟩⟩⟩⟩⟩⟩⟩⟩⟩⟩⟩⟩⟩
theorem ml_X7_50 : Cond.methodLink RX7 50 yX7_readCourse ∈ wsL_law := wi_31 (List.mem_of_getElem? (i := 0) rfl)
theorem Tml_X7_50 : Cond.methodLink RX7 50 yX7_readCourse ∈ lw_tbl := tb_4 (List.mem_of_getElem? (i := 162) (by decide +kernel))
theorem im_X7_readCourse : Cond.instanceMethod yX7_readCourse ∈ wsL_law := wi_31 (List.mem_of_getElem? (i := 1) rfl)
theorem Tim_X7_readCourse : Cond.instanceMethod yX7_readCourse ∈ lw_tbl := tb_4 (List.mem_of_getElem? (i := 164) (by decide +kernel))
theorem se_X7_X7_readCourse : Cond.selects RX7 yX7_readCourse yX7_readCourse ∈ wsL_law := wi_31 (List.mem_of_getElem? (i := 2) rfl)
theorem Tse_X7_X7_readCourse : Cond.selects RX7 yX7_readCourse yX7_readCourse ∈ lw_tbl := pv_5 (n := 4) (List.mem_of_getElem? (i := 8) rfl)
theorem cd_X7_readCourse : Cond.code yX7_readCourse cX7_readCourse 4 (some .boolean) ∈ wsL_law := wi_31 (List.mem_of_getElem? (i := 3) rfl)
theorem Tcd_X7_readCourse : Cond.code yX7_readCourse cX7_readCourse 4 (some .boolean) ∈ lw_tbl := tb_4 (List.mem_of_getElem? (i := 165) rfl)
theorem ml_X7_54 : Cond.methodLink RX7 54 yX7_readByte ∈ wsL_law := wi_31 (List.mem_of_getElem? (i := 4) rfl)
theorem Tml_X7_54 : Cond.methodLink RX7 54 yX7_readByte ∈ lw_tbl := tb_4 (List.mem_of_getElem? (i := 166) (by decide +kernel))
theorem im_X7_readByte : Cond.instanceMethod yX7_readByte ∈ wsL_law := wi_31 (List.mem_of_getElem? (i := 5) rfl)
theorem Tim_X7_readByte : Cond.instanceMethod yX7_readByte ∈ lw_tbl := tb_4 (List.mem_of_getElem? (i := 168) (by decide +kernel))
theorem se_X7_X7_readByte : Cond.selects RX7 yX7_readByte yX7_readByte ∈ wsL_law := wi_31 (List.mem_of_getElem? (i := 6) rfl)
theorem Tse_X7_X7_readByte : Cond.selects RX7 yX7_readByte yX7_readByte ∈ lw_tbl := pv_5 (n := 4) (List.mem_of_getElem? (i := 9) rfl)
theorem cd_X7_readByte : Cond.code yX7_readByte cX7_readByte 2 (some .boolean) ∈ wsL_law := wi_31 (List.mem_of_getElem? (i := 7) rfl)
theorem Tcd_X7_readByte : Cond.code yX7_readByte cX7_readByte 2 (some .boolean) ∈ lw_tbl := tb_4 (List.mem_of_getElem? (i := 169) rfl)
theorem ml_X7_70 : Cond.methodLink RX7 70 yX7_here ∈ wsL_law := wi_31 (List.mem_of_getElem? (i := 8) rfl)
theorem Tml_X7_70 : Cond.methodLink RX7 70 yX7_here ∈ lw_tbl := tb_4 (List.mem_of_getElem? (i := 170) (by decide +kernel))
theorem im_X7_here : Cond.instanceMethod yX7_here ∈ wsL_law := wi_31 (List.mem_of_getElem? (i := 9) rfl)
theorem Tim_X7_here : Cond.instanceMethod yX7_here ∈ lw_tbl := tb_4 (List.mem_of_getElem? (i := 172) (by decide +kernel))
theorem se_X7_X7_here : Cond.selects RX7 yX7_here yX7_here ∈ wsL_law := wi_31 (List.mem_of_getElem? (i := 10) rfl)
theorem Tse_X7_X7_here : Cond.selects RX7 yX7_here yX7_here ∈ lw_tbl := pv_5 (n := 4) (List.mem_of_getElem? (i := 10) rfl)
theorem cd_X7_here : Cond.code yX7_here cX7_here 1 (some .int) ∈ wsL_law := wi_31 (List.mem_of_getElem? (i := 11) rfl)
theorem Tcd_X7_here : Cond.code yX7_here cX7_here 1 (some .int) ∈ lw_tbl := tb_4 (List.mem_of_getElem? (i := 173) rfl)
theorem ml_X7_64 : Cond.methodLink RX7 64 yX7_readFinger ∈ wsL_law := wi_31 (List.mem_of_getElem? (i := 12) rfl)
theorem Tml_X7_64 : Cond.methodLink RX7 64 yX7_readFinger ∈ lw_tbl := tb_4 (List.mem_of_getElem? (i := 177) (by decide +kernel))
theorem im_X7_readFinger : Cond.instanceMethod yX7_readFinger ∈ wsL_law := wi_31 (List.mem_of_getElem? (i := 13) rfl)
theorem Tim_X7_readFinger : Cond.instanceMethod yX7_readFinger ∈ lw_tbl := tb_4 (List.mem_of_getElem? (i := 179) (by decide +kernel))
theorem se_X7_X7_readFinger : Cond.selects RX7 yX7_readFinger yX7_readFinger ∈ wsL_law := wi_31 (List.mem_of_getElem? (i := 14) rfl)
theorem Tse_X7_X7_readFinger : Cond.selects RX7 yX7_readFinger yX7_readFinger ∈ lw_tbl := pv_5 (n := 4) (List.mem_of_getElem? (i := 11) rfl)
theorem cd_X7_readFinger : Cond.code yX7_readFinger cX7_readFinger 4 (some .boolean) ∈ wsL_law := wi_31 (List.mem_of_getElem? (i := 15) rfl)
theorem Tcd_X7_readFinger : Cond.code yX7_readFinger cX7_readFinger 4 (some .boolean) ∈ lw_tbl := tb_4 (List.mem_of_getElem? (i := 180) rfl)
theorem im_X5_copyFrom : Cond.instanceMethod yX5_copyFrom ∈ wsL_law := wi_31 (List.mem_of_getElem? (i := 16) rfl)
theorem Tim_X5_copyFrom : Cond.instanceMethod yX5_copyFrom ∈ lw_tbl := tb_4 (List.mem_of_getElem? (i := 184) (by decide +kernel))
theorem se_X5_X5_copyFrom : Cond.selects RX5 yX5_copyFrom yX5_copyFrom ∈ wsL_law := wi_31 (List.mem_of_getElem? (i := 17) rfl)
theorem Tse_X5_X5_copyFrom : Cond.selects RX5 yX5_copyFrom yX5_copyFrom ∈ lw_tbl := pv_5 (n := 7) (List.mem_of_getElem? (i := 12) rfl)
theorem cd_X5_copyFrom : Cond.code yX5_copyFrom cX5_copyFrom 2 none ∈ wsL_law := wi_31 (List.mem_of_getElem? (i := 18) rfl)
theorem Tcd_X5_copyFrom : Cond.code yX5_copyFrom cX5_copyFrom 2 none ∈ lw_tbl := tb_4 (List.mem_of_getElem? (i := 185) rfl)
theorem ml_X5_45 : Cond.methodLink RX5 45 arraycopyName ∈ wsL_law := wi_31 (List.mem_of_getElem? (i := 19) rfl)
theorem Tml_X5_45 : Cond.methodLink RX5 45 arraycopyName ∈ lw_tbl := tb_4 (List.mem_of_getElem? (i := 186) (by decide +kernel))
theorem na_arraycopy : Cond.native arraycopyName ∈ wsL_law := wi_31 (List.mem_of_getElem? (i := 20) rfl)
theorem Tna_arraycopy : Cond.native arraycopyName ∈ lw_tbl := tb_4 (List.mem_of_getElem? (i := 188) (by decide +kernel))
theorem st_arraycopyName : Cond.static arraycopyName ∈ wsL_law := wi_31 (List.mem_of_getElem? (i := 21) rfl)
theorem Tst_arraycopyName : Cond.static arraycopyName ∈ lw_tbl := tb_4 (List.mem_of_getElem? (i := 187) (by decide +kernel))
theorem iz_J10 : Cond.initialized "java/lang/System" ∈ wsL_law := wi_31 (List.mem_of_getElem? (i := 22) rfl)
theorem Tiz_J10 : Cond.initialized "java/lang/System" ∈ lw_tbl := tb_1 (List.mem_of_getElem? (i := 16) (by decide +kernel))
theorem ml_L_133 : Cond.methodLink RL 133 yX11_read ∈ wsL_law := wi_31 (List.mem_of_getElem? (i := 23) rfl)
theorem Tml_L_133 : Cond.methodLink RL 133 yX11_read ∈ lw_tbl := tb_6 (List.mem_of_getElem? (i := 140) (by decide +kernel))
theorem im_X11_read : Cond.instanceMethod yX11_read ∈ wsL_law := wi_31 (List.mem_of_getElem? (i := 24) rfl)
theorem Tim_X11_read : Cond.instanceMethod yX11_read ∈ lw_tbl := tb_6 (List.mem_of_getElem? (i := 141) (by decide +kernel))
theorem se_X11_X11_read : Cond.selects RX11 yX11_read yX11_read ∈ wsL_law := wi_31 (List.mem_of_getElem? (i := 25) rfl)
theorem Tse_X11_X11_read : Cond.selects RX11 yX11_read yX11_read ∈ lw_tbl := tb_6 (List.mem_of_getElem? (i := 142) (by decide +kernel))
theorem cd_X11_read : Cond.code yX11_read cX11_read 6 (some .int) ∈ wsL_law := wi_31 (List.mem_of_getElem? (i := 26) rfl)
theorem Tcd_X11_read : Cond.code yX11_read cX11_read 6 (some .int) ∈ lw_tbl := tb_6 (List.mem_of_getElem? (i := 143) rfl)
theorem ml_X11_291 : Cond.methodLink RX11 291 yX11_line ∈ wsL_law := wi_31 (List.mem_of_getElem? (i := 27) rfl)
theorem Tml_X11_291 : Cond.methodLink RX11 291 yX11_line ∈ lw_tbl := tb_6 (List.mem_of_getElem? (i := 144) (by decide +kernel))
theorem im_X11_line : Cond.instanceMethod yX11_line ∈ wsL_law := wi_31 (List.mem_of_getElem? (i := 28) rfl)
theorem Tim_X11_line : Cond.instanceMethod yX11_line ∈ lw_tbl := tb_6 (List.mem_of_getElem? (i := 146) (by decide +kernel))
theorem se_X11_X11_line : Cond.selects RX11 yX11_line yX11_line ∈ wsL_law := wi_31 (List.mem_of_getElem? (i := 29) rfl)
theorem Tse_X11_X11_line : Cond.selects RX11 yX11_line yX11_line ∈ lw_tbl := pv_8 (n := 47) (List.mem_of_getElem? (i := 6) rfl)
theorem tA_31 : ∀ w ∈ wA_31, w ∈ lw_tbl := List.forall_mem_cons.mpr ⟨Tml_X7_50, List.forall_mem_cons.mpr ⟨Tim_X7_readCourse, List.forall_mem_cons.mpr ⟨Tse_X7_X7_readCourse, List.forall_mem_cons.mpr ⟨Tcd_X7_readCourse, List.forall_mem_cons.mpr ⟨Tml_X7_54, List.forall_mem_cons.mpr ⟨Tim_X7_readByte, List.forall_mem_cons.mpr ⟨Tse_X7_X7_readByte, List.forall_mem_cons.mpr ⟨Tcd_X7_readByte, List.forall_mem_cons.mpr ⟨Tml_X7_70, List.forall_mem_cons.mpr ⟨Tim_X7_here, List.forall_mem_cons.mpr ⟨Tse_X7_X7_here, List.forall_mem_cons.mpr ⟨Tcd_X7_here, List.forall_mem_cons.mpr ⟨Tml_X7_64, List.forall_mem_cons.mpr ⟨Tim_X7_readFinger, List.forall_mem_cons.mpr ⟨Tse_X7_X7_readFinger, List.forall_mem_cons.mpr ⟨Tcd_X7_readFinger, List.forall_mem_cons.mpr ⟨Tim_X5_copyFrom, List.forall_mem_cons.mpr ⟨Tse_X5_X5_copyFrom, List.forall_mem_cons.mpr ⟨Tcd_X5_copyFrom, List.forall_mem_cons.mpr ⟨Tml_X5_45, List.forall_mem_cons.mpr ⟨Tna_arraycopy, List.forall_mem_cons.mpr ⟨Tst_arraycopyName, List.forall_mem_cons.mpr ⟨Tiz_J10, List.forall_mem_cons.mpr ⟨Tml_L_133, List.forall_mem_cons.mpr ⟨Tim_X11_read, List.forall_mem_cons.mpr ⟨Tse_X11_X11_read, List.forall_mem_cons.mpr ⟨Tcd_X11_read, List.forall_mem_cons.mpr ⟨Tml_X11_291, List.forall_mem_cons.mpr ⟨Tim_X11_line, List.forall_mem_cons.mpr ⟨Tse_X11_X11_line, fun _ h => absurd h List.not_mem_nil⟩⟩⟩⟩⟩⟩⟩⟩⟩⟩⟩⟩⟩⟩⟩⟩⟩⟩⟩⟩⟩⟩⟩⟩⟩⟩⟩⟩⟩⟩
theorem cd_X11_line : Cond.code yX11_line cX11_line 8 (some .int) ∈ wsL_law := wi_32 (List.mem_of_getElem? (i := 0) rfl)
theorem Tcd_X11_line : Cond.code yX11_line cX11_line 8 (some .int) ∈ lw_tbl := tb_6 (List.mem_of_getElem? (i := 147) rfl)
theorem ml_L_134 : Cond.methodLink RL 134 yX10_count ∈ wsL_law := wi_32 (List.mem_of_getElem? (i := 1) rfl)
theorem Tml_L_134 : Cond.methodLink RL 134 yX10_count ∈ lw_tbl := tb_4 (List.mem_of_getElem? (i := 189) (by decide +kernel))
theorem im_X10_count : Cond.instanceMethod yX10_count ∈ wsL_law := wi_32 (List.mem_of_getElem? (i := 2) rfl)
theorem Tim_X10_count : Cond.instanceMethod yX10_count ∈ lw_tbl := tb_4 (List.mem_of_getElem? (i := 190) (by decide +kernel))
theorem se_X10_X10_count : Cond.selects RX10 yX10_count yX10_count ∈ wsL_law := wi_32 (List.mem_of_getElem? (i := 3) rfl)
theorem Tse_X10_X10_count : Cond.selects RX10 yX10_count yX10_count ∈ lw_tbl := tb_4 (List.mem_of_getElem? (i := 191) (by decide +kernel))
theorem cd_X10_count : Cond.code yX10_count cX10_count 2 (some .int) ∈ wsL_law := wi_32 (List.mem_of_getElem? (i := 4) rfl)
theorem Tcd_X10_count : Cond.code yX10_count cX10_count 2 (some .int) ∈ lw_tbl := tb_4 (List.mem_of_getElem? (i := 192) rfl)
theorem im_X5_notesOfTicks : Cond.instanceMethod yX5_notesOfTicks ∈ wsL_law := wi_32 (List.mem_of_getElem? (i := 5) rfl)
theorem Tim_X5_notesOfTicks : Cond.instanceMethod yX5_notesOfTicks ∈ lw_tbl := tb_4 (List.mem_of_getElem? (i := 195) (by decide +kernel))
theorem se_X5_X5_notesOfTicks : Cond.selects RX5 yX5_notesOfTicks yX5_notesOfTicks ∈ wsL_law := wi_32 (List.mem_of_getElem? (i := 6) rfl)
theorem Tse_X5_X5_notesOfTicks : Cond.selects RX5 yX5_notesOfTicks yX5_notesOfTicks ∈ lw_tbl := pv_5 (n := 7) (List.mem_of_getElem? (i := 13) rfl)
theorem cd_X5_notesOfTicks : Cond.code yX5_notesOfTicks cX5_notesOfTicks 3 (some .int) ∈ wsL_law := wi_32 (List.mem_of_getElem? (i := 7) rfl)
theorem Tcd_X5_notesOfTicks : Cond.code yX5_notesOfTicks cX5_notesOfTicks 3 (some .int) ∈ lw_tbl := tb_4 (List.mem_of_getElem? (i := 196) rfl)
theorem ml_L_137 : Cond.methodLink RL 137 yX11_count_ ∈ wsL_law := wi_32 (List.mem_of_getElem? (i := 8) rfl)
theorem Tml_L_137 : Cond.methodLink RL 137 yX11_count_ ∈ lw_tbl := tb_6 (List.mem_of_getElem? (i := 148) (by decide +kernel))
theorem im_X11_count_ : Cond.instanceMethod yX11_count_ ∈ wsL_law := wi_32 (List.mem_of_getElem? (i := 9) rfl)
theorem Tim_X11_count_ : Cond.instanceMethod yX11_count_ ∈ lw_tbl := tb_6 (List.mem_of_getElem? (i := 149) (by decide +kernel))
theorem se_X11_X11_count_ : Cond.selects RX11 yX11_count_ yX11_count_ ∈ wsL_law := wi_32 (List.mem_of_getElem? (i := 10) rfl)
theorem Tse_X11_X11_count_ : Cond.selects RX11 yX11_count_ yX11_count_ ∈ lw_tbl := tb_6 (List.mem_of_getElem? (i := 150) (by decide +kernel))
theorem cd_X11_count_ : Cond.code yX11_count_ cX11_count_ 4 (some .int) ∈ wsL_law := wi_32 (List.mem_of_getElem? (i := 11) rfl)
theorem Tcd_X11_count_ : Cond.code yX11_count_ cX11_count_ 4 (some .int) ∈ lw_tbl := tb_6 (List.mem_of_getElem? (i := 151) rfl)
theorem tA_32 : ∀ w ∈ wA_32, w ∈ lw_tbl := List.forall_mem_cons.mpr ⟨Tcd_X11_line, List.forall_mem_cons.mpr ⟨Tml_L_134, List.forall_mem_cons.mpr ⟨Tim_X10_count, List.forall_mem_cons.mpr ⟨Tse_X10_X10_count, List.forall_mem_cons.mpr ⟨Tcd_X10_count, List.forall_mem_cons.mpr ⟨Tim_X5_notesOfTicks, List.forall_mem_cons.mpr ⟨Tse_X5_X5_notesOfTicks, List.forall_mem_cons.mpr ⟨Tcd_X5_notesOfTicks, List.forall_mem_cons.mpr ⟨Tml_L_137, List.forall_mem_cons.mpr ⟨Tim_X11_count_, List.forall_mem_cons.mpr ⟨Tse_X11_X11_count_, List.forall_mem_cons.mpr ⟨Tcd_X11_count_, fun _ h => absurd h List.not_mem_nil⟩⟩⟩⟩⟩⟩⟩⟩⟩⟩⟩⟩
theorem tA_RX10 : ∀ w ∈ wsX100, w ∈ lw_tbl := by
  show ∀ w ∈ [u_lay RX10 TX10 0, u_lay RX10 TX10 1, u_lay RX10 TX10 2, u_lay RX10 TX10 3, u_lay RX10 TX10 4, u_lay RX10 TX10 5, u_lay RX10 TX10 6, u_lay RX10 TX10 7, u_lay RX10 TX10 8, u_lay RX10 TX10 9, u_lay RX10 TX10 10, u_lay RX10 TX10 11, u_lay RX10 TX10 12, u_lay RX10 TX10 13, u_lay RX10 TX10 14], w ∈ lw_tbl
  exact List.forall_mem_cons.mpr ⟨tb_2 (List.mem_of_getElem? (i := 31) (by decide +kernel)), List.forall_mem_cons.mpr ⟨tb_2 (List.mem_of_getElem? (i := 33) (by decide +kernel)), List.forall_mem_cons.mpr ⟨tb_2 (List.mem_of_getElem? (i := 35) (by decide +kernel)), List.forall_mem_cons.mpr ⟨tb_2 (List.mem_of_getElem? (i := 37) (by decide +kernel)), List.forall_mem_cons.mpr ⟨tb_2 (List.mem_of_getElem? (i := 39) (by decide +kernel)), List.forall_mem_cons.mpr ⟨tb_2 (List.mem_of_getElem? (i := 41) (by decide +kernel)), List.forall_mem_cons.mpr ⟨tb_2 (List.mem_of_getElem? (i := 43) (by decide +kernel)), List.forall_mem_cons.mpr ⟨tb_2 (List.mem_of_getElem? (i := 45) (by decide +kernel)), List.forall_mem_cons.mpr ⟨tb_2 (List.mem_of_getElem? (i := 47) (by decide +kernel)), List.forall_mem_cons.mpr ⟨tb_2 (List.mem_of_getElem? (i := 49) (by decide +kernel)), List.forall_mem_cons.mpr ⟨tb_2 (List.mem_of_getElem? (i := 51) (by decide +kernel)), List.forall_mem_cons.mpr ⟨tb_2 (List.mem_of_getElem? (i := 53) (by decide +kernel)), List.forall_mem_cons.mpr ⟨tb_2 (List.mem_of_getElem? (i := 55) (by decide +kernel)), List.forall_mem_cons.mpr ⟨tb_2 (List.mem_of_getElem? (i := 57) (by decide +kernel)), List.forall_mem_cons.mpr ⟨tb_2 (List.mem_of_getElem? (i := 59) (by decide +kernel)), fun _ h => absurd h List.not_mem_nil⟩⟩⟩⟩⟩⟩⟩⟩⟩⟩⟩⟩⟩⟩⟩
theorem tA_RX11 : ∀ w ∈ wsX110, w ∈ lw_tbl := by
  show ∀ w ∈ [u_lay RX11 TX11 0, u_lay RX11 TX11 1, u_lay RX11 TX11 2, u_lay RX11 TX11 3, u_lay RX11 TX11 4, u_lay RX11 TX11 5, u_lay RX11 TX11 6, u_lay RX11 TX11 7, u_lay RX11 TX11 8, u_lay RX11 TX11 9, u_lay RX11 TX11 10, u_lay RX11 TX11 11, u_lay RX11 TX11 12, u_lay RX11 TX11 13, u_lay RX11 TX11 14, u_lay RX11 TX11 15, u_lay RX11 TX11 16, u_lay RX11 TX11 17, u_lay RX11 TX11 18, u_lay RX11 TX11 19, u_lay RX11 TX11 20, u_lay RX11 TX11 21, u_lay RX11 TX11 22, u_lay RX11 TX11 23, u_lay RX11 TX11 24, u_lay RX11 TX11 25, u_lay RX11 TX11 26, u_lay RX11 TX11 27, u_lay RX11 TX11 28, u_lay RX11 TX11 29, u_lay RX11 TX11 30, u_lay RX11 TX11 31, u_lay RX11 TX11 32, u_lay RX11 TX11 33, u_lay RX11 TX11 34, u_lay RX11 TX11 35, u_lay RX11 TX11 36, u_lay RX11 TX11 37, u_lay RX11 TX11 38, u_lay RX11 TX11 39, u_lay RX11 TX11 40, u_lay RX11 TX11 41, u_lay RX11 TX11 42, u_lay RX11 TX11 43, u_lay RX11 TX11 44, u_lay RX11 TX11 45, u_lay RX11 TX11 46], w ∈ lw_tbl
  exact List.forall_mem_cons.mpr ⟨tb_5 (List.mem_of_getElem? (i := 12) (by decide +kernel)), List.forall_mem_cons.mpr ⟨tb_5 (List.mem_of_getElem? (i := 14) (by decide +kernel)), List.forall_mem_cons.mpr ⟨tb_5 (List.mem_of_getElem? (i := 16) (by decide +kernel)), List.forall_mem_cons.mpr ⟨tb_5 (List.mem_of_getElem? (i := 18) (by decide +kernel)), List.forall_mem_cons.mpr ⟨tb_5 (List.mem_of_getElem? (i := 20) (by decide +kernel)), List.forall_mem_cons.mpr ⟨tb_5 (List.mem_of_getElem? (i := 22) (by decide +kernel)), List.forall_mem_cons.mpr ⟨tb_5 (List.mem_of_getElem? (i := 24) (by decide +kernel)), List.forall_mem_cons.mpr ⟨tb_5 (List.mem_of_getElem? (i := 26) (by decide +kernel)), List.forall_mem_cons.mpr ⟨tb_5 (List.mem_of_getElem? (i := 28) (by decide +kernel)), List.forall_mem_cons.mpr ⟨tb_5 (List.mem_of_getElem? (i := 30) (by decide +kernel)), List.forall_mem_cons.mpr ⟨tb_5 (List.mem_of_getElem? (i := 32) (by decide +kernel)), List.forall_mem_cons.mpr ⟨tb_5 (List.mem_of_getElem? (i := 34) (by decide +kernel)), List.forall_mem_cons.mpr ⟨tb_5 (List.mem_of_getElem? (i := 36) (by decide +kernel)), List.forall_mem_cons.mpr ⟨tb_5 (List.mem_of_getElem? (i := 38) (by decide +kernel)), List.forall_mem_cons.mpr ⟨tb_5 (List.mem_of_getElem? (i := 40) (by decide +kernel)), List.forall_mem_cons.mpr ⟨tb_5 (List.mem_of_getElem? (i := 42) (by decide +kernel)), List.forall_mem_cons.mpr ⟨tb_5 (List.mem_of_getElem? (i := 44) (by decide +kernel)), List.forall_mem_cons.mpr ⟨tb_5 (List.mem_of_getElem? (i := 46) (by decide +kernel)), List.forall_mem_cons.mpr ⟨tb_5 (List.mem_of_getElem? (i := 48) (by decide +kernel)), List.forall_mem_cons.mpr ⟨tb_5 (List.mem_of_getElem? (i := 50) (by decide +kernel)), List.forall_mem_cons.mpr ⟨tb_5 (List.mem_of_getElem? (i := 52) (by decide +kernel)), List.forall_mem_cons.mpr ⟨tb_5 (List.mem_of_getElem? (i := 54) (by decide +kernel)), List.forall_mem_cons.mpr ⟨tb_5 (List.mem_of_getElem? (i := 56) (by decide +kernel)), List.forall_mem_cons.mpr ⟨tb_5 (List.mem_of_getElem? (i := 58) (by decide +kernel)), List.forall_mem_cons.mpr ⟨tb_5 (List.mem_of_getElem? (i := 60) (by decide +kernel)), List.forall_mem_cons.mpr ⟨tb_5 (List.mem_of_getElem? (i := 62) (by decide +kernel)), List.forall_mem_cons.mpr ⟨tb_5 (List.mem_of_getElem? (i := 64) (by decide +kernel)), List.forall_mem_cons.mpr ⟨tb_5 (List.mem_of_getElem? (i := 66) (by decide +kernel)), List.forall_mem_cons.mpr ⟨tb_5 (List.mem_of_getElem? (i := 68) (by decide +kernel)), List.forall_mem_cons.mpr ⟨tb_5 (List.mem_of_getElem? (i := 70) (by decide +kernel)), List.forall_mem_cons.mpr ⟨tb_5 (List.mem_of_getElem? (i := 72) (by decide +kernel)), List.forall_mem_cons.mpr ⟨tb_5 (List.mem_of_getElem? (i := 74) (by decide +kernel)), List.forall_mem_cons.mpr ⟨tb_5 (List.mem_of_getElem? (i := 76) (by decide +kernel)), List.forall_mem_cons.mpr ⟨tb_5 (List.mem_of_getElem? (i := 78) (by decide +kernel)), List.forall_mem_cons.mpr ⟨tb_5 (List.mem_of_getElem? (i := 80) (by decide +kernel)), List.forall_mem_cons.mpr ⟨tb_5 (List.mem_of_getElem? (i := 82) (by decide +kernel)), List.forall_mem_cons.mpr ⟨tb_5 (List.mem_of_getElem? (i := 84) (by decide +kernel)), List.forall_mem_cons.mpr ⟨tb_5 (List.mem_of_getElem? (i := 86) (by decide +kernel)), List.forall_mem_cons.mpr ⟨tb_5 (List.mem_of_getElem? (i := 88) (by decide +kernel)), List.forall_mem_cons.mpr ⟨tb_5 (List.mem_of_getElem? (i := 90) (by decide +kernel)), List.forall_mem_cons.mpr ⟨tb_5 (List.mem_of_getElem? (i := 92) (by decide +kernel)), List.forall_mem_cons.mpr ⟨tb_5 (List.mem_of_getElem? (i := 94) (by decide +kernel)), List.forall_mem_cons.mpr ⟨tb_5 (List.mem_of_getElem? (i := 96) (by decide +kernel)), List.forall_mem_cons.mpr ⟨tb_5 (List.mem_of_getElem? (i := 98) (by decide +kernel)), List.forall_mem_cons.mpr ⟨tb_5 (List.mem_of_getElem? (i := 100) (by decide +kernel)), List.forall_mem_cons.mpr ⟨tb_5 (List.mem_of_getElem? (i := 102) (by decide +kernel)), List.forall_mem_cons.mpr ⟨tb_5 (List.mem_of_getElem? (i := 104) (by decide +kernel)), fun _ h => absurd h List.not_mem_nil⟩⟩⟩⟩⟩⟩⟩⟩⟩⟩⟩⟩⟩⟩⟩⟩⟩⟩⟩⟩⟩⟩⟩⟩⟩⟩⟩⟩⟩⟩⟩⟩⟩⟩⟩⟩⟩⟩⟩⟩⟩⟩⟩⟩⟩⟩⟩
theorem tA_RX4 : ∀ w ∈ wsX40, w ∈ lw_tbl := by
  show ∀ w ∈ [u_lay RX4 TX4 0, u_lay RX4 TX4 1, u_lay RX4 TX4 2, u_lay RX4 TX4 3, u_lay RX4 TX4 4, u_lay RX4 TX4 5, u_lay RX4 TX4 6], w ∈ lw_tbl
  exact List.forall_mem_cons.mpr ⟨tb_1 (List.mem_of_getElem? (i := 53) (by decide +kernel)), List.forall_mem_cons.mpr ⟨tb_1 (List.mem_of_getElem? (i := 55) (by decide +kernel)), List.forall_mem_cons.mpr ⟨tb_1 (List.mem_of_getElem? (i := 57) (by decide +kernel)), List.forall_mem_cons.mpr ⟨tb_1 (List.mem_of_getElem? (i := 59) (by decide +kernel)), List.forall_mem_cons.mpr ⟨tb_1 (List.mem_of_getElem? (i := 61) (by decide +kernel)), List.forall_mem_cons.mpr ⟨tb_1 (List.mem_of_getElem? (i := 63) (by decide +kernel)), List.forall_mem_cons.mpr ⟨tb_1 (List.mem_of_getElem? (i := 65) (by decide +kernel)), fun _ h => absurd h List.not_mem_nil⟩⟩⟩⟩⟩⟩⟩
theorem tA_RX5 : ∀ w ∈ wsX50, w ∈ lw_tbl := by
  show ∀ w ∈ [u_lay RX5 TX5 0, u_lay RX5 TX5 1, u_lay RX5 TX5 2, u_lay RX5 TX5 3, u_lay RX5 TX5 4, u_lay RX5 TX5 5, u_lay RX5 TX5 6], w ∈ lw_tbl
  exact List.forall_mem_cons.mpr ⟨tb_1 (List.mem_of_getElem? (i := 102) (by decide +kernel)), List.forall_mem_cons.mpr ⟨tb_1 (List.mem_of_getElem? (i := 104) (by decide +kernel)), List.forall_mem_cons.mpr ⟨tb_1 (List.mem_of_getElem? (i := 106) (by decide +kernel)), List.forall_mem_cons.mpr ⟨tb_1 (List.mem_of_getElem? (i := 108) (by decide +kernel)), List.forall_mem_cons.mpr ⟨tb_1 (List.mem_of_getElem? (i := 110) (by decide +kernel)), List.forall_mem_cons.mpr ⟨tb_1 (List.mem_of_getElem? (i := 112) (by decide +kernel)), List.forall_mem_cons.mpr ⟨tb_1 (List.mem_of_getElem? (i := 114) (by decide +kernel)), fun _ h => absurd h List.not_mem_nil⟩⟩⟩⟩⟩⟩⟩
theorem tA_RX6 : ∀ w ∈ wsX60, w ∈ lw_tbl := by
  show ∀ w ∈ [u_lay RX6 TX6 0, u_lay RX6 TX6 1], w ∈ lw_tbl
  exact List.forall_mem_cons.mpr ⟨tb_1 (List.mem_of_getElem? (i := 129) (by decide +kernel)), List.forall_mem_cons.mpr ⟨tb_1 (List.mem_of_getElem? (i := 131) (by decide +kernel)), fun _ h => absurd h List.not_mem_nil⟩⟩
theorem tA_RX3 : ∀ w ∈ wsX30, w ∈ lw_tbl := by
  show ∀ w ∈ [u_lay RX3 TX3 0, u_lay RX3 TX3 1, u_lay RX3 TX3 2, u_lay RX3 TX3 3, u_lay RX3 TX3 4, u_lay RX3 TX3 5, u_lay RX3 TX3 6, u_lay RX3 TX3 7, u_lay RX3 TX3 8, u_lay RX3 TX3 9, u_lay RX3 TX3 10, u_lay RX3 TX3 11], w ∈ lw_tbl
  exact List.forall_mem_cons.mpr ⟨tb_1 (List.mem_of_getElem? (i := 152) (by decide +kernel)), List.forall_mem_cons.mpr ⟨tb_1 (List.mem_of_getElem? (i := 154) (by decide +kernel)), List.forall_mem_cons.mpr ⟨tb_1 (List.mem_of_getElem? (i := 156) (by decide +kernel)), List.forall_mem_cons.mpr ⟨tb_1 (List.mem_of_getElem? (i := 158) (by decide +kernel)), List.forall_mem_cons.mpr ⟨tb_1 (List.mem_of_getElem? (i := 160) (by decide +kernel)), List.forall_mem_cons.mpr ⟨tb_1 (List.mem_of_getElem? (i := 162) (by decide +kernel)), List.forall_mem_cons.mpr ⟨tb_1 (List.mem_of_getElem? (i := 164) (by decide +kernel)), List.forall_mem_cons.mpr ⟨tb_1 (List.mem_of_getElem? (i := 166) (by decide +kernel)), List.forall_mem_cons.mpr ⟨tb_1 (List.mem_of_getElem? (i := 168) (by decide +kernel)), List.forall_mem_cons.mpr ⟨tb_1 (List.mem_of_getElem? (i := 170) (by decide +kernel)), List.forall_mem_cons.mpr ⟨tb_1 (List.mem_of_getElem? (i := 172) (by decide +kernel)), List.forall_mem_cons.mpr ⟨tb_1 (List.mem_of_getElem? (i := 174) (by decide +kernel)), fun _ h => absurd h List.not_mem_nil⟩⟩⟩⟩⟩⟩⟩⟩⟩⟩⟩⟩
theorem tA_RX2 : ∀ w ∈ wsX20, w ∈ lw_tbl := by
  show ∀ w ∈ [u_lay RX2 TX2 0, u_lay RX2 TX2 1, u_lay RX2 TX2 2, u_lay RX2 TX2 3], w ∈ lw_tbl
  exact List.forall_mem_cons.mpr ⟨tb_1 (List.mem_of_getElem? (i := 188) (by decide +kernel)), List.forall_mem_cons.mpr ⟨tb_1 (List.mem_of_getElem? (i := 190) (by decide +kernel)), List.forall_mem_cons.mpr ⟨tb_1 (List.mem_of_getElem? (i := 192) (by decide +kernel)), List.forall_mem_cons.mpr ⟨tb_1 (List.mem_of_getElem? (i := 194) (by decide +kernel)), fun _ h => absurd h List.not_mem_nil⟩⟩⟩⟩
theorem tA_RX9 : ∀ w ∈ wsX90, w ∈ lw_tbl := by
  show ∀ w ∈ [u_lay RX9 TX9 0, u_lay RX9 TX9 1, u_lay RX9 TX9 2, u_lay RX9 TX9 3, u_lay RX9 TX9 4, u_lay RX9 TX9 5, u_lay RX9 TX9 6, u_lay RX9 TX9 7], w ∈ lw_tbl
  exact List.forall_mem_cons.mpr ⟨tb_1 (List.mem_of_getElem? (i := 212) (by decide +kernel)), List.forall_mem_cons.mpr ⟨tb_1 (List.mem_of_getElem? (i := 214) (by decide +kernel)), List.forall_mem_cons.mpr ⟨tb_1 (List.mem_of_getElem? (i := 216) (by decide +kernel)), List.forall_mem_cons.mpr ⟨tb_1 (List.mem_of_getElem? (i := 218) (by decide +kernel)), List.forall_mem_cons.mpr ⟨tb_1 (List.mem_of_getElem? (i := 220) (by decide +kernel)), List.forall_mem_cons.mpr ⟨tb_1 (List.mem_of_getElem? (i := 222) (by decide +kernel)), List.forall_mem_cons.mpr ⟨tb_1 (List.mem_of_getElem? (i := 224) (by decide +kernel)), List.forall_mem_cons.mpr ⟨tb_1 (List.mem_of_getElem? (i := 226) (by decide +kernel)), fun _ h => absurd h List.not_mem_nil⟩⟩⟩⟩⟩⟩⟩⟩
theorem tA_RX8 : ∀ w ∈ wsX80, w ∈ lw_tbl := by
  show ∀ w ∈ [u_lay RX8 TX8 0, u_lay RX8 TX8 1, u_lay RX8 TX8 2, u_lay RX8 TX8 3, u_lay RX8 TX8 4], w ∈ lw_tbl
  exact List.forall_mem_cons.mpr ⟨tb_2 (List.mem_of_getElem? (i := 5) (by decide +kernel)), List.forall_mem_cons.mpr ⟨tb_2 (List.mem_of_getElem? (i := 7) (by decide +kernel)), List.forall_mem_cons.mpr ⟨tb_2 (List.mem_of_getElem? (i := 9) (by decide +kernel)), List.forall_mem_cons.mpr ⟨tb_2 (List.mem_of_getElem? (i := 11) (by decide +kernel)), List.forall_mem_cons.mpr ⟨tb_2 (List.mem_of_getElem? (i := 13) (by decide +kernel)), fun _ h => absurd h List.not_mem_nil⟩⟩⟩⟩⟩
theorem tA_RX0 : ∀ w ∈ wsX00, w ∈ lw_tbl := by
  show ∀ w ∈ [u_lay RX0 TX0 0, u_lay RX0 TX0 1, u_lay RX0 TX0 2, u_lay RX0 TX0 3, u_lay RX0 TX0 4, u_lay RX0 TX0 5, u_lay RX0 TX0 6, u_lay RX0 TX0 7, u_lay RX0 TX0 8, u_lay RX0 TX0 9], w ∈ lw_tbl
  exact List.forall_mem_cons.mpr ⟨tb_3 (List.mem_of_getElem? (i := 232) (by decide +kernel)), List.forall_mem_cons.mpr ⟨tb_3 (List.mem_of_getElem? (i := 234) (by decide +kernel)), List.forall_mem_cons.mpr ⟨tb_3 (List.mem_of_getElem? (i := 236) (by decide +kernel)), List.forall_mem_cons.mpr ⟨tb_3 (List.mem_of_getElem? (i := 238) (by decide +kernel)), List.forall_mem_cons.mpr ⟨tb_4 (List.mem_of_getElem? (i := 0) (by decide +kernel)), List.forall_mem_cons.mpr ⟨tb_4 (List.mem_of_getElem? (i := 2) (by decide +kernel)), List.forall_mem_cons.mpr ⟨tb_4 (List.mem_of_getElem? (i := 4) (by decide +kernel)), List.forall_mem_cons.mpr ⟨tb_4 (List.mem_of_getElem? (i := 6) (by decide +kernel)), List.forall_mem_cons.mpr ⟨tb_4 (List.mem_of_getElem? (i := 8) (by decide +kernel)), List.forall_mem_cons.mpr ⟨tb_4 (List.mem_of_getElem? (i := 10) (by decide +kernel)), fun _ h => absurd h List.not_mem_nil⟩⟩⟩⟩⟩⟩⟩⟩⟩⟩
theorem tA_RX7 : ∀ w ∈ wsX70, w ∈ lw_tbl := by
  show ∀ w ∈ [u_lay RX7 TX7 0, u_lay RX7 TX7 1, u_lay RX7 TX7 2, u_lay RX7 TX7 3], w ∈ lw_tbl
  exact List.forall_mem_cons.mpr ⟨tb_4 (List.mem_of_getElem? (i := 144) (by decide +kernel)), List.forall_mem_cons.mpr ⟨tb_4 (List.mem_of_getElem? (i := 146) (by decide +kernel)), List.forall_mem_cons.mpr ⟨tb_4 (List.mem_of_getElem? (i := 148) (by decide +kernel)), List.forall_mem_cons.mpr ⟨tb_4 (List.mem_of_getElem? (i := 150) (by decide +kernel)), fun _ h => absurd h List.not_mem_nil⟩⟩⟩⟩
theorem wsL_law_in : ∀ w ∈ wsL_law, w ∈ lw_tbl := List.forall_mem_append.mpr ⟨tA_0, List.forall_mem_append.mpr ⟨tA_1, List.forall_mem_append.mpr ⟨tA_2, List.forall_mem_append.mpr ⟨tA_3, List.forall_mem_append.mpr ⟨tA_4, List.forall_mem_append.mpr ⟨tA_5, List.forall_mem_append.mpr ⟨tA_6, List.forall_mem_append.mpr ⟨tA_7, List.forall_mem_append.mpr ⟨tA_8, List.forall_mem_append.mpr ⟨tA_9, List.forall_mem_append.mpr ⟨tA_10, List.forall_mem_append.mpr ⟨tA_11, List.forall_mem_append.mpr ⟨tA_12, List.forall_mem_append.mpr ⟨tA_13, List.forall_mem_append.mpr ⟨tA_14, List.forall_mem_append.mpr ⟨tA_15, List.forall_mem_append.mpr ⟨tA_16, List.forall_mem_append.mpr ⟨tA_17, List.forall_mem_append.mpr ⟨tA_18, List.forall_mem_append.mpr ⟨tA_19, List.forall_mem_append.mpr ⟨tA_20, List.forall_mem_append.mpr ⟨tA_21, List.forall_mem_append.mpr ⟨tA_22, List.forall_mem_append.mpr ⟨tA_23, List.forall_mem_append.mpr ⟨tA_24, List.forall_mem_append.mpr ⟨tA_25, List.forall_mem_append.mpr ⟨tA_26, List.forall_mem_append.mpr ⟨tA_27, List.forall_mem_append.mpr ⟨tA_28, List.forall_mem_append.mpr ⟨tA_29, List.forall_mem_append.mpr ⟨tA_30, List.forall_mem_append.mpr ⟨tA_31, List.forall_mem_append.mpr ⟨tA_32, List.forall_mem_append.mpr ⟨tA_RX10, List.forall_mem_append.mpr ⟨tA_RX11, List.forall_mem_append.mpr ⟨tA_RX4, List.forall_mem_append.mpr ⟨tA_RX5, List.forall_mem_append.mpr ⟨tA_RX6, List.forall_mem_append.mpr ⟨tA_RX3, List.forall_mem_append.mpr ⟨tA_RX2, List.forall_mem_append.mpr ⟨tA_RX9, List.forall_mem_append.mpr ⟨tA_RX8, List.forall_mem_append.mpr ⟨tA_RX0, tA_RX7⟩⟩⟩⟩⟩⟩⟩⟩⟩⟩⟩⟩⟩⟩⟩⟩⟩⟩⟩⟩⟩⟩⟩⟩⟩⟩⟩⟩⟩⟩⟩⟩⟩⟩⟩⟩⟩⟩⟩⟩⟩⟩⟩
end
section
-- the nest words: fields and methods of nest mates that are linked
def nF : List (String × Nat × String × String × String × String) := [(RX10, 97, "LuteFingers$Lute", "courses", "I", "LuteFingers"), (RX7, 45, "LuteFingers$Lute", "courses", "I", "LuteFingers"), (RX3, 69, "LuteFingers$Lute", "courses", "I", "LuteFingers"), (RX10, 121, "LuteFingers$Lute", "barsMay", "Z", "LuteFingers"), (RX3, 121, "LuteFingers$Lute", "barsMay", "Z", "LuteFingers"), (RX10, 111, "LuteFingers$Lute", "tunes", "[I", "LuteFingers"), (RX7, 80, "LuteFingers$Lute", "tunes", "[I", "LuteFingers"), (RX7, 73, "LuteFingers$Lute", "frets", "[I", "LuteFingers"), (RX10, 118, "LuteFingers$Lute", "slacks", "[I", "LuteFingers"), (RX10, 124, "LuteFingers$Lute", "weights", "[I", "LuteFingers"), (RX3, 137, "LuteFingers$Lute", "weights", "[I", "LuteFingers"), (RX10, 277, "LuteFingers$Lute", "tunings", "[I", "LuteFingers"), (RX0, 46, "LuteFingers$Piece", "ticks", "I", "LuteFingers"), (RX9, 40, "LuteFingers$Piece", "ticks", "I", "LuteFingers"), (RX10, 94, "LuteFingers$Piece", "ticks", "I", "LuteFingers"), (RX7, 61, "LuteFingers$Piece", "ticks", "I", "LuteFingers"), (RX2, 48, "LuteFingers$Piece", "ticks", "I", "LuteFingers"), (RX3, 52, "LuteFingers$Piece", "sizes", "[I", "LuteFingers"), (RX7, 57, "LuteFingers$Piece", "sizes", "[I", "LuteFingers"), (RX0, 91, "LuteFingers$Piece", "sizes", "[I", "LuteFingers"), (RX10, 136, "LuteFingers$Piece", "sizes", "[I", "LuteFingers"), (RX3, 73, "LuteFingers$Piece", "pitches", "[I", "LuteFingers"), (RX7, 91, "LuteFingers$Piece", "pitches", "[I", "LuteFingers"), (RX10, 166, "LuteFingers$Piece", "pitches", "[I", "LuteFingers"), (RX3, 79, "LuteFingers$Piece", "kinds", "[I", "LuteFingers"), (RX10, 169, "LuteFingers$Piece", "kinds", "[I", "LuteFingers"), (RX0, 92, "LuteFingers$Piece", "prices", "[I", "LuteFingers"), (RX10, 172, "LuteFingers$Piece", "prices", "[I", "LuteFingers"), (RX10, 175, "LuteFingers$Piece", "fores", "[I", "LuteFingers"), (RX3, 82, "LuteFingers$Piece", "fixed", "[I", "LuteFingers"), (RX7, 94, "LuteFingers$Piece", "fixed", "[I", "LuteFingers"), (RX10, 163, "LuteFingers$Piece", "fixed", "[I", "LuteFingers"), (RX7, 67, "LuteFingers$Tape", "bytes", "[I", "LuteFingers"), (RX10, 289, "LuteFingers$Tape", "bytes", "[I", "LuteFingers"), (RX7, 32, "LuteFingers$Tape", "length", "I", "LuteFingers"), (RX10, 283, "LuteFingers$Tape", "length", "I", "LuteFingers"), (RX10, 240, "LuteFingers$WayList", "numbers", "[I", "LuteFingers"), (RX10, 231, "LuteFingers$WayList", "costs", "[I", "LuteFingers"), (RX10, 237, "LuteFingers$WayList", "known", "I", "LuteFingers"), (RX10, 228, "LuteFingers$WayList", "which", "I", "LuteFingers"), (RX10, 234, "LuteFingers$WayList", "complete", "Z", "LuteFingers"), (RX10, 267, "LuteFingers$Arranger", "leftMasks", "[I", "LuteFingers")]
def nM : List (String × Nat × MethodName × String) := [(RX10, 9, yX4_init, "LuteFingers"), (RX10, 18, yX5_init, "LuteFingers"), (RX10, 25, yX6_init, "LuteFingers"), (RX10, 32, yX3_init, "LuteFingers"), (RX10, 41, yX2_init, "LuteFingers"), (RX10, 53, yX9_init, "LuteFingers"), (RX10, 60, yX8_init, "LuteFingers"), (RX10, 311, yX8_drop, "LuteFingers"), (RX10, 157, yX2_forgetAll, "LuteFingers"), (RX10, 103, yX4_addCourse, "LuteFingers"), (RX10, 107, yX4_hasCourse, "LuteFingers"), (RX10, 127, yX5_noteOfPitch, "LuteFingers"), (RX10, 130, yX5_foreOf, "LuteFingers"), (RX10, 133, yX5_isTied, "LuteFingers"), (RX10, 139, yX5_addNote, "LuteFingers"), (RX10, 146, yX5_closeTick, "LuteFingers"), (RX10, 150, yX2_forget, "LuteFingers"), (RX10, 154, yX5_removeAll, "LuteFingers"), (RX10, 160, yX5_hasNote, "LuteFingers"), (RX10, 178, yX5_hasTick, "LuteFingers"), (RX10, 181, yX2_keep, "LuteFingers"), (RX2, 38, yX5_allNotes, "LuteFingers"), (RX2, 33, yX3_search, "LuteFingers"), (RX3, 76, yX4_fretFor, "LuteFingers"), (RX4, 45, yX10_within, "LuteFingers"), (RX3, 85, yX4_placesFor, "LuteFingers"), (RX3, 111, yX1_finger, "LuteFingers"), (RX3, 115, yX1_fret, "LuteFingers"), (RX3, 145, yX1_wholeOf, "LuteFingers"), (RX3, 97, yX1_partOf, "LuteFingers"), (RX3, 103, yX4_reaches, "LuteFingers"), (RX3, 118, yX1_courseAt, "LuteFingers"), (RX10, 184, yX2_isSpent, "LuteFingers"), (RX10, 187, yX2_size, "LuteFingers"), (RX10, 191, yX2_get, "LuteFingers"), (RX10, 195, yX1_ofAll, "LuteFingers"), (RX10, 201, yX1_ofNote, "LuteFingers"), (RX10, 205, yX5_allNotes, "LuteFingers"), (RX10, 314, yX3_search, "LuteFingers"), (RX10, 214, yX8_atHand, "LuteFingers"), (RX10, 218, yX2_keepAll, "LuteFingers"), (RX10, 221, yX9_lookThrough, "LuteFingers"), (RX9, 55, yX2_size, "LuteFingers"), (RX9, 66, yX2_get, "LuteFingers"), (RX9, 70, yX5_tieMask, "LuteFingers"), (RX5, 51, yX1_hasNote, "LuteFingers"), (RX9, 74, yX5_tieBits, "LuteFingers"), (RX9, 81, yX1_place, "LuteFingers"), (RX10, 318, yX9_findBest, "LuteFingers"), (RX9, 117, yX1_cost, "LuteFingers"), (RX9, 120, yX4_stepCost, "LuteFingers"), (RX4, 49, yX1_place, "LuteFingers"), (RX4, 61, yX1_leadCourse, "LuteFingers"), (RX10, 321, yX9_trace, "LuteFingers"), (RX10, 243, yX8_start, "LuteFingers"), (RX10, 246, yX9_costOfSpan, "LuteFingers"), (RX10, 325, yX5_tieMask, "LuteFingers"), (RX10, 329, yX5_tieBits, "LuteFingers"), (RX10, 260, yX0_init, "LuteFingers"), (RX10, 261, yX0_listGrips, "LuteFingers"), (RX0, 51, yX5_allNotes, "LuteFingers"), (RX0, 55, yX3_search, "LuteFingers"), (RX10, 264, yX0_chooseLeft, "LuteFingers"), (RX0, 100, yX5_tieBits, "LuteFingers"), (RX0, 106, yX5_tieMask, "LuteFingers"), (RX10, 270, yX2_list, "LuteFingers"), (RX10, 335, yX9_headCost, "LuteFingers"), (RX10, 332, yX4_swapTuning, "LuteFingers"), (RX4, 41, yX10_exchange, "LuteFingers"), (RX10, 286, yX6_append, "LuteFingers"), (RX10, 292, yX6_appendLine, "LuteFingers"), (RX6, 35, yX1_courseAt, "LuteFingers"), (RX6, 23, yX1_fret, "LuteFingers"), (RX6, 32, yX1_finger, "LuteFingers"), (RX10, 298, yX7_init, "LuteFingers"), (RX10, 301, yX7_findFault, "LuteFingers"), (RX7, 27, yX5_removeAll, "LuteFingers"), (RX7, 76, yX10_within, "LuteFingers"), (RX7, 83, yX5_noteOfPitch, "LuteFingers"), (RX7, 87, yX5_addNote, "LuteFingers"), (RX7, 41, yX5_closeTick, "LuteFingers"), (RX10, 304, yX5_copyFrom, "LuteFingers"), (RX10, 308, yX5_notesOfTicks, "LuteFingers")]

def nw (U : State) : Prop := (∀ q ∈ nF, va_Nw (.fieldLinkNest q.1 q.2.1 q.2.2.1 q.2.2.2.1 q.2.2.2.2.1 q.2.2.2.2.2) U) ∧ ∀ q ∈ nM, va_Nw (.methodLinkNest q.1 q.2.1 q.2.2.1 q.2.2.2) U
theorem nw.warm {s U : State} (hW : s.WarmedH U.vm) (h : nw s) : nw U := ⟨fun q hq => va_Nw.warmF hW (h.1 q hq), fun q hq => va_Nw.warmM hW (h.2 q hq)⟩
theorem nw.same {u U : State} (e : u.vm = U.vm) (h : nw u) : nw U := ⟨fun q hq => va_Nw.same rfl e (h.1 q hq), fun q hq => va_Nw.same rfl e (h.2 q hq)⟩
theorem nw.f {s : State} (h : nw s) {own : String} {i : Nat} {rf n d host : String} (hm : (own, i, rf, n, d, host) ∈ nF) {args : Array Value} : (Cond.fieldLinkNest own i rf n d host).before args s = true := va_Nw.use rfl (h.1 _ hm)
theorem nw.m {s : State} (h : nw s) {own : String} {i : Nat} {y : MethodName} {host : String} (hm : (own, i, y, host) ∈ nM) : va_Nw (.methodLinkNest own i y host) s := h.2 _ hm
set_option maxRecDepth 20000 in
theorem gd_all : wsL_law.all goodWord = true := by decide +kernel
abbrev wsM (y : MethodName) (cc : ByteArray) (n : Nat) (r : Option FieldType) : List Cond := .code y cc n r :: wsL_law
theorem gd_M {y : MethodName} {cc : ByteArray} {n : Nat} {r : Option FieldType} (h : Cond.code y cc n r ∈ wsL_law) : GoodIn wsL_law (wsM y cc n r) := fun w hw => by
  have hm : w ∈ wsL_law := (List.mem_cons.mp hw).elim (fun e => e ▸ h) id
  exact ⟨hm, good_of_word (List.all_eq_true.mp gd_all w hm)⟩
-- what a method starts from, and what it leaves
def pre0 (D : va_G) (tys : List (ClassId × FieldType)) (ws : va_W) (sz : Nat) (U : State) : Prop := U.heap.size = sz ∧ nw U ∧ va_P D vwCl ws U.heap ∧ va_K D vwCl tys U ∧ va_D (fun _ => True) ws
def pst (D : va_G) (A : Nat → Prop) (wo : va_W) (to : List (ClassId × FieldType)) (t : State) : Prop := va_P D vwCl wo t.heap ∧ va_K D vwCl to t ∧ va_D A wo
abbrev Ci (l : Launch) (D : va_G) (y : MethodName) (cc : ByteArray) (n : Nat) (r : Option FieldType) (rm : Room) (av : List Value) (tys : List (ClassId × FieldType)) (ws : va_W) (sz mc ms : Nat) (S : Type) (post : Int32 → S → Prop) (wo : S → va_W) (to : S → List (ClassId × FieldType)) : Prop :=
  Met l y (wsM y cc n r) rm (va_Pc av (pre0 D tys ws sz)) (va_Qi post (fun (u : S) t => pst D (va_A ws sz) (wo u) (to u) t) (va_A ws sz)) mc ms (va_A ws sz)
abbrev Cv (l : Launch) (D : va_G) (y : MethodName) (cc : ByteArray) (n : Nat) (rm : Room) (av : List Value) (tys : List (ClassId × FieldType)) (ws : va_W) (sz mc ms : Nat) (S : Type) (post : S → Prop) (wo : S → va_W) (to : S → List (ClassId × FieldType)) : Prop :=
  Met l y (wsM y cc n none) rm (va_Pc av (pre0 D tys ws sz)) (va_Qv post (fun (u : S) t => pst D (va_A ws sz) (wo u) (to u) t) (va_A ws sz)) mc ms (va_A ws sz)
theorem pre0.blind {D : va_G} {tys : List (ClassId × FieldType)} {ws : va_W} {sz : Nat} {av : List Value} : FrameBlind (va_Pc av (pre0 D tys ws sz)) := fun a U g mk q => by
  obtain ⟨q0, q1, qn, qP, qK, qD⟩ := q
  exact ⟨q0, q1, nw.same (u := U) rfl qn, qP, va_K.moved (u := U) (U := U.calling g mk a) (Vm.Alike.refl U.vm) qK, qD⟩
theorem pre0.at {D : va_G} {tys : List (ClassId × FieldType)} {ws : va_W} {A : Nat → Prop} {s U : State} {H : Heap} (hn : nw s) (hP : va_P D vwCl ws H) (hK : va_K D vwCl tys s) (hD : va_D A ws) (hU : U.heap = H) (hW : s.WarmedH U.vm) : pre0 D tys ws H.size U :=
  ⟨by rw [hU], hn.warm hW, by rw [hU]; exact hP, va_K.moved hW.alike hK, hD.weaken (fun _ _ _ _ => trivial)⟩
theorem fm_of_map {α β : Type} {f : α → Option β} : ∀ {l : List α} {w : List β}, l.map f = w.map some → l.filterMap f = w
  | [], [], _ => rfl
  | [], _ :: _, h => by simp at h
  | _ :: _, [], h => by simp at h
  | a :: l, b :: w, h => by
    simp only [List.map_cons, List.cons.injEq] at h
    rw [List.filterMap_cons, h.1]
    simp only
    rw [fm_of_map h.2]


theorem Ci_of {l : Launch} {D : va_G} {y : MethodName} {cc : ByteArray} {n : Nat} {r : Option FieldType} {rm : Room} {av : List Value} {tys : List (ClassId × FieldType)} {ws : va_W} {sz mc ms : Nat} {S : Type} {post : Int32 → S → Prop} {wo : S → va_W} {to : S → List (ClassId × FieldType)} {lv : List (Nat × Value)} (hy : plainName y.cls = true) (hle : Nat.ble (lg_sl av).length n = true) (hlv : lv_args 0 av = lv)
    (body : ∀ (p : Program) (e : Env) (s : State) (m : MethodId) (below : List Frame) (meth : Method) (c : Code) (A : Nat → Prop) (ls : Array Slot), p.tables.exec = Jvm.exec → c.code = cc → c.maxLocals = n → meth.sig.returnType = r → s.vm.findClass y.cls = some m.cls → (∀ w ∈ wsL_law, w.before av.toArray s = true) → meth.locks = false → meth.name = y.name → nw s → va_P D vwCl ws s.heap → va_D A ws → va_K D vwCl tys s → va_S A s.heap s.heap [] → (∀ q : Nat, s.heap.size ≤ q → A q) → lv_has ls n lv →
      W p l e rm s m av.toArray below meth c s.heap [] 0 0 (MQ below (va_Qi post (fun (u : S) t => pst D A (wo u) (to u) t) A) av.toArray s mc ms A) (F0 m 0 ls [])) :
    Ci l D y cc n r rm av tys ws sz mc ms S post wo to := by
  refine Met.ofW (cc := cc) (maxL := n) (ret := r) hy rfl ?_
  intro p e s m args below meth c s₁ B hml hv
  obtain ⟨rfl, hsz, hn, hP, hK, hD0⟩ := hv
  have hts := atoms_spec (ws := wsM y cc n r) B.pre
  have hown : s.vm.findClass y.cls = some m.cls := findClass_of_methodNamed B.named
  subst hsz
  have hl := lv_entry av (n := n) (Nat.le_of_ble_eq_true hle)
  rw [lg_entry_eq]
  rw [hlv] at hl
  exact body p e s m below meth c _ _ B.exec B.bytes hml B.returns hown (fun w hw => hts w (List.mem_cons_of_mem _ hw)) B.notSynchronized (name_of_methodNamed B.named B.method).1 hn hP hD0.self hK va_S.rf (fun q h => Or.inr h) hl


theorem Cv_of {l : Launch} {D : va_G} {y : MethodName} {cc : ByteArray} {n : Nat} {rm : Room} {av : List Value} {tys : List (ClassId × FieldType)} {ws : va_W} {sz mc ms : Nat} {S : Type} {post : S → Prop} {wo : S → va_W} {to : S → List (ClassId × FieldType)} {lv : List (Nat × Value)} (hy : plainName y.cls = true) (hle : Nat.ble (lg_sl av).length n = true) (hlv : lv_args 0 av = lv)
    (body : ∀ (p : Program) (e : Env) (s : State) (m : MethodId) (below : List Frame) (meth : Method) (c : Code) (A : Nat → Prop) (ls : Array Slot), p.tables.exec = Jvm.exec → c.code = cc → c.maxLocals = n → meth.sig.returnType = none → s.vm.findClass y.cls = some m.cls → (∀ w ∈ wsL_law, w.before av.toArray s = true) → meth.locks = false → meth.name = y.name → nw s → va_P D vwCl ws s.heap → va_D A ws → va_K D vwCl tys s → va_S A s.heap s.heap [] → (∀ q : Nat, s.heap.size ≤ q → A q) → lv_has ls n lv →
      W p l e rm s m av.toArray below meth c s.heap [] 0 0 (MQ below (va_Qv post (fun (u : S) t => pst D A (wo u) (to u) t) A) av.toArray s mc ms A) (F0 m 0 ls [])) :
    Cv l D y cc n rm av tys ws sz mc ms S post wo to := by
  refine Met.ofW (cc := cc) (maxL := n) (ret := none) hy rfl ?_
  intro p e s m args below meth c s₁ B hml hv
  obtain ⟨rfl, hsz, hn, hP, hK, hD0⟩ := hv
  have hts := atoms_spec (ws := wsM y cc n none) B.pre
  have hown : s.vm.findClass y.cls = some m.cls := findClass_of_methodNamed B.named
  subst hsz
  have hl := lv_entry av (n := n) (Nat.le_of_ble_eq_true hle)
  rw [lg_entry_eq]
  rw [hlv] at hl
  exact body p e s m below meth c _ _ B.exec B.bytes hml B.returns hown (fun w hw => hts w (List.mem_cons_of_mem _ hw)) B.notSynchronized (name_of_methodNamed B.named B.method).1 hn hP hD0.self hK va_S.rf (fun q h => Or.inr h) hl


section KR
variable {p : Program} {l : Launch} {e : Env} {R : Room} {s : State} {m : MethodId} {args : Array Value} {below : List Frame} {meth : Method} {c : Code} {H : Heap} {locs : List Loc} {cells slots : Nat} {cc : ByteArray} {D : va_G} {A : Nat → Prop} {S : Type} {wo : S → va_W} {to : S → List (ClassId × FieldType)} {pc : Nat} {ls : Array Slot}
theorem k_iret {post : Int32 → S → Prop} {v : Int32} {ty : FieldType} (u : S) (hx : p.tables.exec = Jvm.exec) (hb : c.code = cc) (hr : meth.sig.returnType = some ty) (hlocks : meth.locks = false) (hn : narrow ty (.int v) = .int v) (hP : va_P D vwCl (wo u) H) (hD : va_D A (wo u)) (hK : va_K D vwCl (to u) s) (hS : va_S A s.heap H locs) (hpost : post v u) (hdg : decode cc pc = .ok (.ireturn, 1)) :
    W p l e R s m args below meth c H locs cells slots (MQ below (va_Qi post (fun (u : S) t => pst D A (wo u) (to u) t) A) args s cells slots A) (F0 m pc ls [.int v]) :=
  W.zret (v := v) hx hb hr hn (fun t ht hW => ⟨⟨v, u, rfl, hpost, by rw [ht]; exact hP, va_K.moved hW.alike hK, hD⟩, hS.F ht⟩) hS.2.2 hdg hlocks
theorem k_vret {post : S → Prop} (u : S) (hx : p.tables.exec = Jvm.exec) (hb : c.code = cc) (hr : meth.sig.returnType = none) (hlocks : meth.locks = false) (hP : va_P D vwCl (wo u) H) (hD : va_D A (wo u)) (hK : va_K D vwCl (to u) s) (hS : va_S A s.heap H locs) (hpost : post u) (hdg : decode cc pc = .ok (.return_, 1)) :
    W p l e R s m args below meth c H locs cells slots (MQ below (va_Qv post (fun (u : S) t => pst D A (wo u) (to u) t) A) args s cells slots A) (F0 m pc ls []) :=
  W.vret hx hb hr (fun t ht hW => ⟨⟨u, rfl, hpost, by rw [ht]; exact hP, va_K.moved hW.alike hK, hD⟩, hS.F ht⟩) hS.2.2 hdg hlocks
theorem k_objInit {own : String} {idx : Nat} {a : Nat} {rest : List Value} (hx : p.tables.exec = Jvm.exec) (hb : c.code = cc) (hml : c.maxLocals = ls.size) (hown : s.vm.findClass own = some m.cls) (hts : ∀ w ∈ wsL_law, w.before args s = true) (hl : Cond.methodLink own idx objectInit ∈ wsL_law) (hi : Cond.instanceMethod objectInit ∈ wsL_law) (hc : Cond.code objectInit ⟨#[0xb1]⟩ 1 none ∈ wsL_law) (hf : 1 ≤ R.frames) (hlo : (rest.map fun v => v.category).sum + 12 ≤ R.locals) (hdg : decode cc pc = .ok (.invokespecial idx, 3)) {Q : State → Prop}
    (kk : W p l e R s m args below meth c H locs cells slots Q (F0 m (pc + 3) ls rest)) : W p l e R s m args below meth c H locs cells slots Q (F0 m pc ls (.ref a :: rest)) :=
  W.objInit hx hb hown (hts _ hl) (hts _ hi) (hts _ hc) rfl hml.symm rfl hdg hf (by show 2 * 0 + _ + 12 ≤ _; rw [Nat.mul_zero, Nat.zero_add]; exact hlo) kk
end KR

set_option maxHeartbeats 1000000 in
theorem kVi {p : Program} {l : Launch} {e : Env} {R : Room} {s : State} {m : MethodId} {args : Array Value} {below : List Frame} {meth : Method} {c : Code} {H : Heap} {locs : List Loc} {cells slots : Nat} {Q : State → Prop} {cc cy : ByteArray} {nL ny idx mc ms n : Nat} {own : String} {y : MethodName} {r0 : Option FieldType} {rm : Room} {D : va_G} {A0 : Nat → Prop} {H0 : Heap} {S : Type} {post : Int32 → S → Prop} {wo : S → va_W} {to : S → List (ClassId × FieldType)} {pc : Nat} {ls : Array Slot} {st0 rest As : List Value} {b : Nat} {ws wc : va_W} {tys tyc : List (ClassId × FieldType)} {C : String} {ci : Nat} {T : u_T} {NN : Nat} {fs : List Value}
    (E : CallFix p m c cc nL s args wsL_law own) (hn : nw s) (hM : Ci l D y cy ny r0 rm (.ref b :: As) tyc wc H.size mc ms S post wo to)
    (hcd : Cond.code y cy ny r0 ∈ wsL_law) (hini : Cond.initialized y.cls ∈ wsL_law) (hli : Cond.methodLink own idx y ∈ wsL_law) (hin : Cond.instanceMethod y ∈ wsL_law) (hse : Cond.selects C y y ∈ wsL_law)
    (hd : y.cls ≠ "java/lang/invoke/MethodHandle" ∧ y.cls ≠ "java/lang/invoke/VarHandle" ∧ (parseMethodDescriptor y.desc).map (fun d => d.parameters.length) = some n) (hAs : As.length = n)
    (hfr : rm.frames + 1 ≤ R.frames) (hlo : 8 + (ny + 11) + rm.locals ≤ R.locals) (hmc : rm.cells = mc) (hms : rm.slots = ms) (hcs : cells + mc ≤ R.cells) (hss : slots + ms ≤ R.slots)
    (hP : va_P D vwCl ws H) (hD : va_D A0 ws) (hK : va_K D vwCl tys s) (hS : va_S A0 H0 H locs) (hA : ∀ q, H0.size ≤ q → A0 q)
    (isC isR isK : List Nat) (hC : isC.map (fun i => ws[i]?) = wc.map some) {wr : va_W} (hR : isR.map (fun i => ws[i]?) = wr.map some) (hnc : va_nd isC = true) (hnr : va_nd isR = true) (hdis : ∀ i ∈ isR, i ∉ isC) (hk : isK.filterMap (fun i => tys[i]?) = tyc) (hcl : vwCl[ci]? = some (C, T, NN)) (iB : Nat) (hrec : wc[iB]? = some (b, .inr (ci, fs)))
    (hsz : ls.size = nL) (hst : st0 = As.reverse ++ .ref b :: rest) (hrm : (rest.map fun v => v.category).sum ≤ 8) (hdg : decode cc pc = .ok (.invokevirtual idx, 3))
    (kk : ∀ (r : Int32) (u : S) (H1 : Heap) (locs1 : List Loc), post r u → va_P D vwCl (wr ++ wo u) H1 → va_D A0 (wr ++ wo u) → va_K D vwCl (tys ++ to u) s → va_S A0 H0 H1 locs1 → W p l e R s m args below meth c H1 locs1 (cells + mc) (slots + ms) Q (F0 m (pc + 3) ls (.int r :: rest))) :
    W p l e R s m args below meth c H locs cells slots Q (F0 m pc ls st0) := by
  have hPc := hP.sub (ws' := wc) isC (fm_of_map hC)
  have hDc := hD.sub (ws' := wc) isC hnc hC
  have hKc := hK.sub (tys' := tyc) isK hk
  have hFc := va_free (wc := wc) hD hS hA isC hC
  refine va_calli (va_runV (As := As) (rest := rest) E hM ⟨callB_of n E.2.2.2.2 (gd_M hcd) rfl hmc hms (E.2.2.2.2 _ hini) (E.2.2.2.2 _ hli) hd ⟨hfr, hlo⟩, E.2.2.2.2 _ hin, E.2.2.2.2 _ hse⟩ ⟨pre0.blind, va_recv hKc hPc (ci := ci) (q0 := iB) hcl hrec, fun U hU hW => ⟨rfl, pre0.at hn hPc hKc hDc hU hW⟩⟩ rfl hAs hsz hst (lv_room hrm) hdg ⟨hcs, hss⟩) hS (fun q _ h => hFc q h) hFc (fun r u t H1 locs1 ht hvm hw hB hz1 hk1 hS1 => ?_)
  obtain ⟨hP1, hK1, hD1⟩ := hB
  rw [ht] at hP1
  have hK1 := va_K.moved hvm.symm hK1
  obtain ⟨hPn, hDn⟩ := va_join (wr := wr) (w1 := wo u) hP hD isC isR hC hR hnr hdis hk1 hFc hP1 hD1
  exact kk r u H1 locs1 hw hPn hDn (hK.app hK1) hS1

set_option maxHeartbeats 1000000 in
theorem kVv {p : Program} {l : Launch} {e : Env} {R : Room} {s : State} {m : MethodId} {args : Array Value} {below : List Frame} {meth : Method} {c : Code} {H : Heap} {locs : List Loc} {cells slots : Nat} {Q : State → Prop} {cc cy : ByteArray} {nL ny idx mc ms n : Nat} {own : String} {y : MethodName} {rm : Room} {D : va_G} {A0 : Nat → Prop} {H0 : Heap} {S : Type} {post : S → Prop} {wo : S → va_W} {to : S → List (ClassId × FieldType)} {pc : Nat} {ls : Array Slot} {st0 rest As : List Value} {b : Nat} {ws wc : va_W} {tys tyc : List (ClassId × FieldType)} {C : String} {ci : Nat} {T : u_T} {NN : Nat} {fs : List Value}
    (E : CallFix p m c cc nL s args wsL_law own) (hn : nw s) (hM : Cv l D y cy ny rm (.ref b :: As) tyc wc H.size mc ms S post wo to)
    (hcd : Cond.code y cy ny none ∈ wsL_law) (hini : Cond.initialized y.cls ∈ wsL_law) (hli : Cond.methodLink own idx y ∈ wsL_law) (hin : Cond.instanceMethod y ∈ wsL_law) (hse : Cond.selects C y y ∈ wsL_law)
    (hd : y.cls ≠ "java/lang/invoke/MethodHandle" ∧ y.cls ≠ "java/lang/invoke/VarHandle" ∧ (parseMethodDescriptor y.desc).map (fun d => d.parameters.length) = some n) (hAs : As.length = n)
    (hfr : rm.frames + 1 ≤ R.frames) (hlo : 8 + (ny + 11) + rm.locals ≤ R.locals) (hmc : rm.cells = mc) (hms : rm.slots = ms) (hcs : cells + mc ≤ R.cells) (hss : slots + ms ≤ R.slots)
    (hP : va_P D vwCl ws H) (hD : va_D A0 ws) (hK : va_K D vwCl tys s) (hS : va_S A0 H0 H locs) (hA : ∀ q, H0.size ≤ q → A0 q)
    (isC isR isK : List Nat) (hC : isC.map (fun i => ws[i]?) = wc.map some) {wr : va_W} (hR : isR.map (fun i => ws[i]?) = wr.map some) (hnc : va_nd isC = true) (hnr : va_nd isR = true) (hdis : ∀ i ∈ isR, i ∉ isC) (hk : isK.filterMap (fun i => tys[i]?) = tyc) (hcl : vwCl[ci]? = some (C, T, NN)) (iB : Nat) (hrec : wc[iB]? = some (b, .inr (ci, fs)))
    (hsz : ls.size = nL) (hst : st0 = As.reverse ++ .ref b :: rest) (hrm : (rest.map fun v => v.category).sum ≤ 8) (hdg : decode cc pc = .ok (.invokevirtual idx, 3))
    (kk : ∀ (u : S) (H1 : Heap) (locs1 : List Loc), post u → va_P D vwCl (wr ++ wo u) H1 → va_D A0 (wr ++ wo u) → va_K D vwCl (tys ++ to u) s → va_S A0 H0 H1 locs1 → W p l e R s m args below meth c H1 locs1 (cells + mc) (slots + ms) Q (F0 m (pc + 3) ls (rest))) :
    W p l e R s m args below meth c H locs cells slots Q (F0 m pc ls st0) := by
  have hPc := hP.sub (ws' := wc) isC (fm_of_map hC)
  have hDc := hD.sub (ws' := wc) isC hnc hC
  have hKc := hK.sub (tys' := tyc) isK hk
  have hFc := va_free (wc := wc) hD hS hA isC hC
  refine va_callv (va_runV (As := As) (rest := rest) E hM ⟨callB_of n E.2.2.2.2 (gd_M hcd) rfl hmc hms (E.2.2.2.2 _ hini) (E.2.2.2.2 _ hli) hd ⟨hfr, hlo⟩, E.2.2.2.2 _ hin, E.2.2.2.2 _ hse⟩ ⟨pre0.blind, va_recv hKc hPc (ci := ci) (q0 := iB) hcl hrec, fun U hU hW => ⟨rfl, pre0.at hn hPc hKc hDc hU hW⟩⟩ rfl hAs hsz hst (lv_room hrm) hdg ⟨hcs, hss⟩) hS (fun q _ h => hFc q h) hFc (fun u t H1 locs1 ht hvm hw hB hz1 hk1 hS1 => ?_)
  obtain ⟨hP1, hK1, hD1⟩ := hB
  rw [ht] at hP1
  have hK1 := va_K.moved hvm.symm hK1
  obtain ⟨hPn, hDn⟩ := va_join (wr := wr) (w1 := wo u) hP hD isC isR hC hR hnr hdis hk1 hFc hP1 hD1
  exact kk u H1 locs1 hw hPn hDn (hK.app hK1) hS1

set_option maxHeartbeats 1000000 in
theorem kVNi {p : Program} {l : Launch} {e : Env} {R : Room} {s : State} {m : MethodId} {args : Array Value} {below : List Frame} {meth : Method} {c : Code} {H : Heap} {locs : List Loc} {cells slots : Nat} {Q : State → Prop} {cc cy : ByteArray} {nL ny idx mc ms n : Nat} {own : String} {y : MethodName} {host : String} {r0 : Option FieldType} {rm : Room} {D : va_G} {A0 : Nat → Prop} {H0 : Heap} {S : Type} {post : Int32 → S → Prop} {wo : S → va_W} {to : S → List (ClassId × FieldType)} {pc : Nat} {ls : Array Slot} {st0 rest As : List Value} {b : Nat} {ws wc : va_W} {tys tyc : List (ClassId × FieldType)} {C : String} {ci : Nat} {T : u_T} {NN : Nat} {fs : List Value}
    (E : CallFix p m c cc nL s args wsL_law own) (hn : nw s) (hM : Ci l D y cy ny r0 rm (.ref b :: As) tyc wc H.size mc ms S post wo to)
    (hcd : Cond.code y cy ny r0 ∈ wsL_law) (hini : Cond.initialized y.cls ∈ wsL_law) (hli : (own, idx, y, host) ∈ nM) (hin : Cond.instanceMethod y ∈ wsL_law) (hse : Cond.selects C y y ∈ wsL_law)
    (hd : y.cls ≠ "java/lang/invoke/MethodHandle" ∧ y.cls ≠ "java/lang/invoke/VarHandle" ∧ (parseMethodDescriptor y.desc).map (fun d => d.parameters.length) = some n) (hAs : As.length = n)
    (hfr : rm.frames + 1 ≤ R.frames) (hlo : 8 + (ny + 11) + rm.locals ≤ R.locals) (hmc : rm.cells = mc) (hms : rm.slots = ms) (hcs : cells + mc ≤ R.cells) (hss : slots + ms ≤ R.slots)
    (hP : va_P D vwCl ws H) (hD : va_D A0 ws) (hK : va_K D vwCl tys s) (hS : va_S A0 H0 H locs) (hA : ∀ q, H0.size ≤ q → A0 q)
    (isC isR isK : List Nat) (hC : isC.map (fun i => ws[i]?) = wc.map some) {wr : va_W} (hR : isR.map (fun i => ws[i]?) = wr.map some) (hnc : va_nd isC = true) (hnr : va_nd isR = true) (hdis : ∀ i ∈ isR, i ∉ isC) (hk : isK.filterMap (fun i => tys[i]?) = tyc) (hcl : vwCl[ci]? = some (C, T, NN)) (iB : Nat) (hrec : wc[iB]? = some (b, .inr (ci, fs)))
    (hsz : ls.size = nL) (hst : st0 = As.reverse ++ .ref b :: rest) (hrm : (rest.map fun v => v.category).sum ≤ 8) (hdg : decode cc pc = .ok (.invokevirtual idx, 3))
    (kk : ∀ (r : Int32) (u : S) (H1 : Heap) (locs1 : List Loc), post r u → va_P D vwCl (wr ++ wo u) H1 → va_D A0 (wr ++ wo u) → va_K D vwCl (tys ++ to u) s → va_S A0 H0 H1 locs1 → W p l e R s m args below meth c H1 locs1 (cells + mc) (slots + ms) Q (F0 m (pc + 3) ls (.int r :: rest))) :
    W p l e R s m args below meth c H locs cells slots Q (F0 m pc ls st0) := by
  have hPc := hP.sub (ws' := wc) isC (fm_of_map hC)
  have hDc := hD.sub (ws' := wc) isC hnc hC
  have hKc := hK.sub (tys' := tyc) isK hk
  have hFc := va_free (wc := wc) hD hS hA isC hC
  refine va_calli (va_runVN (As := As) (rest := rest) E hM ⟨va_cnB n E.2.2.2.2 (gd_M hcd) rfl hmc hms (hn.m hli) (E.2.2.2.2 _ hini) hd ⟨hfr, hlo⟩, E.2.2.2.2 _ hin, E.2.2.2.2 _ hse⟩ ⟨pre0.blind, va_recv hKc hPc (ci := ci) (q0 := iB) hcl hrec, fun U hU hW => ⟨rfl, pre0.at hn hPc hKc hDc hU hW⟩⟩ rfl hAs hsz hst (lv_room hrm) hdg ⟨hcs, hss⟩) hS (fun q _ h => hFc q h) hFc (fun r u t H1 locs1 ht hvm hw hB hz1 hk1 hS1 => ?_)
  obtain ⟨hP1, hK1, hD1⟩ := hB
  rw [ht] at hP1
  have hK1 := va_K.moved hvm.symm hK1
  obtain ⟨hPn, hDn⟩ := va_join (wr := wr) (w1 := wo u) hP hD isC isR hC hR hnr hdis hk1 hFc hP1 hD1
  exact kk r u H1 locs1 hw hPn hDn (hK.app hK1) hS1

set_option maxHeartbeats 1000000 in
theorem kVNv {p : Program} {l : Launch} {e : Env} {R : Room} {s : State} {m : MethodId} {args : Array Value} {below : List Frame} {meth : Method} {c : Code} {H : Heap} {locs : List Loc} {cells slots : Nat} {Q : State → Prop} {cc cy : ByteArray} {nL ny idx mc ms n : Nat} {own : String} {y : MethodName} {host : String} {rm : Room} {D : va_G} {A0 : Nat → Prop} {H0 : Heap} {S : Type} {post : S → Prop} {wo : S → va_W} {to : S → List (ClassId × FieldType)} {pc : Nat} {ls : Array Slot} {st0 rest As : List Value} {b : Nat} {ws wc : va_W} {tys tyc : List (ClassId × FieldType)} {C : String} {ci : Nat} {T : u_T} {NN : Nat} {fs : List Value}
    (E : CallFix p m c cc nL s args wsL_law own) (hn : nw s) (hM : Cv l D y cy ny rm (.ref b :: As) tyc wc H.size mc ms S post wo to)
    (hcd : Cond.code y cy ny none ∈ wsL_law) (hini : Cond.initialized y.cls ∈ wsL_law) (hli : (own, idx, y, host) ∈ nM) (hin : Cond.instanceMethod y ∈ wsL_law) (hse : Cond.selects C y y ∈ wsL_law)
    (hd : y.cls ≠ "java/lang/invoke/MethodHandle" ∧ y.cls ≠ "java/lang/invoke/VarHandle" ∧ (parseMethodDescriptor y.desc).map (fun d => d.parameters.length) = some n) (hAs : As.length = n)
    (hfr : rm.frames + 1 ≤ R.frames) (hlo : 8 + (ny + 11) + rm.locals ≤ R.locals) (hmc : rm.cells = mc) (hms : rm.slots = ms) (hcs : cells + mc ≤ R.cells) (hss : slots + ms ≤ R.slots)
    (hP : va_P D vwCl ws H) (hD : va_D A0 ws) (hK : va_K D vwCl tys s) (hS : va_S A0 H0 H locs) (hA : ∀ q, H0.size ≤ q → A0 q)
    (isC isR isK : List Nat) (hC : isC.map (fun i => ws[i]?) = wc.map some) {wr : va_W} (hR : isR.map (fun i => ws[i]?) = wr.map some) (hnc : va_nd isC = true) (hnr : va_nd isR = true) (hdis : ∀ i ∈ isR, i ∉ isC) (hk : isK.filterMap (fun i => tys[i]?) = tyc) (hcl : vwCl[ci]? = some (C, T, NN)) (iB : Nat) (hrec : wc[iB]? = some (b, .inr (ci, fs)))
    (hsz : ls.size = nL) (hst : st0 = As.reverse ++ .ref b :: rest) (hrm : (rest.map fun v => v.category).sum ≤ 8) (hdg : decode cc pc = .ok (.invokevirtual idx, 3))
    (kk : ∀ (u : S) (H1 : Heap) (locs1 : List Loc), post u → va_P D vwCl (wr ++ wo u) H1 → va_D A0 (wr ++ wo u) → va_K D vwCl (tys ++ to u) s → va_S A0 H0 H1 locs1 → W p l e R s m args below meth c H1 locs1 (cells + mc) (slots + ms) Q (F0 m (pc + 3) ls (rest))) :
    W p l e R s m args below meth c H locs cells slots Q (F0 m pc ls st0) := by
  have hPc := hP.sub (ws' := wc) isC (fm_of_map hC)
  have hDc := hD.sub (ws' := wc) isC hnc hC
  have hKc := hK.sub (tys' := tyc) isK hk
  have hFc := va_free (wc := wc) hD hS hA isC hC
  refine va_callv (va_runVN (As := As) (rest := rest) E hM ⟨va_cnB n E.2.2.2.2 (gd_M hcd) rfl hmc hms (hn.m hli) (E.2.2.2.2 _ hini) hd ⟨hfr, hlo⟩, E.2.2.2.2 _ hin, E.2.2.2.2 _ hse⟩ ⟨pre0.blind, va_recv hKc hPc (ci := ci) (q0 := iB) hcl hrec, fun U hU hW => ⟨rfl, pre0.at hn hPc hKc hDc hU hW⟩⟩ rfl hAs hsz hst (lv_room hrm) hdg ⟨hcs, hss⟩) hS (fun q _ h => hFc q h) hFc (fun u t H1 locs1 ht hvm hw hB hz1 hk1 hS1 => ?_)
  obtain ⟨hP1, hK1, hD1⟩ := hB
  rw [ht] at hP1
  have hK1 := va_K.moved hvm.symm hK1
  obtain ⟨hPn, hDn⟩ := va_join (wr := wr) (w1 := wo u) hP hD isC isR hC hR hnr hdis hk1 hFc hP1 hD1
  exact kk u H1 locs1 hw hPn hDn (hK.app hK1) hS1

set_option maxHeartbeats 1000000 in
theorem kSi {p : Program} {l : Launch} {e : Env} {R : Room} {s : State} {m : MethodId} {args : Array Value} {below : List Frame} {meth : Method} {c : Code} {H : Heap} {locs : List Loc} {cells slots : Nat} {Q : State → Prop} {cc cy : ByteArray} {nL ny idx mc ms n : Nat} {own : String} {y : MethodName} {r0 : Option FieldType} {rm : Room} {D : va_G} {A0 : Nat → Prop} {H0 : Heap} {S : Type} {post : Int32 → S → Prop} {wo : S → va_W} {to : S → List (ClassId × FieldType)} {pc : Nat} {ls : Array Slot} {st0 rest As : List Value} {b : Nat} {ws wc : va_W} {tys tyc : List (ClassId × FieldType)} 
    (E : CallFix p m c cc nL s args wsL_law own) (hn : nw s) (hM : Ci l D y cy ny r0 rm (As) tyc wc H.size mc ms S post wo to)
    (hcd : Cond.code y cy ny r0 ∈ wsL_law) (hini : Cond.initialized y.cls ∈ wsL_law) (hli : Cond.methodLink own idx y ∈ wsL_law) (hstt : Cond.static y ∈ wsL_law)
    (hd : y.cls ≠ "java/lang/invoke/MethodHandle" ∧ y.cls ≠ "java/lang/invoke/VarHandle" ∧ (parseMethodDescriptor y.desc).map (fun d => d.parameters.length) = some n) (hAs : As.length = n)
    (hfr : rm.frames + 1 ≤ R.frames) (hlo : 8 + (ny + 11) + rm.locals ≤ R.locals) (hmc : rm.cells = mc) (hms : rm.slots = ms) (hcs : cells + mc ≤ R.cells) (hss : slots + ms ≤ R.slots)
    (hP : va_P D vwCl ws H) (hD : va_D A0 ws) (hK : va_K D vwCl tys s) (hS : va_S A0 H0 H locs) (hA : ∀ q, H0.size ≤ q → A0 q)
    (isC isR isK : List Nat) (hC : isC.map (fun i => ws[i]?) = wc.map some) {wr : va_W} (hR : isR.map (fun i => ws[i]?) = wr.map some) (hnc : va_nd isC = true) (hnr : va_nd isR = true) (hdis : ∀ i ∈ isR, i ∉ isC) (hk : isK.filterMap (fun i => tys[i]?) = tyc) 
    (hsz : ls.size = nL) (hst : st0 = As.reverse ++ rest) (hrm : (rest.map fun v => v.category).sum ≤ 8) (hdg : decode cc pc = .ok (.invokestatic idx, 3))
    (kk : ∀ (r : Int32) (u : S) (H1 : Heap) (locs1 : List Loc), post r u → va_P D vwCl (wr ++ wo u) H1 → va_D A0 (wr ++ wo u) → va_K D vwCl (tys ++ to u) s → va_S A0 H0 H1 locs1 → W p l e R s m args below meth c H1 locs1 (cells + mc) (slots + ms) Q (F0 m (pc + 3) ls (.int r :: rest))) :
    W p l e R s m args below meth c H locs cells slots Q (F0 m pc ls st0) := by
  have hPc := hP.sub (ws' := wc) isC (fm_of_map hC)
  have hDc := hD.sub (ws' := wc) isC hnc hC
  have hKc := hK.sub (tys' := tyc) isK hk
  have hFc := va_free (wc := wc) hD hS hA isC hC
  refine va_calli (va_runS (As := As) (rest := rest) E hM ⟨callB_of n E.2.2.2.2 (gd_M hcd) rfl hmc hms (E.2.2.2.2 _ hini) (E.2.2.2.2 _ hli) hd ⟨hfr, hlo⟩, E.2.2.2.2 _ hstt⟩ ⟨pre0.blind, fun U hU hW => ⟨rfl, pre0.at hn hPc hKc hDc hU hW⟩⟩ rfl hAs hsz hst (lv_room hrm) hdg ⟨hcs, hss⟩) hS (fun q _ h => hFc q h) hFc (fun r u t H1 locs1 ht hvm hw hB hz1 hk1 hS1 => ?_)
  obtain ⟨hP1, hK1, hD1⟩ := hB
  rw [ht] at hP1
  have hK1 := va_K.moved hvm.symm hK1
  obtain ⟨hPn, hDn⟩ := va_join (wr := wr) (w1 := wo u) hP hD isC isR hC hR hnr hdis hk1 hFc hP1 hD1
  exact kk r u H1 locs1 hw hPn hDn (hK.app hK1) hS1

set_option maxHeartbeats 1000000 in
theorem kSv {p : Program} {l : Launch} {e : Env} {R : Room} {s : State} {m : MethodId} {args : Array Value} {below : List Frame} {meth : Method} {c : Code} {H : Heap} {locs : List Loc} {cells slots : Nat} {Q : State → Prop} {cc cy : ByteArray} {nL ny idx mc ms n : Nat} {own : String} {y : MethodName} {rm : Room} {D : va_G} {A0 : Nat → Prop} {H0 : Heap} {S : Type} {post : S → Prop} {wo : S → va_W} {to : S → List (ClassId × FieldType)} {pc : Nat} {ls : Array Slot} {st0 rest As : List Value} {b : Nat} {ws wc : va_W} {tys tyc : List (ClassId × FieldType)} 
    (E : CallFix p m c cc nL s args wsL_law own) (hn : nw s) (hM : Cv l D y cy ny rm (As) tyc wc H.size mc ms S post wo to)
    (hcd : Cond.code y cy ny none ∈ wsL_law) (hini : Cond.initialized y.cls ∈ wsL_law) (hli : Cond.methodLink own idx y ∈ wsL_law) (hstt : Cond.static y ∈ wsL_law)
    (hd : y.cls ≠ "java/lang/invoke/MethodHandle" ∧ y.cls ≠ "java/lang/invoke/VarHandle" ∧ (parseMethodDescriptor y.desc).map (fun d => d.parameters.length) = some n) (hAs : As.length = n)
    (hfr : rm.frames + 1 ≤ R.frames) (hlo : 8 + (ny + 11) + rm.locals ≤ R.locals) (hmc : rm.cells = mc) (hms : rm.slots = ms) (hcs : cells + mc ≤ R.cells) (hss : slots + ms ≤ R.slots)
    (hP : va_P D vwCl ws H) (hD : va_D A0 ws) (hK : va_K D vwCl tys s) (hS : va_S A0 H0 H locs) (hA : ∀ q, H0.size ≤ q → A0 q)
    (isC isR isK : List Nat) (hC : isC.map (fun i => ws[i]?) = wc.map some) {wr : va_W} (hR : isR.map (fun i => ws[i]?) = wr.map some) (hnc : va_nd isC = true) (hnr : va_nd isR = true) (hdis : ∀ i ∈ isR, i ∉ isC) (hk : isK.filterMap (fun i => tys[i]?) = tyc) 
    (hsz : ls.size = nL) (hst : st0 = As.reverse ++ rest) (hrm : (rest.map fun v => v.category).sum ≤ 8) (hdg : decode cc pc = .ok (.invokestatic idx, 3))
    (kk : ∀ (u : S) (H1 : Heap) (locs1 : List Loc), post u → va_P D vwCl (wr ++ wo u) H1 → va_D A0 (wr ++ wo u) → va_K D vwCl (tys ++ to u) s → va_S A0 H0 H1 locs1 → W p l e R s m args below meth c H1 locs1 (cells + mc) (slots + ms) Q (F0 m (pc + 3) ls (rest))) :
    W p l e R s m args below meth c H locs cells slots Q (F0 m pc ls st0) := by
  have hPc := hP.sub (ws' := wc) isC (fm_of_map hC)
  have hDc := hD.sub (ws' := wc) isC hnc hC
  have hKc := hK.sub (tys' := tyc) isK hk
  have hFc := va_free (wc := wc) hD hS hA isC hC
  refine va_callv (va_runS (As := As) (rest := rest) E hM ⟨callB_of n E.2.2.2.2 (gd_M hcd) rfl hmc hms (E.2.2.2.2 _ hini) (E.2.2.2.2 _ hli) hd ⟨hfr, hlo⟩, E.2.2.2.2 _ hstt⟩ ⟨pre0.blind, fun U hU hW => ⟨rfl, pre0.at hn hPc hKc hDc hU hW⟩⟩ rfl hAs hsz hst (lv_room hrm) hdg ⟨hcs, hss⟩) hS (fun q _ h => hFc q h) hFc (fun u t H1 locs1 ht hvm hw hB hz1 hk1 hS1 => ?_)
  obtain ⟨hP1, hK1, hD1⟩ := hB
  rw [ht] at hP1
  have hK1 := va_K.moved hvm.symm hK1
  obtain ⟨hPn, hDn⟩ := va_join (wr := wr) (w1 := wo u) hP hD isC isR hC hR hnr hdis hk1 hFc hP1 hD1
  exact kk u H1 locs1 hw hPn hDn (hK.app hK1) hS1

set_option maxHeartbeats 1000000 in
theorem kSNi {p : Program} {l : Launch} {e : Env} {R : Room} {s : State} {m : MethodId} {args : Array Value} {below : List Frame} {meth : Method} {c : Code} {H : Heap} {locs : List Loc} {cells slots : Nat} {Q : State → Prop} {cc cy : ByteArray} {nL ny idx mc ms n : Nat} {own : String} {y : MethodName} {host : String} {r0 : Option FieldType} {rm : Room} {D : va_G} {A0 : Nat → Prop} {H0 : Heap} {S : Type} {post : Int32 → S → Prop} {wo : S → va_W} {to : S → List (ClassId × FieldType)} {pc : Nat} {ls : Array Slot} {st0 rest As : List Value} {b : Nat} {ws wc : va_W} {tys tyc : List (ClassId × FieldType)} 
    (E : CallFix p m c cc nL s args wsL_law own) (hn : nw s) (hM : Ci l D y cy ny r0 rm (As) tyc wc H.size mc ms S post wo to)
    (hcd : Cond.code y cy ny r0 ∈ wsL_law) (hini : Cond.initialized y.cls ∈ wsL_law) (hli : (own, idx, y, host) ∈ nM) (hstt : Cond.static y ∈ wsL_law)
    (hd : y.cls ≠ "java/lang/invoke/MethodHandle" ∧ y.cls ≠ "java/lang/invoke/VarHandle" ∧ (parseMethodDescriptor y.desc).map (fun d => d.parameters.length) = some n) (hAs : As.length = n)
    (hfr : rm.frames + 1 ≤ R.frames) (hlo : 8 + (ny + 11) + rm.locals ≤ R.locals) (hmc : rm.cells = mc) (hms : rm.slots = ms) (hcs : cells + mc ≤ R.cells) (hss : slots + ms ≤ R.slots)
    (hP : va_P D vwCl ws H) (hD : va_D A0 ws) (hK : va_K D vwCl tys s) (hS : va_S A0 H0 H locs) (hA : ∀ q, H0.size ≤ q → A0 q)
    (isC isR isK : List Nat) (hC : isC.map (fun i => ws[i]?) = wc.map some) {wr : va_W} (hR : isR.map (fun i => ws[i]?) = wr.map some) (hnc : va_nd isC = true) (hnr : va_nd isR = true) (hdis : ∀ i ∈ isR, i ∉ isC) (hk : isK.filterMap (fun i => tys[i]?) = tyc) 
    (hsz : ls.size = nL) (hst : st0 = As.reverse ++ rest) (hrm : (rest.map fun v => v.category).sum ≤ 8) (hdg : decode cc pc = .ok (.invokestatic idx, 3))
    (kk : ∀ (r : Int32) (u : S) (H1 : Heap) (locs1 : List Loc), post r u → va_P D vwCl (wr ++ wo u) H1 → va_D A0 (wr ++ wo u) → va_K D vwCl (tys ++ to u) s → va_S A0 H0 H1 locs1 → W p l e R s m args below meth c H1 locs1 (cells + mc) (slots + ms) Q (F0 m (pc + 3) ls (.int r :: rest))) :
    W p l e R s m args below meth c H locs cells slots Q (F0 m pc ls st0) := by
  have hPc := hP.sub (ws' := wc) isC (fm_of_map hC)
  have hDc := hD.sub (ws' := wc) isC hnc hC
  have hKc := hK.sub (tys' := tyc) isK hk
  have hFc := va_free (wc := wc) hD hS hA isC hC
  refine va_calli (va_runSN (As := As) (rest := rest) E hM ⟨va_cnB n E.2.2.2.2 (gd_M hcd) rfl hmc hms (hn.m hli) (E.2.2.2.2 _ hini) hd ⟨hfr, hlo⟩, E.2.2.2.2 _ hstt, trivial⟩ ⟨pre0.blind, fun U hU hW => ⟨rfl, pre0.at hn hPc hKc hDc hU hW⟩⟩ rfl hAs hsz hst (lv_room hrm) hdg ⟨hcs, hss⟩) hS (fun q _ h => hFc q h) hFc (fun r u t H1 locs1 ht hvm hw hB hz1 hk1 hS1 => ?_)
  obtain ⟨hP1, hK1, hD1⟩ := hB
  rw [ht] at hP1
  have hK1 := va_K.moved hvm.symm hK1
  obtain ⟨hPn, hDn⟩ := va_join (wr := wr) (w1 := wo u) hP hD isC isR hC hR hnr hdis hk1 hFc hP1 hD1
  exact kk r u H1 locs1 hw hPn hDn (hK.app hK1) hS1

set_option maxHeartbeats 1000000 in
theorem kSNv {p : Program} {l : Launch} {e : Env} {R : Room} {s : State} {m : MethodId} {args : Array Value} {below : List Frame} {meth : Method} {c : Code} {H : Heap} {locs : List Loc} {cells slots : Nat} {Q : State → Prop} {cc cy : ByteArray} {nL ny idx mc ms n : Nat} {own : String} {y : MethodName} {host : String} {rm : Room} {D : va_G} {A0 : Nat → Prop} {H0 : Heap} {S : Type} {post : S → Prop} {wo : S → va_W} {to : S → List (ClassId × FieldType)} {pc : Nat} {ls : Array Slot} {st0 rest As : List Value} {b : Nat} {ws wc : va_W} {tys tyc : List (ClassId × FieldType)} 
    (E : CallFix p m c cc nL s args wsL_law own) (hn : nw s) (hM : Cv l D y cy ny rm (As) tyc wc H.size mc ms S post wo to)
    (hcd : Cond.code y cy ny none ∈ wsL_law) (hini : Cond.initialized y.cls ∈ wsL_law) (hli : (own, idx, y, host) ∈ nM) (hstt : Cond.static y ∈ wsL_law)
    (hd : y.cls ≠ "java/lang/invoke/MethodHandle" ∧ y.cls ≠ "java/lang/invoke/VarHandle" ∧ (parseMethodDescriptor y.desc).map (fun d => d.parameters.length) = some n) (hAs : As.length = n)
    (hfr : rm.frames + 1 ≤ R.frames) (hlo : 8 + (ny + 11) + rm.locals ≤ R.locals) (hmc : rm.cells = mc) (hms : rm.slots = ms) (hcs : cells + mc ≤ R.cells) (hss : slots + ms ≤ R.slots)
    (hP : va_P D vwCl ws H) (hD : va_D A0 ws) (hK : va_K D vwCl tys s) (hS : va_S A0 H0 H locs) (hA : ∀ q, H0.size ≤ q → A0 q)
    (isC isR isK : List Nat) (hC : isC.map (fun i => ws[i]?) = wc.map some) {wr : va_W} (hR : isR.map (fun i => ws[i]?) = wr.map some) (hnc : va_nd isC = true) (hnr : va_nd isR = true) (hdis : ∀ i ∈ isR, i ∉ isC) (hk : isK.filterMap (fun i => tys[i]?) = tyc) 
    (hsz : ls.size = nL) (hst : st0 = As.reverse ++ rest) (hrm : (rest.map fun v => v.category).sum ≤ 8) (hdg : decode cc pc = .ok (.invokestatic idx, 3))
    (kk : ∀ (u : S) (H1 : Heap) (locs1 : List Loc), post u → va_P D vwCl (wr ++ wo u) H1 → va_D A0 (wr ++ wo u) → va_K D vwCl (tys ++ to u) s → va_S A0 H0 H1 locs1 → W p l e R s m args below meth c H1 locs1 (cells + mc) (slots + ms) Q (F0 m (pc + 3) ls (rest))) :
    W p l e R s m args below meth c H locs cells slots Q (F0 m pc ls st0) := by
  have hPc := hP.sub (ws' := wc) isC (fm_of_map hC)
  have hDc := hD.sub (ws' := wc) isC hnc hC
  have hKc := hK.sub (tys' := tyc) isK hk
  have hFc := va_free (wc := wc) hD hS hA isC hC
  refine va_callv (va_runSN (As := As) (rest := rest) E hM ⟨va_cnB n E.2.2.2.2 (gd_M hcd) rfl hmc hms (hn.m hli) (E.2.2.2.2 _ hini) hd ⟨hfr, hlo⟩, E.2.2.2.2 _ hstt, trivial⟩ ⟨pre0.blind, fun U hU hW => ⟨rfl, pre0.at hn hPc hKc hDc hU hW⟩⟩ rfl hAs hsz hst (lv_room hrm) hdg ⟨hcs, hss⟩) hS (fun q _ h => hFc q h) hFc (fun u t H1 locs1 ht hvm hw hB hz1 hk1 hS1 => ?_)
  obtain ⟨hP1, hK1, hD1⟩ := hB
  rw [ht] at hP1
  have hK1 := va_K.moved hvm.symm hK1
  obtain ⟨hPn, hDn⟩ := va_join (wr := wr) (w1 := wo u) hP hD isC isR hC hR hnr hdis hk1 hFc hP1 hD1
  exact kk u H1 locs1 hw hPn hDn (hK.app hK1) hS1

set_option maxHeartbeats 1000000 in
theorem kIv {p : Program} {l : Launch} {e : Env} {R : Room} {s : State} {m : MethodId} {args : Array Value} {below : List Frame} {meth : Method} {c : Code} {H : Heap} {locs : List Loc} {cells slots : Nat} {Q : State → Prop} {cc cy : ByteArray} {nL ny idx mc ms n : Nat} {own : String} {y : MethodName} {rm : Room} {D : va_G} {A0 : Nat → Prop} {H0 : Heap} {S : Type} {post : S → Prop} {wo : S → va_W} {to : S → List (ClassId × FieldType)} {pc : Nat} {ls : Array Slot} {st0 rest As : List Value} {b : Nat} {ws wc : va_W} {tys tyc : List (ClassId × FieldType)} 
    (E : CallFix p m c cc nL s args wsL_law own) (hn : nw s) (hM : Cv l D y cy ny rm (.ref b :: As) tyc wc H.size mc ms S post wo to)
    (hcd : Cond.code y cy ny none ∈ wsL_law) (hini : Cond.initialized y.cls ∈ wsL_law) (hli : Cond.methodLink own idx y ∈ wsL_law) (hin : Cond.instanceMethod y ∈ wsL_law) (hnm : y.name = "<init>")
    (hd : y.cls ≠ "java/lang/invoke/MethodHandle" ∧ y.cls ≠ "java/lang/invoke/VarHandle" ∧ (parseMethodDescriptor y.desc).map (fun d => d.parameters.length) = some n) (hAs : As.length = n)
    (hfr : rm.frames + 1 ≤ R.frames) (hlo : 8 + (ny + 11) + rm.locals ≤ R.locals) (hmc : rm.cells = mc) (hms : rm.slots = ms) (hcs : cells + mc ≤ R.cells) (hss : slots + ms ≤ R.slots)
    (hP : va_P D vwCl ws H) (hD : va_D A0 ws) (hK : va_K D vwCl tys s) (hS : va_S A0 H0 H locs) (hA : ∀ q, H0.size ≤ q → A0 q)
    (isC isR isK : List Nat) (hC : isC.map (fun i => ws[i]?) = wc.map some) {wr : va_W} (hR : isR.map (fun i => ws[i]?) = wr.map some) (hnc : va_nd isC = true) (hnr : va_nd isR = true) (hdis : ∀ i ∈ isR, i ∉ isC) (hk : isK.filterMap (fun i => tys[i]?) = tyc) 
    (hsz : ls.size = nL) (hst : st0 = As.reverse ++ .ref b :: rest) (hrm : (rest.map fun v => v.category).sum ≤ 8) (hdg : decode cc pc = .ok (.invokespecial idx, 3))
    (kk : ∀ (u : S) (H1 : Heap) (locs1 : List Loc), post u → va_P D vwCl (wr ++ wo u) H1 → va_D A0 (wr ++ wo u) → va_K D vwCl (tys ++ to u) s → va_S A0 H0 H1 locs1 → W p l e R s m args below meth c H1 locs1 (cells + mc) (slots + ms) Q (F0 m (pc + 3) ls (rest))) :
    W p l e R s m args below meth c H locs cells slots Q (F0 m pc ls st0) := by
  have hPc := hP.sub (ws' := wc) isC (fm_of_map hC)
  have hDc := hD.sub (ws' := wc) isC hnc hC
  have hKc := hK.sub (tys' := tyc) isK hk
  have hFc := va_free (wc := wc) hD hS hA isC hC
  refine va_callv (va_runI (As := As) (rest := rest) E hM ⟨callB_of n E.2.2.2.2 (gd_M hcd) rfl hmc hms (E.2.2.2.2 _ hini) (E.2.2.2.2 _ hli) hd ⟨hfr, hlo⟩, hnm, E.2.2.2.2 _ hin⟩ ⟨pre0.blind, fun U hU hW => ⟨rfl, pre0.at hn hPc hKc hDc hU hW⟩⟩ rfl hAs hsz hst (lv_room hrm) hdg ⟨hcs, hss⟩) hS (fun q _ h => hFc q h) hFc (fun u t H1 locs1 ht hvm hw hB hz1 hk1 hS1 => ?_)
  obtain ⟨hP1, hK1, hD1⟩ := hB
  rw [ht] at hP1
  have hK1 := va_K.moved hvm.symm hK1
  obtain ⟨hPn, hDn⟩ := va_join (wr := wr) (w1 := wo u) hP hD isC isR hC hR hnr hdis hk1 hFc hP1 hD1
  exact kk u H1 locs1 hw hPn hDn (hK.app hK1) hS1

set_option maxHeartbeats 1000000 in
theorem kINv {p : Program} {l : Launch} {e : Env} {R : Room} {s : State} {m : MethodId} {args : Array Value} {below : List Frame} {meth : Method} {c : Code} {H : Heap} {locs : List Loc} {cells slots : Nat} {Q : State → Prop} {cc cy : ByteArray} {nL ny idx mc ms n : Nat} {own : String} {y : MethodName} {host : String} {rm : Room} {D : va_G} {A0 : Nat → Prop} {H0 : Heap} {S : Type} {post : S → Prop} {wo : S → va_W} {to : S → List (ClassId × FieldType)} {pc : Nat} {ls : Array Slot} {st0 rest As : List Value} {b : Nat} {ws wc : va_W} {tys tyc : List (ClassId × FieldType)} 
    (E : CallFix p m c cc nL s args wsL_law own) (hn : nw s) (hM : Cv l D y cy ny rm (.ref b :: As) tyc wc H.size mc ms S post wo to)
    (hcd : Cond.code y cy ny none ∈ wsL_law) (hini : Cond.initialized y.cls ∈ wsL_law) (hli : (own, idx, y, host) ∈ nM) (hin : Cond.instanceMethod y ∈ wsL_law) (hnm : y.name = "<init>")
    (hd : y.cls ≠ "java/lang/invoke/MethodHandle" ∧ y.cls ≠ "java/lang/invoke/VarHandle" ∧ (parseMethodDescriptor y.desc).map (fun d => d.parameters.length) = some n) (hAs : As.length = n)
    (hfr : rm.frames + 1 ≤ R.frames) (hlo : 8 + (ny + 11) + rm.locals ≤ R.locals) (hmc : rm.cells = mc) (hms : rm.slots = ms) (hcs : cells + mc ≤ R.cells) (hss : slots + ms ≤ R.slots)
    (hP : va_P D vwCl ws H) (hD : va_D A0 ws) (hK : va_K D vwCl tys s) (hS : va_S A0 H0 H locs) (hA : ∀ q, H0.size ≤ q → A0 q)
    (isC isR isK : List Nat) (hC : isC.map (fun i => ws[i]?) = wc.map some) {wr : va_W} (hR : isR.map (fun i => ws[i]?) = wr.map some) (hnc : va_nd isC = true) (hnr : va_nd isR = true) (hdis : ∀ i ∈ isR, i ∉ isC) (hk : isK.filterMap (fun i => tys[i]?) = tyc) 
    (hsz : ls.size = nL) (hst : st0 = As.reverse ++ .ref b :: rest) (hrm : (rest.map fun v => v.category).sum ≤ 8) (hdg : decode cc pc = .ok (.invokespecial idx, 3))
    (kk : ∀ (u : S) (H1 : Heap) (locs1 : List Loc), post u → va_P D vwCl (wr ++ wo u) H1 → va_D A0 (wr ++ wo u) → va_K D vwCl (tys ++ to u) s → va_S A0 H0 H1 locs1 → W p l e R s m args below meth c H1 locs1 (cells + mc) (slots + ms) Q (F0 m (pc + 3) ls (rest))) :
    W p l e R s m args below meth c H locs cells slots Q (F0 m pc ls st0) := by
  have hPc := hP.sub (ws' := wc) isC (fm_of_map hC)
  have hDc := hD.sub (ws' := wc) isC hnc hC
  have hKc := hK.sub (tys' := tyc) isK hk
  have hFc := va_free (wc := wc) hD hS hA isC hC
  refine va_callv (va_runIN (As := As) (rest := rest) E hM ⟨va_cnB n E.2.2.2.2 (gd_M hcd) rfl hmc hms (hn.m hli) (E.2.2.2.2 _ hini) hd ⟨hfr, hlo⟩, hnm, E.2.2.2.2 _ hin⟩ ⟨pre0.blind, fun U hU hW => ⟨rfl, pre0.at hn hPc hKc hDc hU hW⟩⟩ rfl hAs hsz hst (lv_room hrm) hdg ⟨hcs, hss⟩) hS (fun q _ h => hFc q h) hFc (fun u t H1 locs1 ht hvm hw hB hz1 hk1 hS1 => ?_)
  obtain ⟨hP1, hK1, hD1⟩ := hB
  rw [ht] at hP1
  have hK1 := va_K.moved hvm.symm hK1
  obtain ⟨hPn, hDn⟩ := va_join (wr := wr) (w1 := wo u) hP hD isC isR hC hR hnr hdis hk1 hFc hP1 hD1
  exact kk u H1 locs1 hw hPn hDn (hK.app hK1) hS1


theorem P_nil {D : va_G} {H : Heap} : va_P D vwCl [] H := fun k q h => by simp at h
theorem D_nil {A : Nat → Prop} : va_D A [] := ⟨fun i j p q h => by simp at h, fun k q h => by simp at h⟩
theorem arr_congr {cA : ClassId} {n : Nat} {f g : Nat → Int32} (h : ∀ j, j < n → f j = g j) : vp_cell cA (n, .inl f) = vp_cell cA (n, .inl g) := by
  rw [vp_cell_i, vp_cell_i]
  unfold arrV
  congr 1
  apply Array.ext
  · simp
  · intro i h1 h2
    simp only [Array.getElem_ofFn]
    rw [h i (by simpa using h1)]
theorem fb_prop {cd : Prop} [Decidable cd] {r : Int32} (h : r = if cd then 1 else 0) : (r = 0 ↔ ¬ cd) := by
  by_cases hc : cd
  · simp [h, hc]
  · simp [h, hc]
def inR (a lo hi : Int32) : Prop := lo ≤ a ∧ a ≤ hi
end
section

theorem k_top {p : Program} {l : Launch} {e : Env} {R : Room} {s : State} {m : MethodId} {args : Array Value} {below : List Frame} {meth : Method} {c : Code} {H : Heap} {locs : List Loc} {cells slots : Nat} {Q : State → Prop} {pc : Nat} {ls : Array Slot} {rest : List Value} {x y : Int32} (h : x = y) (k : W p l e R s m args below meth c H locs cells slots Q (F0 m pc ls (.int y :: rest))) : W p l e R s m args below meth c H locs cells slots Q (F0 m pc ls (.int x :: rest)) := h ▸ k
theorem vin {i : Int32} {n : Nat} (h : ¬ (i < 0 ∨ n ≤ i.toNatClampNeg)) : vp_in i n := h
theorem ite0 {b : Bool} (h : (if b = true then (1 : Int32) else 0) = 0) : b = false := by cases b <;> simp_all
theorem ite1 {b : Bool} (h : ¬ (if b = true then (1 : Int32) else 0) = 0) : b = true := by cases b <;> simp_all
theorem nar_ite (b : Bool) : narrow .boolean (.int (if b = true then (1 : Int32) else 0)) = .int (if b = true then (1 : Int32) else 0) := by cases b <;> rfl
def inB (a lo hi : Int32) : Bool := decide (lo ≤ a) && decide (a ≤ hi)
theorem inB_t {a lo hi : Int32} (h1 : ¬ a < lo) (h2 : ¬ hi < a) : inB a lo hi = true := by
  simp [inB, Int32.not_lt.mp h1, Int32.not_lt.mp h2]
theorem inB_f1 {a lo hi : Int32} (h : a < lo) : inB a lo hi = false := by
  have : ¬ lo ≤ a := Int32.not_le.mpr h
  simp [inB, this]
theorem inB_f2 {a lo hi : Int32} (h : hi < a) : inB a lo hi = false := by
  have : ¬ a ≤ hi := Int32.not_le.mpr h
  simp [inB, this]
theorem inB_neg (a : Int32) : inB a 0 (-1) = false := by
  cases h : inB a 0 (-1)
  · rfl
  · simp only [inB, Bool.and_eq_true, decide_eq_true_eq, Int32.le_iff_toInt_le] at h
    have e1 : (0 : Int32).toInt = 0 := by decide
    have e2 : (-1 : Int32).toInt = -1 := by decide
    rw [e1, e2] at h
    omega
theorem inB_int {x lo hi : Int32} (h : inB x lo hi = true) : lo.toInt ≤ x.toInt ∧ x.toInt ≤ hi.toInt := by
  simpa only [inB, Bool.and_eq_true, decide_eq_true_eq, Int32.le_iff_toInt_le] using h
theorem vinB {x lo hi : Int32} {n : Nat} (h : inB x lo hi = true) (h1 : 0 ≤ lo.toInt) (h2 : hi.toInt < n) : vp_in x n := by
  have := inB_int h
  exact vp_in_iff.mpr ⟨by omega, by omega⟩
theorem inB_nat {x lo hi : Int32} {a b : Nat} (h : inB x lo hi = true) (h1 : lo.toInt = a) (h2 : hi.toInt = b) : ∃ j : Nat, a ≤ j ∧ j ≤ b ∧ x = nI j := by
  have t := inB_int h
  have hb : b < 2 ^ 31 := by have := Int32.toInt_lt hi; omega
  refine ⟨x.toInt.toNat, by omega, by omega, ?_⟩
  apply Int32.toInt_inj.mp
  rw [nI_toInt (by omega)]
  omega

theorem nf_X10_97 : (RX10, 97, "LuteFingers$Lute", "courses", "I", "LuteFingers") ∈ nF := List.mem_of_getElem? (i := 0) rfl
theorem nf_X7_45 : (RX7, 45, "LuteFingers$Lute", "courses", "I", "LuteFingers") ∈ nF := List.mem_of_getElem? (i := 1) rfl
theorem nf_X3_69 : (RX3, 69, "LuteFingers$Lute", "courses", "I", "LuteFingers") ∈ nF := List.mem_of_getElem? (i := 2) rfl
theorem nf_X10_121 : (RX10, 121, "LuteFingers$Lute", "barsMay", "Z", "LuteFingers") ∈ nF := List.mem_of_getElem? (i := 3) rfl
theorem nf_X3_121 : (RX3, 121, "LuteFingers$Lute", "barsMay", "Z", "LuteFingers") ∈ nF := List.mem_of_getElem? (i := 4) rfl
theorem nf_X10_111 : (RX10, 111, "LuteFingers$Lute", "tunes", "[I", "LuteFingers") ∈ nF := List.mem_of_getElem? (i := 5) rfl
theorem nf_X7_80 : (RX7, 80, "LuteFingers$Lute", "tunes", "[I", "LuteFingers") ∈ nF := List.mem_of_getElem? (i := 6) rfl
theorem nf_X7_73 : (RX7, 73, "LuteFingers$Lute", "frets", "[I", "LuteFingers") ∈ nF := List.mem_of_getElem? (i := 7) rfl
theorem nf_X10_118 : (RX10, 118, "LuteFingers$Lute", "slacks", "[I", "LuteFingers") ∈ nF := List.mem_of_getElem? (i := 8) rfl
theorem nf_X10_124 : (RX10, 124, "LuteFingers$Lute", "weights", "[I", "LuteFingers") ∈ nF := List.mem_of_getElem? (i := 9) rfl
theorem nf_X3_137 : (RX3, 137, "LuteFingers$Lute", "weights", "[I", "LuteFingers") ∈ nF := List.mem_of_getElem? (i := 10) rfl
theorem nf_X10_277 : (RX10, 277, "LuteFingers$Lute", "tunings", "[I", "LuteFingers") ∈ nF := List.mem_of_getElem? (i := 11) rfl
theorem nf_X0_46 : (RX0, 46, "LuteFingers$Piece", "ticks", "I", "LuteFingers") ∈ nF := List.mem_of_getElem? (i := 12) rfl
theorem nf_X9_40 : (RX9, 40, "LuteFingers$Piece", "ticks", "I", "LuteFingers") ∈ nF := List.mem_of_getElem? (i := 13) rfl
theorem nf_X10_94 : (RX10, 94, "LuteFingers$Piece", "ticks", "I", "LuteFingers") ∈ nF := List.mem_of_getElem? (i := 14) rfl
theorem nf_X7_61 : (RX7, 61, "LuteFingers$Piece", "ticks", "I", "LuteFingers") ∈ nF := List.mem_of_getElem? (i := 15) rfl
theorem nf_X2_48 : (RX2, 48, "LuteFingers$Piece", "ticks", "I", "LuteFingers") ∈ nF := List.mem_of_getElem? (i := 16) rfl
theorem nf_X3_52 : (RX3, 52, "LuteFingers$Piece", "sizes", "[I", "LuteFingers") ∈ nF := List.mem_of_getElem? (i := 17) rfl
theorem nf_X7_57 : (RX7, 57, "LuteFingers$Piece", "sizes", "[I", "LuteFingers") ∈ nF := List.mem_of_getElem? (i := 18) rfl
theorem nf_X0_91 : (RX0, 91, "LuteFingers$Piece", "sizes", "[I", "LuteFingers") ∈ nF := List.mem_of_getElem? (i := 19) rfl
theorem nf_X10_136 : (RX10, 136, "LuteFingers$Piece", "sizes", "[I", "LuteFingers") ∈ nF := List.mem_of_getElem? (i := 20) rfl
theorem nf_X3_73 : (RX3, 73, "LuteFingers$Piece", "pitches", "[I", "LuteFingers") ∈ nF := List.mem_of_getElem? (i := 21) rfl
theorem nf_X7_91 : (RX7, 91, "LuteFingers$Piece", "pitches", "[I", "LuteFingers") ∈ nF := List.mem_of_getElem? (i := 22) rfl
theorem nf_X10_166 : (RX10, 166, "LuteFingers$Piece", "pitches", "[I", "LuteFingers") ∈ nF := List.mem_of_getElem? (i := 23) rfl
theorem nf_X3_79 : (RX3, 79, "LuteFingers$Piece", "kinds", "[I", "LuteFingers") ∈ nF := List.mem_of_getElem? (i := 24) rfl
theorem nf_X10_169 : (RX10, 169, "LuteFingers$Piece", "kinds", "[I", "LuteFingers") ∈ nF := List.mem_of_getElem? (i := 25) rfl
theorem nf_X0_92 : (RX0, 92, "LuteFingers$Piece", "prices", "[I", "LuteFingers") ∈ nF := List.mem_of_getElem? (i := 26) rfl
theorem nf_X10_172 : (RX10, 172, "LuteFingers$Piece", "prices", "[I", "LuteFingers") ∈ nF := List.mem_of_getElem? (i := 27) rfl
theorem nf_X10_175 : (RX10, 175, "LuteFingers$Piece", "fores", "[I", "LuteFingers") ∈ nF := List.mem_of_getElem? (i := 28) rfl
theorem nf_X3_82 : (RX3, 82, "LuteFingers$Piece", "fixed", "[I", "LuteFingers") ∈ nF := List.mem_of_getElem? (i := 29) rfl
theorem nf_X7_94 : (RX7, 94, "LuteFingers$Piece", "fixed", "[I", "LuteFingers") ∈ nF := List.mem_of_getElem? (i := 30) rfl
theorem nf_X10_163 : (RX10, 163, "LuteFingers$Piece", "fixed", "[I", "LuteFingers") ∈ nF := List.mem_of_getElem? (i := 31) rfl
theorem nf_X7_67 : (RX7, 67, "LuteFingers$Tape", "bytes", "[I", "LuteFingers") ∈ nF := List.mem_of_getElem? (i := 32) rfl
theorem nf_X10_289 : (RX10, 289, "LuteFingers$Tape", "bytes", "[I", "LuteFingers") ∈ nF := List.mem_of_getElem? (i := 33) rfl
theorem nf_X7_32 : (RX7, 32, "LuteFingers$Tape", "length", "I", "LuteFingers") ∈ nF := List.mem_of_getElem? (i := 34) rfl
theorem nf_X10_283 : (RX10, 283, "LuteFingers$Tape", "length", "I", "LuteFingers") ∈ nF := List.mem_of_getElem? (i := 35) rfl
theorem nf_X10_240 : (RX10, 240, "LuteFingers$WayList", "numbers", "[I", "LuteFingers") ∈ nF := List.mem_of_getElem? (i := 36) rfl
theorem nf_X10_231 : (RX10, 231, "LuteFingers$WayList", "costs", "[I", "LuteFingers") ∈ nF := List.mem_of_getElem? (i := 37) rfl
theorem nf_X10_237 : (RX10, 237, "LuteFingers$WayList", "known", "I", "LuteFingers") ∈ nF := List.mem_of_getElem? (i := 38) rfl
theorem nf_X10_228 : (RX10, 228, "LuteFingers$WayList", "which", "I", "LuteFingers") ∈ nF := List.mem_of_getElem? (i := 39) rfl
theorem nf_X10_234 : (RX10, 234, "LuteFingers$WayList", "complete", "Z", "LuteFingers") ∈ nF := List.mem_of_getElem? (i := 40) rfl
theorem nf_X10_267 : (RX10, 267, "LuteFingers$Arranger", "leftMasks", "[I", "LuteFingers") ∈ nF := List.mem_of_getElem? (i := 41) rfl
theorem nm_X10_9 : (RX10, 9, yX4_init, "LuteFingers") ∈ nM := List.mem_of_getElem? (i := 0) rfl
theorem nm_X10_18 : (RX10, 18, yX5_init, "LuteFingers") ∈ nM := List.mem_of_getElem? (i := 1) rfl
theorem nm_X10_25 : (RX10, 25, yX6_init, "LuteFingers") ∈ nM := List.mem_of_getElem? (i := 2) rfl
theorem nm_X10_32 : (RX10, 32, yX3_init, "LuteFingers") ∈ nM := List.mem_of_getElem? (i := 3) rfl
theorem nm_X10_41 : (RX10, 41, yX2_init, "LuteFingers") ∈ nM := List.mem_of_getElem? (i := 4) rfl
theorem nm_X10_53 : (RX10, 53, yX9_init, "LuteFingers") ∈ nM := List.mem_of_getElem? (i := 5) rfl
theorem nm_X10_60 : (RX10, 60, yX8_init, "LuteFingers") ∈ nM := List.mem_of_getElem? (i := 6) rfl
theorem nm_X10_311 : (RX10, 311, yX8_drop, "LuteFingers") ∈ nM := List.mem_of_getElem? (i := 7) rfl
theorem nm_X10_157 : (RX10, 157, yX2_forgetAll, "LuteFingers") ∈ nM := List.mem_of_getElem? (i := 8) rfl
theorem nm_X10_103 : (RX10, 103, yX4_addCourse, "LuteFingers") ∈ nM := List.mem_of_getElem? (i := 9) rfl
theorem nm_X10_107 : (RX10, 107, yX4_hasCourse, "LuteFingers") ∈ nM := List.mem_of_getElem? (i := 10) rfl
theorem nm_X10_127 : (RX10, 127, yX5_noteOfPitch, "LuteFingers") ∈ nM := List.mem_of_getElem? (i := 11) rfl
theorem nm_X10_130 : (RX10, 130, yX5_foreOf, "LuteFingers") ∈ nM := List.mem_of_getElem? (i := 12) rfl
theorem nm_X10_133 : (RX10, 133, yX5_isTied, "LuteFingers") ∈ nM := List.mem_of_getElem? (i := 13) rfl
theorem nm_X10_139 : (RX10, 139, yX5_addNote, "LuteFingers") ∈ nM := List.mem_of_getElem? (i := 14) rfl
theorem nm_X10_146 : (RX10, 146, yX5_closeTick, "LuteFingers") ∈ nM := List.mem_of_getElem? (i := 15) rfl
theorem nm_X10_150 : (RX10, 150, yX2_forget, "LuteFingers") ∈ nM := List.mem_of_getElem? (i := 16) rfl
theorem nm_X10_154 : (RX10, 154, yX5_removeAll, "LuteFingers") ∈ nM := List.mem_of_getElem? (i := 17) rfl
theorem nm_X10_160 : (RX10, 160, yX5_hasNote, "LuteFingers") ∈ nM := List.mem_of_getElem? (i := 18) rfl
theorem nm_X10_178 : (RX10, 178, yX5_hasTick, "LuteFingers") ∈ nM := List.mem_of_getElem? (i := 19) rfl
theorem nm_X10_181 : (RX10, 181, yX2_keep, "LuteFingers") ∈ nM := List.mem_of_getElem? (i := 20) rfl
theorem nm_X2_38 : (RX2, 38, yX5_allNotes, "LuteFingers") ∈ nM := List.mem_of_getElem? (i := 21) rfl
theorem nm_X2_33 : (RX2, 33, yX3_search, "LuteFingers") ∈ nM := List.mem_of_getElem? (i := 22) rfl
theorem nm_X3_76 : (RX3, 76, yX4_fretFor, "LuteFingers") ∈ nM := List.mem_of_getElem? (i := 23) rfl
theorem nm_X4_45 : (RX4, 45, yX10_within, "LuteFingers") ∈ nM := List.mem_of_getElem? (i := 24) rfl
theorem nm_X3_85 : (RX3, 85, yX4_placesFor, "LuteFingers") ∈ nM := List.mem_of_getElem? (i := 25) rfl
theorem nm_X3_111 : (RX3, 111, yX1_finger, "LuteFingers") ∈ nM := List.mem_of_getElem? (i := 26) rfl
theorem nm_X3_115 : (RX3, 115, yX1_fret, "LuteFingers") ∈ nM := List.mem_of_getElem? (i := 27) rfl
theorem nm_X3_145 : (RX3, 145, yX1_wholeOf, "LuteFingers") ∈ nM := List.mem_of_getElem? (i := 28) rfl
theorem nm_X3_97 : (RX3, 97, yX1_partOf, "LuteFingers") ∈ nM := List.mem_of_getElem? (i := 29) rfl
theorem nm_X3_103 : (RX3, 103, yX4_reaches, "LuteFingers") ∈ nM := List.mem_of_getElem? (i := 30) rfl
theorem nm_X3_118 : (RX3, 118, yX1_courseAt, "LuteFingers") ∈ nM := List.mem_of_getElem? (i := 31) rfl
theorem nm_X10_184 : (RX10, 184, yX2_isSpent, "LuteFingers") ∈ nM := List.mem_of_getElem? (i := 32) rfl
theorem nm_X10_187 : (RX10, 187, yX2_size, "LuteFingers") ∈ nM := List.mem_of_getElem? (i := 33) rfl
theorem nm_X10_191 : (RX10, 191, yX2_get, "LuteFingers") ∈ nM := List.mem_of_getElem? (i := 34) rfl
theorem nm_X10_195 : (RX10, 195, yX1_ofAll, "LuteFingers") ∈ nM := List.mem_of_getElem? (i := 35) rfl
theorem nm_X10_201 : (RX10, 201, yX1_ofNote, "LuteFingers") ∈ nM := List.mem_of_getElem? (i := 36) rfl
theorem nm_X10_205 : (RX10, 205, yX5_allNotes, "LuteFingers") ∈ nM := List.mem_of_getElem? (i := 37) rfl
theorem nm_X10_314 : (RX10, 314, yX3_search, "LuteFingers") ∈ nM := List.mem_of_getElem? (i := 38) rfl
theorem nm_X10_214 : (RX10, 214, yX8_atHand, "LuteFingers") ∈ nM := List.mem_of_getElem? (i := 39) rfl
theorem nm_X10_218 : (RX10, 218, yX2_keepAll, "LuteFingers") ∈ nM := List.mem_of_getElem? (i := 40) rfl
theorem nm_X10_221 : (RX10, 221, yX9_lookThrough, "LuteFingers") ∈ nM := List.mem_of_getElem? (i := 41) rfl
theorem nm_X9_55 : (RX9, 55, yX2_size, "LuteFingers") ∈ nM := List.mem_of_getElem? (i := 42) rfl
theorem nm_X9_66 : (RX9, 66, yX2_get, "LuteFingers") ∈ nM := List.mem_of_getElem? (i := 43) rfl
theorem nm_X9_70 : (RX9, 70, yX5_tieMask, "LuteFingers") ∈ nM := List.mem_of_getElem? (i := 44) rfl
theorem nm_X5_51 : (RX5, 51, yX1_hasNote, "LuteFingers") ∈ nM := List.mem_of_getElem? (i := 45) rfl
theorem nm_X9_74 : (RX9, 74, yX5_tieBits, "LuteFingers") ∈ nM := List.mem_of_getElem? (i := 46) rfl
theorem nm_X9_81 : (RX9, 81, yX1_place, "LuteFingers") ∈ nM := List.mem_of_getElem? (i := 47) rfl
theorem nm_X10_318 : (RX10, 318, yX9_findBest, "LuteFingers") ∈ nM := List.mem_of_getElem? (i := 48) rfl
theorem nm_X9_117 : (RX9, 117, yX1_cost, "LuteFingers") ∈ nM := List.mem_of_getElem? (i := 49) rfl
theorem nm_X9_120 : (RX9, 120, yX4_stepCost, "LuteFingers") ∈ nM := List.mem_of_getElem? (i := 50) rfl
theorem nm_X4_49 : (RX4, 49, yX1_place, "LuteFingers") ∈ nM := List.mem_of_getElem? (i := 51) rfl
theorem nm_X4_61 : (RX4, 61, yX1_leadCourse, "LuteFingers") ∈ nM := List.mem_of_getElem? (i := 52) rfl
theorem nm_X10_321 : (RX10, 321, yX9_trace, "LuteFingers") ∈ nM := List.mem_of_getElem? (i := 53) rfl
theorem nm_X10_243 : (RX10, 243, yX8_start, "LuteFingers") ∈ nM := List.mem_of_getElem? (i := 54) rfl
theorem nm_X10_246 : (RX10, 246, yX9_costOfSpan, "LuteFingers") ∈ nM := List.mem_of_getElem? (i := 55) rfl
theorem nm_X10_325 : (RX10, 325, yX5_tieMask, "LuteFingers") ∈ nM := List.mem_of_getElem? (i := 56) rfl
theorem nm_X10_329 : (RX10, 329, yX5_tieBits, "LuteFingers") ∈ nM := List.mem_of_getElem? (i := 57) rfl
theorem nm_X10_260 : (RX10, 260, yX0_init, "LuteFingers") ∈ nM := List.mem_of_getElem? (i := 58) rfl
theorem nm_X10_261 : (RX10, 261, yX0_listGrips, "LuteFingers") ∈ nM := List.mem_of_getElem? (i := 59) rfl
theorem nm_X0_51 : (RX0, 51, yX5_allNotes, "LuteFingers") ∈ nM := List.mem_of_getElem? (i := 60) rfl
theorem nm_X0_55 : (RX0, 55, yX3_search, "LuteFingers") ∈ nM := List.mem_of_getElem? (i := 61) rfl
theorem nm_X10_264 : (RX10, 264, yX0_chooseLeft, "LuteFingers") ∈ nM := List.mem_of_getElem? (i := 62) rfl
theorem nm_X0_100 : (RX0, 100, yX5_tieBits, "LuteFingers") ∈ nM := List.mem_of_getElem? (i := 63) rfl
theorem nm_X0_106 : (RX0, 106, yX5_tieMask, "LuteFingers") ∈ nM := List.mem_of_getElem? (i := 64) rfl
theorem nm_X10_270 : (RX10, 270, yX2_list, "LuteFingers") ∈ nM := List.mem_of_getElem? (i := 65) rfl
theorem nm_X10_335 : (RX10, 335, yX9_headCost, "LuteFingers") ∈ nM := List.mem_of_getElem? (i := 66) rfl
theorem nm_X10_332 : (RX10, 332, yX4_swapTuning, "LuteFingers") ∈ nM := List.mem_of_getElem? (i := 67) rfl
theorem nm_X4_41 : (RX4, 41, yX10_exchange, "LuteFingers") ∈ nM := List.mem_of_getElem? (i := 68) rfl
theorem nm_X10_286 : (RX10, 286, yX6_append, "LuteFingers") ∈ nM := List.mem_of_getElem? (i := 69) rfl
theorem nm_X10_292 : (RX10, 292, yX6_appendLine, "LuteFingers") ∈ nM := List.mem_of_getElem? (i := 70) rfl
theorem nm_X6_35 : (RX6, 35, yX1_courseAt, "LuteFingers") ∈ nM := List.mem_of_getElem? (i := 71) rfl
theorem nm_X6_23 : (RX6, 23, yX1_fret, "LuteFingers") ∈ nM := List.mem_of_getElem? (i := 72) rfl
theorem nm_X6_32 : (RX6, 32, yX1_finger, "LuteFingers") ∈ nM := List.mem_of_getElem? (i := 73) rfl
theorem nm_X10_298 : (RX10, 298, yX7_init, "LuteFingers") ∈ nM := List.mem_of_getElem? (i := 74) rfl
theorem nm_X10_301 : (RX10, 301, yX7_findFault, "LuteFingers") ∈ nM := List.mem_of_getElem? (i := 75) rfl
theorem nm_X7_27 : (RX7, 27, yX5_removeAll, "LuteFingers") ∈ nM := List.mem_of_getElem? (i := 76) rfl
theorem nm_X7_76 : (RX7, 76, yX10_within, "LuteFingers") ∈ nM := List.mem_of_getElem? (i := 77) rfl
theorem nm_X7_83 : (RX7, 83, yX5_noteOfPitch, "LuteFingers") ∈ nM := List.mem_of_getElem? (i := 78) rfl
theorem nm_X7_87 : (RX7, 87, yX5_addNote, "LuteFingers") ∈ nM := List.mem_of_getElem? (i := 79) rfl
theorem nm_X7_41 : (RX7, 41, yX5_closeTick, "LuteFingers") ∈ nM := List.mem_of_getElem? (i := 80) rfl
theorem nm_X10_304 : (RX10, 304, yX5_copyFrom, "LuteFingers") ∈ nM := List.mem_of_getElem? (i := 81) rfl
theorem nm_X10_308 : (RX10, 308, yX5_notesOfTicks, "LuteFingers") ∈ nM := List.mem_of_getElem? (i := 82) rfl
set_option maxRecDepth 20000 in
theorem nF_in : ∀ q ∈ nF, Cond.fieldLinkNest q.1 q.2.1 q.2.2.1 q.2.2.2.1 q.2.2.2.2.1 q.2.2.2.2.2 ∈ lw_tbl := List.forall_mem_cons.mpr ⟨tb_1 (List.mem_of_getElem? (i := 35) (by decide +kernel)), List.forall_mem_cons.mpr ⟨tb_1 (List.mem_of_getElem? (i := 36) (by decide +kernel)), List.forall_mem_cons.mpr ⟨tb_1 (List.mem_of_getElem? (i := 37) (by decide +kernel)), List.forall_mem_cons.mpr ⟨tb_1 (List.mem_of_getElem? (i := 39) (by decide +kernel)), List.forall_mem_cons.mpr ⟨tb_1 (List.mem_of_getElem? (i := 40) (by decide +kernel)), List.forall_mem_cons.mpr ⟨tb_1 (List.mem_of_getElem? (i := 42) (by decide +kernel)), List.forall_mem_cons.mpr ⟨tb_1 (List.mem_of_getElem? (i := 43) (by decide +kernel)), List.forall_mem_cons.mpr ⟨tb_1 (List.mem_of_getElem? (i := 45) (by decide +kernel)), List.forall_mem_cons.mpr ⟨tb_1 (List.mem_of_getElem? (i := 47) (by decide +kernel)), List.forall_mem_cons.mpr ⟨tb_1 (List.mem_of_getElem? (i := 49) (by decide +kernel)), List.forall_mem_cons.mpr ⟨tb_1 (List.mem_of_getElem? (i := 50) (by decide +kernel)), List.forall_mem_cons.mpr ⟨tb_1 (List.mem_of_getElem? (i := 52) (by decide +kernel)), List.forall_mem_cons.mpr ⟨tb_1 (List.mem_of_getElem? (i := 76) (by decide +kernel)), List.forall_mem_cons.mpr ⟨tb_1 (List.mem_of_getElem? (i := 77) (by decide +kernel)), List.forall_mem_cons.mpr ⟨tb_1 (List.mem_of_getElem? (i := 78) (by decide +kernel)), List.forall_mem_cons.mpr ⟨tb_1 (List.mem_of_getElem? (i := 79) (by decide +kernel)), List.forall_mem_cons.mpr ⟨tb_1 (List.mem_of_getElem? (i := 80) (by decide +kernel)), List.forall_mem_cons.mpr ⟨tb_1 (List.mem_of_getElem? (i := 82) (by decide +kernel)), List.forall_mem_cons.mpr ⟨tb_1 (List.mem_of_getElem? (i := 83) (by decide +kernel)), List.forall_mem_cons.mpr ⟨tb_1 (List.mem_of_getElem? (i := 84) (by decide +kernel)), List.forall_mem_cons.mpr ⟨tb_1 (List.mem_of_getElem? (i := 85) (by decide +kernel)), List.forall_mem_cons.mpr ⟨tb_1 (List.mem_of_getElem? (i := 87) (by decide +kernel)), List.forall_mem_cons.mpr ⟨tb_1 (List.mem_of_getElem? (i := 88) (by decide +kernel)), List.forall_mem_cons.mpr ⟨tb_1 (List.mem_of_getElem? (i := 89) (by decide +kernel)), List.forall_mem_cons.mpr ⟨tb_1 (List.mem_of_getElem? (i := 91) (by decide +kernel)), List.forall_mem_cons.mpr ⟨tb_1 (List.mem_of_getElem? (i := 92) (by decide +kernel)), List.forall_mem_cons.mpr ⟨tb_1 (List.mem_of_getElem? (i := 94) (by decide +kernel)), List.forall_mem_cons.mpr ⟨tb_1 (List.mem_of_getElem? (i := 95) (by decide +kernel)), List.forall_mem_cons.mpr ⟨tb_1 (List.mem_of_getElem? (i := 97) (by decide +kernel)), List.forall_mem_cons.mpr ⟨tb_1 (List.mem_of_getElem? (i := 99) (by decide +kernel)), List.forall_mem_cons.mpr ⟨tb_1 (List.mem_of_getElem? (i := 100) (by decide +kernel)), List.forall_mem_cons.mpr ⟨tb_1 (List.mem_of_getElem? (i := 101) (by decide +kernel)), List.forall_mem_cons.mpr ⟨tb_1 (List.mem_of_getElem? (i := 124) (by decide +kernel)), List.forall_mem_cons.mpr ⟨tb_1 (List.mem_of_getElem? (i := 125) (by decide +kernel)), List.forall_mem_cons.mpr ⟨tb_1 (List.mem_of_getElem? (i := 127) (by decide +kernel)), List.forall_mem_cons.mpr ⟨tb_1 (List.mem_of_getElem? (i := 128) (by decide +kernel)), List.forall_mem_cons.mpr ⟨tb_1 (List.mem_of_getElem? (i := 236) (by decide +kernel)), List.forall_mem_cons.mpr ⟨tb_1 (List.mem_of_getElem? (i := 238) (by decide +kernel)), List.forall_mem_cons.mpr ⟨tb_2 (List.mem_of_getElem? (i := 0) (by decide +kernel)), List.forall_mem_cons.mpr ⟨tb_2 (List.mem_of_getElem? (i := 2) (by decide +kernel)), List.forall_mem_cons.mpr ⟨tb_2 (List.mem_of_getElem? (i := 4) (by decide +kernel)), List.forall_mem_cons.mpr ⟨tb_3 (List.mem_of_getElem? (i := 231) (by decide +kernel)), fun _ h => absurd h List.not_mem_nil⟩⟩⟩⟩⟩⟩⟩⟩⟩⟩⟩⟩⟩⟩⟩⟩⟩⟩⟩⟩⟩⟩⟩⟩⟩⟩⟩⟩⟩⟩⟩⟩⟩⟩⟩⟩⟩⟩⟩⟩⟩⟩
set_option maxRecDepth 20000 in
theorem nM_in : ∀ q ∈ nM, Cond.methodLinkNest q.1 q.2.1 q.2.2.1 q.2.2.2 ∈ lw_tbl := List.forall_mem_cons.mpr ⟨tb_1 (List.mem_of_getElem? (i := 27) (by decide +kernel)), List.forall_mem_cons.mpr ⟨tb_1 (List.mem_of_getElem? (i := 71) (by decide +kernel)), List.forall_mem_cons.mpr ⟨tb_1 (List.mem_of_getElem? (i := 119) (by decide +kernel)), List.forall_mem_cons.mpr ⟨tb_1 (List.mem_of_getElem? (i := 136) (by decide +kernel)), List.forall_mem_cons.mpr ⟨tb_1 (List.mem_of_getElem? (i := 179) (by decide +kernel)), List.forall_mem_cons.mpr ⟨tb_1 (List.mem_of_getElem? (i := 200) (by decide +kernel)), List.forall_mem_cons.mpr ⟨tb_1 (List.mem_of_getElem? (i := 231) (by decide +kernel)), List.forall_mem_cons.mpr ⟨tb_2 (List.mem_of_getElem? (i := 77) (by decide +kernel)), List.forall_mem_cons.mpr ⟨tb_2 (List.mem_of_getElem? (i := 81) (by decide +kernel)), List.forall_mem_cons.mpr ⟨tb_2 (List.mem_of_getElem? (i := 85) (by decide +kernel)), List.forall_mem_cons.mpr ⟨tb_2 (List.mem_of_getElem? (i := 93) (by decide +kernel)), List.forall_mem_cons.mpr ⟨tb_2 (List.mem_of_getElem? (i := 116) (by decide +kernel)), List.forall_mem_cons.mpr ⟨tb_2 (List.mem_of_getElem? (i := 120) (by decide +kernel)), List.forall_mem_cons.mpr ⟨tb_2 (List.mem_of_getElem? (i := 128) (by decide +kernel)), List.forall_mem_cons.mpr ⟨tb_2 (List.mem_of_getElem? (i := 129) (by decide +kernel)), List.forall_mem_cons.mpr ⟨tb_2 (List.mem_of_getElem? (i := 137) (by decide +kernel)), List.forall_mem_cons.mpr ⟨tb_2 (List.mem_of_getElem? (i := 141) (by decide +kernel)), List.forall_mem_cons.mpr ⟨tb_2 (List.mem_of_getElem? (i := 149) (by decide +kernel)), List.forall_mem_cons.mpr ⟨tb_2 (List.mem_of_getElem? (i := 157) (by decide +kernel)), List.forall_mem_cons.mpr ⟨tb_2 (List.mem_of_getElem? (i := 173) (by decide +kernel)), List.forall_mem_cons.mpr ⟨tb_2 (List.mem_of_getElem? (i := 174) (by decide +kernel)), List.forall_mem_cons.mpr ⟨tb_2 (List.mem_of_getElem? (i := 178) (by decide +kernel)), List.forall_mem_cons.mpr ⟨tb_2 (List.mem_of_getElem? (i := 186) (by decide +kernel)), List.forall_mem_cons.mpr ⟨tb_2 (List.mem_of_getElem? (i := 198) (by decide +kernel)), List.forall_mem_cons.mpr ⟨tb_2 (List.mem_of_getElem? (i := 202) (by decide +kernel)), List.forall_mem_cons.mpr ⟨tb_2 (List.mem_of_getElem? (i := 203) (by decide +kernel)), List.forall_mem_cons.mpr ⟨tb_2 (List.mem_of_getElem? (i := 215) (by decide +kernel)), List.forall_mem_cons.mpr ⟨tb_2 (List.mem_of_getElem? (i := 219) (by decide +kernel)), List.forall_mem_cons.mpr ⟨tb_2 (List.mem_of_getElem? (i := 235) (by decide +kernel)), List.forall_mem_cons.mpr ⟨tb_3 (List.mem_of_getElem? (i := 2) (by decide +kernel)), List.forall_mem_cons.mpr ⟨tb_3 (List.mem_of_getElem? (i := 5) (by decide +kernel)), List.forall_mem_cons.mpr ⟨tb_3 (List.mem_of_getElem? (i := 13) (by decide +kernel)), List.forall_mem_cons.mpr ⟨tb_3 (List.mem_of_getElem? (i := 19) (by decide +kernel)), List.forall_mem_cons.mpr ⟨tb_3 (List.mem_of_getElem? (i := 23) (by decide +kernel)), List.forall_mem_cons.mpr ⟨tb_3 (List.mem_of_getElem? (i := 33) (by decide +kernel)), List.forall_mem_cons.mpr ⟨tb_3 (List.mem_of_getElem? (i := 37) (by decide +kernel)), List.forall_mem_cons.mpr ⟨tb_3 (List.mem_of_getElem? (i := 49) (by decide +kernel)), List.forall_mem_cons.mpr ⟨tb_3 (List.mem_of_getElem? (i := 59) (by decide +kernel)), List.forall_mem_cons.mpr ⟨tb_3 (List.mem_of_getElem? (i := 64) (by decide +kernel)), List.forall_mem_cons.mpr ⟨tb_3 (List.mem_of_getElem? (i := 71) (by decide +kernel)), List.forall_mem_cons.mpr ⟨tb_3 (List.mem_of_getElem? (i := 75) (by decide +kernel)), List.forall_mem_cons.mpr ⟨tb_3 (List.mem_of_getElem? (i := 79) (by decide +kernel)), List.forall_mem_cons.mpr ⟨tb_3 (List.mem_of_getElem? (i := 87) (by decide +kernel)), List.forall_mem_cons.mpr ⟨tb_3 (List.mem_of_getElem? (i := 98) (by decide +kernel)), List.forall_mem_cons.mpr ⟨tb_3 (List.mem_of_getElem? (i := 99) (by decide +kernel)), List.forall_mem_cons.mpr ⟨tb_3 (List.mem_of_getElem? (i := 103) (by decide +kernel)), List.forall_mem_cons.mpr ⟨tb_3 (List.mem_of_getElem? (i := 111) (by decide +kernel)), List.forall_mem_cons.mpr ⟨tb_3 (List.mem_of_getElem? (i := 124) (by decide +kernel)), List.forall_mem_cons.mpr ⟨tb_3 (List.mem_of_getElem? (i := 129) (by decide +kernel)), List.forall_mem_cons.mpr ⟨tb_3 (List.mem_of_getElem? (i := 148) (by decide +kernel)), List.forall_mem_cons.mpr ⟨tb_3 (List.mem_of_getElem? (i := 149) (by decide +kernel)), List.forall_mem_cons.mpr ⟨tb_3 (List.mem_of_getElem? (i := 153) (by decide +kernel)), List.forall_mem_cons.mpr ⟨tb_3 (List.mem_of_getElem? (i := 157) (by decide +kernel)), List.forall_mem_cons.mpr ⟨tb_3 (List.mem_of_getElem? (i := 172) (by decide +kernel)), List.forall_mem_cons.mpr ⟨tb_3 (List.mem_of_getElem? (i := 184) (by decide +kernel)), List.forall_mem_cons.mpr ⟨tb_3 (List.mem_of_getElem? (i := 192) (by decide +kernel)), List.forall_mem_cons.mpr ⟨tb_3 (List.mem_of_getElem? (i := 209) (by decide +kernel)), List.forall_mem_cons.mpr ⟨tb_3 (List.mem_of_getElem? (i := 210) (by decide +kernel)), List.forall_mem_cons.mpr ⟨tb_3 (List.mem_of_getElem? (i := 217) (by decide +kernel)), List.forall_mem_cons.mpr ⟨tb_4 (List.mem_of_getElem? (i := 13) (by decide +kernel)), List.forall_mem_cons.mpr ⟨tb_4 (List.mem_of_getElem? (i := 17) (by decide +kernel)), List.forall_mem_cons.mpr ⟨tb_4 (List.mem_of_getElem? (i := 18) (by decide +kernel)), List.forall_mem_cons.mpr ⟨tb_4 (List.mem_of_getElem? (i := 19) (by decide +kernel)), List.forall_mem_cons.mpr ⟨tb_4 (List.mem_of_getElem? (i := 46) (by decide +kernel)), List.forall_mem_cons.mpr ⟨tb_4 (List.mem_of_getElem? (i := 48) (by decide +kernel)), List.forall_mem_cons.mpr ⟨tb_4 (List.mem_of_getElem? (i := 65) (by decide +kernel)), List.forall_mem_cons.mpr ⟨tb_4 (List.mem_of_getElem? (i := 70) (by decide +kernel)), List.forall_mem_cons.mpr ⟨tb_4 (List.mem_of_getElem? (i := 94) (by decide +kernel)), List.forall_mem_cons.mpr ⟨tb_4 (List.mem_of_getElem? (i := 98) (by decide +kernel)), List.forall_mem_cons.mpr ⟨tb_4 (List.mem_of_getElem? (i := 103) (by decide +kernel)), List.forall_mem_cons.mpr ⟨tb_4 (List.mem_of_getElem? (i := 119) (by decide +kernel)), List.forall_mem_cons.mpr ⟨tb_4 (List.mem_of_getElem? (i := 126) (by decide +kernel)), List.forall_mem_cons.mpr ⟨tb_4 (List.mem_of_getElem? (i := 127) (by decide +kernel)), List.forall_mem_cons.mpr ⟨tb_4 (List.mem_of_getElem? (i := 129) (by decide +kernel)), List.forall_mem_cons.mpr ⟨tb_4 (List.mem_of_getElem? (i := 136) (by decide +kernel)), List.forall_mem_cons.mpr ⟨tb_4 (List.mem_of_getElem? (i := 153) (by decide +kernel)), List.forall_mem_cons.mpr ⟨tb_4 (List.mem_of_getElem? (i := 157) (by decide +kernel)), List.forall_mem_cons.mpr ⟨tb_4 (List.mem_of_getElem? (i := 174) (by decide +kernel)), List.forall_mem_cons.mpr ⟨tb_4 (List.mem_of_getElem? (i := 175) (by decide +kernel)), List.forall_mem_cons.mpr ⟨tb_4 (List.mem_of_getElem? (i := 176) (by decide +kernel)), List.forall_mem_cons.mpr ⟨tb_4 (List.mem_of_getElem? (i := 181) (by decide +kernel)), List.forall_mem_cons.mpr ⟨tb_4 (List.mem_of_getElem? (i := 182) (by decide +kernel)), List.forall_mem_cons.mpr ⟨tb_4 (List.mem_of_getElem? (i := 193) (by decide +kernel)), fun _ h => absurd h List.not_mem_nil⟩⟩⟩⟩⟩⟩⟩⟩⟩⟩⟩⟩⟩⟩⟩⟩⟩⟩⟩⟩⟩⟩⟩⟩⟩⟩⟩⟩⟩⟩⟩⟩⟩⟩⟩⟩⟩⟩⟩⟩⟩⟩⟩⟩⟩⟩⟩⟩⟩⟩⟩⟩⟩⟩⟩⟩⟩⟩⟩⟩⟩⟩⟩⟩⟩⟩⟩⟩⟩⟩⟩⟩⟩⟩⟩⟩⟩⟩⟩⟩⟩⟩⟩

theorem nw_of {args : Array Value} {s : State} (h : ∀ w ∈ lw_tbl, w.before args s = true) : nw s := ⟨fun q hq => va_Nw.of rfl (h _ (nF_in q hq)), fun q hq => va_Nw.of rfl (h _ (nM_in q hq))⟩
theorem P_congr {D : va_G} {H : Heap} {a : Nat} {cA : ClassId} {n : Nat} {f g : Nat → Int32} (h : ∀ j, j < n → f j = g j) (hP : va_P D vwCl [(a, .inl (cA, n, .inl f))] H) : va_P D vwCl [(a, .inl (cA, n, .inl g))] H := by
  intro k q hk
  match k, hk with
  | 0, hk =>
    cases hk
    have h0 : va_at D vwCl (a, .inl (cA, n, .inl f)) H := hP 0 _ rfl
    have h1 : H[a]? = some (vp_cell cA (n, .inl f)) := h0
    show H[a]? = some (vp_cell cA (n, .inl g))
    rw [h1, arr_congr h]
  | k + 1, hk => simp at hk
theorem D_one {A : Nat → Prop} {a : Nat} {x y : va_E} (hD : va_D A [(a, x)]) : va_D A [(a, y)] := by
  have ha : A a := hD.2 0 _ rfl
  refine ⟨fun i j p q hi hj _ => ?_, fun k q hk => ?_⟩
  · match i, j, hi, hj with
    | 0, 0, _, _ => rfl
    | 0, j + 1, _, hj => simp at hj
    | i + 1, _, hi, _ => simp at hi
  · match k, hk with
    | 0, hk => cases hk; exact ha
    | k + 1, hk => simp at hk
end
section
theorem dF_0 : decode cJ7_fill_53178 0 = .ok (.iconst 0, 1) := by decide +kernel
theorem dF_1 : decode cJ7_fill_53178 1 = .ok (.istore_n 2, 1) := by decide +kernel
theorem dF_2 : decode cJ7_fill_53178 2 = .ok (.aload_n 0, 1) := by decide +kernel
theorem dF_3 : decode cJ7_fill_53178 3 = .ok (.arraylength, 1) := by decide +kernel
theorem dF_4 : decode cJ7_fill_53178 4 = .ok (.istore_n 3, 1) := by decide +kernel
theorem dF_5 : decode cJ7_fill_53178 5 = .ok (.iload_n 2, 1) := by decide +kernel
theorem dF_6 : decode cJ7_fill_53178 6 = .ok (.iload_n 3, 1) := by decide +kernel
theorem dF_7 : decode cJ7_fill_53178 7 = .ok (.if_icmp .ge 13, 3) := by decide +kernel
theorem dF_10 : decode cJ7_fill_53178 10 = .ok (.aload_n 0, 1) := by decide +kernel
theorem dF_11 : decode cJ7_fill_53178 11 = .ok (.iload_n 2, 1) := by decide +kernel
theorem dF_12 : decode cJ7_fill_53178 12 = .ok (.iload_n 1, 1) := by decide +kernel
theorem dF_13 : decode cJ7_fill_53178 13 = .ok (.iastore, 1) := by decide +kernel
theorem dF_14 : decode cJ7_fill_53178 14 = .ok (.iinc 2 1, 3) := by decide +kernel
theorem dF_17 : decode cJ7_fill_53178 17 = .ok (.goto (-12), 3) := by decide +kernel
theorem dF_20 : decode cJ7_fill_53178 20 = .ok (.return_, 1) := by decide +kernel
set_option maxHeartbeats 4000000 in
set_option maxRecDepth 100000 in
/-- Arrays.fill(a, v): every place of a is v -/
theorem c_fill (l : Launch) (dC : Nat → ClassId) (dI : Nat → Nat → Nat) (h0 : Nat) (cA : ClassId) (n : Nat) (f : Nat → Int32) (v : Int32) (hn : n < 2 ^ 31) (sz : Nat) : Cv l (dC, dI) yJ7_fill_53178 cJ7_fill_53178 4 { frames := 0, cells := 0, slots := 0, locals := 0 } [.ref h0, .int v] [(cA, .int)] [(h0, .inl (cA, n, .inl f))] sz 0 0 Unit (fun _ => True) (fun _ => [(h0, .inl (cA, n, .inl (fun _ => v)))]) (fun _ => [(cA, .int)]) := by
  refine Cv_of (lv := [(0, .ref h0), (1, .int v)]) (by decide) rfl rfl ?_
  intro p e s m below meth c A ls hx hb hml hr hown hta hlocks hnm hnw hP hD hK hS hA hl
  have loop : ∀ (d i : Nat) (g : Nat → Int32) (H : Heap) (locs : List Loc) (ls : Array Slot), i + d = n → (∀ j, j < i → g j = v) → va_P (dC, dI) vwCl [(h0, .inl (cA, n, .inl g))] H → va_D A [(h0, .inl (cA, n, .inl g))] → va_S A s.heap H locs → lv_has ls 4 [(2, .int (nI i)), (3, .int (nI n)), (0, .ref h0), (1, .int v)] →
      W p l e { frames := 0, cells := 0, slots := 0, locals := 0 } s m [.ref h0, .int v].toArray below meth c H locs 0 0 (MQ below (va_Qv (fun _ => True) (fun (u : Unit) t => pst (dC, dI) A ((fun _ => [(h0, .inl (cA, n, .inl (fun _ => v)))]) u) ((fun _ => [(cA, .int)]) u) t) A) [.ref h0, .int v].toArray s 0 0 A) (F0 m 5 ls []) := by
    intro d
    induction d with
    | zero =>
      intro i g H locs ls hi hg hP hD hS hl
      have hi : i = n := hi
      subst hi
      refine lv_iload_n hx hb dF_5 rfl (lv_at hl 0 rfl) ?_
      refine lv_iload_n hx hb dF_6 rfl (lv_at hl 1 rfl) ?_
      refine lv_icmp_ge (tgt := 20) hx hb dF_7 (by decide) (fun _ => ?_) (fun c => absurd (nI_le (Nat.le_refl i) hn) c)
      exact k_vret () hx hb hr hlocks (P_congr hg hP) (D_one hD) (hK.sub (tys' := [(cA, .int)]) [0] rfl) hS trivial dF_20
    | succ d ih =>
      intro i g H locs ls hi hg hP hD hS hl
      have hlt : i < n := by omega
      refine lv_iload_n hx hb dF_5 rfl (lv_at hl 0 rfl) ?_
      refine lv_iload_n hx hb dF_6 rfl (lv_at hl 1 rfl) ?_
      refine lv_icmp_ge (tgt := 20) hx hb dF_7 (by decide) (fun c => absurd c (nI_ge hlt hn)) (fun _ => ?_)
      refine lv_aload_n hx hb dF_10 rfl (lv_at hl 2 rfl) ?_
      refine lv_iload_n hx hb dF_11 rfl (lv_at hl 0 rfl) ?_
      refine lv_iload_n hx hb dF_12 rfl (lv_at hl 3 rfl) ?_
      refine va_iast hx hb hK hP hD hS 0 0 rfl rfl (vp_in_nI hlt hn) dF_13 (fun H locs hP hD hS => ?_)
      rw [nI_clamp (show i < 2 ^ 31 by omega)] at hP hD
      have hP : va_P (dC, dI) vwCl [(h0, .inl (cA, n, .inl (upd g i v)))] H := hP
      have hD : va_D A [(h0, .inl (cA, n, .inl (upd g i v)))] := hD
      refine lv_iinc (v := nI (i + 1)) (lv' := [(2, .int (nI (i + 1))), (3, .int (nI n)), (0, .ref h0), (1, .int v)]) hx hb dF_14 hl (k := 0) rfl (nI_1 i) (by decide) rfl (fun ls hl => ?_)
      refine lv_goto (tgt := 5) hx hb dF_17 (by decide) ?_
      refine ih (i + 1) (upd g i v) H locs ls (by omega) (fun j hj => ?_) hP hD hS hl
      unfold upd
      by_cases h : j = i
      · rw [if_pos h]
      · rw [if_neg h]; exact hg j (by omega)
  refine lv_iconst (v := 0) hx hb dF_0 (by decide) ?_
  refine lv_istore_n (lv' := [(2, .int 0), (0, .ref h0), (1, .int v)]) hx hb dF_1 rfl hl (by decide) rfl (fun ls hl => ?_)
  refine lv_aload_n hx hb dF_2 rfl (lv_at hl 1 rfl) ?_
  refine va_alen hx hb hK hP 0 0 rfl rfl (v := nI n) rfl dF_3 ?_
  refine lv_istore_n (lv' := [(3, .int (nI n)), (2, .int 0), (0, .ref h0), (1, .int v)]) hx hb dF_4 rfl hl (by decide) rfl (fun ls hl => ?_)
  exact loop n 0 f s.heap [] ls (by omega) (fun j hj => absurd hj (Nat.not_lt_zero j)) hP hD hS (lv_sub (l' := [(2, .int (nI 0)), (3, .int (nI n)), (0, .ref h0), (1, .int v)]) hl [1, 0, 2, 3] rfl)
end
section
abbrev zLF (q : Nat → Nat) (k : Nat → ClassId) : Nat × va_E := (q 0, .inr (9, [.ref (q 1), .ref (q 2), .ref (q 3), .ref (q 4), .ref (q 5), .ref (q 6), .ref (q 7), .ref (q 8), .ref (q 9), .int 0, .null, .null, .int 0, .int 0, .int 0]))
abbrev zlu (q : Nat → Nat) (k : Nat → ClassId) : Nat × va_E := (q 1, .inr (3, [.int 0, .int 0, .ref (q 10), .ref (q 11), .ref (q 12), .ref (q 13), .ref (q 14)]))
abbrev zpi (q : Nat → Nat) (k : Nat → ClassId) : Nat × va_E := (q 2, .inr (4, [.int 0, .ref (q 20), .ref (q 21), .ref (q 22), .ref (q 23), .ref (q 24), .ref (q 25)]))
abbrev ztp (q : Nat → Nat) (k : Nat → ClassId) : Nat × va_E := (q 3, .inr (5, [.ref (q 30), .int 0]))
abbrev zbk (q : Nat → Nat) (k : Nat → ClassId) : Nat × va_E := (q 5, .inr (1, [.ref (q 2), .ref (q 4), .ref (q 31), .ref (q 32)]))
abbrev zwl (q : Nat → Nat) (k : Nat → ClassId) : Nat × va_E := (q 8, .inr (7, [.ref (q 33), .ref (q 34), .int 0, .int (-1), .int 0]))
abbrev zrw (q : Nat → Nat) (k : Nat → ClassId) : Nat × va_E := (q 9, .inl (k 9, 16, .inl (fun _ => 0)))
abbrev ztu (q : Nat → Nat) (k : Nat → ClassId) : Nat × va_E := (q 10, .inl (k 10, 6, .inl (fun _ => 0)))
abbrev zfr (q : Nat → Nat) (k : Nat → ClassId) : Nat × va_E := (q 11, .inl (k 11, 6, .inl (fun _ => 0)))
abbrev zsl (q : Nat → Nat) (k : Nat → ClassId) : Nat × va_E := (q 12, .inl (k 12, 5, .inl (fun _ => 1)))
abbrev zwe (q : Nat → Nat) (k : Nat → ClassId) : Nat × va_E := (q 13, .inl (k 13, 5, .inl (fun _ => 1)))
abbrev ztn (q : Nat → Nat) (k : Nat → ClassId) : Nat × va_E := (q 14, .inl (k 14, 24, .inl (fun _ => 0)))
abbrev zsz (q : Nat → Nat) (k : Nat → ClassId) : Nat × va_E := (q 20, .inl (k 20, 17, .inl (fun _ => 0)))
abbrev zpt (q : Nat → Nat) (k : Nat → ClassId) : Nat × va_E := (q 21, .inl (k 21, 68, .inl (fun _ => 0)))
abbrev zkd (q : Nat → Nat) (k : Nat → ClassId) : Nat × va_E := (q 22, .inl (k 22, 68, .inl (fun _ => 0)))
abbrev zpr (q : Nat → Nat) (k : Nat → ClassId) : Nat × va_E := (q 23, .inl (k 23, 68, .inl (fun _ => 0)))
abbrev zfo (q : Nat → Nat) (k : Nat → ClassId) : Nat × va_E := (q 24, .inl (k 24, 68, .inl (fun _ => 0)))
abbrev zfx (q : Nat → Nat) (k : Nat → ClassId) : Nat × va_E := (q 25, .inl (k 25, 68, .inl (fun _ => 0)))
abbrev zby (q : Nat → Nat) (k : Nat → ClassId) : Nat × va_E := (q 30, .inl (k 30, 600, .inl (fun _ => 0)))
abbrev zbs (q : Nat → Nat) (k : Nat → ClassId) : Nat × va_E := (q 32, .inl (k 32, 16, .inl (fun _ => (-1))))
abbrev zM (g : Nat → Nat) (h : Nat → ClassId) : Nat × va_E := (g 47, .inr (10, [.int 0, .int 0, .ref (g 2), .ref (g 3), .ref (g 4), .ref (g 5), .ref (g 6), .int 0, .int 0, .ref (g 9), .ref (g 10), .ref (g 11), .ref (g 12), .ref (g 13), .int 0, .int 0, .ref (g 16), .ref (g 17), .ref (g 18), .ref (g 19), .ref (g 20), .ref (g 21), .ref (g 22), .ref (g 23), .ref (g 24), .ref (g 25), .ref (g 26), .ref (g 27), .ref (g 28), .ref (g 29), .int 0, .ref (g 31), .ref (g 32), .int 0, .int 0, .ref (g 35), .int 0, .ref (g 37), .ref (g 38), .int 0, .ref (g 40), .ref (g 41), .int 0, .ref (g 43), .ref (g 44), .ref (g 45), .int 0]))
abbrev zMtune (g : Nat → Nat) (h : Nat → ClassId) : Nat × va_E := (g 2, .inl (h 2, 6, .inl (fun _ => 0)))
abbrev zMfrets (g : Nat → Nat) (h : Nat → ClassId) : Nat × va_E := (g 3, .inl (h 3, 6, .inl (fun _ => 0)))
abbrev zMslack (g : Nat → Nat) (h : Nat → ClassId) : Nat × va_E := (g 4, .inl (h 4, 5, .inl (upd (upd (upd (upd (upd (fun _ => 0) 0 0) 1 1) 2 1) 3 1) 4 1)))
abbrev zMweight (g : Nat → Nat) (h : Nat → ClassId) : Nat × va_E := (g 5, .inl (h 5, 5, .inl (upd (upd (upd (upd (upd (fun _ => 0) 0 1) 1 1) 2 1) 3 1) 4 1)))
abbrev zMtuning (g : Nat → Nat) (h : Nat → ClassId) : Nat × va_E := (g 6, .inl (h 6, 24, .inl (fun _ => 0)))
abbrev zMpitch (g : Nat → Nat) (h : Nat → ClassId) : Nat × va_E := (g 10, .inl (h 10, 68, .inl (fun _ => 0)))
abbrev zMkind (g : Nat → Nat) (h : Nat → ClassId) : Nat × va_E := (g 11, .inl (h 11, 68, .inl (fun _ => 0)))
abbrev zMprice (g : Nat → Nat) (h : Nat → ClassId) : Nat × va_E := (g 12, .inl (h 12, 68, .inl (fun _ => 0)))
abbrev zMfixed (g : Nat → Nat) (h : Nat → ClassId) : Nat × va_E := (g 13, .inl (h 13, 68, .inl (fun _ => 0)))
abbrev zMrow (g : Nat → Nat) (h : Nat → ClassId) : Nat × va_E := (g 35, .inl (h 35, 16, .inl (fun _ => 0)))
abbrev zMtape (g : Nat → Nat) (h : Nat → ClassId) : Nat × va_E := (g 41, .inl (h 41, 600, .inl (fun _ => 0)))
def tiedB (a : Int32) : Bool := decide (a = 1) || decide (a = 2)
def sp_course (a b : Int32) : Int32 := if inB a 0 99 && inB b 0 12 then 0 else (-2)
def sp_slack (a b : Int32) : Int32 := if inB a 1 4 then (if inB b 0 2 then 1 else (-2)) else (-1)
def sp_bars (a : Int32) : Int32 := if inB a 0 1 then 0 else (-2)
def sp_weight (a b : Int32) : Int32 := if inB a 0 4 then (if inB b 0 9 then 1 else (-2)) else (-1)
def sp_note (a b c : Int32) : Int32 := if inB a 0 120 && inB b 0 3 && inB c 0 100 then (if tiedB b then (-3) else 1) else (-2)
def sp_say (a : Int32) : Int32 := if a < 0 then (-2) else 1
def sp_feed (a : Int32) : Int32 := if inB a 0 255 then 1 else (-2)
def sp_count (a : Int32) : Int32 := if a = 0 ∨ a = 1 ∨ a = 2 ∨ a = 3 ∨ a = 4 then 0 else (-1)
abbrev fSl : Nat → Int32 := upd (upd (upd (upd (upd (fun _ => 0) 0 0) 1 1) 2 1) 3 1) 4 1
abbrev fWe : Nat → Int32 := upd (upd (upd (upd (upd (fun _ => 0) 0 1) 1 1) 2 1) 3 1) 4 1
theorem fSl_v {x : Int32} (h : inB x 1 4 = true) : fSl x.toNatClampNeg = 1 := by
  obtain ⟨j, h1, h2, rfl⟩ := inB_nat (a := 1) (b := 4) h (by decide) (by decide)
  rw [nI_clamp (by omega)]
  rcases (show j = 1 ∨ j = 2 ∨ j = 3 ∨ j = 4 by omega) with rfl | rfl | rfl | rfl <;> rfl
theorem fWe_v {x : Int32} (h : inB x 0 4 = true) : fWe x.toNatClampNeg = 1 := by
  obtain ⟨j, h1, h2, rfl⟩ := inB_nat (a := 0) (b := 4) h (by decide) (by decide)
  rw [nI_clamp (by omega)]
  rcases (show j = 0 ∨ j = 1 ∨ j = 2 ∨ j = 3 ∨ j = 4 by omega) with rfl | rfl | rfl | rfl | rfl <;> rfl
theorem cnt_cases (x : Int32) : x = 0 ∨ x = 1 ∨ x = 2 ∨ x = 3 ∨ x = 4 ∨ x = 5 ∨ (x.toInt < 0 ∨ 5 < x.toInt) := by
  rcases (show x.toInt < 0 ∨ 0 ≤ x.toInt by omega) with h | h
  · exact Or.inr (Or.inr (Or.inr (Or.inr (Or.inr (Or.inr (Or.inl h))))))
  · rcases (show 5 < x.toInt ∨ x.toInt ≤ 5 by omega) with h5 | h5
    · exact Or.inr (Or.inr (Or.inr (Or.inr (Or.inr (Or.inr (Or.inr h5))))))
    · obtain ⟨j, -, h2, rfl⟩ := inB_nat (x := x) (lo := 0) (hi := 5) (a := 0) (b := 5) (by simp only [inB, Bool.and_eq_true, decide_eq_true_eq, Int32.le_iff_toInt_le]; exact ⟨h, h5⟩) (by decide) (by decide)
      rcases (show j = 0 ∨ j = 1 ∨ j = 2 ∨ j = 3 ∨ j = 4 ∨ j = 5 by omega) with rfl | rfl | rfl | rfl | rfl | rfl <;> decide
theorem sp_count_out {x : Int32} (h : x.toInt < 0 ∨ 5 < x.toInt) : sp_count x = (-1) := by
  unfold sp_count
  rw [if_neg]
  rintro (rfl | rfl | rfl | rfl | rfl) <;> revert h <;> decide
end
section
theorem dX2_init_0 : decode cX2_init 0 = .ok (.aload_n 0, 1) := by decide +kernel
theorem dX2_init_1 : decode cX2_init 1 = .ok (.invokespecial 3, 3) := by decide +kernel
theorem dX2_init_4 : decode cX2_init 4 = .ok (.aload_n 0, 1) := by decide +kernel
theorem dX2_init_5 : decode cX2_init 5 = .ok (.sipush 512, 3) := by decide +kernel
theorem dX2_init_8 : decode cX2_init 8 = .ok (.newarray .long, 2) := by decide +kernel
theorem dX2_init_10 : decode cX2_init 10 = .ok (.putfield 9, 3) := by decide +kernel
theorem dX2_init_13 : decode cX2_init 13 = .ok (.aload_n 0, 1) := by decide +kernel
theorem dX2_init_14 : decode cX2_init 14 = .ok (.bipush 16, 2) := by decide +kernel
theorem dX2_init_16 : decode cX2_init 16 = .ok (.newarray .int, 2) := by decide +kernel
theorem dX2_init_18 : decode cX2_init 18 = .ok (.putfield 15, 3) := by decide +kernel
theorem dX2_init_21 : decode cX2_init 21 = .ok (.aload_n 0, 1) := by decide +kernel
theorem dX2_init_22 : decode cX2_init 22 = .ok (.aload_n 1, 1) := by decide +kernel
theorem dX2_init_23 : decode cX2_init 23 = .ok (.putfield 19, 3) := by decide +kernel
theorem dX2_init_26 : decode cX2_init 26 = .ok (.aload_n 0, 1) := by decide +kernel
theorem dX2_init_27 : decode cX2_init 27 = .ok (.aload_n 2, 1) := by decide +kernel
theorem dX2_init_28 : decode cX2_init 28 = .ok (.putfield 23, 3) := by decide +kernel
theorem dX2_init_31 : decode cX2_init 31 = .ok (.aload_n 0, 1) := by decide +kernel
theorem dX2_init_32 : decode cX2_init 32 = .ok (.getfield 15, 3) := by decide +kernel
theorem dX2_init_35 : decode cX2_init 35 = .ok (.iconst (-1), 1) := by decide +kernel
theorem dX2_init_36 : decode cX2_init 36 = .ok (.invokestatic 27, 3) := by decide +kernel
theorem dX2_init_39 : decode cX2_init 39 = .ok (.return_, 1) := by decide +kernel
theorem dX2_forgetAll_0 : decode cX2_forgetAll 0 = .ok (.aload_n 0, 1) := by decide +kernel
theorem dX2_forgetAll_1 : decode cX2_forgetAll 1 = .ok (.getfield 15, 3) := by decide +kernel
theorem dX2_forgetAll_4 : decode cX2_forgetAll 4 = .ok (.iconst (-1), 1) := by decide +kernel
theorem dX2_forgetAll_5 : decode cX2_forgetAll 5 = .ok (.invokestatic 27, 3) := by decide +kernel
theorem dX2_forgetAll_8 : decode cX2_forgetAll 8 = .ok (.return_, 1) := by decide +kernel
theorem dX3_init_0 : decode cX3_init 0 = .ok (.aload_n 0, 1) := by decide +kernel
theorem dX3_init_1 : decode cX3_init 1 = .ok (.invokespecial 3, 3) := by decide +kernel
theorem dX3_init_4 : decode cX3_init 4 = .ok (.aload_n 0, 1) := by decide +kernel
theorem dX3_init_5 : decode cX3_init 5 = .ok (.bipush 24, 2) := by decide +kernel
theorem dX3_init_7 : decode cX3_init 7 = .ok (.newarray .int, 2) := by decide +kernel
theorem dX3_init_9 : decode cX3_init 9 = .ok (.putfield 9, 3) := by decide +kernel
theorem dX3_init_12 : decode cX3_init 12 = .ok (.aload_n 0, 1) := by decide +kernel
theorem dX3_init_13 : decode cX3_init 13 = .ok (.bipush 24, 2) := by decide +kernel
theorem dX3_init_15 : decode cX3_init 15 = .ok (.newarray .int, 2) := by decide +kernel
theorem dX3_init_17 : decode cX3_init 17 = .ok (.putfield 15, 3) := by decide +kernel
theorem dX3_init_20 : decode cX3_init 20 = .ok (.aload_n 0, 1) := by decide +kernel
theorem dX3_init_21 : decode cX3_init 21 = .ok (.iconst 4, 1) := by decide +kernel
theorem dX3_init_22 : decode cX3_init 22 = .ok (.newarray .int, 2) := by decide +kernel
theorem dX3_init_24 : decode cX3_init 24 = .ok (.putfield 18, 3) := by decide +kernel
theorem dX3_init_27 : decode cX3_init 27 = .ok (.aload_n 0, 1) := by decide +kernel
theorem dX3_init_28 : decode cX3_init 28 = .ok (.iconst 0, 1) := by decide +kernel
theorem dX3_init_29 : decode cX3_init 29 = .ok (.putfield 21, 3) := by decide +kernel
theorem dX3_init_32 : decode cX3_init 32 = .ok (.aload_n 0, 1) := by decide +kernel
theorem dX3_init_33 : decode cX3_init 33 = .ok (.iconst 0, 1) := by decide +kernel
theorem dX3_init_34 : decode cX3_init 34 = .ok (.putfield 25, 3) := by decide +kernel
theorem dX3_init_37 : decode cX3_init 37 = .ok (.aload_n 0, 1) := by decide +kernel
theorem dX3_init_38 : decode cX3_init 38 = .ok (.iconst 0, 1) := by decide +kernel
theorem dX3_init_39 : decode cX3_init 39 = .ok (.putfield 28, 3) := by decide +kernel
theorem dX3_init_42 : decode cX3_init 42 = .ok (.aload_n 0, 1) := by decide +kernel
theorem dX3_init_43 : decode cX3_init 43 = .ok (.iconst 0, 1) := by decide +kernel
theorem dX3_init_44 : decode cX3_init 44 = .ok (.putfield 31, 3) := by decide +kernel
theorem dX3_init_47 : decode cX3_init 47 = .ok (.aload_n 0, 1) := by decide +kernel
theorem dX3_init_48 : decode cX3_init 48 = .ok (.iconst 0, 1) := by decide +kernel
theorem dX3_init_49 : decode cX3_init 49 = .ok (.putfield 34, 3) := by decide +kernel
theorem dX3_init_52 : decode cX3_init 52 = .ok (.aload_n 0, 1) := by decide +kernel
theorem dX3_init_53 : decode cX3_init 53 = .ok (.iconst 0, 1) := by decide +kernel
theorem dX3_init_54 : decode cX3_init 54 = .ok (.putfield 37, 3) := by decide +kernel
theorem dX3_init_57 : decode cX3_init 57 = .ok (.aload_n 0, 1) := by decide +kernel
theorem dX3_init_58 : decode cX3_init 58 = .ok (.aconst_null, 1) := by decide +kernel
theorem dX3_init_59 : decode cX3_init 59 = .ok (.putfield 40, 3) := by decide +kernel
theorem dX3_init_62 : decode cX3_init 62 = .ok (.aload_n 0, 1) := by decide +kernel
theorem dX3_init_63 : decode cX3_init 63 = .ok (.aload_n 1, 1) := by decide +kernel
theorem dX3_init_64 : decode cX3_init 64 = .ok (.putfield 44, 3) := by decide +kernel
theorem dX3_init_67 : decode cX3_init 67 = .ok (.aload_n 0, 1) := by decide +kernel
theorem dX3_init_68 : decode cX3_init 68 = .ok (.aload_n 2, 1) := by decide +kernel
theorem dX3_init_69 : decode cX3_init 69 = .ok (.putfield 48, 3) := by decide +kernel
theorem dX3_init_72 : decode cX3_init 72 = .ok (.return_, 1) := by decide +kernel
theorem dX4_init_0 : decode cX4_init 0 = .ok (.aload_n 0, 1) := by decide +kernel
theorem dX4_init_1 : decode cX4_init 1 = .ok (.invokespecial 3, 3) := by decide +kernel
theorem dX4_init_4 : decode cX4_init 4 = .ok (.aload_n 0, 1) := by decide +kernel
theorem dX4_init_5 : decode cX4_init 5 = .ok (.iconst 0, 1) := by decide +kernel
theorem dX4_init_6 : decode cX4_init 6 = .ok (.putfield 9, 3) := by decide +kernel
theorem dX4_init_9 : decode cX4_init 9 = .ok (.aload_n 0, 1) := by decide +kernel
theorem dX4_init_10 : decode cX4_init 10 = .ok (.iconst 0, 1) := by decide +kernel
theorem dX4_init_11 : decode cX4_init 11 = .ok (.putfield 15, 3) := by decide +kernel
theorem dX4_init_14 : decode cX4_init 14 = .ok (.aload_n 0, 1) := by decide +kernel
theorem dX4_init_15 : decode cX4_init 15 = .ok (.bipush 6, 2) := by decide +kernel
theorem dX4_init_17 : decode cX4_init 17 = .ok (.newarray .int, 2) := by decide +kernel
theorem dX4_init_19 : decode cX4_init 19 = .ok (.putfield 19, 3) := by decide +kernel
theorem dX4_init_22 : decode cX4_init 22 = .ok (.aload_n 0, 1) := by decide +kernel
theorem dX4_init_23 : decode cX4_init 23 = .ok (.bipush 6, 2) := by decide +kernel
theorem dX4_init_25 : decode cX4_init 25 = .ok (.newarray .int, 2) := by decide +kernel
theorem dX4_init_27 : decode cX4_init 27 = .ok (.putfield 23, 3) := by decide +kernel
theorem dX4_init_30 : decode cX4_init 30 = .ok (.aload_n 0, 1) := by decide +kernel
theorem dX4_init_31 : decode cX4_init 31 = .ok (.iconst 5, 1) := by decide +kernel
theorem dX4_init_32 : decode cX4_init 32 = .ok (.newarray .int, 2) := by decide +kernel
theorem dX4_init_34 : decode cX4_init 34 = .ok (.putfield 26, 3) := by decide +kernel
theorem dX4_init_37 : decode cX4_init 37 = .ok (.aload_n 0, 1) := by decide +kernel
theorem dX4_init_38 : decode cX4_init 38 = .ok (.iconst 5, 1) := by decide +kernel
theorem dX4_init_39 : decode cX4_init 39 = .ok (.newarray .int, 2) := by decide +kernel
theorem dX4_init_41 : decode cX4_init 41 = .ok (.putfield 29, 3) := by decide +kernel
theorem dX4_init_44 : decode cX4_init 44 = .ok (.aload_n 0, 1) := by decide +kernel
theorem dX4_init_45 : decode cX4_init 45 = .ok (.bipush 24, 2) := by decide +kernel
theorem dX4_init_47 : decode cX4_init 47 = .ok (.newarray .int, 2) := by decide +kernel
theorem dX4_init_49 : decode cX4_init 49 = .ok (.putfield 32, 3) := by decide +kernel
theorem dX4_init_52 : decode cX4_init 52 = .ok (.aload_n 0, 1) := by decide +kernel
theorem dX4_init_53 : decode cX4_init 53 = .ok (.getfield 26, 3) := by decide +kernel
theorem dX4_init_56 : decode cX4_init 56 = .ok (.iconst 1, 1) := by decide +kernel
theorem dX4_init_57 : decode cX4_init 57 = .ok (.invokestatic 35, 3) := by decide +kernel
theorem dX4_init_60 : decode cX4_init 60 = .ok (.aload_n 0, 1) := by decide +kernel
theorem dX4_init_61 : decode cX4_init 61 = .ok (.getfield 29, 3) := by decide +kernel
theorem dX4_init_64 : decode cX4_init 64 = .ok (.iconst 1, 1) := by decide +kernel
theorem dX4_init_65 : decode cX4_init 65 = .ok (.invokestatic 35, 3) := by decide +kernel
theorem dX4_init_68 : decode cX4_init 68 = .ok (.return_, 1) := by decide +kernel
theorem dX4_hasCourse_0 : decode cX4_hasCourse 0 = .ok (.iload_n 1, 1) := by decide +kernel
theorem dX4_hasCourse_1 : decode cX4_hasCourse 1 = .ok (.ifCond .lt 15, 3) := by decide +kernel
theorem dX4_hasCourse_4 : decode cX4_hasCourse 4 = .ok (.iload_n 1, 1) := by decide +kernel
theorem dX4_hasCourse_5 : decode cX4_hasCourse 5 = .ok (.aload_n 0, 1) := by decide +kernel
theorem dX4_hasCourse_6 : decode cX4_hasCourse 6 = .ok (.getfield 9, 3) := by decide +kernel
theorem dX4_hasCourse_9 : decode cX4_hasCourse 9 = .ok (.if_icmp .ge 7, 3) := by decide +kernel
theorem dX4_hasCourse_16 : decode cX4_hasCourse 16 = .ok (.iconst 0, 1) := by decide +kernel
theorem dX4_hasCourse_17 : decode cX4_hasCourse 17 = .ok (.ireturn, 1) := by decide +kernel
theorem dX4_addCourse_0 : decode cX4_addCourse 0 = .ok (.aload_n 0, 1) := by decide +kernel
theorem dX4_addCourse_1 : decode cX4_addCourse 1 = .ok (.getfield 9, 3) := by decide +kernel
theorem dX4_addCourse_4 : decode cX4_addCourse 4 = .ok (.istore_n 3, 1) := by decide +kernel
theorem dX4_addCourse_5 : decode cX4_addCourse 5 = .ok (.aload_n 0, 1) := by decide +kernel
theorem dX4_addCourse_6 : decode cX4_addCourse 6 = .ok (.getfield 19, 3) := by decide +kernel
theorem dX4_addCourse_9 : decode cX4_addCourse 9 = .ok (.iload_n 3, 1) := by decide +kernel
theorem dX4_addCourse_10 : decode cX4_addCourse 10 = .ok (.iload_n 1, 1) := by decide +kernel
theorem dX4_addCourse_11 : decode cX4_addCourse 11 = .ok (.iastore, 1) := by decide +kernel
theorem dX4_addCourse_12 : decode cX4_addCourse 12 = .ok (.aload_n 0, 1) := by decide +kernel
theorem dX4_addCourse_13 : decode cX4_addCourse 13 = .ok (.getfield 23, 3) := by decide +kernel
theorem dX4_addCourse_16 : decode cX4_addCourse 16 = .ok (.iload_n 3, 1) := by decide +kernel
theorem dX4_addCourse_17 : decode cX4_addCourse 17 = .ok (.iload_n 2, 1) := by decide +kernel
theorem dX4_addCourse_18 : decode cX4_addCourse 18 = .ok (.iastore, 1) := by decide +kernel
theorem dX4_addCourse_19 : decode cX4_addCourse 19 = .ok (.iconst 0, 1) := by decide +kernel
theorem dX4_addCourse_20 : decode cX4_addCourse 20 = .ok (.istore 4, 2) := by decide +kernel
theorem dX4_addCourse_22 : decode cX4_addCourse 22 = .ok (.iload 4, 2) := by decide +kernel
theorem dX4_addCourse_24 : decode cX4_addCourse 24 = .ok (.iconst 4, 1) := by decide +kernel
theorem dX4_addCourse_25 : decode cX4_addCourse 25 = .ok (.if_icmp .ge 22, 3) := by decide +kernel
theorem dX4_addCourse_28 : decode cX4_addCourse 28 = .ok (.aload_n 0, 1) := by decide +kernel
theorem dX4_addCourse_29 : decode cX4_addCourse 29 = .ok (.getfield 32, 3) := by decide +kernel
theorem dX4_addCourse_32 : decode cX4_addCourse 32 = .ok (.iload 4, 2) := by decide +kernel
theorem dX4_addCourse_34 : decode cX4_addCourse 34 = .ok (.bipush 6, 2) := by decide +kernel
theorem dX4_addCourse_36 : decode cX4_addCourse 36 = .ok (.imul, 1) := by decide +kernel
theorem dX4_addCourse_37 : decode cX4_addCourse 37 = .ok (.iload_n 3, 1) := by decide +kernel
theorem dX4_addCourse_38 : decode cX4_addCourse 38 = .ok (.iadd, 1) := by decide +kernel
theorem dX4_addCourse_39 : decode cX4_addCourse 39 = .ok (.iload_n 1, 1) := by decide +kernel
theorem dX4_addCourse_40 : decode cX4_addCourse 40 = .ok (.iastore, 1) := by decide +kernel
theorem dX4_addCourse_41 : decode cX4_addCourse 41 = .ok (.iinc 4 1, 3) := by decide +kernel
theorem dX4_addCourse_44 : decode cX4_addCourse 44 = .ok (.goto (-22), 3) := by decide +kernel
theorem dX4_addCourse_47 : decode cX4_addCourse 47 = .ok (.aload_n 0, 1) := by decide +kernel
theorem dX4_addCourse_48 : decode cX4_addCourse 48 = .ok (.dup, 1) := by decide +kernel
theorem dX4_addCourse_49 : decode cX4_addCourse 49 = .ok (.getfield 9, 3) := by decide +kernel
theorem dX4_addCourse_52 : decode cX4_addCourse 52 = .ok (.iconst 1, 1) := by decide +kernel
theorem dX4_addCourse_53 : decode cX4_addCourse 53 = .ok (.iadd, 1) := by decide +kernel
theorem dX4_addCourse_54 : decode cX4_addCourse 54 = .ok (.putfield 9, 3) := by decide +kernel
theorem dX4_addCourse_57 : decode cX4_addCourse 57 = .ok (.iload_n 3, 1) := by decide +kernel
theorem dX4_addCourse_58 : decode cX4_addCourse 58 = .ok (.ireturn, 1) := by decide +kernel
theorem dX5_init_0 : decode cX5_init 0 = .ok (.aload_n 0, 1) := by decide +kernel
theorem dX5_init_1 : decode cX5_init 1 = .ok (.invokespecial 3, 3) := by decide +kernel
theorem dX5_init_4 : decode cX5_init 4 = .ok (.aload_n 0, 1) := by decide +kernel
theorem dX5_init_5 : decode cX5_init 5 = .ok (.iconst 0, 1) := by decide +kernel
theorem dX5_init_6 : decode cX5_init 6 = .ok (.putfield 9, 3) := by decide +kernel
theorem dX5_init_9 : decode cX5_init 9 = .ok (.aload_n 0, 1) := by decide +kernel
theorem dX5_init_10 : decode cX5_init 10 = .ok (.bipush 17, 2) := by decide +kernel
theorem dX5_init_12 : decode cX5_init 12 = .ok (.newarray .int, 2) := by decide +kernel
theorem dX5_init_14 : decode cX5_init 14 = .ok (.putfield 15, 3) := by decide +kernel
theorem dX5_init_17 : decode cX5_init 17 = .ok (.aload_n 0, 1) := by decide +kernel
theorem dX5_init_18 : decode cX5_init 18 = .ok (.bipush 68, 2) := by decide +kernel
theorem dX5_init_20 : decode cX5_init 20 = .ok (.newarray .int, 2) := by decide +kernel
theorem dX5_init_22 : decode cX5_init 22 = .ok (.putfield 19, 3) := by decide +kernel
theorem dX5_init_25 : decode cX5_init 25 = .ok (.aload_n 0, 1) := by decide +kernel
theorem dX5_init_26 : decode cX5_init 26 = .ok (.bipush 68, 2) := by decide +kernel
theorem dX5_init_28 : decode cX5_init 28 = .ok (.newarray .int, 2) := by decide +kernel
theorem dX5_init_30 : decode cX5_init 30 = .ok (.putfield 22, 3) := by decide +kernel
theorem dX5_init_33 : decode cX5_init 33 = .ok (.aload_n 0, 1) := by decide +kernel
theorem dX5_init_34 : decode cX5_init 34 = .ok (.bipush 68, 2) := by decide +kernel
theorem dX5_init_36 : decode cX5_init 36 = .ok (.newarray .int, 2) := by decide +kernel
theorem dX5_init_38 : decode cX5_init 38 = .ok (.putfield 25, 3) := by decide +kernel
theorem dX5_init_41 : decode cX5_init 41 = .ok (.aload_n 0, 1) := by decide +kernel
theorem dX5_init_42 : decode cX5_init 42 = .ok (.bipush 68, 2) := by decide +kernel
theorem dX5_init_44 : decode cX5_init 44 = .ok (.newarray .int, 2) := by decide +kernel
theorem dX5_init_46 : decode cX5_init 46 = .ok (.putfield 28, 3) := by decide +kernel
theorem dX5_init_49 : decode cX5_init 49 = .ok (.aload_n 0, 1) := by decide +kernel
theorem dX5_init_50 : decode cX5_init 50 = .ok (.bipush 68, 2) := by decide +kernel
theorem dX5_init_52 : decode cX5_init 52 = .ok (.newarray .int, 2) := by decide +kernel
theorem dX5_init_54 : decode cX5_init 54 = .ok (.putfield 31, 3) := by decide +kernel
theorem dX5_init_57 : decode cX5_init 57 = .ok (.return_, 1) := by decide +kernel
theorem dX5_isTied_0 : decode cX5_isTied 0 = .ok (.iload_n 0, 1) := by decide +kernel
theorem dX5_isTied_1 : decode cX5_isTied 1 = .ok (.iconst 1, 1) := by decide +kernel
theorem dX5_isTied_2 : decode cX5_isTied 2 = .ok (.if_icmp .eq 8, 3) := by decide +kernel
theorem dX5_isTied_5 : decode cX5_isTied 5 = .ok (.iload_n 0, 1) := by decide +kernel
theorem dX5_isTied_6 : decode cX5_isTied 6 = .ok (.iconst 2, 1) := by decide +kernel
theorem dX5_isTied_7 : decode cX5_isTied 7 = .ok (.if_icmp .ne 7, 3) := by decide +kernel
theorem dX5_isTied_10 : decode cX5_isTied 10 = .ok (.iconst 1, 1) := by decide +kernel
theorem dX5_isTied_11 : decode cX5_isTied 11 = .ok (.goto 4, 3) := by decide +kernel
theorem dX5_isTied_14 : decode cX5_isTied 14 = .ok (.iconst 0, 1) := by decide +kernel
theorem dX5_isTied_15 : decode cX5_isTied 15 = .ok (.ireturn, 1) := by decide +kernel
theorem dX5_hasTick_0 : decode cX5_hasTick 0 = .ok (.iload_n 1, 1) := by decide +kernel
theorem dX5_hasTick_1 : decode cX5_hasTick 1 = .ok (.ifCond .lt 15, 3) := by decide +kernel
theorem dX5_hasTick_4 : decode cX5_hasTick 4 = .ok (.iload_n 1, 1) := by decide +kernel
theorem dX5_hasTick_5 : decode cX5_hasTick 5 = .ok (.aload_n 0, 1) := by decide +kernel
theorem dX5_hasTick_6 : decode cX5_hasTick 6 = .ok (.getfield 9, 3) := by decide +kernel
theorem dX5_hasTick_9 : decode cX5_hasTick 9 = .ok (.if_icmp .ge 7, 3) := by decide +kernel
theorem dX5_hasTick_16 : decode cX5_hasTick 16 = .ok (.iconst 0, 1) := by decide +kernel
theorem dX5_hasTick_17 : decode cX5_hasTick 17 = .ok (.ireturn, 1) := by decide +kernel
theorem dX5_hasNote_0 : decode cX5_hasNote 0 = .ok (.aload_n 0, 1) := by decide +kernel
theorem dX5_hasNote_1 : decode cX5_hasNote 1 = .ok (.iload_n 1, 1) := by decide +kernel
theorem dX5_hasNote_2 : decode cX5_hasNote 2 = .ok (.invokevirtual 34, 3) := by decide +kernel
theorem dX5_hasNote_5 : decode cX5_hasNote 5 = .ok (.ifCond .eq 21, 3) := by decide +kernel
theorem dX5_hasNote_26 : decode cX5_hasNote 26 = .ok (.iconst 0, 1) := by decide +kernel
theorem dX5_hasNote_27 : decode cX5_hasNote 27 = .ok (.ireturn, 1) := by decide +kernel
theorem dX5_notesOfTicks_0 : decode cX5_notesOfTicks 0 = .ok (.iconst 0, 1) := by decide +kernel
theorem dX5_notesOfTicks_1 : decode cX5_notesOfTicks 1 = .ok (.istore_n 1, 1) := by decide +kernel
theorem dX5_notesOfTicks_2 : decode cX5_notesOfTicks 2 = .ok (.iconst 0, 1) := by decide +kernel
theorem dX5_notesOfTicks_3 : decode cX5_notesOfTicks 3 = .ok (.istore_n 2, 1) := by decide +kernel
theorem dX5_notesOfTicks_4 : decode cX5_notesOfTicks 4 = .ok (.iload_n 2, 1) := by decide +kernel
theorem dX5_notesOfTicks_5 : decode cX5_notesOfTicks 5 = .ok (.aload_n 0, 1) := by decide +kernel
theorem dX5_notesOfTicks_6 : decode cX5_notesOfTicks 6 = .ok (.getfield 9, 3) := by decide +kernel
theorem dX5_notesOfTicks_9 : decode cX5_notesOfTicks 9 = .ok (.if_icmp .ge 18, 3) := by decide +kernel
theorem dX5_notesOfTicks_27 : decode cX5_notesOfTicks 27 = .ok (.iload_n 1, 1) := by decide +kernel
theorem dX5_notesOfTicks_28 : decode cX5_notesOfTicks 28 = .ok (.ireturn, 1) := by decide +kernel
theorem dX5_noteOfPitch_0 : decode cX5_noteOfPitch 0 = .ok (.iconst 0, 1) := by decide +kernel
theorem dX5_noteOfPitch_1 : decode cX5_noteOfPitch 1 = .ok (.istore_n 3, 1) := by decide +kernel
theorem dX5_noteOfPitch_2 : decode cX5_noteOfPitch 2 = .ok (.iload_n 3, 1) := by decide +kernel
theorem dX5_noteOfPitch_3 : decode cX5_noteOfPitch 3 = .ok (.aload_n 0, 1) := by decide +kernel
theorem dX5_noteOfPitch_4 : decode cX5_noteOfPitch 4 = .ok (.getfield 15, 3) := by decide +kernel
theorem dX5_noteOfPitch_7 : decode cX5_noteOfPitch 7 = .ok (.iload_n 1, 1) := by decide +kernel
theorem dX5_noteOfPitch_8 : decode cX5_noteOfPitch 8 = .ok (.iaload, 1) := by decide +kernel
theorem dX5_noteOfPitch_9 : decode cX5_noteOfPitch 9 = .ok (.if_icmp .ge 25, 3) := by decide +kernel
theorem dX5_noteOfPitch_34 : decode cX5_noteOfPitch 34 = .ok (.iconst (-1), 1) := by decide +kernel
theorem dX5_noteOfPitch_35 : decode cX5_noteOfPitch 35 = .ok (.ireturn, 1) := by decide +kernel
theorem dX5_foreOf_0 : decode cX5_foreOf 0 = .ok (.iload_n 2, 1) := by decide +kernel
theorem dX5_foreOf_1 : decode cX5_foreOf 1 = .ok (.invokestatic 38, 3) := by decide +kernel
theorem dX5_foreOf_4 : decode cX5_foreOf 4 = .ok (.ifCond .eq 10, 3) := by decide +kernel
theorem dX5_foreOf_7 : decode cX5_foreOf 7 = .ok (.aload_n 0, 1) := by decide +kernel
theorem dX5_foreOf_8 : decode cX5_foreOf 8 = .ok (.getfield 9, 3) := by decide +kernel
theorem dX5_foreOf_11 : decode cX5_foreOf 11 = .ok (.ifCond .ne 5, 3) := by decide +kernel
theorem dX5_foreOf_14 : decode cX5_foreOf 14 = .ok (.iconst (-1), 1) := by decide +kernel
theorem dX5_foreOf_15 : decode cX5_foreOf 15 = .ok (.ireturn, 1) := by decide +kernel
theorem dX5_addNote_0 : decode cX5_addNote 0 = .ok (.aload_n 0, 1) := by decide +kernel
theorem dX5_addNote_1 : decode cX5_addNote 1 = .ok (.getfield 15, 3) := by decide +kernel
theorem dX5_addNote_4 : decode cX5_addNote 4 = .ok (.aload_n 0, 1) := by decide +kernel
theorem dX5_addNote_5 : decode cX5_addNote 5 = .ok (.getfield 9, 3) := by decide +kernel
theorem dX5_addNote_8 : decode cX5_addNote 8 = .ok (.iaload, 1) := by decide +kernel
theorem dX5_addNote_9 : decode cX5_addNote 9 = .ok (.istore 6, 2) := by decide +kernel
theorem dX5_addNote_11 : decode cX5_addNote 11 = .ok (.aload_n 0, 1) := by decide +kernel
theorem dX5_addNote_12 : decode cX5_addNote 12 = .ok (.getfield 9, 3) := by decide +kernel
theorem dX5_addNote_15 : decode cX5_addNote 15 = .ok (.iconst 4, 1) := by decide +kernel
theorem dX5_addNote_16 : decode cX5_addNote 16 = .ok (.imul, 1) := by decide +kernel
theorem dX5_addNote_17 : decode cX5_addNote 17 = .ok (.iload 6, 2) := by decide +kernel
theorem dX5_addNote_19 : decode cX5_addNote 19 = .ok (.iadd, 1) := by decide +kernel
theorem dX5_addNote_20 : decode cX5_addNote 20 = .ok (.istore 7, 2) := by decide +kernel
theorem dX5_addNote_22 : decode cX5_addNote 22 = .ok (.aload_n 0, 1) := by decide +kernel
theorem dX5_addNote_23 : decode cX5_addNote 23 = .ok (.getfield 19, 3) := by decide +kernel
theorem dX5_addNote_26 : decode cX5_addNote 26 = .ok (.iload 7, 2) := by decide +kernel
theorem dX5_addNote_28 : decode cX5_addNote 28 = .ok (.iload_n 1, 1) := by decide +kernel
theorem dX5_addNote_29 : decode cX5_addNote 29 = .ok (.iastore, 1) := by decide +kernel
theorem dX5_addNote_30 : decode cX5_addNote 30 = .ok (.aload_n 0, 1) := by decide +kernel
theorem dX5_addNote_31 : decode cX5_addNote 31 = .ok (.getfield 22, 3) := by decide +kernel
theorem dX5_addNote_34 : decode cX5_addNote 34 = .ok (.iload 7, 2) := by decide +kernel
theorem dX5_addNote_36 : decode cX5_addNote 36 = .ok (.iload_n 2, 1) := by decide +kernel
theorem dX5_addNote_37 : decode cX5_addNote 37 = .ok (.iastore, 1) := by decide +kernel
theorem dX5_addNote_38 : decode cX5_addNote 38 = .ok (.aload_n 0, 1) := by decide +kernel
theorem dX5_addNote_39 : decode cX5_addNote 39 = .ok (.getfield 25, 3) := by decide +kernel
theorem dX5_addNote_42 : decode cX5_addNote 42 = .ok (.iload 7, 2) := by decide +kernel
theorem dX5_addNote_44 : decode cX5_addNote 44 = .ok (.iload_n 3, 1) := by decide +kernel
theorem dX5_addNote_45 : decode cX5_addNote 45 = .ok (.iastore, 1) := by decide +kernel
theorem dX5_addNote_46 : decode cX5_addNote 46 = .ok (.aload_n 0, 1) := by decide +kernel
theorem dX5_addNote_47 : decode cX5_addNote 47 = .ok (.getfield 28, 3) := by decide +kernel
theorem dX5_addNote_50 : decode cX5_addNote 50 = .ok (.iload 7, 2) := by decide +kernel
theorem dX5_addNote_52 : decode cX5_addNote 52 = .ok (.iload 4, 2) := by decide +kernel
theorem dX5_addNote_54 : decode cX5_addNote 54 = .ok (.iastore, 1) := by decide +kernel
theorem dX5_addNote_55 : decode cX5_addNote 55 = .ok (.aload_n 0, 1) := by decide +kernel
theorem dX5_addNote_56 : decode cX5_addNote 56 = .ok (.getfield 31, 3) := by decide +kernel
theorem dX5_addNote_59 : decode cX5_addNote 59 = .ok (.iload 7, 2) := by decide +kernel
theorem dX5_addNote_61 : decode cX5_addNote 61 = .ok (.iload 5, 2) := by decide +kernel
theorem dX5_addNote_63 : decode cX5_addNote 63 = .ok (.iastore, 1) := by decide +kernel
theorem dX5_addNote_64 : decode cX5_addNote 64 = .ok (.aload_n 0, 1) := by decide +kernel
theorem dX5_addNote_65 : decode cX5_addNote 65 = .ok (.getfield 15, 3) := by decide +kernel
theorem dX5_addNote_68 : decode cX5_addNote 68 = .ok (.aload_n 0, 1) := by decide +kernel
theorem dX5_addNote_69 : decode cX5_addNote 69 = .ok (.getfield 9, 3) := by decide +kernel
theorem dX5_addNote_72 : decode cX5_addNote 72 = .ok (.iload 6, 2) := by decide +kernel
theorem dX5_addNote_74 : decode cX5_addNote 74 = .ok (.iconst 1, 1) := by decide +kernel
theorem dX5_addNote_75 : decode cX5_addNote 75 = .ok (.iadd, 1) := by decide +kernel
theorem dX5_addNote_76 : decode cX5_addNote 76 = .ok (.iastore, 1) := by decide +kernel
theorem dX5_addNote_77 : decode cX5_addNote 77 = .ok (.iload 6, 2) := by decide +kernel
theorem dX5_addNote_79 : decode cX5_addNote 79 = .ok (.iconst 1, 1) := by decide +kernel
theorem dX5_addNote_80 : decode cX5_addNote 80 = .ok (.iadd, 1) := by decide +kernel
theorem dX5_addNote_81 : decode cX5_addNote 81 = .ok (.ireturn, 1) := by decide +kernel
theorem dX5_removeAll_0 : decode cX5_removeAll 0 = .ok (.aload_n 0, 1) := by decide +kernel
theorem dX5_removeAll_1 : decode cX5_removeAll 1 = .ok (.iconst 0, 1) := by decide +kernel
theorem dX5_removeAll_2 : decode cX5_removeAll 2 = .ok (.putfield 9, 3) := by decide +kernel
theorem dX5_removeAll_5 : decode cX5_removeAll 5 = .ok (.aload_n 0, 1) := by decide +kernel
theorem dX5_removeAll_6 : decode cX5_removeAll 6 = .ok (.getfield 15, 3) := by decide +kernel
theorem dX5_removeAll_9 : decode cX5_removeAll 9 = .ok (.iconst 0, 1) := by decide +kernel
theorem dX5_removeAll_10 : decode cX5_removeAll 10 = .ok (.iconst 0, 1) := by decide +kernel
theorem dX5_removeAll_11 : decode cX5_removeAll 11 = .ok (.iastore, 1) := by decide +kernel
theorem dX5_removeAll_12 : decode cX5_removeAll 12 = .ok (.return_, 1) := by decide +kernel
theorem dX6_init_0 : decode cX6_init 0 = .ok (.aload_n 0, 1) := by decide +kernel
theorem dX6_init_1 : decode cX6_init 1 = .ok (.invokespecial 3, 3) := by decide +kernel
theorem dX6_init_4 : decode cX6_init 4 = .ok (.aload_n 0, 1) := by decide +kernel
theorem dX6_init_5 : decode cX6_init 5 = .ok (.sipush 600, 3) := by decide +kernel
theorem dX6_init_8 : decode cX6_init 8 = .ok (.newarray .int, 2) := by decide +kernel
theorem dX6_init_10 : decode cX6_init 10 = .ok (.putfield 9, 3) := by decide +kernel
theorem dX6_init_13 : decode cX6_init 13 = .ok (.aload_n 0, 1) := by decide +kernel
theorem dX6_init_14 : decode cX6_init 14 = .ok (.iconst 0, 1) := by decide +kernel
theorem dX6_init_15 : decode cX6_init 15 = .ok (.putfield 15, 3) := by decide +kernel
theorem dX6_init_18 : decode cX6_init 18 = .ok (.return_, 1) := by decide +kernel
theorem dX6_append_0 : decode cX6_append 0 = .ok (.aload_n 0, 1) := by decide +kernel
theorem dX6_append_1 : decode cX6_append 1 = .ok (.getfield 15, 3) := by decide +kernel
theorem dX6_append_4 : decode cX6_append 4 = .ok (.sipush 600, 3) := by decide +kernel
theorem dX6_append_7 : decode cX6_append 7 = .ok (.if_icmp .lt 4, 3) := by decide +kernel
theorem dX6_append_11 : decode cX6_append 11 = .ok (.aload_n 0, 1) := by decide +kernel
theorem dX6_append_12 : decode cX6_append 12 = .ok (.getfield 9, 3) := by decide +kernel
theorem dX6_append_15 : decode cX6_append 15 = .ok (.aload_n 0, 1) := by decide +kernel
theorem dX6_append_16 : decode cX6_append 16 = .ok (.getfield 15, 3) := by decide +kernel
theorem dX6_append_19 : decode cX6_append 19 = .ok (.iload_n 1, 1) := by decide +kernel
theorem dX6_append_20 : decode cX6_append 20 = .ok (.iastore, 1) := by decide +kernel
theorem dX6_append_21 : decode cX6_append 21 = .ok (.aload_n 0, 1) := by decide +kernel
theorem dX6_append_22 : decode cX6_append 22 = .ok (.dup, 1) := by decide +kernel
theorem dX6_append_23 : decode cX6_append 23 = .ok (.getfield 15, 3) := by decide +kernel
theorem dX6_append_26 : decode cX6_append 26 = .ok (.iconst 1, 1) := by decide +kernel
theorem dX6_append_27 : decode cX6_append 27 = .ok (.iadd, 1) := by decide +kernel
theorem dX6_append_28 : decode cX6_append 28 = .ok (.putfield 15, 3) := by decide +kernel
theorem dX6_append_31 : decode cX6_append 31 = .ok (.return_, 1) := by decide +kernel
theorem dX8_init_0 : decode cX8_init 0 = .ok (.aload_n 0, 1) := by decide +kernel
theorem dX8_init_1 : decode cX8_init 1 = .ok (.invokespecial 3, 3) := by decide +kernel
theorem dX8_init_4 : decode cX8_init 4 = .ok (.aload_n 0, 1) := by decide +kernel
theorem dX8_init_5 : decode cX8_init 5 = .ok (.sipush 128, 3) := by decide +kernel
theorem dX8_init_8 : decode cX8_init 8 = .ok (.newarray .int, 2) := by decide +kernel
theorem dX8_init_10 : decode cX8_init 10 = .ok (.putfield 9, 3) := by decide +kernel
theorem dX8_init_13 : decode cX8_init 13 = .ok (.aload_n 0, 1) := by decide +kernel
theorem dX8_init_14 : decode cX8_init 14 = .ok (.bipush 8, 2) := by decide +kernel
theorem dX8_init_16 : decode cX8_init 16 = .ok (.newarray .int, 2) := by decide +kernel
theorem dX8_init_18 : decode cX8_init 18 = .ok (.putfield 15, 3) := by decide +kernel
theorem dX8_init_21 : decode cX8_init 21 = .ok (.aload_n 0, 1) := by decide +kernel
theorem dX8_init_22 : decode cX8_init 22 = .ok (.iconst 0, 1) := by decide +kernel
theorem dX8_init_23 : decode cX8_init 23 = .ok (.putfield 18, 3) := by decide +kernel
theorem dX8_init_26 : decode cX8_init 26 = .ok (.aload_n 0, 1) := by decide +kernel
theorem dX8_init_27 : decode cX8_init 27 = .ok (.iconst (-1), 1) := by decide +kernel
theorem dX8_init_28 : decode cX8_init 28 = .ok (.putfield 22, 3) := by decide +kernel
theorem dX8_init_31 : decode cX8_init 31 = .ok (.aload_n 0, 1) := by decide +kernel
theorem dX8_init_32 : decode cX8_init 32 = .ok (.iconst 0, 1) := by decide +kernel
theorem dX8_init_33 : decode cX8_init 33 = .ok (.putfield 25, 3) := by decide +kernel
theorem dX8_init_36 : decode cX8_init 36 = .ok (.return_, 1) := by decide +kernel
theorem dX8_drop_0 : decode cX8_drop 0 = .ok (.aload_n 0, 1) := by decide +kernel
theorem dX8_drop_1 : decode cX8_drop 1 = .ok (.iconst 0, 1) := by decide +kernel
theorem dX8_drop_2 : decode cX8_drop 2 = .ok (.putfield 18, 3) := by decide +kernel
theorem dX8_drop_5 : decode cX8_drop 5 = .ok (.aload_n 0, 1) := by decide +kernel
theorem dX8_drop_6 : decode cX8_drop 6 = .ok (.iconst (-1), 1) := by decide +kernel
theorem dX8_drop_7 : decode cX8_drop 7 = .ok (.putfield 22, 3) := by decide +kernel
theorem dX8_drop_10 : decode cX8_drop 10 = .ok (.aload_n 0, 1) := by decide +kernel
theorem dX8_drop_11 : decode cX8_drop 11 = .ok (.iconst 0, 1) := by decide +kernel
theorem dX8_drop_12 : decode cX8_drop 12 = .ok (.putfield 25, 3) := by decide +kernel
theorem dX8_drop_15 : decode cX8_drop 15 = .ok (.return_, 1) := by decide +kernel
theorem dX8_atHand_0 : decode cX8_atHand 0 = .ok (.aload_n 0, 1) := by decide +kernel
theorem dX8_atHand_1 : decode cX8_atHand 1 = .ok (.getfield 22, 3) := by decide +kernel
theorem dX8_atHand_4 : decode cX8_atHand 4 = .ok (.iconst (-1), 1) := by decide +kernel
theorem dX8_atHand_5 : decode cX8_atHand 5 = .ok (.if_icmp .eq 7, 3) := by decide +kernel
theorem dX8_atHand_12 : decode cX8_atHand 12 = .ok (.iconst 0, 1) := by decide +kernel
theorem dX8_atHand_13 : decode cX8_atHand 13 = .ok (.ireturn, 1) := by decide +kernel
theorem dX9_init_0 : decode cX9_init 0 = .ok (.aload_n 0, 1) := by decide +kernel
theorem dX9_init_1 : decode cX9_init 1 = .ok (.invokespecial 5, 3) := by decide +kernel
theorem dX9_init_4 : decode cX9_init 4 = .ok (.aload_n 0, 1) := by decide +kernel
theorem dX9_init_5 : decode cX9_init 5 = .ok (.aconst_null, 1) := by decide +kernel
theorem dX9_init_6 : decode cX9_init 6 = .ok (.putfield 11, 3) := by decide +kernel
theorem dX9_init_9 : decode cX9_init 9 = .ok (.aload_n 0, 1) := by decide +kernel
theorem dX9_init_10 : decode cX9_init 10 = .ok (.sipush 512, 3) := by decide +kernel
theorem dX9_init_13 : decode cX9_init 13 = .ok (.newarray .int, 2) := by decide +kernel
theorem dX9_init_15 : decode cX9_init 15 = .ok (.putfield 15, 3) := by decide +kernel
theorem dX9_init_18 : decode cX9_init 18 = .ok (.aload_n 0, 1) := by decide +kernel
theorem dX9_init_19 : decode cX9_init 19 = .ok (.bipush 16, 2) := by decide +kernel
theorem dX9_init_21 : decode cX9_init 21 = .ok (.newarray .int, 2) := by decide +kernel
theorem dX9_init_23 : decode cX9_init 23 = .ok (.putfield 19, 3) := by decide +kernel
theorem dX9_init_26 : decode cX9_init 26 = .ok (.aload_n 0, 1) := by decide +kernel
theorem dX9_init_27 : decode cX9_init 27 = .ok (.bipush 16, 2) := by decide +kernel
theorem dX9_init_29 : decode cX9_init 29 = .ok (.newarray .int, 2) := by decide +kernel
theorem dX9_init_31 : decode cX9_init 31 = .ok (.putfield 22, 3) := by decide +kernel
theorem dX9_init_34 : decode cX9_init 34 = .ok (.aload_n 0, 1) := by decide +kernel
theorem dX9_init_35 : decode cX9_init 35 = .ok (.sipush 2385, 3) := by decide +kernel
theorem dX9_init_38 : decode cX9_init 38 = .ok (.newarray .int, 2) := by decide +kernel
theorem dX9_init_40 : decode cX9_init 40 = .ok (.putfield 25, 3) := by decide +kernel
theorem dX9_init_43 : decode cX9_init 43 = .ok (.aload_n 0, 1) := by decide +kernel
theorem dX9_init_44 : decode cX9_init 44 = .ok (.iconst 1, 1) := by decide +kernel
theorem dX9_init_45 : decode cX9_init 45 = .ok (.putfield 28, 3) := by decide +kernel
theorem dX9_init_48 : decode cX9_init 48 = .ok (.aload_n 0, 1) := by decide +kernel
theorem dX9_init_49 : decode cX9_init 49 = .ok (.aload_n 1, 1) := by decide +kernel
theorem dX9_init_50 : decode cX9_init 50 = .ok (.putfield 32, 3) := by decide +kernel
theorem dX9_init_53 : decode cX9_init 53 = .ok (.aload_n 0, 1) := by decide +kernel
theorem dX9_init_54 : decode cX9_init 54 = .ok (.aload_n 2, 1) := by decide +kernel
theorem dX9_init_55 : decode cX9_init 55 = .ok (.putfield 36, 3) := by decide +kernel
theorem dX9_init_58 : decode cX9_init 58 = .ok (.return_, 1) := by decide +kernel
theorem dX10_init_0 : decode cX10_init 0 = .ok (.aload_n 0, 1) := by decide +kernel
theorem dX10_init_1 : decode cX10_init 1 = .ok (.invokespecial 1, 3) := by decide +kernel
theorem dX10_init_4 : decode cX10_init 4 = .ok (.aload_n 0, 1) := by decide +kernel
theorem dX10_init_5 : decode cX10_init 5 = .ok (.new 7, 3) := by decide +kernel
theorem dX10_init_8 : decode cX10_init 8 = .ok (.dup, 1) := by decide +kernel
theorem dX10_init_9 : decode cX10_init 9 = .ok (.invokespecial 9, 3) := by decide +kernel
theorem dX10_init_12 : decode cX10_init 12 = .ok (.putfield 10, 3) := by decide +kernel
theorem dX10_init_15 : decode cX10_init 15 = .ok (.aload_n 0, 1) := by decide +kernel
theorem dX10_init_16 : decode cX10_init 16 = .ok (.new 16, 3) := by decide +kernel
theorem dX10_init_19 : decode cX10_init 19 = .ok (.dup, 1) := by decide +kernel
theorem dX10_init_20 : decode cX10_init 20 = .ok (.invokespecial 18, 3) := by decide +kernel
theorem dX10_init_23 : decode cX10_init 23 = .ok (.putfield 19, 3) := by decide +kernel
theorem dX10_init_26 : decode cX10_init 26 = .ok (.aload_n 0, 1) := by decide +kernel
theorem dX10_init_27 : decode cX10_init 27 = .ok (.new 23, 3) := by decide +kernel
theorem dX10_init_30 : decode cX10_init 30 = .ok (.dup, 1) := by decide +kernel
theorem dX10_init_31 : decode cX10_init 31 = .ok (.invokespecial 25, 3) := by decide +kernel
theorem dX10_init_34 : decode cX10_init 34 = .ok (.putfield 26, 3) := by decide +kernel
theorem dX10_init_37 : decode cX10_init 37 = .ok (.aload_n 0, 1) := by decide +kernel
theorem dX10_init_38 : decode cX10_init 38 = .ok (.new 30, 3) := by decide +kernel
theorem dX10_init_41 : decode cX10_init 41 = .ok (.dup, 1) := by decide +kernel
theorem dX10_init_42 : decode cX10_init 42 = .ok (.aload_n 0, 1) := by decide +kernel
theorem dX10_init_43 : decode cX10_init 43 = .ok (.getfield 10, 3) := by decide +kernel
theorem dX10_init_46 : decode cX10_init 46 = .ok (.aload_n 0, 1) := by decide +kernel
theorem dX10_init_47 : decode cX10_init 47 = .ok (.getfield 19, 3) := by decide +kernel
theorem dX10_init_50 : decode cX10_init 50 = .ok (.invokespecial 32, 3) := by decide +kernel
theorem dX10_init_53 : decode cX10_init 53 = .ok (.putfield 35, 3) := by decide +kernel
theorem dX10_init_56 : decode cX10_init 56 = .ok (.aload_n 0, 1) := by decide +kernel
theorem dX10_init_57 : decode cX10_init 57 = .ok (.new 39, 3) := by decide +kernel
theorem dX10_init_60 : decode cX10_init 60 = .ok (.dup, 1) := by decide +kernel
theorem dX10_init_61 : decode cX10_init 61 = .ok (.aload_n 0, 1) := by decide +kernel
theorem dX10_init_62 : decode cX10_init 62 = .ok (.getfield 19, 3) := by decide +kernel
theorem dX10_init_65 : decode cX10_init 65 = .ok (.aload_n 0, 1) := by decide +kernel
theorem dX10_init_66 : decode cX10_init 66 = .ok (.getfield 35, 3) := by decide +kernel
theorem dX10_init_69 : decode cX10_init 69 = .ok (.invokespecial 41, 3) := by decide +kernel
theorem dX10_init_72 : decode cX10_init 72 = .ok (.putfield 44, 3) := by decide +kernel
theorem dX10_init_75 : decode cX10_init 75 = .ok (.aload_n 0, 1) := by decide +kernel
theorem dX10_init_76 : decode cX10_init 76 = .ok (.new 39, 3) := by decide +kernel
theorem dX10_init_79 : decode cX10_init 79 = .ok (.dup, 1) := by decide +kernel
theorem dX10_init_80 : decode cX10_init 80 = .ok (.aload_n 0, 1) := by decide +kernel
theorem dX10_init_81 : decode cX10_init 81 = .ok (.getfield 19, 3) := by decide +kernel
theorem dX10_init_84 : decode cX10_init 84 = .ok (.aload_n 0, 1) := by decide +kernel
theorem dX10_init_85 : decode cX10_init 85 = .ok (.getfield 35, 3) := by decide +kernel
theorem dX10_init_88 : decode cX10_init 88 = .ok (.invokespecial 41, 3) := by decide +kernel
theorem dX10_init_91 : decode cX10_init 91 = .ok (.putfield 48, 3) := by decide +kernel
theorem dX10_init_94 : decode cX10_init 94 = .ok (.aload_n 0, 1) := by decide +kernel
theorem dX10_init_95 : decode cX10_init 95 = .ok (.new 51, 3) := by decide +kernel
theorem dX10_init_98 : decode cX10_init 98 = .ok (.dup, 1) := by decide +kernel
theorem dX10_init_99 : decode cX10_init 99 = .ok (.aload_n 0, 1) := by decide +kernel
theorem dX10_init_100 : decode cX10_init 100 = .ok (.getfield 10, 3) := by decide +kernel
theorem dX10_init_103 : decode cX10_init 103 = .ok (.aload_n 0, 1) := by decide +kernel
theorem dX10_init_104 : decode cX10_init 104 = .ok (.getfield 19, 3) := by decide +kernel
theorem dX10_init_107 : decode cX10_init 107 = .ok (.invokespecial 53, 3) := by decide +kernel
theorem dX10_init_110 : decode cX10_init 110 = .ok (.putfield 54, 3) := by decide +kernel
theorem dX10_init_113 : decode cX10_init 113 = .ok (.aload_n 0, 1) := by decide +kernel
theorem dX10_init_114 : decode cX10_init 114 = .ok (.new 58, 3) := by decide +kernel
theorem dX10_init_117 : decode cX10_init 117 = .ok (.dup, 1) := by decide +kernel
theorem dX10_init_118 : decode cX10_init 118 = .ok (.invokespecial 60, 3) := by decide +kernel
theorem dX10_init_121 : decode cX10_init 121 = .ok (.putfield 61, 3) := by decide +kernel
theorem dX10_init_124 : decode cX10_init 124 = .ok (.aload_n 0, 1) := by decide +kernel
theorem dX10_init_125 : decode cX10_init 125 = .ok (.bipush 16, 2) := by decide +kernel
theorem dX10_init_127 : decode cX10_init 127 = .ok (.newarray .int, 2) := by decide +kernel
theorem dX10_init_129 : decode cX10_init 129 = .ok (.putfield 65, 3) := by decide +kernel
theorem dX10_init_132 : decode cX10_init 132 = .ok (.aload_n 0, 1) := by decide +kernel
theorem dX10_init_133 : decode cX10_init 133 = .ok (.iconst 0, 1) := by decide +kernel
theorem dX10_init_134 : decode cX10_init 134 = .ok (.putfield 69, 3) := by decide +kernel
theorem dX10_init_137 : decode cX10_init 137 = .ok (.aload_n 0, 1) := by decide +kernel
theorem dX10_init_138 : decode cX10_init 138 = .ok (.aconst_null, 1) := by decide +kernel
theorem dX10_init_139 : decode cX10_init 139 = .ok (.putfield 73, 3) := by decide +kernel
theorem dX10_init_142 : decode cX10_init 142 = .ok (.aload_n 0, 1) := by decide +kernel
theorem dX10_init_143 : decode cX10_init 143 = .ok (.aconst_null, 1) := by decide +kernel
theorem dX10_init_144 : decode cX10_init 144 = .ok (.putfield 77, 3) := by decide +kernel
theorem dX10_init_147 : decode cX10_init 147 = .ok (.aload_n 0, 1) := by decide +kernel
theorem dX10_init_148 : decode cX10_init 148 = .ok (.iconst 0, 1) := by decide +kernel
theorem dX10_init_149 : decode cX10_init 149 = .ok (.putfield 80, 3) := by decide +kernel
theorem dX10_init_152 : decode cX10_init 152 = .ok (.aload_n 0, 1) := by decide +kernel
theorem dX10_init_153 : decode cX10_init 153 = .ok (.iconst 0, 1) := by decide +kernel
theorem dX10_init_154 : decode cX10_init 154 = .ok (.putfield 84, 3) := by decide +kernel
theorem dX10_init_157 : decode cX10_init 157 = .ok (.aload_n 0, 1) := by decide +kernel
theorem dX10_init_158 : decode cX10_init 158 = .ok (.iconst 0, 1) := by decide +kernel
theorem dX10_init_159 : decode cX10_init 159 = .ok (.putfield 87, 3) := by decide +kernel
theorem dX10_init_162 : decode cX10_init 162 = .ok (.return_, 1) := by decide +kernel
theorem dX10_course_0 : decode cX10_course 0 = .ok (.iload_n 1, 1) := by decide +kernel
theorem dX10_course_1 : decode cX10_course 1 = .ok (.bipush 99, 2) := by decide +kernel
theorem dX10_course_3 : decode cX10_course 3 = .ok (.invokestatic 90, 3) := by decide +kernel
theorem dX10_course_6 : decode cX10_course 6 = .ok (.ifCond .eq 12, 3) := by decide +kernel
theorem dX10_course_9 : decode cX10_course 9 = .ok (.iload_n 2, 1) := by decide +kernel
theorem dX10_course_10 : decode cX10_course 10 = .ok (.bipush 12, 2) := by decide +kernel
theorem dX10_course_12 : decode cX10_course 12 = .ok (.invokestatic 90, 3) := by decide +kernel
theorem dX10_course_15 : decode cX10_course 15 = .ok (.ifCond .ne 6, 3) := by decide +kernel
theorem dX10_course_18 : decode cX10_course 18 = .ok (.bipush (-2), 2) := by decide +kernel
theorem dX10_course_20 : decode cX10_course 20 = .ok (.ireturn, 1) := by decide +kernel
theorem dX10_course_21 : decode cX10_course 21 = .ok (.aload_n 0, 1) := by decide +kernel
theorem dX10_course_22 : decode cX10_course 22 = .ok (.getfield 19, 3) := by decide +kernel
theorem dX10_course_25 : decode cX10_course 25 = .ok (.getfield 94, 3) := by decide +kernel
theorem dX10_course_28 : decode cX10_course 28 = .ok (.ifCond .le 6, 3) := by decide +kernel
theorem dX10_course_34 : decode cX10_course 34 = .ok (.aload_n 0, 1) := by decide +kernel
theorem dX10_course_35 : decode cX10_course 35 = .ok (.getfield 10, 3) := by decide +kernel
theorem dX10_course_38 : decode cX10_course 38 = .ok (.getfield 97, 3) := by decide +kernel
theorem dX10_course_41 : decode cX10_course 41 = .ok (.bipush 6, 2) := by decide +kernel
theorem dX10_course_43 : decode cX10_course 43 = .ok (.if_icmp .lt 6, 3) := by decide +kernel
theorem dX10_course_49 : decode cX10_course 49 = .ok (.aload_n 0, 1) := by decide +kernel
theorem dX10_course_50 : decode cX10_course 50 = .ok (.invokevirtual 100, 3) := by decide +kernel
theorem dX10_course_53 : decode cX10_course 53 = .ok (.aload_n 0, 1) := by decide +kernel
theorem dX10_course_54 : decode cX10_course 54 = .ok (.getfield 10, 3) := by decide +kernel
theorem dX10_course_57 : decode cX10_course 57 = .ok (.iload_n 1, 1) := by decide +kernel
theorem dX10_course_58 : decode cX10_course 58 = .ok (.iload_n 2, 1) := by decide +kernel
theorem dX10_course_59 : decode cX10_course 59 = .ok (.invokevirtual 103, 3) := by decide +kernel
theorem dX10_course_62 : decode cX10_course 62 = .ok (.ireturn, 1) := by decide +kernel
theorem dX10_tune_0 : decode cX10_tune 0 = .ok (.aload_n 0, 1) := by decide +kernel
theorem dX10_tune_1 : decode cX10_tune 1 = .ok (.getfield 10, 3) := by decide +kernel
theorem dX10_tune_4 : decode cX10_tune 4 = .ok (.iload_n 1, 1) := by decide +kernel
theorem dX10_tune_5 : decode cX10_tune 5 = .ok (.invokevirtual 107, 3) := by decide +kernel
theorem dX10_tune_8 : decode cX10_tune 8 = .ok (.ifCond .ne 5, 3) := by decide +kernel
theorem dX10_tune_11 : decode cX10_tune 11 = .ok (.iconst (-1), 1) := by decide +kernel
theorem dX10_tune_12 : decode cX10_tune 12 = .ok (.ireturn, 1) := by decide +kernel
theorem dX10_slack_0 : decode cX10_slack 0 = .ok (.iload_n 1, 1) := by decide +kernel
theorem dX10_slack_1 : decode cX10_slack 1 = .ok (.iconst 1, 1) := by decide +kernel
theorem dX10_slack_2 : decode cX10_slack 2 = .ok (.if_icmp .lt 8, 3) := by decide +kernel
theorem dX10_slack_5 : decode cX10_slack 5 = .ok (.iload_n 1, 1) := by decide +kernel
theorem dX10_slack_6 : decode cX10_slack 6 = .ok (.iconst 4, 1) := by decide +kernel
theorem dX10_slack_7 : decode cX10_slack 7 = .ok (.if_icmp .le 5, 3) := by decide +kernel
theorem dX10_slack_10 : decode cX10_slack 10 = .ok (.iconst (-1), 1) := by decide +kernel
theorem dX10_slack_11 : decode cX10_slack 11 = .ok (.ireturn, 1) := by decide +kernel
theorem dX10_slack_12 : decode cX10_slack 12 = .ok (.iload_n 2, 1) := by decide +kernel
theorem dX10_slack_13 : decode cX10_slack 13 = .ok (.iconst 2, 1) := by decide +kernel
theorem dX10_slack_14 : decode cX10_slack 14 = .ok (.invokestatic 90, 3) := by decide +kernel
theorem dX10_slack_17 : decode cX10_slack 17 = .ok (.ifCond .ne 6, 3) := by decide +kernel
theorem dX10_slack_20 : decode cX10_slack 20 = .ok (.bipush (-2), 2) := by decide +kernel
theorem dX10_slack_22 : decode cX10_slack 22 = .ok (.ireturn, 1) := by decide +kernel
theorem dX10_slack_23 : decode cX10_slack 23 = .ok (.aload_n 0, 1) := by decide +kernel
theorem dX10_slack_24 : decode cX10_slack 24 = .ok (.invokevirtual 100, 3) := by decide +kernel
theorem dX10_slack_27 : decode cX10_slack 27 = .ok (.aload_n 0, 1) := by decide +kernel
theorem dX10_slack_28 : decode cX10_slack 28 = .ok (.getfield 10, 3) := by decide +kernel
theorem dX10_slack_31 : decode cX10_slack 31 = .ok (.getfield 118, 3) := by decide +kernel
theorem dX10_slack_34 : decode cX10_slack 34 = .ok (.iload_n 1, 1) := by decide +kernel
theorem dX10_slack_35 : decode cX10_slack 35 = .ok (.iload_n 2, 1) := by decide +kernel
theorem dX10_slack_36 : decode cX10_slack 36 = .ok (.invokestatic 114, 3) := by decide +kernel
theorem dX10_slack_39 : decode cX10_slack 39 = .ok (.ireturn, 1) := by decide +kernel
theorem dX10_bars_0 : decode cX10_bars 0 = .ok (.iload_n 1, 1) := by decide +kernel
theorem dX10_bars_1 : decode cX10_bars 1 = .ok (.iconst 1, 1) := by decide +kernel
theorem dX10_bars_2 : decode cX10_bars 2 = .ok (.invokestatic 90, 3) := by decide +kernel
theorem dX10_bars_5 : decode cX10_bars 5 = .ok (.ifCond .ne 6, 3) := by decide +kernel
theorem dX10_bars_8 : decode cX10_bars 8 = .ok (.bipush (-2), 2) := by decide +kernel
theorem dX10_bars_10 : decode cX10_bars 10 = .ok (.ireturn, 1) := by decide +kernel
theorem dX10_bars_11 : decode cX10_bars 11 = .ok (.aload_n 0, 1) := by decide +kernel
theorem dX10_bars_12 : decode cX10_bars 12 = .ok (.invokevirtual 100, 3) := by decide +kernel
theorem dX10_bars_15 : decode cX10_bars 15 = .ok (.aload_n 0, 1) := by decide +kernel
theorem dX10_bars_16 : decode cX10_bars 16 = .ok (.getfield 10, 3) := by decide +kernel
theorem dX10_bars_19 : decode cX10_bars 19 = .ok (.getfield 121, 3) := by decide +kernel
theorem dX10_bars_22 : decode cX10_bars 22 = .ok (.ifCond .eq 7, 3) := by decide +kernel
theorem dX10_bars_29 : decode cX10_bars 29 = .ok (.iconst 0, 1) := by decide +kernel
theorem dX10_bars_30 : decode cX10_bars 30 = .ok (.istore_n 2, 1) := by decide +kernel
theorem dX10_bars_31 : decode cX10_bars 31 = .ok (.aload_n 0, 1) := by decide +kernel
theorem dX10_bars_32 : decode cX10_bars 32 = .ok (.getfield 10, 3) := by decide +kernel
theorem dX10_bars_35 : decode cX10_bars 35 = .ok (.iload_n 1, 1) := by decide +kernel
theorem dX10_bars_36 : decode cX10_bars 36 = .ok (.iconst 1, 1) := by decide +kernel
theorem dX10_bars_37 : decode cX10_bars 37 = .ok (.if_icmp .ne 7, 3) := by decide +kernel
theorem dX10_bars_40 : decode cX10_bars 40 = .ok (.iconst 1, 1) := by decide +kernel
theorem dX10_bars_41 : decode cX10_bars 41 = .ok (.goto 4, 3) := by decide +kernel
theorem dX10_bars_44 : decode cX10_bars 44 = .ok (.iconst 0, 1) := by decide +kernel
theorem dX10_bars_45 : decode cX10_bars 45 = .ok (.putfield 121, 3) := by decide +kernel
theorem dX10_bars_48 : decode cX10_bars 48 = .ok (.iload_n 2, 1) := by decide +kernel
theorem dX10_bars_49 : decode cX10_bars 49 = .ok (.ireturn, 1) := by decide +kernel
theorem dX10_weight_0 : decode cX10_weight 0 = .ok (.iload_n 1, 1) := by decide +kernel
theorem dX10_weight_1 : decode cX10_weight 1 = .ok (.iconst 4, 1) := by decide +kernel
theorem dX10_weight_2 : decode cX10_weight 2 = .ok (.invokestatic 90, 3) := by decide +kernel
theorem dX10_weight_5 : decode cX10_weight 5 = .ok (.ifCond .ne 5, 3) := by decide +kernel
theorem dX10_weight_8 : decode cX10_weight 8 = .ok (.iconst (-1), 1) := by decide +kernel
theorem dX10_weight_9 : decode cX10_weight 9 = .ok (.ireturn, 1) := by decide +kernel
theorem dX10_weight_10 : decode cX10_weight 10 = .ok (.iload_n 2, 1) := by decide +kernel
theorem dX10_weight_11 : decode cX10_weight 11 = .ok (.bipush 9, 2) := by decide +kernel
theorem dX10_weight_13 : decode cX10_weight 13 = .ok (.invokestatic 90, 3) := by decide +kernel
theorem dX10_weight_16 : decode cX10_weight 16 = .ok (.ifCond .ne 6, 3) := by decide +kernel
theorem dX10_weight_19 : decode cX10_weight 19 = .ok (.bipush (-2), 2) := by decide +kernel
theorem dX10_weight_21 : decode cX10_weight 21 = .ok (.ireturn, 1) := by decide +kernel
theorem dX10_weight_22 : decode cX10_weight 22 = .ok (.aload_n 0, 1) := by decide +kernel
theorem dX10_weight_23 : decode cX10_weight 23 = .ok (.invokevirtual 100, 3) := by decide +kernel
theorem dX10_weight_26 : decode cX10_weight 26 = .ok (.aload_n 0, 1) := by decide +kernel
theorem dX10_weight_27 : decode cX10_weight 27 = .ok (.getfield 10, 3) := by decide +kernel
theorem dX10_weight_30 : decode cX10_weight 30 = .ok (.getfield 124, 3) := by decide +kernel
theorem dX10_weight_33 : decode cX10_weight 33 = .ok (.iload_n 1, 1) := by decide +kernel
theorem dX10_weight_34 : decode cX10_weight 34 = .ok (.iload_n 2, 1) := by decide +kernel
theorem dX10_weight_35 : decode cX10_weight 35 = .ok (.invokestatic 114, 3) := by decide +kernel
theorem dX10_weight_38 : decode cX10_weight 38 = .ok (.ireturn, 1) := by decide +kernel
theorem dX10_note_0 : decode cX10_note 0 = .ok (.iload_n 1, 1) := by decide +kernel
theorem dX10_note_1 : decode cX10_note 1 = .ok (.bipush 120, 2) := by decide +kernel
theorem dX10_note_3 : decode cX10_note 3 = .ok (.invokestatic 90, 3) := by decide +kernel
theorem dX10_note_6 : decode cX10_note 6 = .ok (.ifCond .eq 20, 3) := by decide +kernel
theorem dX10_note_9 : decode cX10_note 9 = .ok (.iload_n 2, 1) := by decide +kernel
theorem dX10_note_10 : decode cX10_note 10 = .ok (.iconst 3, 1) := by decide +kernel
theorem dX10_note_11 : decode cX10_note 11 = .ok (.invokestatic 90, 3) := by decide +kernel
theorem dX10_note_14 : decode cX10_note 14 = .ok (.ifCond .eq 12, 3) := by decide +kernel
theorem dX10_note_17 : decode cX10_note 17 = .ok (.iload_n 3, 1) := by decide +kernel
theorem dX10_note_18 : decode cX10_note 18 = .ok (.bipush 100, 2) := by decide +kernel
theorem dX10_note_20 : decode cX10_note 20 = .ok (.invokestatic 90, 3) := by decide +kernel
theorem dX10_note_23 : decode cX10_note 23 = .ok (.ifCond .ne 6, 3) := by decide +kernel
theorem dX10_note_26 : decode cX10_note 26 = .ok (.bipush (-2), 2) := by decide +kernel
theorem dX10_note_28 : decode cX10_note 28 = .ok (.ireturn, 1) := by decide +kernel
theorem dX10_note_29 : decode cX10_note 29 = .ok (.aload_n 0, 1) := by decide +kernel
theorem dX10_note_30 : decode cX10_note 30 = .ok (.getfield 19, 3) := by decide +kernel
theorem dX10_note_33 : decode cX10_note 33 = .ok (.aload_n 0, 1) := by decide +kernel
theorem dX10_note_34 : decode cX10_note 34 = .ok (.getfield 19, 3) := by decide +kernel
theorem dX10_note_37 : decode cX10_note 37 = .ok (.getfield 94, 3) := by decide +kernel
theorem dX10_note_40 : decode cX10_note 40 = .ok (.iload_n 1, 1) := by decide +kernel
theorem dX10_note_41 : decode cX10_note 41 = .ok (.invokevirtual 127, 3) := by decide +kernel
theorem dX10_note_44 : decode cX10_note 44 = .ok (.iconst (-1), 1) := by decide +kernel
theorem dX10_note_45 : decode cX10_note 45 = .ok (.if_icmp .eq 6, 3) := by decide +kernel
theorem dX10_note_51 : decode cX10_note 51 = .ok (.aload_n 0, 1) := by decide +kernel
theorem dX10_note_52 : decode cX10_note 52 = .ok (.getfield 19, 3) := by decide +kernel
theorem dX10_note_55 : decode cX10_note 55 = .ok (.iload_n 1, 1) := by decide +kernel
theorem dX10_note_56 : decode cX10_note 56 = .ok (.iload_n 2, 1) := by decide +kernel
theorem dX10_note_57 : decode cX10_note 57 = .ok (.invokevirtual 130, 3) := by decide +kernel
theorem dX10_note_60 : decode cX10_note 60 = .ok (.istore 4, 2) := by decide +kernel
theorem dX10_note_62 : decode cX10_note 62 = .ok (.iload_n 2, 1) := by decide +kernel
theorem dX10_note_63 : decode cX10_note 63 = .ok (.invokestatic 133, 3) := by decide +kernel
theorem dX10_note_66 : decode cX10_note 66 = .ok (.ifCond .eq 12, 3) := by decide +kernel
theorem dX10_note_69 : decode cX10_note 69 = .ok (.iload 4, 2) := by decide +kernel
theorem dX10_note_71 : decode cX10_note 71 = .ok (.iconst (-1), 1) := by decide +kernel
theorem dX10_note_72 : decode cX10_note 72 = .ok (.if_icmp .ne 6, 3) := by decide +kernel
theorem dX10_note_75 : decode cX10_note 75 = .ok (.bipush (-3), 2) := by decide +kernel
theorem dX10_note_77 : decode cX10_note 77 = .ok (.ireturn, 1) := by decide +kernel
theorem dX10_note_78 : decode cX10_note 78 = .ok (.aload_n 0, 1) := by decide +kernel
theorem dX10_note_79 : decode cX10_note 79 = .ok (.getfield 19, 3) := by decide +kernel
theorem dX10_note_82 : decode cX10_note 82 = .ok (.getfield 136, 3) := by decide +kernel
theorem dX10_note_85 : decode cX10_note 85 = .ok (.aload_n 0, 1) := by decide +kernel
theorem dX10_note_86 : decode cX10_note 86 = .ok (.getfield 19, 3) := by decide +kernel
theorem dX10_note_89 : decode cX10_note 89 = .ok (.getfield 94, 3) := by decide +kernel
theorem dX10_note_92 : decode cX10_note 92 = .ok (.iaload, 1) := by decide +kernel
theorem dX10_note_93 : decode cX10_note 93 = .ok (.iconst 4, 1) := by decide +kernel
theorem dX10_note_94 : decode cX10_note 94 = .ok (.if_icmp .lt 6, 3) := by decide +kernel
theorem dX10_note_100 : decode cX10_note 100 = .ok (.aload_n 0, 1) := by decide +kernel
theorem dX10_note_101 : decode cX10_note 101 = .ok (.getfield 19, 3) := by decide +kernel
theorem dX10_note_104 : decode cX10_note 104 = .ok (.iload_n 1, 1) := by decide +kernel
theorem dX10_note_105 : decode cX10_note 105 = .ok (.iload_n 2, 1) := by decide +kernel
theorem dX10_note_106 : decode cX10_note 106 = .ok (.iload_n 3, 1) := by decide +kernel
theorem dX10_note_107 : decode cX10_note 107 = .ok (.iload 4, 2) := by decide +kernel
theorem dX10_note_109 : decode cX10_note 109 = .ok (.iconst (-1), 1) := by decide +kernel
theorem dX10_note_110 : decode cX10_note 110 = .ok (.invokevirtual 139, 3) := by decide +kernel
theorem dX10_note_113 : decode cX10_note 113 = .ok (.ireturn, 1) := by decide +kernel
theorem dX10_tick_0 : decode cX10_tick 0 = .ok (.aload_n 0, 1) := by decide +kernel
theorem dX10_tick_1 : decode cX10_tick 1 = .ok (.getfield 10, 3) := by decide +kernel
theorem dX10_tick_4 : decode cX10_tick 4 = .ok (.getfield 97, 3) := by decide +kernel
theorem dX10_tick_7 : decode cX10_tick 7 = .ok (.ifCond .ne 6, 3) := by decide +kernel
theorem dX10_tick_10 : decode cX10_tick 10 = .ok (.bipush (-3), 2) := by decide +kernel
theorem dX10_tick_12 : decode cX10_tick 12 = .ok (.ireturn, 1) := by decide +kernel
theorem dX10_clear_0 : decode cX10_clear 0 = .ok (.aload_n 0, 1) := by decide +kernel
theorem dX10_clear_1 : decode cX10_clear 1 = .ok (.invokevirtual 143, 3) := by decide +kernel
theorem dX10_clear_4 : decode cX10_clear 4 = .ok (.aload_n 0, 1) := by decide +kernel
theorem dX10_clear_5 : decode cX10_clear 5 = .ok (.getfield 19, 3) := by decide +kernel
theorem dX10_clear_8 : decode cX10_clear 8 = .ok (.getfield 94, 3) := by decide +kernel
theorem dX10_clear_11 : decode cX10_clear 11 = .ok (.istore_n 1, 1) := by decide +kernel
theorem dX10_clear_12 : decode cX10_clear 12 = .ok (.aload_n 0, 1) := by decide +kernel
theorem dX10_clear_13 : decode cX10_clear 13 = .ok (.getfield 19, 3) := by decide +kernel
theorem dX10_clear_16 : decode cX10_clear 16 = .ok (.invokevirtual 154, 3) := by decide +kernel
theorem dX10_clear_19 : decode cX10_clear 19 = .ok (.aload_n 0, 1) := by decide +kernel
theorem dX10_clear_20 : decode cX10_clear 20 = .ok (.getfield 44, 3) := by decide +kernel
theorem dX10_clear_23 : decode cX10_clear 23 = .ok (.invokevirtual 157, 3) := by decide +kernel
theorem dX10_clear_26 : decode cX10_clear 26 = .ok (.iload_n 1, 1) := by decide +kernel
theorem dX10_clear_27 : decode cX10_clear 27 = .ok (.ireturn, 1) := by decide +kernel
theorem dX10_fix_0 : decode cX10_fix 0 = .ok (.aload_n 0, 1) := by decide +kernel
theorem dX10_fix_1 : decode cX10_fix 1 = .ok (.getfield 19, 3) := by decide +kernel
theorem dX10_fix_4 : decode cX10_fix 4 = .ok (.iload_n 1, 1) := by decide +kernel
theorem dX10_fix_5 : decode cX10_fix 5 = .ok (.iload_n 2, 1) := by decide +kernel
theorem dX10_fix_6 : decode cX10_fix 6 = .ok (.invokevirtual 160, 3) := by decide +kernel
theorem dX10_fix_9 : decode cX10_fix 9 = .ok (.ifCond .ne 5, 3) := by decide +kernel
theorem dX10_fix_12 : decode cX10_fix 12 = .ok (.iconst (-1), 1) := by decide +kernel
theorem dX10_fix_13 : decode cX10_fix 13 = .ok (.ireturn, 1) := by decide +kernel
theorem dX10_told_0 : decode cX10_told 0 = .ok (.aload_n 0, 1) := by decide +kernel
theorem dX10_told_1 : decode cX10_told 1 = .ok (.getfield 19, 3) := by decide +kernel
theorem dX10_told_4 : decode cX10_told 4 = .ok (.iload_n 1, 1) := by decide +kernel
theorem dX10_told_5 : decode cX10_told 5 = .ok (.iload_n 2, 1) := by decide +kernel
theorem dX10_told_6 : decode cX10_told 6 = .ok (.invokevirtual 160, 3) := by decide +kernel
theorem dX10_told_9 : decode cX10_told 9 = .ok (.ifCond .ne 5, 3) := by decide +kernel
theorem dX10_told_12 : decode cX10_told 12 = .ok (.iconst (-1), 1) := by decide +kernel
theorem dX10_told_13 : decode cX10_told 13 = .ok (.ireturn, 1) := by decide +kernel
theorem dX10_grips_0 : decode cX10_grips 0 = .ok (.aload_n 0, 1) := by decide +kernel
theorem dX10_grips_1 : decode cX10_grips 1 = .ok (.getfield 19, 3) := by decide +kernel
theorem dX10_grips_4 : decode cX10_grips 4 = .ok (.iload_n 1, 1) := by decide +kernel
theorem dX10_grips_5 : decode cX10_grips 5 = .ok (.invokevirtual 178, 3) := by decide +kernel
theorem dX10_grips_8 : decode cX10_grips 8 = .ok (.ifCond .ne 5, 3) := by decide +kernel
theorem dX10_grips_11 : decode cX10_grips 11 = .ok (.iconst (-1), 1) := by decide +kernel
theorem dX10_grips_12 : decode cX10_grips 12 = .ok (.ireturn, 1) := by decide +kernel
theorem dX10_grip_0 : decode cX10_grip 0 = .ok (.aload_n 0, 1) := by decide +kernel
theorem dX10_grip_1 : decode cX10_grip 1 = .ok (.getfield 19, 3) := by decide +kernel
theorem dX10_grip_4 : decode cX10_grip 4 = .ok (.iload_n 1, 1) := by decide +kernel
theorem dX10_grip_5 : decode cX10_grip 5 = .ok (.invokevirtual 178, 3) := by decide +kernel
theorem dX10_grip_8 : decode cX10_grip 8 = .ok (.ifCond .ne 5, 3) := by decide +kernel
theorem dX10_grip_11 : decode cX10_grip 11 = .ok (.iconst (-1), 1) := by decide +kernel
theorem dX10_grip_12 : decode cX10_grip 12 = .ok (.ireturn, 1) := by decide +kernel
theorem dX10_why_0 : decode cX10_why 0 = .ok (.aload_n 0, 1) := by decide +kernel
theorem dX10_why_1 : decode cX10_why 1 = .ok (.getfield 19, 3) := by decide +kernel
theorem dX10_why_4 : decode cX10_why 4 = .ok (.iload_n 1, 1) := by decide +kernel
theorem dX10_why_5 : decode cX10_why 5 = .ok (.invokevirtual 178, 3) := by decide +kernel
theorem dX10_why_8 : decode cX10_why 8 = .ok (.ifCond .ne 5, 3) := by decide +kernel
theorem dX10_why_11 : decode cX10_why 11 = .ok (.iconst (-1), 1) := by decide +kernel
theorem dX10_why_12 : decode cX10_why 12 = .ok (.ireturn, 1) := by decide +kernel
theorem dX10_way_0 : decode cX10_way 0 = .ok (.aload_n 0, 1) := by decide +kernel
theorem dX10_way_1 : decode cX10_way 1 = .ok (.getfield 19, 3) := by decide +kernel
theorem dX10_way_4 : decode cX10_way 4 = .ok (.getfield 94, 3) := by decide +kernel
theorem dX10_way_7 : decode cX10_way 7 = .ok (.ifCond .ne 6, 3) := by decide +kernel
theorem dX10_way_10 : decode cX10_way 10 = .ok (.bipush (-3), 2) := by decide +kernel
theorem dX10_way_12 : decode cX10_way 12 = .ok (.ireturn, 1) := by decide +kernel
theorem dX10_next_0 : decode cX10_next 0 = .ok (.aload_n 0, 1) := by decide +kernel
theorem dX10_next_1 : decode cX10_next 1 = .ok (.getfield 61, 3) := by decide +kernel
theorem dX10_next_4 : decode cX10_next 4 = .ok (.invokevirtual 214, 3) := by decide +kernel
theorem dX10_next_7 : decode cX10_next 7 = .ok (.ifCond .eq 15, 3) := by decide +kernel
theorem dX10_next_22 : decode cX10_next 22 = .ok (.bipush (-3), 2) := by decide +kernel
theorem dX10_next_24 : decode cX10_next 24 = .ok (.ireturn, 1) := by decide +kernel
theorem dX10_at_0 : decode cX10_at 0 = .ok (.aload_n 0, 1) := by decide +kernel
theorem dX10_at_1 : decode cX10_at 1 = .ok (.getfield 19, 3) := by decide +kernel
theorem dX10_at_4 : decode cX10_at 4 = .ok (.iload_n 1, 1) := by decide +kernel
theorem dX10_at_5 : decode cX10_at 5 = .ok (.invokevirtual 178, 3) := by decide +kernel
theorem dX10_at_8 : decode cX10_at 8 = .ok (.ifCond .eq 13, 3) := by decide +kernel
theorem dX10_at_21 : decode cX10_at 21 = .ok (.iconst (-1), 1) := by decide +kernel
theorem dX10_at_22 : decode cX10_at 22 = .ok (.ireturn, 1) := by decide +kernel
theorem dX10_rank_0 : decode cX10_rank 0 = .ok (.aload_n 0, 1) := by decide +kernel
theorem dX10_rank_1 : decode cX10_rank 1 = .ok (.getfield 61, 3) := by decide +kernel
theorem dX10_rank_4 : decode cX10_rank 4 = .ok (.invokevirtual 214, 3) := by decide +kernel
theorem dX10_rank_7 : decode cX10_rank 7 = .ok (.ifCond .ne 6, 3) := by decide +kernel
theorem dX10_rank_10 : decode cX10_rank 10 = .ok (.bipush (-3), 2) := by decide +kernel
theorem dX10_rank_12 : decode cX10_rank 12 = .ok (.ireturn, 1) := by decide +kernel
theorem dX10_say_0 : decode cX10_say 0 = .ok (.iload_n 1, 1) := by decide +kernel
theorem dX10_say_1 : decode cX10_say 1 = .ok (.ifCond .ge 6, 3) := by decide +kernel
theorem dX10_say_4 : decode cX10_say 4 = .ok (.bipush (-2), 2) := by decide +kernel
theorem dX10_say_6 : decode cX10_say 6 = .ok (.ireturn, 1) := by decide +kernel
theorem dX10_say_7 : decode cX10_say 7 = .ok (.aload_n 0, 1) := by decide +kernel
theorem dX10_say_8 : decode cX10_say 8 = .ok (.getfield 69, 3) := by decide +kernel
theorem dX10_say_11 : decode cX10_say 11 = .ok (.bipush 16, 2) := by decide +kernel
theorem dX10_say_13 : decode cX10_say 13 = .ok (.if_icmp .lt 6, 3) := by decide +kernel
theorem dX10_say_19 : decode cX10_say 19 = .ok (.aload_n 0, 1) := by decide +kernel
theorem dX10_say_20 : decode cX10_say 20 = .ok (.getfield 65, 3) := by decide +kernel
theorem dX10_say_23 : decode cX10_say 23 = .ok (.aload_n 0, 1) := by decide +kernel
theorem dX10_say_24 : decode cX10_say 24 = .ok (.getfield 69, 3) := by decide +kernel
theorem dX10_say_27 : decode cX10_say 27 = .ok (.iload_n 1, 1) := by decide +kernel
theorem dX10_say_28 : decode cX10_say 28 = .ok (.iastore, 1) := by decide +kernel
theorem dX10_say_29 : decode cX10_say 29 = .ok (.aload_n 0, 1) := by decide +kernel
theorem dX10_say_30 : decode cX10_say 30 = .ok (.dup, 1) := by decide +kernel
theorem dX10_say_31 : decode cX10_say 31 = .ok (.getfield 69, 3) := by decide +kernel
theorem dX10_say_34 : decode cX10_say 34 = .ok (.iconst 1, 1) := by decide +kernel
theorem dX10_say_35 : decode cX10_say 35 = .ok (.iadd, 1) := by decide +kernel
theorem dX10_say_36 : decode cX10_say 36 = .ok (.putfield 69, 3) := by decide +kernel
theorem dX10_say_39 : decode cX10_say 39 = .ok (.aload_n 0, 1) := by decide +kernel
theorem dX10_say_40 : decode cX10_say 40 = .ok (.getfield 69, 3) := by decide +kernel
theorem dX10_say_43 : decode cX10_say 43 = .ok (.ireturn, 1) := by decide +kernel
theorem dX10_check_0 : decode cX10_check 0 = .ok (.aload_n 0, 1) := by decide +kernel
theorem dX10_check_1 : decode cX10_check 1 = .ok (.getfield 19, 3) := by decide +kernel
theorem dX10_check_4 : decode cX10_check 4 = .ok (.getfield 94, 3) := by decide +kernel
theorem dX10_check_7 : decode cX10_check 7 = .ok (.ifCond .ne 6, 3) := by decide +kernel
theorem dX10_check_10 : decode cX10_check 10 = .ok (.bipush (-3), 2) := by decide +kernel
theorem dX10_check_12 : decode cX10_check 12 = .ok (.ireturn, 1) := by decide +kernel
theorem dX10_arrange_0 : decode cX10_arrange 0 = .ok (.aload_n 0, 1) := by decide +kernel
theorem dX10_arrange_1 : decode cX10_arrange 1 = .ok (.getfield 19, 3) := by decide +kernel
theorem dX10_arrange_4 : decode cX10_arrange 4 = .ok (.getfield 94, 3) := by decide +kernel
theorem dX10_arrange_7 : decode cX10_arrange 7 = .ok (.ifCond .ne 6, 3) := by decide +kernel
theorem dX10_arrange_10 : decode cX10_arrange 10 = .ok (.bipush (-3), 2) := by decide +kernel
theorem dX10_arrange_12 : decode cX10_arrange 12 = .ok (.ireturn, 1) := by decide +kernel
theorem dX10_left_0 : decode cX10_left 0 = .ok (.aload_n 0, 1) := by decide +kernel
theorem dX10_left_1 : decode cX10_left 1 = .ok (.getfield 80, 3) := by decide +kernel
theorem dX10_left_4 : decode cX10_left 4 = .ok (.ifCond .eq 21, 3) := by decide +kernel
theorem dX10_left_25 : decode cX10_left 25 = .ok (.iconst (-1), 1) := by decide +kernel
theorem dX10_left_26 : decode cX10_left 26 = .ok (.ireturn, 1) := by decide +kernel
theorem dX10_rest_0 : decode cX10_rest 0 = .ok (.aload_n 0, 1) := by decide +kernel
theorem dX10_rest_1 : decode cX10_rest 1 = .ok (.getfield 80, 3) := by decide +kernel
theorem dX10_rest_4 : decode cX10_rest 4 = .ok (.ifCond .eq 10, 3) := by decide +kernel
theorem dX10_rest_14 : decode cX10_rest 14 = .ok (.iconst (-1), 1) := by decide +kernel
theorem dX10_rest_15 : decode cX10_rest 15 = .ok (.ireturn, 1) := by decide +kernel
theorem dX10_tuning_0 : decode cX10_tuning 0 = .ok (.iload_n 1, 1) := by decide +kernel
theorem dX10_tuning_1 : decode cX10_tuning 1 = .ok (.iconst 3, 1) := by decide +kernel
theorem dX10_tuning_2 : decode cX10_tuning 2 = .ok (.invokestatic 90, 3) := by decide +kernel
theorem dX10_tuning_5 : decode cX10_tuning 5 = .ok (.ifCond .eq 14, 3) := by decide +kernel
theorem dX10_tuning_8 : decode cX10_tuning 8 = .ok (.aload_n 0, 1) := by decide +kernel
theorem dX10_tuning_9 : decode cX10_tuning 9 = .ok (.getfield 10, 3) := by decide +kernel
theorem dX10_tuning_12 : decode cX10_tuning 12 = .ok (.iload_n 2, 1) := by decide +kernel
theorem dX10_tuning_13 : decode cX10_tuning 13 = .ok (.invokevirtual 107, 3) := by decide +kernel
theorem dX10_tuning_16 : decode cX10_tuning 16 = .ok (.ifCond .ne 5, 3) := by decide +kernel
theorem dX10_tuning_19 : decode cX10_tuning 19 = .ok (.iconst (-1), 1) := by decide +kernel
theorem dX10_tuning_20 : decode cX10_tuning 20 = .ok (.ireturn, 1) := by decide +kernel
theorem dX10_choose_0 : decode cX10_choose 0 = .ok (.aload_n 0, 1) := by decide +kernel
theorem dX10_choose_1 : decode cX10_choose 1 = .ok (.getfield 19, 3) := by decide +kernel
theorem dX10_choose_4 : decode cX10_choose 4 = .ok (.getfield 94, 3) := by decide +kernel
theorem dX10_choose_7 : decode cX10_choose 7 = .ok (.ifCond .ne 6, 3) := by decide +kernel
theorem dX10_choose_10 : decode cX10_choose 10 = .ok (.bipush (-3), 2) := by decide +kernel
theorem dX10_choose_12 : decode cX10_choose 12 = .ok (.ireturn, 1) := by decide +kernel
theorem dX10_feed_0 : decode cX10_feed 0 = .ok (.iload_n 1, 1) := by decide +kernel
theorem dX10_feed_1 : decode cX10_feed 1 = .ok (.sipush 255, 3) := by decide +kernel
theorem dX10_feed_4 : decode cX10_feed 4 = .ok (.invokestatic 90, 3) := by decide +kernel
theorem dX10_feed_7 : decode cX10_feed 7 = .ok (.ifCond .ne 6, 3) := by decide +kernel
theorem dX10_feed_10 : decode cX10_feed 10 = .ok (.bipush (-2), 2) := by decide +kernel
theorem dX10_feed_12 : decode cX10_feed 12 = .ok (.ireturn, 1) := by decide +kernel
theorem dX10_feed_13 : decode cX10_feed 13 = .ok (.aload_n 0, 1) := by decide +kernel
theorem dX10_feed_14 : decode cX10_feed 14 = .ok (.getfield 26, 3) := by decide +kernel
theorem dX10_feed_17 : decode cX10_feed 17 = .ok (.getfield 283, 3) := by decide +kernel
theorem dX10_feed_20 : decode cX10_feed 20 = .ok (.sipush 600, 3) := by decide +kernel
theorem dX10_feed_23 : decode cX10_feed 23 = .ok (.if_icmp .lt 6, 3) := by decide +kernel
theorem dX10_feed_29 : decode cX10_feed 29 = .ok (.aload_n 0, 1) := by decide +kernel
theorem dX10_feed_30 : decode cX10_feed 30 = .ok (.getfield 26, 3) := by decide +kernel
theorem dX10_feed_33 : decode cX10_feed 33 = .ok (.iload_n 1, 1) := by decide +kernel
theorem dX10_feed_34 : decode cX10_feed 34 = .ok (.invokevirtual 286, 3) := by decide +kernel
theorem dX10_feed_37 : decode cX10_feed 37 = .ok (.aload_n 0, 1) := by decide +kernel
theorem dX10_feed_38 : decode cX10_feed 38 = .ok (.getfield 26, 3) := by decide +kernel
theorem dX10_feed_41 : decode cX10_feed 41 = .ok (.getfield 283, 3) := by decide +kernel
theorem dX10_feed_44 : decode cX10_feed 44 = .ok (.ireturn, 1) := by decide +kernel
theorem dX10_wipe_0 : decode cX10_wipe 0 = .ok (.aload_n 0, 1) := by decide +kernel
theorem dX10_wipe_1 : decode cX10_wipe 1 = .ok (.getfield 26, 3) := by decide +kernel
theorem dX10_wipe_4 : decode cX10_wipe 4 = .ok (.getfield 283, 3) := by decide +kernel
theorem dX10_wipe_7 : decode cX10_wipe 7 = .ok (.istore_n 1, 1) := by decide +kernel
theorem dX10_wipe_8 : decode cX10_wipe 8 = .ok (.aload_n 0, 1) := by decide +kernel
theorem dX10_wipe_9 : decode cX10_wipe 9 = .ok (.getfield 26, 3) := by decide +kernel
theorem dX10_wipe_12 : decode cX10_wipe 12 = .ok (.iconst 0, 1) := by decide +kernel
theorem dX10_wipe_13 : decode cX10_wipe 13 = .ok (.putfield 283, 3) := by decide +kernel
theorem dX10_wipe_16 : decode cX10_wipe 16 = .ok (.iload_n 1, 1) := by decide +kernel
theorem dX10_wipe_17 : decode cX10_wipe 17 = .ok (.ireturn, 1) := by decide +kernel
theorem dX10_tape_0 : decode cX10_tape 0 = .ok (.iload_n 1, 1) := by decide +kernel
theorem dX10_tape_1 : decode cX10_tape 1 = .ok (.ifCond .lt 26, 3) := by decide +kernel
theorem dX10_tape_4 : decode cX10_tape 4 = .ok (.iload_n 1, 1) := by decide +kernel
theorem dX10_tape_5 : decode cX10_tape 5 = .ok (.aload_n 0, 1) := by decide +kernel
theorem dX10_tape_6 : decode cX10_tape 6 = .ok (.getfield 26, 3) := by decide +kernel
theorem dX10_tape_9 : decode cX10_tape 9 = .ok (.getfield 283, 3) := by decide +kernel
theorem dX10_tape_12 : decode cX10_tape 12 = .ok (.if_icmp .ge 15, 3) := by decide +kernel
theorem dX10_tape_27 : decode cX10_tape 27 = .ok (.iconst (-1), 1) := by decide +kernel
theorem dX10_tape_28 : decode cX10_tape 28 = .ok (.ireturn, 1) := by decide +kernel
theorem dX10_write_0 : decode cX10_write 0 = .ok (.aload_n 0, 1) := by decide +kernel
theorem dX10_write_1 : decode cX10_write 1 = .ok (.getfield 61, 3) := by decide +kernel
theorem dX10_write_4 : decode cX10_write 4 = .ok (.invokevirtual 214, 3) := by decide +kernel
theorem dX10_write_7 : decode cX10_write 7 = .ok (.ifCond .ne 6, 3) := by decide +kernel
theorem dX10_write_10 : decode cX10_write 10 = .ok (.bipush (-3), 2) := by decide +kernel
theorem dX10_write_12 : decode cX10_write 12 = .ok (.ireturn, 1) := by decide +kernel
theorem dX10_read_0 : decode cX10_read 0 = .ok (.aload_n 0, 1) := by decide +kernel
theorem dX10_read_1 : decode cX10_read 1 = .ok (.getfield 10, 3) := by decide +kernel
theorem dX10_read_4 : decode cX10_read 4 = .ok (.getfield 97, 3) := by decide +kernel
theorem dX10_read_7 : decode cX10_read 7 = .ok (.ifCond .ne 6, 3) := by decide +kernel
theorem dX10_read_10 : decode cX10_read 10 = .ok (.bipush (-3), 2) := by decide +kernel
theorem dX10_read_12 : decode cX10_read 12 = .ok (.ireturn, 1) := by decide +kernel
theorem dX10_count_0 : decode cX10_count 0 = .ok (.iload_n 1, 1) := by decide +kernel
theorem dX10_count_1 : decode cX10_count 1 = .ok (.tableswitch 103 0 5 #[39, 47, 55, 63, 79, 95], 39) := by decide +kernel
theorem dX10_count_40 : decode cX10_count 40 = .ok (.aload_n 0, 1) := by decide +kernel
theorem dX10_count_41 : decode cX10_count 41 = .ok (.getfield 10, 3) := by decide +kernel
theorem dX10_count_44 : decode cX10_count 44 = .ok (.getfield 97, 3) := by decide +kernel
theorem dX10_count_47 : decode cX10_count 47 = .ok (.ireturn, 1) := by decide +kernel
theorem dX10_count_48 : decode cX10_count 48 = .ok (.aload_n 0, 1) := by decide +kernel
theorem dX10_count_49 : decode cX10_count 49 = .ok (.getfield 19, 3) := by decide +kernel
theorem dX10_count_52 : decode cX10_count 52 = .ok (.getfield 94, 3) := by decide +kernel
theorem dX10_count_55 : decode cX10_count 55 = .ok (.ireturn, 1) := by decide +kernel
theorem dX10_count_56 : decode cX10_count 56 = .ok (.aload_n 0, 1) := by decide +kernel
theorem dX10_count_57 : decode cX10_count 57 = .ok (.getfield 19, 3) := by decide +kernel
theorem dX10_count_60 : decode cX10_count 60 = .ok (.invokevirtual 308, 3) := by decide +kernel
theorem dX10_count_63 : decode cX10_count 63 = .ok (.ireturn, 1) := by decide +kernel
theorem dX10_count_64 : decode cX10_count 64 = .ok (.aload_n 0, 1) := by decide +kernel
theorem dX10_count_65 : decode cX10_count 65 = .ok (.getfield 19, 3) := by decide +kernel
theorem dX10_count_68 : decode cX10_count 68 = .ok (.getfield 136, 3) := by decide +kernel
theorem dX10_count_71 : decode cX10_count 71 = .ok (.aload_n 0, 1) := by decide +kernel
theorem dX10_count_72 : decode cX10_count 72 = .ok (.getfield 19, 3) := by decide +kernel
theorem dX10_count_75 : decode cX10_count 75 = .ok (.getfield 94, 3) := by decide +kernel
theorem dX10_count_78 : decode cX10_count 78 = .ok (.iaload, 1) := by decide +kernel
theorem dX10_count_79 : decode cX10_count 79 = .ok (.ireturn, 1) := by decide +kernel
theorem dX10_count_80 : decode cX10_count 80 = .ok (.aload_n 0, 1) := by decide +kernel
theorem dX10_count_81 : decode cX10_count 81 = .ok (.getfield 61, 3) := by decide +kernel
theorem dX10_count_84 : decode cX10_count 84 = .ok (.invokevirtual 214, 3) := by decide +kernel
theorem dX10_count_87 : decode cX10_count 87 = .ok (.ifCond .eq 7, 3) := by decide +kernel
theorem dX10_count_94 : decode cX10_count 94 = .ok (.iconst 0, 1) := by decide +kernel
theorem dX10_count_95 : decode cX10_count 95 = .ok (.ireturn, 1) := by decide +kernel
theorem dX10_count_96 : decode cX10_count 96 = .ok (.aload_n 0, 1) := by decide +kernel
theorem dX10_count_97 : decode cX10_count 97 = .ok (.getfield 61, 3) := by decide +kernel
theorem dX10_count_100 : decode cX10_count 100 = .ok (.getfield 228, 3) := by decide +kernel
theorem dX10_count_103 : decode cX10_count 103 = .ok (.ireturn, 1) := by decide +kernel
theorem dX10_count_104 : decode cX10_count 104 = .ok (.iconst (-1), 1) := by decide +kernel
theorem dX10_count_105 : decode cX10_count 105 = .ok (.ireturn, 1) := by decide +kernel
theorem dX10_within_0 : decode cX10_within 0 = .ok (.iload_n 0, 1) := by decide +kernel
theorem dX10_within_1 : decode cX10_within 1 = .ok (.ifCond .lt 12, 3) := by decide +kernel
theorem dX10_within_4 : decode cX10_within 4 = .ok (.iload_n 0, 1) := by decide +kernel
theorem dX10_within_5 : decode cX10_within 5 = .ok (.iload_n 1, 1) := by decide +kernel
theorem dX10_within_6 : decode cX10_within 6 = .ok (.if_icmp .gt 7, 3) := by decide +kernel
theorem dX10_within_9 : decode cX10_within 9 = .ok (.iconst 1, 1) := by decide +kernel
theorem dX10_within_10 : decode cX10_within 10 = .ok (.goto 4, 3) := by decide +kernel
theorem dX10_within_13 : decode cX10_within 13 = .ok (.iconst 0, 1) := by decide +kernel
theorem dX10_within_14 : decode cX10_within 14 = .ok (.ireturn, 1) := by decide +kernel
theorem dX10_exchange_0 : decode cX10_exchange 0 = .ok (.aload_n 0, 1) := by decide +kernel
theorem dX10_exchange_1 : decode cX10_exchange 1 = .ok (.iload_n 1, 1) := by decide +kernel
theorem dX10_exchange_2 : decode cX10_exchange 2 = .ok (.iaload, 1) := by decide +kernel
theorem dX10_exchange_3 : decode cX10_exchange 3 = .ok (.istore_n 3, 1) := by decide +kernel
theorem dX10_exchange_4 : decode cX10_exchange 4 = .ok (.aload_n 0, 1) := by decide +kernel
theorem dX10_exchange_5 : decode cX10_exchange 5 = .ok (.iload_n 1, 1) := by decide +kernel
theorem dX10_exchange_6 : decode cX10_exchange 6 = .ok (.iload_n 2, 1) := by decide +kernel
theorem dX10_exchange_7 : decode cX10_exchange 7 = .ok (.iastore, 1) := by decide +kernel
theorem dX10_exchange_8 : decode cX10_exchange 8 = .ok (.iload_n 3, 1) := by decide +kernel
theorem dX10_exchange_9 : decode cX10_exchange 9 = .ok (.ireturn, 1) := by decide +kernel
theorem dX10_instrumentChanged_0 : decode cX10_instrumentChanged 0 = .ok (.aload_n 0, 1) := by decide +kernel
theorem dX10_instrumentChanged_1 : decode cX10_instrumentChanged 1 = .ok (.invokevirtual 143, 3) := by decide +kernel
theorem dX10_instrumentChanged_4 : decode cX10_instrumentChanged 4 = .ok (.aload_n 0, 1) := by decide +kernel
theorem dX10_instrumentChanged_5 : decode cX10_instrumentChanged 5 = .ok (.getfield 44, 3) := by decide +kernel
theorem dX10_instrumentChanged_8 : decode cX10_instrumentChanged 8 = .ok (.invokevirtual 157, 3) := by decide +kernel
theorem dX10_instrumentChanged_11 : decode cX10_instrumentChanged 11 = .ok (.return_, 1) := by decide +kernel
theorem dX10_forgetAnswers_0 : decode cX10_forgetAnswers 0 = .ok (.aload_n 0, 1) := by decide +kernel
theorem dX10_forgetAnswers_1 : decode cX10_forgetAnswers 1 = .ok (.getfield 61, 3) := by decide +kernel
theorem dX10_forgetAnswers_4 : decode cX10_forgetAnswers 4 = .ok (.invokevirtual 311, 3) := by decide +kernel
theorem dX10_forgetAnswers_7 : decode cX10_forgetAnswers 7 = .ok (.aload_n 0, 1) := by decide +kernel
theorem dX10_forgetAnswers_8 : decode cX10_forgetAnswers 8 = .ok (.iconst 0, 1) := by decide +kernel
theorem dX10_forgetAnswers_9 : decode cX10_forgetAnswers 9 = .ok (.putfield 80, 3) := by decide +kernel
theorem dX10_forgetAnswers_12 : decode cX10_forgetAnswers 12 = .ok (.return_, 1) := by decide +kernel
theorem dX11_init_0 : decode cX11_init 0 = .ok (.aload_n 0, 1) := by decide +kernel
theorem dX11_init_1 : decode cX11_init 1 = .ok (.invokespecial 1, 3) := by decide +kernel
theorem dX11_init_4 : decode cX11_init 4 = .ok (.aload_n 0, 1) := by decide +kernel
theorem dX11_init_5 : decode cX11_init 5 = .ok (.iconst 0, 1) := by decide +kernel
theorem dX11_init_6 : decode cX11_init 6 = .ok (.putfield 7, 3) := by decide +kernel
theorem dX11_init_9 : decode cX11_init 9 = .ok (.aload_n 0, 1) := by decide +kernel
theorem dX11_init_10 : decode cX11_init 10 = .ok (.iconst 0, 1) := by decide +kernel
theorem dX11_init_11 : decode cX11_init 11 = .ok (.putfield 13, 3) := by decide +kernel
theorem dX11_init_14 : decode cX11_init 14 = .ok (.aload_n 0, 1) := by decide +kernel
theorem dX11_init_15 : decode cX11_init 15 = .ok (.bipush 6, 2) := by decide +kernel
theorem dX11_init_17 : decode cX11_init 17 = .ok (.newarray .int, 2) := by decide +kernel
theorem dX11_init_19 : decode cX11_init 19 = .ok (.putfield 16, 3) := by decide +kernel
theorem dX11_init_22 : decode cX11_init 22 = .ok (.aload_n 0, 1) := by decide +kernel
theorem dX11_init_23 : decode cX11_init 23 = .ok (.bipush 6, 2) := by decide +kernel
theorem dX11_init_25 : decode cX11_init 25 = .ok (.newarray .int, 2) := by decide +kernel
theorem dX11_init_27 : decode cX11_init 27 = .ok (.putfield 20, 3) := by decide +kernel
theorem dX11_init_30 : decode cX11_init 30 = .ok (.aload_n 0, 1) := by decide +kernel
theorem dX11_init_31 : decode cX11_init 31 = .ok (.iconst 5, 1) := by decide +kernel
theorem dX11_init_32 : decode cX11_init 32 = .ok (.newarray .int, 2) := by decide +kernel
theorem dX11_init_34 : decode cX11_init 34 = .ok (.dup, 1) := by decide +kernel
theorem dX11_init_35 : decode cX11_init 35 = .ok (.iconst 0, 1) := by decide +kernel
theorem dX11_init_36 : decode cX11_init 36 = .ok (.iconst 0, 1) := by decide +kernel
theorem dX11_init_37 : decode cX11_init 37 = .ok (.iastore, 1) := by decide +kernel
theorem dX11_init_38 : decode cX11_init 38 = .ok (.dup, 1) := by decide +kernel
theorem dX11_init_39 : decode cX11_init 39 = .ok (.iconst 1, 1) := by decide +kernel
theorem dX11_init_40 : decode cX11_init 40 = .ok (.iconst 1, 1) := by decide +kernel
theorem dX11_init_41 : decode cX11_init 41 = .ok (.iastore, 1) := by decide +kernel
theorem dX11_init_42 : decode cX11_init 42 = .ok (.dup, 1) := by decide +kernel
theorem dX11_init_43 : decode cX11_init 43 = .ok (.iconst 2, 1) := by decide +kernel
theorem dX11_init_44 : decode cX11_init 44 = .ok (.iconst 1, 1) := by decide +kernel
theorem dX11_init_45 : decode cX11_init 45 = .ok (.iastore, 1) := by decide +kernel
theorem dX11_init_46 : decode cX11_init 46 = .ok (.dup, 1) := by decide +kernel
theorem dX11_init_47 : decode cX11_init 47 = .ok (.iconst 3, 1) := by decide +kernel
theorem dX11_init_48 : decode cX11_init 48 = .ok (.iconst 1, 1) := by decide +kernel
theorem dX11_init_49 : decode cX11_init 49 = .ok (.iastore, 1) := by decide +kernel
theorem dX11_init_50 : decode cX11_init 50 = .ok (.dup, 1) := by decide +kernel
theorem dX11_init_51 : decode cX11_init 51 = .ok (.iconst 4, 1) := by decide +kernel
theorem dX11_init_52 : decode cX11_init 52 = .ok (.iconst 1, 1) := by decide +kernel
theorem dX11_init_53 : decode cX11_init 53 = .ok (.iastore, 1) := by decide +kernel
theorem dX11_init_54 : decode cX11_init 54 = .ok (.putfield 23, 3) := by decide +kernel
theorem dX11_init_57 : decode cX11_init 57 = .ok (.aload_n 0, 1) := by decide +kernel
theorem dX11_init_58 : decode cX11_init 58 = .ok (.iconst 5, 1) := by decide +kernel
theorem dX11_init_59 : decode cX11_init 59 = .ok (.newarray .int, 2) := by decide +kernel
theorem dX11_init_61 : decode cX11_init 61 = .ok (.dup, 1) := by decide +kernel
theorem dX11_init_62 : decode cX11_init 62 = .ok (.iconst 0, 1) := by decide +kernel
theorem dX11_init_63 : decode cX11_init 63 = .ok (.iconst 1, 1) := by decide +kernel
theorem dX11_init_64 : decode cX11_init 64 = .ok (.iastore, 1) := by decide +kernel
theorem dX11_init_65 : decode cX11_init 65 = .ok (.dup, 1) := by decide +kernel
theorem dX11_init_66 : decode cX11_init 66 = .ok (.iconst 1, 1) := by decide +kernel
theorem dX11_init_67 : decode cX11_init 67 = .ok (.iconst 1, 1) := by decide +kernel
theorem dX11_init_68 : decode cX11_init 68 = .ok (.iastore, 1) := by decide +kernel
theorem dX11_init_69 : decode cX11_init 69 = .ok (.dup, 1) := by decide +kernel
theorem dX11_init_70 : decode cX11_init 70 = .ok (.iconst 2, 1) := by decide +kernel
theorem dX11_init_71 : decode cX11_init 71 = .ok (.iconst 1, 1) := by decide +kernel
theorem dX11_init_72 : decode cX11_init 72 = .ok (.iastore, 1) := by decide +kernel
theorem dX11_init_73 : decode cX11_init 73 = .ok (.dup, 1) := by decide +kernel
theorem dX11_init_74 : decode cX11_init 74 = .ok (.iconst 3, 1) := by decide +kernel
theorem dX11_init_75 : decode cX11_init 75 = .ok (.iconst 1, 1) := by decide +kernel
theorem dX11_init_76 : decode cX11_init 76 = .ok (.iastore, 1) := by decide +kernel
theorem dX11_init_77 : decode cX11_init 77 = .ok (.dup, 1) := by decide +kernel
theorem dX11_init_78 : decode cX11_init 78 = .ok (.iconst 4, 1) := by decide +kernel
theorem dX11_init_79 : decode cX11_init 79 = .ok (.iconst 1, 1) := by decide +kernel
theorem dX11_init_80 : decode cX11_init 80 = .ok (.iastore, 1) := by decide +kernel
theorem dX11_init_81 : decode cX11_init 81 = .ok (.putfield 26, 3) := by decide +kernel
theorem dX11_init_84 : decode cX11_init 84 = .ok (.aload_n 0, 1) := by decide +kernel
theorem dX11_init_85 : decode cX11_init 85 = .ok (.bipush 24, 2) := by decide +kernel
theorem dX11_init_87 : decode cX11_init 87 = .ok (.newarray .int, 2) := by decide +kernel
theorem dX11_init_89 : decode cX11_init 89 = .ok (.putfield 29, 3) := by decide +kernel
theorem dX11_init_92 : decode cX11_init 92 = .ok (.aload_n 0, 1) := by decide +kernel
theorem dX11_init_93 : decode cX11_init 93 = .ok (.iconst 0, 1) := by decide +kernel
theorem dX11_init_94 : decode cX11_init 94 = .ok (.putfield 32, 3) := by decide +kernel
theorem dX11_init_97 : decode cX11_init 97 = .ok (.aload_n 0, 1) := by decide +kernel
theorem dX11_init_98 : decode cX11_init 98 = .ok (.iconst 0, 1) := by decide +kernel
theorem dX11_init_99 : decode cX11_init 99 = .ok (.putfield 35, 3) := by decide +kernel
theorem dX11_init_102 : decode cX11_init 102 = .ok (.aload_n 0, 1) := by decide +kernel
theorem dX11_init_103 : decode cX11_init 103 = .ok (.bipush 17, 2) := by decide +kernel
theorem dX11_init_105 : decode cX11_init 105 = .ok (.newarray .int, 2) := by decide +kernel
theorem dX11_init_107 : decode cX11_init 107 = .ok (.putfield 38, 3) := by decide +kernel
theorem dX11_init_110 : decode cX11_init 110 = .ok (.aload_n 0, 1) := by decide +kernel
theorem dX11_init_111 : decode cX11_init 111 = .ok (.bipush 68, 2) := by decide +kernel
theorem dX11_init_113 : decode cX11_init 113 = .ok (.newarray .int, 2) := by decide +kernel
theorem dX11_init_115 : decode cX11_init 115 = .ok (.putfield 41, 3) := by decide +kernel
theorem dX11_init_118 : decode cX11_init 118 = .ok (.aload_n 0, 1) := by decide +kernel
theorem dX11_init_119 : decode cX11_init 119 = .ok (.bipush 68, 2) := by decide +kernel
theorem dX11_init_121 : decode cX11_init 121 = .ok (.newarray .int, 2) := by decide +kernel
theorem dX11_init_123 : decode cX11_init 123 = .ok (.putfield 44, 3) := by decide +kernel
theorem dX11_init_126 : decode cX11_init 126 = .ok (.aload_n 0, 1) := by decide +kernel
theorem dX11_init_127 : decode cX11_init 127 = .ok (.bipush 68, 2) := by decide +kernel
theorem dX11_init_129 : decode cX11_init 129 = .ok (.newarray .int, 2) := by decide +kernel
theorem dX11_init_131 : decode cX11_init 131 = .ok (.putfield 47, 3) := by decide +kernel
theorem dX11_init_134 : decode cX11_init 134 = .ok (.aload_n 0, 1) := by decide +kernel
theorem dX11_init_135 : decode cX11_init 135 = .ok (.bipush 68, 2) := by decide +kernel
theorem dX11_init_137 : decode cX11_init 137 = .ok (.newarray .int, 2) := by decide +kernel
theorem dX11_init_139 : decode cX11_init 139 = .ok (.putfield 50, 3) := by decide +kernel
theorem dX11_init_142 : decode cX11_init 142 = .ok (.aload_n 0, 1) := by decide +kernel
theorem dX11_init_143 : decode cX11_init 143 = .ok (.iconst 0, 1) := by decide +kernel
theorem dX11_init_144 : decode cX11_init 144 = .ok (.putfield 53, 3) := by decide +kernel
theorem dX11_init_147 : decode cX11_init 147 = .ok (.aload_n 0, 1) := by decide +kernel
theorem dX11_init_148 : decode cX11_init 148 = .ok (.iconst 0, 1) := by decide +kernel
theorem dX11_init_149 : decode cX11_init 149 = .ok (.putfield 57, 3) := by decide +kernel
theorem dX11_init_152 : decode cX11_init 152 = .ok (.aload_n 0, 1) := by decide +kernel
theorem dX11_init_153 : decode cX11_init 153 = .ok (.sipush 256, 3) := by decide +kernel
theorem dX11_init_156 : decode cX11_init 156 = .ok (.newarray .int, 2) := by decide +kernel
theorem dX11_init_158 : decode cX11_init 158 = .ok (.putfield 60, 3) := by decide +kernel
theorem dX11_init_161 : decode cX11_init 161 = .ok (.aload_n 0, 1) := by decide +kernel
theorem dX11_init_162 : decode cX11_init 162 = .ok (.sipush 8192, 3) := by decide +kernel
theorem dX11_init_165 : decode cX11_init 165 = .ok (.newarray .int, 2) := by decide +kernel
theorem dX11_init_167 : decode cX11_init 167 = .ok (.putfield 63, 3) := by decide +kernel
theorem dX11_init_170 : decode cX11_init 170 = .ok (.aload_n 0, 1) := by decide +kernel
theorem dX11_init_171 : decode cX11_init 171 = .ok (.sipush 8192, 3) := by decide +kernel
theorem dX11_init_174 : decode cX11_init 174 = .ok (.newarray .int, 2) := by decide +kernel
theorem dX11_init_176 : decode cX11_init 176 = .ok (.putfield 66, 3) := by decide +kernel
theorem dX11_init_179 : decode cX11_init 179 = .ok (.aload_n 0, 1) := by decide +kernel
theorem dX11_init_180 : decode cX11_init 180 = .ok (.sipush 8192, 3) := by decide +kernel
theorem dX11_init_183 : decode cX11_init 183 = .ok (.newarray .int, 2) := by decide +kernel
theorem dX11_init_185 : decode cX11_init 185 = .ok (.putfield 69, 3) := by decide +kernel
theorem dX11_init_188 : decode cX11_init 188 = .ok (.aload_n 0, 1) := by decide +kernel
theorem dX11_init_189 : decode cX11_init 189 = .ok (.ldc 72, 2) := by decide +kernel
theorem dX11_init_191 : decode cX11_init 191 = .ok (.newarray .int, 2) := by decide +kernel
theorem dX11_init_193 : decode cX11_init 193 = .ok (.putfield 73, 3) := by decide +kernel
theorem dX11_init_196 : decode cX11_init 196 = .ok (.aload_n 0, 1) := by decide +kernel
theorem dX11_init_197 : decode cX11_init 197 = .ok (.ldc 72, 2) := by decide +kernel
theorem dX11_init_199 : decode cX11_init 199 = .ok (.newarray .int, 2) := by decide +kernel
theorem dX11_init_201 : decode cX11_init 201 = .ok (.putfield 76, 3) := by decide +kernel
theorem dX11_init_204 : decode cX11_init 204 = .ok (.aload_n 0, 1) := by decide +kernel
theorem dX11_init_205 : decode cX11_init 205 = .ok (.iconst 4, 1) := by decide +kernel
theorem dX11_init_206 : decode cX11_init 206 = .ok (.newarray .int, 2) := by decide +kernel
theorem dX11_init_208 : decode cX11_init 208 = .ok (.putfield 79, 3) := by decide +kernel
theorem dX11_init_211 : decode cX11_init 211 = .ok (.aload_n 0, 1) := by decide +kernel
theorem dX11_init_212 : decode cX11_init 212 = .ok (.bipush 16, 2) := by decide +kernel
theorem dX11_init_214 : decode cX11_init 214 = .ok (.newarray .int, 2) := by decide +kernel
theorem dX11_init_216 : decode cX11_init 216 = .ok (.putfield 82, 3) := by decide +kernel
theorem dX11_init_219 : decode cX11_init 219 = .ok (.aload_n 0, 1) := by decide +kernel
theorem dX11_init_220 : decode cX11_init 220 = .ok (.sipush 6656, 3) := by decide +kernel
theorem dX11_init_223 : decode cX11_init 223 = .ok (.newarray .int, 2) := by decide +kernel
theorem dX11_init_225 : decode cX11_init 225 = .ok (.putfield 85, 3) := by decide +kernel
theorem dX11_init_228 : decode cX11_init 228 = .ok (.aload_n 0, 1) := by decide +kernel
theorem dX11_init_229 : decode cX11_init 229 = .ok (.ldc 88, 2) := by decide +kernel
theorem dX11_init_231 : decode cX11_init 231 = .ok (.newarray .int, 2) := by decide +kernel
theorem dX11_init_233 : decode cX11_init 233 = .ok (.putfield 89, 3) := by decide +kernel
theorem dX11_init_236 : decode cX11_init 236 = .ok (.aload_n 0, 1) := by decide +kernel
theorem dX11_init_237 : decode cX11_init 237 = .ok (.ldc 88, 2) := by decide +kernel
theorem dX11_init_239 : decode cX11_init 239 = .ok (.newarray .int, 2) := by decide +kernel
theorem dX11_init_241 : decode cX11_init 241 = .ok (.putfield 92, 3) := by decide +kernel
theorem dX11_init_244 : decode cX11_init 244 = .ok (.aload_n 0, 1) := by decide +kernel
theorem dX11_init_245 : decode cX11_init 245 = .ok (.ldc 88, 2) := by decide +kernel
theorem dX11_init_247 : decode cX11_init 247 = .ok (.newarray .int, 2) := by decide +kernel
theorem dX11_init_249 : decode cX11_init 249 = .ok (.putfield 95, 3) := by decide +kernel
theorem dX11_init_252 : decode cX11_init 252 = .ok (.aload_n 0, 1) := by decide +kernel
theorem dX11_init_253 : decode cX11_init 253 = .ok (.bipush 32, 2) := by decide +kernel
theorem dX11_init_255 : decode cX11_init 255 = .ok (.newarray .int, 2) := by decide +kernel
theorem dX11_init_257 : decode cX11_init 257 = .ok (.putfield 98, 3) := by decide +kernel
theorem dX11_init_260 : decode cX11_init 260 = .ok (.aload_n 0, 1) := by decide +kernel
theorem dX11_init_261 : decode cX11_init 261 = .ok (.bipush 16, 2) := by decide +kernel
theorem dX11_init_263 : decode cX11_init 263 = .ok (.newarray .int, 2) := by decide +kernel
theorem dX11_init_265 : decode cX11_init 265 = .ok (.putfield 101, 3) := by decide +kernel
theorem dX11_init_268 : decode cX11_init 268 = .ok (.aload_n 0, 1) := by decide +kernel
theorem dX11_init_269 : decode cX11_init 269 = .ok (.iconst 0, 1) := by decide +kernel
theorem dX11_init_270 : decode cX11_init 270 = .ok (.putfield 104, 3) := by decide +kernel
theorem dX11_init_273 : decode cX11_init 273 = .ok (.aload_n 0, 1) := by decide +kernel
theorem dX11_init_274 : decode cX11_init 274 = .ok (.sipush 512, 3) := by decide +kernel
theorem dX11_init_277 : decode cX11_init 277 = .ok (.newarray .boolean, 2) := by decide +kernel
theorem dX11_init_279 : decode cX11_init 279 = .ok (.putfield 107, 3) := by decide +kernel
theorem dX11_init_282 : decode cX11_init 282 = .ok (.aload_n 0, 1) := by decide +kernel
theorem dX11_init_283 : decode cX11_init 283 = .ok (.bipush 16, 2) := by decide +kernel
theorem dX11_init_285 : decode cX11_init 285 = .ok (.newarray .int, 2) := by decide +kernel
theorem dX11_init_287 : decode cX11_init 287 = .ok (.putfield 111, 3) := by decide +kernel
theorem dX11_init_290 : decode cX11_init 290 = .ok (.aload_n 0, 1) := by decide +kernel
theorem dX11_init_291 : decode cX11_init 291 = .ok (.iconst 0, 1) := by decide +kernel
theorem dX11_init_292 : decode cX11_init 292 = .ok (.putfield 114, 3) := by decide +kernel
theorem dX11_init_295 : decode cX11_init 295 = .ok (.aload_n 0, 1) := by decide +kernel
theorem dX11_init_296 : decode cX11_init 296 = .ok (.iconst 0, 1) := by decide +kernel
theorem dX11_init_297 : decode cX11_init 297 = .ok (.putfield 117, 3) := by decide +kernel
theorem dX11_init_300 : decode cX11_init 300 = .ok (.aload_n 0, 1) := by decide +kernel
theorem dX11_init_301 : decode cX11_init 301 = .ok (.bipush 16, 2) := by decide +kernel
theorem dX11_init_303 : decode cX11_init 303 = .ok (.newarray .int, 2) := by decide +kernel
theorem dX11_init_305 : decode cX11_init 305 = .ok (.putfield 120, 3) := by decide +kernel
theorem dX11_init_308 : decode cX11_init 308 = .ok (.aload_n 0, 1) := by decide +kernel
theorem dX11_init_309 : decode cX11_init 309 = .ok (.iconst 0, 1) := by decide +kernel
theorem dX11_init_310 : decode cX11_init 310 = .ok (.putfield 123, 3) := by decide +kernel
theorem dX11_init_313 : decode cX11_init 313 = .ok (.aload_n 0, 1) := by decide +kernel
theorem dX11_init_314 : decode cX11_init 314 = .ok (.sipush 8192, 3) := by decide +kernel
theorem dX11_init_317 : decode cX11_init 317 = .ok (.newarray .int, 2) := by decide +kernel
theorem dX11_init_319 : decode cX11_init 319 = .ok (.putfield 126, 3) := by decide +kernel
theorem dX11_init_322 : decode cX11_init 322 = .ok (.aload_n 0, 1) := by decide +kernel
theorem dX11_init_323 : decode cX11_init 323 = .ok (.bipush 16, 2) := by decide +kernel
theorem dX11_init_325 : decode cX11_init 325 = .ok (.newarray .int, 2) := by decide +kernel
theorem dX11_init_327 : decode cX11_init 327 = .ok (.putfield 129, 3) := by decide +kernel
theorem dX11_init_330 : decode cX11_init 330 = .ok (.aload_n 0, 1) := by decide +kernel
theorem dX11_init_331 : decode cX11_init 331 = .ok (.iconst 0, 1) := by decide +kernel
theorem dX11_init_332 : decode cX11_init 332 = .ok (.putfield 132, 3) := by decide +kernel
theorem dX11_init_335 : decode cX11_init 335 = .ok (.aload_n 0, 1) := by decide +kernel
theorem dX11_init_336 : decode cX11_init 336 = .ok (.bipush 6, 2) := by decide +kernel
theorem dX11_init_338 : decode cX11_init 338 = .ok (.newarray .int, 2) := by decide +kernel
theorem dX11_init_340 : decode cX11_init 340 = .ok (.putfield 135, 3) := by decide +kernel
theorem dX11_init_343 : decode cX11_init 343 = .ok (.aload_n 0, 1) := by decide +kernel
theorem dX11_init_344 : decode cX11_init 344 = .ok (.sipush 600, 3) := by decide +kernel
theorem dX11_init_347 : decode cX11_init 347 = .ok (.newarray .int, 2) := by decide +kernel
theorem dX11_init_349 : decode cX11_init 349 = .ok (.putfield 138, 3) := by decide +kernel
theorem dX11_init_352 : decode cX11_init 352 = .ok (.aload_n 0, 1) := by decide +kernel
theorem dX11_init_353 : decode cX11_init 353 = .ok (.iconst 0, 1) := by decide +kernel
theorem dX11_init_354 : decode cX11_init 354 = .ok (.putfield 141, 3) := by decide +kernel
theorem dX11_init_357 : decode cX11_init 357 = .ok (.aload_n 0, 1) := by decide +kernel
theorem dX11_init_358 : decode cX11_init 358 = .ok (.bipush 64, 2) := by decide +kernel
theorem dX11_init_360 : decode cX11_init 360 = .ok (.newarray .int, 2) := by decide +kernel
theorem dX11_init_362 : decode cX11_init 362 = .ok (.putfield 144, 3) := by decide +kernel
theorem dX11_init_365 : decode cX11_init 365 = .ok (.aload_n 0, 1) := by decide +kernel
theorem dX11_init_366 : decode cX11_init 366 = .ok (.bipush 64, 2) := by decide +kernel
theorem dX11_init_368 : decode cX11_init 368 = .ok (.newarray .int, 2) := by decide +kernel
theorem dX11_init_370 : decode cX11_init 370 = .ok (.putfield 147, 3) := by decide +kernel
theorem dX11_init_373 : decode cX11_init 373 = .ok (.aload_n 0, 1) := by decide +kernel
theorem dX11_init_374 : decode cX11_init 374 = .ok (.bipush 16, 2) := by decide +kernel
theorem dX11_init_376 : decode cX11_init 376 = .ok (.newarray .int, 2) := by decide +kernel
theorem dX11_init_378 : decode cX11_init 378 = .ok (.putfield 150, 3) := by decide +kernel
theorem dX11_init_381 : decode cX11_init 381 = .ok (.aload_n 0, 1) := by decide +kernel
theorem dX11_init_382 : decode cX11_init 382 = .ok (.iconst 0, 1) := by decide +kernel
theorem dX11_init_383 : decode cX11_init 383 = .ok (.putfield 153, 3) := by decide +kernel
theorem dX11_init_386 : decode cX11_init 386 = .ok (.return_, 1) := by decide +kernel
theorem dX11_in_0 : decode cX11_in 0 = .ok (.iload_n 1, 1) := by decide +kernel
theorem dX11_in_1 : decode cX11_in 1 = .ok (.iload_n 2, 1) := by decide +kernel
theorem dX11_in_2 : decode cX11_in 2 = .ok (.if_icmp .lt 12, 3) := by decide +kernel
theorem dX11_in_5 : decode cX11_in 5 = .ok (.iload_n 1, 1) := by decide +kernel
theorem dX11_in_6 : decode cX11_in 6 = .ok (.iload_n 3, 1) := by decide +kernel
theorem dX11_in_7 : decode cX11_in 7 = .ok (.if_icmp .gt 7, 3) := by decide +kernel
theorem dX11_in_10 : decode cX11_in 10 = .ok (.iconst 1, 1) := by decide +kernel
theorem dX11_in_11 : decode cX11_in 11 = .ok (.goto 4, 3) := by decide +kernel
theorem dX11_in_14 : decode cX11_in 14 = .ok (.iconst 0, 1) := by decide +kernel
theorem dX11_in_15 : decode cX11_in 15 = .ok (.ireturn, 1) := by decide +kernel
theorem dX11_isCourse_0 : decode cX11_isCourse 0 = .ok (.aload_n 0, 1) := by decide +kernel
theorem dX11_isCourse_1 : decode cX11_isCourse 1 = .ok (.iload_n 1, 1) := by decide +kernel
theorem dX11_isCourse_2 : decode cX11_isCourse 2 = .ok (.iconst 0, 1) := by decide +kernel
theorem dX11_isCourse_3 : decode cX11_isCourse 3 = .ok (.aload_n 0, 1) := by decide +kernel
theorem dX11_isCourse_4 : decode cX11_isCourse 4 = .ok (.getfield 7, 3) := by decide +kernel
theorem dX11_isCourse_7 : decode cX11_isCourse 7 = .ok (.iconst 1, 1) := by decide +kernel
theorem dX11_isCourse_8 : decode cX11_isCourse 8 = .ok (.isub, 1) := by decide +kernel
theorem dX11_isCourse_9 : decode cX11_isCourse 9 = .ok (.invokevirtual 156, 3) := by decide +kernel
theorem dX11_isCourse_12 : decode cX11_isCourse 12 = .ok (.ireturn, 1) := by decide +kernel
theorem dX11_isTick_0 : decode cX11_isTick 0 = .ok (.aload_n 0, 1) := by decide +kernel
theorem dX11_isTick_1 : decode cX11_isTick 1 = .ok (.iload_n 1, 1) := by decide +kernel
theorem dX11_isTick_2 : decode cX11_isTick 2 = .ok (.iconst 0, 1) := by decide +kernel
theorem dX11_isTick_3 : decode cX11_isTick 3 = .ok (.aload_n 0, 1) := by decide +kernel
theorem dX11_isTick_4 : decode cX11_isTick 4 = .ok (.getfield 32, 3) := by decide +kernel
theorem dX11_isTick_7 : decode cX11_isTick 7 = .ok (.iconst 1, 1) := by decide +kernel
theorem dX11_isTick_8 : decode cX11_isTick 8 = .ok (.isub, 1) := by decide +kernel
theorem dX11_isTick_9 : decode cX11_isTick 9 = .ok (.invokevirtual 156, 3) := by decide +kernel
theorem dX11_isTick_12 : decode cX11_isTick 12 = .ok (.ireturn, 1) := by decide +kernel
theorem dX11_isNote_0 : decode cX11_isNote 0 = .ok (.aload_n 0, 1) := by decide +kernel
theorem dX11_isNote_1 : decode cX11_isNote 1 = .ok (.iload_n 1, 1) := by decide +kernel
theorem dX11_isNote_2 : decode cX11_isNote 2 = .ok (.invokevirtual 160, 3) := by decide +kernel
theorem dX11_isNote_5 : decode cX11_isNote 5 = .ok (.ifCond .eq 24, 3) := by decide +kernel
theorem dX11_isNote_29 : decode cX11_isNote 29 = .ok (.iconst 0, 1) := by decide +kernel
theorem dX11_isNote_30 : decode cX11_isNote 30 = .ok (.ireturn, 1) := by decide +kernel
theorem dX11_forget_0 : decode cX11_forget 0 = .ok (.aload_n 0, 1) := by decide +kernel
theorem dX11_forget_1 : decode cX11_forget 1 = .ok (.iconst 0, 1) := by decide +kernel
theorem dX11_forget_2 : decode cX11_forget 2 = .ok (.putfield 53, 3) := by decide +kernel
theorem dX11_forget_5 : decode cX11_forget 5 = .ok (.aload_n 0, 1) := by decide +kernel
theorem dX11_forget_6 : decode cX11_forget 6 = .ok (.iconst 0, 1) := by decide +kernel
theorem dX11_forget_7 : decode cX11_forget 7 = .ok (.putfield 57, 3) := by decide +kernel
theorem dX11_forget_10 : decode cX11_forget 10 = .ok (.return_, 1) := by decide +kernel
theorem dX11_course_0 : decode cX11_course 0 = .ok (.aload_n 0, 1) := by decide +kernel
theorem dX11_course_1 : decode cX11_course 1 = .ok (.iload_n 1, 1) := by decide +kernel
theorem dX11_course_2 : decode cX11_course 2 = .ok (.iconst 0, 1) := by decide +kernel
theorem dX11_course_3 : decode cX11_course 3 = .ok (.bipush 99, 2) := by decide +kernel
theorem dX11_course_5 : decode cX11_course 5 = .ok (.invokevirtual 156, 3) := by decide +kernel
theorem dX11_course_8 : decode cX11_course 8 = .ok (.ifCond .eq 14, 3) := by decide +kernel
theorem dX11_course_11 : decode cX11_course 11 = .ok (.aload_n 0, 1) := by decide +kernel
theorem dX11_course_12 : decode cX11_course 12 = .ok (.iload_n 2, 1) := by decide +kernel
theorem dX11_course_13 : decode cX11_course 13 = .ok (.iconst 0, 1) := by decide +kernel
theorem dX11_course_14 : decode cX11_course 14 = .ok (.bipush 12, 2) := by decide +kernel
theorem dX11_course_16 : decode cX11_course 16 = .ok (.invokevirtual 156, 3) := by decide +kernel
theorem dX11_course_19 : decode cX11_course 19 = .ok (.ifCond .ne 6, 3) := by decide +kernel
theorem dX11_course_22 : decode cX11_course 22 = .ok (.bipush (-2), 2) := by decide +kernel
theorem dX11_course_24 : decode cX11_course 24 = .ok (.ireturn, 1) := by decide +kernel
theorem dX11_course_25 : decode cX11_course 25 = .ok (.aload_n 0, 1) := by decide +kernel
theorem dX11_course_26 : decode cX11_course 26 = .ok (.getfield 32, 3) := by decide +kernel
theorem dX11_course_29 : decode cX11_course 29 = .ok (.ifCond .le 6, 3) := by decide +kernel
theorem dX11_course_35 : decode cX11_course 35 = .ok (.aload_n 0, 1) := by decide +kernel
theorem dX11_course_36 : decode cX11_course 36 = .ok (.getfield 7, 3) := by decide +kernel
theorem dX11_course_39 : decode cX11_course 39 = .ok (.bipush 6, 2) := by decide +kernel
theorem dX11_course_41 : decode cX11_course 41 = .ok (.if_icmp .ne 6, 3) := by decide +kernel
theorem dX11_course_47 : decode cX11_course 47 = .ok (.aload_n 0, 1) := by decide +kernel
theorem dX11_course_48 : decode cX11_course 48 = .ok (.getfield 16, 3) := by decide +kernel
theorem dX11_course_51 : decode cX11_course 51 = .ok (.aload_n 0, 1) := by decide +kernel
theorem dX11_course_52 : decode cX11_course 52 = .ok (.getfield 7, 3) := by decide +kernel
theorem dX11_course_55 : decode cX11_course 55 = .ok (.iload_n 1, 1) := by decide +kernel
theorem dX11_course_56 : decode cX11_course 56 = .ok (.iastore, 1) := by decide +kernel
theorem dX11_course_57 : decode cX11_course 57 = .ok (.aload_n 0, 1) := by decide +kernel
theorem dX11_course_58 : decode cX11_course 58 = .ok (.getfield 20, 3) := by decide +kernel
theorem dX11_course_61 : decode cX11_course 61 = .ok (.aload_n 0, 1) := by decide +kernel
theorem dX11_course_62 : decode cX11_course 62 = .ok (.getfield 7, 3) := by decide +kernel
theorem dX11_course_65 : decode cX11_course 65 = .ok (.iload_n 2, 1) := by decide +kernel
theorem dX11_course_66 : decode cX11_course 66 = .ok (.iastore, 1) := by decide +kernel
theorem dX11_course_67 : decode cX11_course 67 = .ok (.iconst 0, 1) := by decide +kernel
theorem dX11_course_68 : decode cX11_course 68 = .ok (.istore_n 3, 1) := by decide +kernel
theorem dX11_course_69 : decode cX11_course 69 = .ok (.iload_n 3, 1) := by decide +kernel
theorem dX11_course_70 : decode cX11_course 70 = .ok (.iconst 4, 1) := by decide +kernel
theorem dX11_course_71 : decode cX11_course 71 = .ok (.if_icmp .ge 24, 3) := by decide +kernel
theorem dX11_course_74 : decode cX11_course 74 = .ok (.aload_n 0, 1) := by decide +kernel
theorem dX11_course_75 : decode cX11_course 75 = .ok (.getfield 29, 3) := by decide +kernel
theorem dX11_course_78 : decode cX11_course 78 = .ok (.bipush 6, 2) := by decide +kernel
theorem dX11_course_80 : decode cX11_course 80 = .ok (.iload_n 3, 1) := by decide +kernel
theorem dX11_course_81 : decode cX11_course 81 = .ok (.imul, 1) := by decide +kernel
theorem dX11_course_82 : decode cX11_course 82 = .ok (.aload_n 0, 1) := by decide +kernel
theorem dX11_course_83 : decode cX11_course 83 = .ok (.getfield 7, 3) := by decide +kernel
theorem dX11_course_86 : decode cX11_course 86 = .ok (.iadd, 1) := by decide +kernel
theorem dX11_course_87 : decode cX11_course 87 = .ok (.iload_n 1, 1) := by decide +kernel
theorem dX11_course_88 : decode cX11_course 88 = .ok (.iastore, 1) := by decide +kernel
theorem dX11_course_89 : decode cX11_course 89 = .ok (.iinc 3 1, 3) := by decide +kernel
theorem dX11_course_92 : decode cX11_course 92 = .ok (.goto (-23), 3) := by decide +kernel
theorem dX11_course_95 : decode cX11_course 95 = .ok (.aload_n 0, 1) := by decide +kernel
theorem dX11_course_96 : decode cX11_course 96 = .ok (.dup, 1) := by decide +kernel
theorem dX11_course_97 : decode cX11_course 97 = .ok (.getfield 7, 3) := by decide +kernel
theorem dX11_course_100 : decode cX11_course 100 = .ok (.iconst 1, 1) := by decide +kernel
theorem dX11_course_101 : decode cX11_course 101 = .ok (.iadd, 1) := by decide +kernel
theorem dX11_course_102 : decode cX11_course 102 = .ok (.putfield 7, 3) := by decide +kernel
theorem dX11_course_105 : decode cX11_course 105 = .ok (.aload_n 0, 1) := by decide +kernel
theorem dX11_course_106 : decode cX11_course 106 = .ok (.invokevirtual 164, 3) := by decide +kernel
theorem dX11_course_109 : decode cX11_course 109 = .ok (.aload_n 0, 1) := by decide +kernel
theorem dX11_course_110 : decode cX11_course 110 = .ok (.getfield 7, 3) := by decide +kernel
theorem dX11_course_113 : decode cX11_course 113 = .ok (.iconst 1, 1) := by decide +kernel
theorem dX11_course_114 : decode cX11_course 114 = .ok (.isub, 1) := by decide +kernel
theorem dX11_course_115 : decode cX11_course 115 = .ok (.ireturn, 1) := by decide +kernel
theorem dX11_tune_0 : decode cX11_tune 0 = .ok (.aload_n 0, 1) := by decide +kernel
theorem dX11_tune_1 : decode cX11_tune 1 = .ok (.iload_n 1, 1) := by decide +kernel
theorem dX11_tune_2 : decode cX11_tune 2 = .ok (.invokevirtual 167, 3) := by decide +kernel
theorem dX11_tune_5 : decode cX11_tune 5 = .ok (.ifCond .ne 5, 3) := by decide +kernel
theorem dX11_tune_8 : decode cX11_tune 8 = .ok (.iconst (-1), 1) := by decide +kernel
theorem dX11_tune_9 : decode cX11_tune 9 = .ok (.ireturn, 1) := by decide +kernel
theorem dX11_slack_0 : decode cX11_slack 0 = .ok (.aload_n 0, 1) := by decide +kernel
theorem dX11_slack_1 : decode cX11_slack 1 = .ok (.iload_n 1, 1) := by decide +kernel
theorem dX11_slack_2 : decode cX11_slack 2 = .ok (.iconst 1, 1) := by decide +kernel
theorem dX11_slack_3 : decode cX11_slack 3 = .ok (.iconst 4, 1) := by decide +kernel
theorem dX11_slack_4 : decode cX11_slack 4 = .ok (.invokevirtual 156, 3) := by decide +kernel
theorem dX11_slack_7 : decode cX11_slack 7 = .ok (.ifCond .ne 5, 3) := by decide +kernel
theorem dX11_slack_10 : decode cX11_slack 10 = .ok (.iconst (-1), 1) := by decide +kernel
theorem dX11_slack_11 : decode cX11_slack 11 = .ok (.ireturn, 1) := by decide +kernel
theorem dX11_slack_12 : decode cX11_slack 12 = .ok (.aload_n 0, 1) := by decide +kernel
theorem dX11_slack_13 : decode cX11_slack 13 = .ok (.iload_n 2, 1) := by decide +kernel
theorem dX11_slack_14 : decode cX11_slack 14 = .ok (.iconst 0, 1) := by decide +kernel
theorem dX11_slack_15 : decode cX11_slack 15 = .ok (.iconst 2, 1) := by decide +kernel
theorem dX11_slack_16 : decode cX11_slack 16 = .ok (.invokevirtual 156, 3) := by decide +kernel
theorem dX11_slack_19 : decode cX11_slack 19 = .ok (.ifCond .ne 6, 3) := by decide +kernel
theorem dX11_slack_22 : decode cX11_slack 22 = .ok (.bipush (-2), 2) := by decide +kernel
theorem dX11_slack_24 : decode cX11_slack 24 = .ok (.ireturn, 1) := by decide +kernel
theorem dX11_slack_25 : decode cX11_slack 25 = .ok (.aload_n 0, 1) := by decide +kernel
theorem dX11_slack_26 : decode cX11_slack 26 = .ok (.getfield 23, 3) := by decide +kernel
theorem dX11_slack_29 : decode cX11_slack 29 = .ok (.iload_n 1, 1) := by decide +kernel
theorem dX11_slack_30 : decode cX11_slack 30 = .ok (.iaload, 1) := by decide +kernel
theorem dX11_slack_31 : decode cX11_slack 31 = .ok (.istore_n 3, 1) := by decide +kernel
theorem dX11_slack_32 : decode cX11_slack 32 = .ok (.aload_n 0, 1) := by decide +kernel
theorem dX11_slack_33 : decode cX11_slack 33 = .ok (.getfield 23, 3) := by decide +kernel
theorem dX11_slack_36 : decode cX11_slack 36 = .ok (.iload_n 1, 1) := by decide +kernel
theorem dX11_slack_37 : decode cX11_slack 37 = .ok (.iload_n 2, 1) := by decide +kernel
theorem dX11_slack_38 : decode cX11_slack 38 = .ok (.iastore, 1) := by decide +kernel
theorem dX11_slack_39 : decode cX11_slack 39 = .ok (.aload_n 0, 1) := by decide +kernel
theorem dX11_slack_40 : decode cX11_slack 40 = .ok (.invokevirtual 164, 3) := by decide +kernel
theorem dX11_slack_43 : decode cX11_slack 43 = .ok (.iload_n 3, 1) := by decide +kernel
theorem dX11_slack_44 : decode cX11_slack 44 = .ok (.ireturn, 1) := by decide +kernel
theorem dX11_bars_0 : decode cX11_bars 0 = .ok (.aload_n 0, 1) := by decide +kernel
theorem dX11_bars_1 : decode cX11_bars 1 = .ok (.iload_n 1, 1) := by decide +kernel
theorem dX11_bars_2 : decode cX11_bars 2 = .ok (.iconst 0, 1) := by decide +kernel
theorem dX11_bars_3 : decode cX11_bars 3 = .ok (.iconst 1, 1) := by decide +kernel
theorem dX11_bars_4 : decode cX11_bars 4 = .ok (.invokevirtual 156, 3) := by decide +kernel
theorem dX11_bars_7 : decode cX11_bars 7 = .ok (.ifCond .ne 6, 3) := by decide +kernel
theorem dX11_bars_10 : decode cX11_bars 10 = .ok (.bipush (-2), 2) := by decide +kernel
theorem dX11_bars_12 : decode cX11_bars 12 = .ok (.ireturn, 1) := by decide +kernel
theorem dX11_bars_13 : decode cX11_bars 13 = .ok (.aload_n 0, 1) := by decide +kernel
theorem dX11_bars_14 : decode cX11_bars 14 = .ok (.getfield 13, 3) := by decide +kernel
theorem dX11_bars_17 : decode cX11_bars 17 = .ok (.istore_n 2, 1) := by decide +kernel
theorem dX11_bars_18 : decode cX11_bars 18 = .ok (.aload_n 0, 1) := by decide +kernel
theorem dX11_bars_19 : decode cX11_bars 19 = .ok (.iload_n 1, 1) := by decide +kernel
theorem dX11_bars_20 : decode cX11_bars 20 = .ok (.putfield 13, 3) := by decide +kernel
theorem dX11_bars_23 : decode cX11_bars 23 = .ok (.aload_n 0, 1) := by decide +kernel
theorem dX11_bars_24 : decode cX11_bars 24 = .ok (.invokevirtual 164, 3) := by decide +kernel
theorem dX11_bars_27 : decode cX11_bars 27 = .ok (.iload_n 2, 1) := by decide +kernel
theorem dX11_bars_28 : decode cX11_bars 28 = .ok (.ireturn, 1) := by decide +kernel
theorem dX11_weight_0 : decode cX11_weight 0 = .ok (.aload_n 0, 1) := by decide +kernel
theorem dX11_weight_1 : decode cX11_weight 1 = .ok (.iload_n 1, 1) := by decide +kernel
theorem dX11_weight_2 : decode cX11_weight 2 = .ok (.iconst 0, 1) := by decide +kernel
theorem dX11_weight_3 : decode cX11_weight 3 = .ok (.iconst 4, 1) := by decide +kernel
theorem dX11_weight_4 : decode cX11_weight 4 = .ok (.invokevirtual 156, 3) := by decide +kernel
theorem dX11_weight_7 : decode cX11_weight 7 = .ok (.ifCond .ne 5, 3) := by decide +kernel
theorem dX11_weight_10 : decode cX11_weight 10 = .ok (.iconst (-1), 1) := by decide +kernel
theorem dX11_weight_11 : decode cX11_weight 11 = .ok (.ireturn, 1) := by decide +kernel
theorem dX11_weight_12 : decode cX11_weight 12 = .ok (.aload_n 0, 1) := by decide +kernel
theorem dX11_weight_13 : decode cX11_weight 13 = .ok (.iload_n 2, 1) := by decide +kernel
theorem dX11_weight_14 : decode cX11_weight 14 = .ok (.iconst 0, 1) := by decide +kernel
theorem dX11_weight_15 : decode cX11_weight 15 = .ok (.bipush 9, 2) := by decide +kernel
theorem dX11_weight_17 : decode cX11_weight 17 = .ok (.invokevirtual 156, 3) := by decide +kernel
theorem dX11_weight_20 : decode cX11_weight 20 = .ok (.ifCond .ne 6, 3) := by decide +kernel
theorem dX11_weight_23 : decode cX11_weight 23 = .ok (.bipush (-2), 2) := by decide +kernel
theorem dX11_weight_25 : decode cX11_weight 25 = .ok (.ireturn, 1) := by decide +kernel
theorem dX11_weight_26 : decode cX11_weight 26 = .ok (.aload_n 0, 1) := by decide +kernel
theorem dX11_weight_27 : decode cX11_weight 27 = .ok (.getfield 26, 3) := by decide +kernel
theorem dX11_weight_30 : decode cX11_weight 30 = .ok (.iload_n 1, 1) := by decide +kernel
theorem dX11_weight_31 : decode cX11_weight 31 = .ok (.iaload, 1) := by decide +kernel
theorem dX11_weight_32 : decode cX11_weight 32 = .ok (.istore_n 3, 1) := by decide +kernel
theorem dX11_weight_33 : decode cX11_weight 33 = .ok (.aload_n 0, 1) := by decide +kernel
theorem dX11_weight_34 : decode cX11_weight 34 = .ok (.getfield 26, 3) := by decide +kernel
theorem dX11_weight_37 : decode cX11_weight 37 = .ok (.iload_n 1, 1) := by decide +kernel
theorem dX11_weight_38 : decode cX11_weight 38 = .ok (.iload_n 2, 1) := by decide +kernel
theorem dX11_weight_39 : decode cX11_weight 39 = .ok (.iastore, 1) := by decide +kernel
theorem dX11_weight_40 : decode cX11_weight 40 = .ok (.aload_n 0, 1) := by decide +kernel
theorem dX11_weight_41 : decode cX11_weight 41 = .ok (.invokevirtual 164, 3) := by decide +kernel
theorem dX11_weight_44 : decode cX11_weight 44 = .ok (.iload_n 3, 1) := by decide +kernel
theorem dX11_weight_45 : decode cX11_weight 45 = .ok (.ireturn, 1) := by decide +kernel
theorem dX11_spot_0 : decode cX11_spot 0 = .ok (.iconst 4, 1) := by decide +kernel
theorem dX11_spot_1 : decode cX11_spot 1 = .ok (.iload_n 1, 1) := by decide +kernel
theorem dX11_spot_2 : decode cX11_spot 2 = .ok (.imul, 1) := by decide +kernel
theorem dX11_spot_3 : decode cX11_spot 3 = .ok (.iload_n 2, 1) := by decide +kernel
theorem dX11_spot_4 : decode cX11_spot 4 = .ok (.iadd, 1) := by decide +kernel
theorem dX11_spot_5 : decode cX11_spot 5 = .ok (.ireturn, 1) := by decide +kernel
theorem dX11_note_0 : decode cX11_note 0 = .ok (.aload_n 0, 1) := by decide +kernel
theorem dX11_note_1 : decode cX11_note 1 = .ok (.iload_n 1, 1) := by decide +kernel
theorem dX11_note_2 : decode cX11_note 2 = .ok (.iconst 0, 1) := by decide +kernel
theorem dX11_note_3 : decode cX11_note 3 = .ok (.bipush 120, 2) := by decide +kernel
theorem dX11_note_5 : decode cX11_note 5 = .ok (.invokevirtual 156, 3) := by decide +kernel
theorem dX11_note_8 : decode cX11_note 8 = .ok (.ifCond .eq 24, 3) := by decide +kernel
theorem dX11_note_11 : decode cX11_note 11 = .ok (.aload_n 0, 1) := by decide +kernel
theorem dX11_note_12 : decode cX11_note 12 = .ok (.iload_n 2, 1) := by decide +kernel
theorem dX11_note_13 : decode cX11_note 13 = .ok (.iconst 0, 1) := by decide +kernel
theorem dX11_note_14 : decode cX11_note 14 = .ok (.iconst 3, 1) := by decide +kernel
theorem dX11_note_15 : decode cX11_note 15 = .ok (.invokevirtual 156, 3) := by decide +kernel
theorem dX11_note_18 : decode cX11_note 18 = .ok (.ifCond .eq 14, 3) := by decide +kernel
theorem dX11_note_21 : decode cX11_note 21 = .ok (.aload_n 0, 1) := by decide +kernel
theorem dX11_note_22 : decode cX11_note 22 = .ok (.iload_n 3, 1) := by decide +kernel
theorem dX11_note_23 : decode cX11_note 23 = .ok (.iconst 0, 1) := by decide +kernel
theorem dX11_note_24 : decode cX11_note 24 = .ok (.bipush 100, 2) := by decide +kernel
theorem dX11_note_26 : decode cX11_note 26 = .ok (.invokevirtual 156, 3) := by decide +kernel
theorem dX11_note_29 : decode cX11_note 29 = .ok (.ifCond .ne 6, 3) := by decide +kernel
theorem dX11_note_32 : decode cX11_note 32 = .ok (.bipush (-2), 2) := by decide +kernel
theorem dX11_note_34 : decode cX11_note 34 = .ok (.ireturn, 1) := by decide +kernel
theorem dX11_note_35 : decode cX11_note 35 = .ok (.iconst 0, 1) := by decide +kernel
theorem dX11_note_36 : decode cX11_note 36 = .ok (.istore 4, 2) := by decide +kernel
theorem dX11_note_38 : decode cX11_note 38 = .ok (.iload 4, 2) := by decide +kernel
theorem dX11_note_40 : decode cX11_note 40 = .ok (.aload_n 0, 1) := by decide +kernel
theorem dX11_note_41 : decode cX11_note 41 = .ok (.getfield 35, 3) := by decide +kernel
theorem dX11_note_44 : decode cX11_note 44 = .ok (.if_icmp .ge 31, 3) := by decide +kernel
theorem dX11_note_75 : decode cX11_note 75 = .ok (.iload_n 2, 1) := by decide +kernel
theorem dX11_note_76 : decode cX11_note 76 = .ok (.iconst 1, 1) := by decide +kernel
theorem dX11_note_77 : decode cX11_note 77 = .ok (.if_icmp .ne 24, 3) := by decide +kernel
theorem dX11_note_80 : decode cX11_note 80 = .ok (.aload_n 0, 1) := by decide +kernel
theorem dX11_note_81 : decode cX11_note 81 = .ok (.getfield 32, 3) := by decide +kernel
theorem dX11_note_84 : decode cX11_note 84 = .ok (.ifCond .eq 43, 3) := by decide +kernel
theorem dX11_note_101 : decode cX11_note 101 = .ok (.iload_n 2, 1) := by decide +kernel
theorem dX11_note_102 : decode cX11_note 102 = .ok (.iconst 2, 1) := by decide +kernel
theorem dX11_note_103 : decode cX11_note 103 = .ok (.if_icmp .ne 27, 3) := by decide +kernel
theorem dX11_note_106 : decode cX11_note 106 = .ok (.aload_n 0, 1) := by decide +kernel
theorem dX11_note_107 : decode cX11_note 107 = .ok (.getfield 32, 3) := by decide +kernel
theorem dX11_note_110 : decode cX11_note 110 = .ok (.ifCond .eq 17, 3) := by decide +kernel
theorem dX11_note_127 : decode cX11_note 127 = .ok (.bipush (-3), 2) := by decide +kernel
theorem dX11_note_129 : decode cX11_note 129 = .ok (.ireturn, 1) := by decide +kernel
theorem dX11_note_130 : decode cX11_note 130 = .ok (.aload_n 0, 1) := by decide +kernel
theorem dX11_note_131 : decode cX11_note 131 = .ok (.getfield 35, 3) := by decide +kernel
theorem dX11_note_134 : decode cX11_note 134 = .ok (.iconst 4, 1) := by decide +kernel
theorem dX11_note_135 : decode cX11_note 135 = .ok (.if_icmp .ne 6, 3) := by decide +kernel
theorem dX11_note_141 : decode cX11_note 141 = .ok (.aload_n 0, 1) := by decide +kernel
theorem dX11_note_142 : decode cX11_note 142 = .ok (.aload_n 0, 1) := by decide +kernel
theorem dX11_note_143 : decode cX11_note 143 = .ok (.getfield 32, 3) := by decide +kernel
theorem dX11_note_146 : decode cX11_note 146 = .ok (.aload_n 0, 1) := by decide +kernel
theorem dX11_note_147 : decode cX11_note 147 = .ok (.getfield 35, 3) := by decide +kernel
theorem dX11_note_150 : decode cX11_note 150 = .ok (.invokevirtual 170, 3) := by decide +kernel
theorem dX11_note_153 : decode cX11_note 153 = .ok (.istore 4, 2) := by decide +kernel
theorem dX11_note_155 : decode cX11_note 155 = .ok (.aload_n 0, 1) := by decide +kernel
theorem dX11_note_156 : decode cX11_note 156 = .ok (.getfield 41, 3) := by decide +kernel
theorem dX11_note_159 : decode cX11_note 159 = .ok (.iload 4, 2) := by decide +kernel
theorem dX11_note_161 : decode cX11_note 161 = .ok (.iload_n 1, 1) := by decide +kernel
theorem dX11_note_162 : decode cX11_note 162 = .ok (.iastore, 1) := by decide +kernel
theorem dX11_note_163 : decode cX11_note 163 = .ok (.aload_n 0, 1) := by decide +kernel
theorem dX11_note_164 : decode cX11_note 164 = .ok (.getfield 44, 3) := by decide +kernel
theorem dX11_note_167 : decode cX11_note 167 = .ok (.iload 4, 2) := by decide +kernel
theorem dX11_note_169 : decode cX11_note 169 = .ok (.iload_n 2, 1) := by decide +kernel
theorem dX11_note_170 : decode cX11_note 170 = .ok (.iastore, 1) := by decide +kernel
theorem dX11_note_171 : decode cX11_note 171 = .ok (.aload_n 0, 1) := by decide +kernel
theorem dX11_note_172 : decode cX11_note 172 = .ok (.getfield 47, 3) := by decide +kernel
theorem dX11_note_175 : decode cX11_note 175 = .ok (.iload 4, 2) := by decide +kernel
theorem dX11_note_177 : decode cX11_note 177 = .ok (.iload_n 3, 1) := by decide +kernel
theorem dX11_note_178 : decode cX11_note 178 = .ok (.iastore, 1) := by decide +kernel
theorem dX11_note_179 : decode cX11_note 179 = .ok (.aload_n 0, 1) := by decide +kernel
theorem dX11_note_180 : decode cX11_note 180 = .ok (.getfield 50, 3) := by decide +kernel
theorem dX11_note_183 : decode cX11_note 183 = .ok (.iload 4, 2) := by decide +kernel
theorem dX11_note_185 : decode cX11_note 185 = .ok (.iconst (-1), 1) := by decide +kernel
theorem dX11_note_186 : decode cX11_note 186 = .ok (.iastore, 1) := by decide +kernel
theorem dX11_note_187 : decode cX11_note 187 = .ok (.aload_n 0, 1) := by decide +kernel
theorem dX11_note_188 : decode cX11_note 188 = .ok (.dup, 1) := by decide +kernel
theorem dX11_note_189 : decode cX11_note 189 = .ok (.getfield 35, 3) := by decide +kernel
theorem dX11_note_192 : decode cX11_note 192 = .ok (.iconst 1, 1) := by decide +kernel
theorem dX11_note_193 : decode cX11_note 193 = .ok (.iadd, 1) := by decide +kernel
theorem dX11_note_194 : decode cX11_note 194 = .ok (.putfield 35, 3) := by decide +kernel
theorem dX11_note_197 : decode cX11_note 197 = .ok (.aload_n 0, 1) := by decide +kernel
theorem dX11_note_198 : decode cX11_note 198 = .ok (.getfield 35, 3) := by decide +kernel
theorem dX11_note_201 : decode cX11_note 201 = .ok (.ireturn, 1) := by decide +kernel
theorem dX11_tick_0 : decode cX11_tick 0 = .ok (.aload_n 0, 1) := by decide +kernel
theorem dX11_tick_1 : decode cX11_tick 1 = .ok (.getfield 7, 3) := by decide +kernel
theorem dX11_tick_4 : decode cX11_tick 4 = .ok (.ifCond .ne 6, 3) := by decide +kernel
theorem dX11_tick_7 : decode cX11_tick 7 = .ok (.bipush (-3), 2) := by decide +kernel
theorem dX11_tick_9 : decode cX11_tick 9 = .ok (.ireturn, 1) := by decide +kernel
theorem dX11_clear_0 : decode cX11_clear 0 = .ok (.aload_n 0, 1) := by decide +kernel
theorem dX11_clear_1 : decode cX11_clear 1 = .ok (.getfield 32, 3) := by decide +kernel
theorem dX11_clear_4 : decode cX11_clear 4 = .ok (.istore_n 1, 1) := by decide +kernel
theorem dX11_clear_5 : decode cX11_clear 5 = .ok (.aload_n 0, 1) := by decide +kernel
theorem dX11_clear_6 : decode cX11_clear 6 = .ok (.iconst 0, 1) := by decide +kernel
theorem dX11_clear_7 : decode cX11_clear 7 = .ok (.putfield 32, 3) := by decide +kernel
theorem dX11_clear_10 : decode cX11_clear 10 = .ok (.aload_n 0, 1) := by decide +kernel
theorem dX11_clear_11 : decode cX11_clear 11 = .ok (.iconst 0, 1) := by decide +kernel
theorem dX11_clear_12 : decode cX11_clear 12 = .ok (.putfield 35, 3) := by decide +kernel
theorem dX11_clear_15 : decode cX11_clear 15 = .ok (.aload_n 0, 1) := by decide +kernel
theorem dX11_clear_16 : decode cX11_clear 16 = .ok (.invokevirtual 164, 3) := by decide +kernel
theorem dX11_clear_19 : decode cX11_clear 19 = .ok (.iload_n 1, 1) := by decide +kernel
theorem dX11_clear_20 : decode cX11_clear 20 = .ok (.ireturn, 1) := by decide +kernel
theorem dX11_fix_0 : decode cX11_fix 0 = .ok (.aload_n 0, 1) := by decide +kernel
theorem dX11_fix_1 : decode cX11_fix 1 = .ok (.iload_n 1, 1) := by decide +kernel
theorem dX11_fix_2 : decode cX11_fix 2 = .ok (.iload_n 2, 1) := by decide +kernel
theorem dX11_fix_3 : decode cX11_fix 3 = .ok (.invokevirtual 177, 3) := by decide +kernel
theorem dX11_fix_6 : decode cX11_fix 6 = .ok (.ifCond .eq 16, 3) := by decide +kernel
theorem dX11_fix_22 : decode cX11_fix 22 = .ok (.iconst (-1), 1) := by decide +kernel
theorem dX11_fix_23 : decode cX11_fix 23 = .ok (.ireturn, 1) := by decide +kernel
theorem dX11_told_0 : decode cX11_told 0 = .ok (.aload_n 0, 1) := by decide +kernel
theorem dX11_told_1 : decode cX11_told 1 = .ok (.iload_n 1, 1) := by decide +kernel
theorem dX11_told_2 : decode cX11_told 2 = .ok (.iload_n 2, 1) := by decide +kernel
theorem dX11_told_3 : decode cX11_told 3 = .ok (.invokevirtual 177, 3) := by decide +kernel
theorem dX11_told_6 : decode cX11_told 6 = .ok (.ifCond .ne 5, 3) := by decide +kernel
theorem dX11_told_9 : decode cX11_told 9 = .ok (.iconst (-1), 1) := by decide +kernel
theorem dX11_told_10 : decode cX11_told 10 = .ok (.ireturn, 1) := by decide +kernel
theorem dX11_grips_0 : decode cX11_grips 0 = .ok (.aload_n 0, 1) := by decide +kernel
theorem dX11_grips_1 : decode cX11_grips 1 = .ok (.iload_n 1, 1) := by decide +kernel
theorem dX11_grips_2 : decode cX11_grips 2 = .ok (.invokevirtual 160, 3) := by decide +kernel
theorem dX11_grips_5 : decode cX11_grips 5 = .ok (.ifCond .ne 5, 3) := by decide +kernel
theorem dX11_grips_8 : decode cX11_grips 8 = .ok (.iconst (-1), 1) := by decide +kernel
theorem dX11_grips_9 : decode cX11_grips 9 = .ok (.ireturn, 1) := by decide +kernel
theorem dX11_grip_0 : decode cX11_grip 0 = .ok (.aload_n 0, 1) := by decide +kernel
theorem dX11_grip_1 : decode cX11_grip 1 = .ok (.iload_n 1, 1) := by decide +kernel
theorem dX11_grip_2 : decode cX11_grip 2 = .ok (.invokevirtual 160, 3) := by decide +kernel
theorem dX11_grip_5 : decode cX11_grip 5 = .ok (.ifCond .eq 31, 3) := by decide +kernel
theorem dX11_grip_36 : decode cX11_grip 36 = .ok (.iconst (-1), 1) := by decide +kernel
theorem dX11_grip_37 : decode cX11_grip 37 = .ok (.ireturn, 1) := by decide +kernel
theorem dX11_why_0 : decode cX11_why 0 = .ok (.aload_n 0, 1) := by decide +kernel
theorem dX11_why_1 : decode cX11_why 1 = .ok (.iload_n 1, 1) := by decide +kernel
theorem dX11_why_2 : decode cX11_why 2 = .ok (.invokevirtual 160, 3) := by decide +kernel
theorem dX11_why_5 : decode cX11_why 5 = .ok (.ifCond .ne 5, 3) := by decide +kernel
theorem dX11_why_8 : decode cX11_why 8 = .ok (.iconst (-1), 1) := by decide +kernel
theorem dX11_why_9 : decode cX11_why 9 = .ok (.ireturn, 1) := by decide +kernel
theorem dX11_way_0 : decode cX11_way 0 = .ok (.aload_n 0, 1) := by decide +kernel
theorem dX11_way_1 : decode cX11_way 1 = .ok (.getfield 32, 3) := by decide +kernel
theorem dX11_way_4 : decode cX11_way 4 = .ok (.ifCond .ne 6, 3) := by decide +kernel
theorem dX11_way_7 : decode cX11_way 7 = .ok (.bipush (-3), 2) := by decide +kernel
theorem dX11_way_9 : decode cX11_way 9 = .ok (.ireturn, 1) := by decide +kernel
theorem dX11_next_0 : decode cX11_next 0 = .ok (.aload_n 0, 1) := by decide +kernel
theorem dX11_next_1 : decode cX11_next 1 = .ok (.getfield 53, 3) := by decide +kernel
theorem dX11_next_4 : decode cX11_next 4 = .ok (.ifCond .eq 12, 3) := by decide +kernel
theorem dX11_next_16 : decode cX11_next 16 = .ok (.bipush (-3), 2) := by decide +kernel
theorem dX11_next_18 : decode cX11_next 18 = .ok (.ireturn, 1) := by decide +kernel
theorem dX11_at_0 : decode cX11_at 0 = .ok (.aload_n 0, 1) := by decide +kernel
theorem dX11_at_1 : decode cX11_at 1 = .ok (.getfield 53, 3) := by decide +kernel
theorem dX11_at_4 : decode cX11_at 4 = .ok (.ifCond .eq 20, 3) := by decide +kernel
theorem dX11_at_24 : decode cX11_at 24 = .ok (.iconst (-1), 1) := by decide +kernel
theorem dX11_at_25 : decode cX11_at 25 = .ok (.ireturn, 1) := by decide +kernel
theorem dX11_rank_0 : decode cX11_rank 0 = .ok (.aload_n 0, 1) := by decide +kernel
theorem dX11_rank_1 : decode cX11_rank 1 = .ok (.getfield 53, 3) := by decide +kernel
theorem dX11_rank_4 : decode cX11_rank 4 = .ok (.ifCond .ne 6, 3) := by decide +kernel
theorem dX11_rank_7 : decode cX11_rank 7 = .ok (.bipush (-3), 2) := by decide +kernel
theorem dX11_rank_9 : decode cX11_rank 9 = .ok (.ireturn, 1) := by decide +kernel
theorem dX11_say_0 : decode cX11_say 0 = .ok (.iload_n 1, 1) := by decide +kernel
theorem dX11_say_1 : decode cX11_say 1 = .ok (.ifCond .ge 6, 3) := by decide +kernel
theorem dX11_say_4 : decode cX11_say 4 = .ok (.bipush (-2), 2) := by decide +kernel
theorem dX11_say_6 : decode cX11_say 6 = .ok (.ireturn, 1) := by decide +kernel
theorem dX11_say_7 : decode cX11_say 7 = .ok (.aload_n 0, 1) := by decide +kernel
theorem dX11_say_8 : decode cX11_say 8 = .ok (.getfield 123, 3) := by decide +kernel
theorem dX11_say_11 : decode cX11_say 11 = .ok (.bipush 16, 2) := by decide +kernel
theorem dX11_say_13 : decode cX11_say 13 = .ok (.if_icmp .ne 6, 3) := by decide +kernel
theorem dX11_say_19 : decode cX11_say 19 = .ok (.aload_n 0, 1) := by decide +kernel
theorem dX11_say_20 : decode cX11_say 20 = .ok (.getfield 120, 3) := by decide +kernel
theorem dX11_say_23 : decode cX11_say 23 = .ok (.aload_n 0, 1) := by decide +kernel
theorem dX11_say_24 : decode cX11_say 24 = .ok (.getfield 123, 3) := by decide +kernel
theorem dX11_say_27 : decode cX11_say 27 = .ok (.iload_n 1, 1) := by decide +kernel
theorem dX11_say_28 : decode cX11_say 28 = .ok (.iastore, 1) := by decide +kernel
theorem dX11_say_29 : decode cX11_say 29 = .ok (.aload_n 0, 1) := by decide +kernel
theorem dX11_say_30 : decode cX11_say 30 = .ok (.dup, 1) := by decide +kernel
theorem dX11_say_31 : decode cX11_say 31 = .ok (.getfield 123, 3) := by decide +kernel
theorem dX11_say_34 : decode cX11_say 34 = .ok (.iconst 1, 1) := by decide +kernel
theorem dX11_say_35 : decode cX11_say 35 = .ok (.iadd, 1) := by decide +kernel
theorem dX11_say_36 : decode cX11_say 36 = .ok (.putfield 123, 3) := by decide +kernel
theorem dX11_say_39 : decode cX11_say 39 = .ok (.aload_n 0, 1) := by decide +kernel
theorem dX11_say_40 : decode cX11_say 40 = .ok (.getfield 123, 3) := by decide +kernel
theorem dX11_say_43 : decode cX11_say 43 = .ok (.ireturn, 1) := by decide +kernel
theorem dX11_check_0 : decode cX11_check 0 = .ok (.aload_n 0, 1) := by decide +kernel
theorem dX11_check_1 : decode cX11_check 1 = .ok (.getfield 32, 3) := by decide +kernel
theorem dX11_check_4 : decode cX11_check 4 = .ok (.ifCond .ne 6, 3) := by decide +kernel
theorem dX11_check_7 : decode cX11_check 7 = .ok (.bipush (-3), 2) := by decide +kernel
theorem dX11_check_9 : decode cX11_check 9 = .ok (.ireturn, 1) := by decide +kernel
theorem dX11_arrange_0 : decode cX11_arrange 0 = .ok (.aload_n 0, 1) := by decide +kernel
theorem dX11_arrange_1 : decode cX11_arrange 1 = .ok (.getfield 32, 3) := by decide +kernel
theorem dX11_arrange_4 : decode cX11_arrange 4 = .ok (.ifCond .ne 6, 3) := by decide +kernel
theorem dX11_arrange_7 : decode cX11_arrange 7 = .ok (.bipush (-3), 2) := by decide +kernel
theorem dX11_arrange_9 : decode cX11_arrange 9 = .ok (.ireturn, 1) := by decide +kernel
theorem dX11_left_0 : decode cX11_left 0 = .ok (.aload_n 0, 1) := by decide +kernel
theorem dX11_left_1 : decode cX11_left 1 = .ok (.getfield 57, 3) := by decide +kernel
theorem dX11_left_4 : decode cX11_left 4 = .ok (.ifCond .eq 20, 3) := by decide +kernel
theorem dX11_left_24 : decode cX11_left 24 = .ok (.iconst (-1), 1) := by decide +kernel
theorem dX11_left_25 : decode cX11_left 25 = .ok (.ireturn, 1) := by decide +kernel
theorem dX11_rest_0 : decode cX11_rest 0 = .ok (.aload_n 0, 1) := by decide +kernel
theorem dX11_rest_1 : decode cX11_rest 1 = .ok (.getfield 57, 3) := by decide +kernel
theorem dX11_rest_4 : decode cX11_rest 4 = .ok (.ifCond .eq 10, 3) := by decide +kernel
theorem dX11_rest_14 : decode cX11_rest 14 = .ok (.iconst (-1), 1) := by decide +kernel
theorem dX11_rest_15 : decode cX11_rest 15 = .ok (.ireturn, 1) := by decide +kernel
theorem dX11_tuning_0 : decode cX11_tuning 0 = .ok (.aload_n 0, 1) := by decide +kernel
theorem dX11_tuning_1 : decode cX11_tuning 1 = .ok (.iload_n 1, 1) := by decide +kernel
theorem dX11_tuning_2 : decode cX11_tuning 2 = .ok (.iconst 0, 1) := by decide +kernel
theorem dX11_tuning_3 : decode cX11_tuning 3 = .ok (.iconst 3, 1) := by decide +kernel
theorem dX11_tuning_4 : decode cX11_tuning 4 = .ok (.invokevirtual 156, 3) := by decide +kernel
theorem dX11_tuning_7 : decode cX11_tuning 7 = .ok (.ifCond .eq 11, 3) := by decide +kernel
theorem dX11_tuning_10 : decode cX11_tuning 10 = .ok (.aload_n 0, 1) := by decide +kernel
theorem dX11_tuning_11 : decode cX11_tuning 11 = .ok (.iload_n 2, 1) := by decide +kernel
theorem dX11_tuning_12 : decode cX11_tuning 12 = .ok (.invokevirtual 167, 3) := by decide +kernel
theorem dX11_tuning_15 : decode cX11_tuning 15 = .ok (.ifCond .ne 5, 3) := by decide +kernel
theorem dX11_tuning_18 : decode cX11_tuning 18 = .ok (.iconst (-1), 1) := by decide +kernel
theorem dX11_tuning_19 : decode cX11_tuning 19 = .ok (.ireturn, 1) := by decide +kernel
theorem dX11_choose_0 : decode cX11_choose 0 = .ok (.aload_n 0, 1) := by decide +kernel
theorem dX11_choose_1 : decode cX11_choose 1 = .ok (.getfield 32, 3) := by decide +kernel
theorem dX11_choose_4 : decode cX11_choose 4 = .ok (.ifCond .ne 6, 3) := by decide +kernel
theorem dX11_choose_7 : decode cX11_choose 7 = .ok (.bipush (-3), 2) := by decide +kernel
theorem dX11_choose_9 : decode cX11_choose 9 = .ok (.ireturn, 1) := by decide +kernel
theorem dX11_feed_0 : decode cX11_feed 0 = .ok (.aload_n 0, 1) := by decide +kernel
theorem dX11_feed_1 : decode cX11_feed 1 = .ok (.iload_n 1, 1) := by decide +kernel
theorem dX11_feed_2 : decode cX11_feed 2 = .ok (.iconst 0, 1) := by decide +kernel
theorem dX11_feed_3 : decode cX11_feed 3 = .ok (.sipush 255, 3) := by decide +kernel
theorem dX11_feed_6 : decode cX11_feed 6 = .ok (.invokevirtual 156, 3) := by decide +kernel
theorem dX11_feed_9 : decode cX11_feed 9 = .ok (.ifCond .ne 6, 3) := by decide +kernel
theorem dX11_feed_12 : decode cX11_feed 12 = .ok (.bipush (-2), 2) := by decide +kernel
theorem dX11_feed_14 : decode cX11_feed 14 = .ok (.ireturn, 1) := by decide +kernel
theorem dX11_feed_15 : decode cX11_feed 15 = .ok (.aload_n 0, 1) := by decide +kernel
theorem dX11_feed_16 : decode cX11_feed 16 = .ok (.getfield 141, 3) := by decide +kernel
theorem dX11_feed_19 : decode cX11_feed 19 = .ok (.sipush 600, 3) := by decide +kernel
theorem dX11_feed_22 : decode cX11_feed 22 = .ok (.if_icmp .ne 6, 3) := by decide +kernel
theorem dX11_feed_28 : decode cX11_feed 28 = .ok (.aload_n 0, 1) := by decide +kernel
theorem dX11_feed_29 : decode cX11_feed 29 = .ok (.getfield 138, 3) := by decide +kernel
theorem dX11_feed_32 : decode cX11_feed 32 = .ok (.aload_n 0, 1) := by decide +kernel
theorem dX11_feed_33 : decode cX11_feed 33 = .ok (.getfield 141, 3) := by decide +kernel
theorem dX11_feed_36 : decode cX11_feed 36 = .ok (.iload_n 1, 1) := by decide +kernel
theorem dX11_feed_37 : decode cX11_feed 37 = .ok (.iastore, 1) := by decide +kernel
theorem dX11_feed_38 : decode cX11_feed 38 = .ok (.aload_n 0, 1) := by decide +kernel
theorem dX11_feed_39 : decode cX11_feed 39 = .ok (.dup, 1) := by decide +kernel
theorem dX11_feed_40 : decode cX11_feed 40 = .ok (.getfield 141, 3) := by decide +kernel
theorem dX11_feed_43 : decode cX11_feed 43 = .ok (.iconst 1, 1) := by decide +kernel
theorem dX11_feed_44 : decode cX11_feed 44 = .ok (.iadd, 1) := by decide +kernel
theorem dX11_feed_45 : decode cX11_feed 45 = .ok (.putfield 141, 3) := by decide +kernel
theorem dX11_feed_48 : decode cX11_feed 48 = .ok (.aload_n 0, 1) := by decide +kernel
theorem dX11_feed_49 : decode cX11_feed 49 = .ok (.getfield 141, 3) := by decide +kernel
theorem dX11_feed_52 : decode cX11_feed 52 = .ok (.ireturn, 1) := by decide +kernel
theorem dX11_wipe_0 : decode cX11_wipe 0 = .ok (.aload_n 0, 1) := by decide +kernel
theorem dX11_wipe_1 : decode cX11_wipe 1 = .ok (.getfield 141, 3) := by decide +kernel
theorem dX11_wipe_4 : decode cX11_wipe 4 = .ok (.istore_n 1, 1) := by decide +kernel
theorem dX11_wipe_5 : decode cX11_wipe 5 = .ok (.aload_n 0, 1) := by decide +kernel
theorem dX11_wipe_6 : decode cX11_wipe 6 = .ok (.iconst 0, 1) := by decide +kernel
theorem dX11_wipe_7 : decode cX11_wipe 7 = .ok (.putfield 141, 3) := by decide +kernel
theorem dX11_wipe_10 : decode cX11_wipe 10 = .ok (.iload_n 1, 1) := by decide +kernel
theorem dX11_wipe_11 : decode cX11_wipe 11 = .ok (.ireturn, 1) := by decide +kernel
theorem dX11_tape_0 : decode cX11_tape 0 = .ok (.aload_n 0, 1) := by decide +kernel
theorem dX11_tape_1 : decode cX11_tape 1 = .ok (.iload_n 1, 1) := by decide +kernel
theorem dX11_tape_2 : decode cX11_tape 2 = .ok (.iconst 0, 1) := by decide +kernel
theorem dX11_tape_3 : decode cX11_tape 3 = .ok (.aload_n 0, 1) := by decide +kernel
theorem dX11_tape_4 : decode cX11_tape 4 = .ok (.getfield 141, 3) := by decide +kernel
theorem dX11_tape_7 : decode cX11_tape 7 = .ok (.iconst 1, 1) := by decide +kernel
theorem dX11_tape_8 : decode cX11_tape 8 = .ok (.isub, 1) := by decide +kernel
theorem dX11_tape_9 : decode cX11_tape 9 = .ok (.invokevirtual 156, 3) := by decide +kernel
theorem dX11_tape_12 : decode cX11_tape 12 = .ok (.ifCond .eq 12, 3) := by decide +kernel
theorem dX11_tape_24 : decode cX11_tape 24 = .ok (.iconst (-1), 1) := by decide +kernel
theorem dX11_tape_25 : decode cX11_tape 25 = .ok (.ireturn, 1) := by decide +kernel
theorem dX11_write_0 : decode cX11_write 0 = .ok (.aload_n 0, 1) := by decide +kernel
theorem dX11_write_1 : decode cX11_write 1 = .ok (.getfield 53, 3) := by decide +kernel
theorem dX11_write_4 : decode cX11_write 4 = .ok (.ifCond .ne 6, 3) := by decide +kernel
theorem dX11_write_7 : decode cX11_write 7 = .ok (.bipush (-3), 2) := by decide +kernel
theorem dX11_write_9 : decode cX11_write 9 = .ok (.ireturn, 1) := by decide +kernel
theorem dX11_read_0 : decode cX11_read 0 = .ok (.aload_n 0, 1) := by decide +kernel
theorem dX11_read_1 : decode cX11_read 1 = .ok (.getfield 7, 3) := by decide +kernel
theorem dX11_read_4 : decode cX11_read 4 = .ok (.ifCond .ne 6, 3) := by decide +kernel
theorem dX11_read_7 : decode cX11_read 7 = .ok (.bipush (-3), 2) := by decide +kernel
theorem dX11_read_9 : decode cX11_read 9 = .ok (.ireturn, 1) := by decide +kernel
theorem dX11_count__0 : decode cX11_count_ 0 = .ok (.iconst 0, 1) := by decide +kernel
theorem dX11_count__1 : decode cX11_count_ 1 = .ok (.istore_n 2, 1) := by decide +kernel
theorem dX11_count__2 : decode cX11_count_ 2 = .ok (.iload_n 1, 1) := by decide +kernel
theorem dX11_count__3 : decode cX11_count_ 3 = .ok (.tableswitch 108 0 5 #[37, 42, 47, 74, 79, 92], 37) := by decide +kernel
theorem dX11_count__40 : decode cX11_count_ 40 = .ok (.aload_n 0, 1) := by decide +kernel
theorem dX11_count__41 : decode cX11_count_ 41 = .ok (.getfield 7, 3) := by decide +kernel
theorem dX11_count__44 : decode cX11_count_ 44 = .ok (.ireturn, 1) := by decide +kernel
theorem dX11_count__45 : decode cX11_count_ 45 = .ok (.aload_n 0, 1) := by decide +kernel
theorem dX11_count__46 : decode cX11_count_ 46 = .ok (.getfield 32, 3) := by decide +kernel
theorem dX11_count__49 : decode cX11_count_ 49 = .ok (.ireturn, 1) := by decide +kernel
theorem dX11_count__50 : decode cX11_count_ 50 = .ok (.iconst 0, 1) := by decide +kernel
theorem dX11_count__51 : decode cX11_count_ 51 = .ok (.istore_n 3, 1) := by decide +kernel
theorem dX11_count__52 : decode cX11_count_ 52 = .ok (.iload_n 3, 1) := by decide +kernel
theorem dX11_count__53 : decode cX11_count_ 53 = .ok (.aload_n 0, 1) := by decide +kernel
theorem dX11_count__54 : decode cX11_count_ 54 = .ok (.getfield 32, 3) := by decide +kernel
theorem dX11_count__57 : decode cX11_count_ 57 = .ok (.if_icmp .ge 18, 3) := by decide +kernel
theorem dX11_count__75 : decode cX11_count_ 75 = .ok (.iload_n 2, 1) := by decide +kernel
theorem dX11_count__76 : decode cX11_count_ 76 = .ok (.ireturn, 1) := by decide +kernel
theorem dX11_count__77 : decode cX11_count_ 77 = .ok (.aload_n 0, 1) := by decide +kernel
theorem dX11_count__78 : decode cX11_count_ 78 = .ok (.getfield 35, 3) := by decide +kernel
theorem dX11_count__81 : decode cX11_count_ 81 = .ok (.ireturn, 1) := by decide +kernel
theorem dX11_count__82 : decode cX11_count_ 82 = .ok (.aload_n 0, 1) := by decide +kernel
theorem dX11_count__83 : decode cX11_count_ 83 = .ok (.getfield 53, 3) := by decide +kernel
theorem dX11_count__86 : decode cX11_count_ 86 = .ok (.ifCond .eq 7, 3) := by decide +kernel
theorem dX11_count__93 : decode cX11_count_ 93 = .ok (.iconst 0, 1) := by decide +kernel
theorem dX11_count__94 : decode cX11_count_ 94 = .ok (.ireturn, 1) := by decide +kernel
theorem dX11_count__95 : decode cX11_count_ 95 = .ok (.aload_n 0, 1) := by decide +kernel
theorem dX11_count__96 : decode cX11_count_ 96 = .ok (.getfield 53, 3) := by decide +kernel
theorem dX11_count__99 : decode cX11_count_ 99 = .ok (.ifCond .eq 10, 3) := by decide +kernel
theorem dX11_count__109 : decode cX11_count_ 109 = .ok (.iconst (-1), 1) := by decide +kernel
theorem dX11_count__110 : decode cX11_count_ 110 = .ok (.ireturn, 1) := by decide +kernel
theorem dX11_count__111 : decode cX11_count_ 111 = .ok (.iconst (-1), 1) := by decide +kernel
theorem dX11_count__112 : decode cX11_count_ 112 = .ok (.ireturn, 1) := by decide +kernel
end
section
set_option maxHeartbeats 4000000 in
set_option maxRecDepth 100000 in
theorem c_within (l : Launch) (dC : Nat → ClassId) (dI : Nat → Nat → Nat) (p0 : Int32) (p1 : Int32) (sz : Nat) : Ci l (dC, dI) yX10_within cX10_within 2 (some .boolean) { frames := 0, cells := 0, slots := 0, locals := 0 } [.int p0, .int p1] [] [] sz 0 0 Unit (fun r _ => r = if inB p0 0 p1 then 1 else 0) (fun _ => []) (fun _ => []) := by
  refine Ci_of (lv := [(0, .int p0), (1, .int p1)]) (by decide) rfl rfl ?_
  intro p e s m below meth c A ls hx hb hml hr hown hta hlocks hnm hnw hP hD hK hS hA hl
  have hown : s.vm.findClass RX10 = some m.cls := hown
  refine lv_iload_n hx hb dX10_within_0 rfl (lv_at hl 0 rfl) ?_
  refine lv_if_lt (tgt := 13) hx hb dX10_within_1 (by decide) (fun c_1 => ?_) (fun c_1 => ?_)
  · refine lv_iconst (v := 0) hx hb dX10_within_13 (by decide) ?_
    refine W.widen (k := 0) (n := 0) (Nat.le_of_ble_eq_true rfl) (Nat.le_of_ble_eq_true rfl) ?_
    exact k_iret () hx hb hr hlocks rfl P_nil D_nil (hK.sub (tys' := []) [] rfl) hS (by rw [inB_f1 c_1]; rfl) dX10_within_14
  · refine lv_iload_n hx hb dX10_within_4 rfl (lv_at hl 0 rfl) ?_
    refine lv_iload_n hx hb dX10_within_5 rfl (lv_at hl 1 rfl) ?_
    refine lv_icmp_gt (tgt := 13) hx hb dX10_within_6 (by decide) (fun c_2 => ?_) (fun c_2 => ?_)
    · refine lv_iconst (v := 0) hx hb dX10_within_13 (by decide) ?_
      refine W.widen (k := 0) (n := 0) (Nat.le_of_ble_eq_true rfl) (Nat.le_of_ble_eq_true rfl) ?_
      exact k_iret () hx hb hr hlocks rfl P_nil D_nil (hK.sub (tys' := []) [] rfl) hS (by rw [inB_f2 c_2]; rfl) dX10_within_14
    · refine lv_iconst (v := 1) hx hb dX10_within_9 (by decide) ?_
      refine lv_goto (tgt := 14) hx hb dX10_within_10 (by decide) ?_
      refine W.widen (k := 0) (n := 0) (Nat.le_of_ble_eq_true rfl) (Nat.le_of_ble_eq_true rfl) ?_
      exact k_iret () hx hb hr hlocks rfl P_nil D_nil (hK.sub (tys' := []) [] rfl) hS (by rw [inB_t c_1 c_2]; rfl) dX10_within_14
set_option maxHeartbeats 4000000 in
set_option maxRecDepth 100000 in
theorem m_in (l : Launch) (dC : Nat → ClassId) (dI : Nat → Nat → Nat) (g : Nat → Nat) (h : Nat → ClassId) (p0 : Int32) (p1 : Int32) (p2 : Int32) (sz : Nat) : Ci l (dC, dI) yX11_in cX11_in 4 (some .boolean) { frames := 0, cells := 0, slots := 0, locals := 0 } [.ref (g 47), .int p0, .int p1, .int p2] [] [zM g h] sz 0 0 Unit (fun r _ => r = if inB p0 p1 p2 then 1 else 0) (fun u => [zM g h]) (fun _ => []) := by
  refine Ci_of (lv := [(0, .ref (g 47)), (1, .int p0), (2, .int p1), (3, .int p2)]) (by decide) rfl rfl ?_
  intro p e s m below meth c A ls hx hb hml hr hown hta hlocks hnm hnw hP hD hK hS hA hl
  have hown : s.vm.findClass RX11 = some m.cls := hown
  refine lv_iload_n hx hb dX11_in_0 rfl (lv_at hl 1 rfl) ?_
  refine lv_iload_n hx hb dX11_in_1 rfl (lv_at hl 2 rfl) ?_
  refine lv_icmp_lt (tgt := 14) hx hb dX11_in_2 (by decide) (fun c_1 => ?_) (fun c_1 => ?_)
  · refine lv_iconst (v := 0) hx hb dX11_in_14 (by decide) ?_
    have hP9 := hP.sub (ws' := [zM g h]) [0] rfl
    have hD9 := hD.sub (ws' := [zM g h]) [0] (by decide) rfl
    have hK9 := hK.sub (tys' := []) [] rfl
    refine W.widen (k := 0) (n := 0) (Nat.le_of_ble_eq_true rfl) (Nat.le_of_ble_eq_true rfl) ?_
    exact k_iret () hx hb hr hlocks rfl hP9 hD9 hK9 hS (by rw [inB_f1 c_1]; rfl) dX11_in_15
  · refine lv_iload_n hx hb dX11_in_5 rfl (lv_at hl 1 rfl) ?_
    refine lv_iload_n hx hb dX11_in_6 rfl (lv_at hl 3 rfl) ?_
    refine lv_icmp_gt (tgt := 14) hx hb dX11_in_7 (by decide) (fun c_2 => ?_) (fun c_2 => ?_)
    · refine lv_iconst (v := 0) hx hb dX11_in_14 (by decide) ?_
      have hP9 := hP.sub (ws' := [zM g h]) [0] rfl
      have hD9 := hD.sub (ws' := [zM g h]) [0] (by decide) rfl
      have hK9 := hK.sub (tys' := []) [] rfl
      refine W.widen (k := 0) (n := 0) (Nat.le_of_ble_eq_true rfl) (Nat.le_of_ble_eq_true rfl) ?_
      exact k_iret () hx hb hr hlocks rfl hP9 hD9 hK9 hS (by rw [inB_f2 c_2]; rfl) dX11_in_15
    · refine lv_iconst (v := 1) hx hb dX11_in_10 (by decide) ?_
      refine lv_goto (tgt := 15) hx hb dX11_in_11 (by decide) ?_
      have hP9 := hP.sub (ws' := [zM g h]) [0] rfl
      have hD9 := hD.sub (ws' := [zM g h]) [0] (by decide) rfl
      have hK9 := hK.sub (tys' := []) [] rfl
      refine W.widen (k := 0) (n := 0) (Nat.le_of_ble_eq_true rfl) (Nat.le_of_ble_eq_true rfl) ?_
      exact k_iret () hx hb hr hlocks rfl hP9 hD9 hK9 hS (by rw [inB_t c_1 c_2]; rfl) dX11_in_15
set_option maxHeartbeats 4000000 in
set_option maxRecDepth 100000 in
theorem c_exch (l : Launch) (dC : Nat → ClassId) (dI : Nat → Nat → Nat) (h0 : Nat) (cA : ClassId) (n : Nat) (f : Nat → Int32) (p0 : Int32) (p1 : Int32) (hi : vp_in p0 n) (sz : Nat) : Ci l (dC, dI) yX10_exchange cX10_exchange 4 (some .int) { frames := 0, cells := 0, slots := 0, locals := 0 } [.ref h0, .int p0, .int p1] [(cA, .int)] [(h0, .inl (cA, n, .inl f))] sz 0 0 Unit (fun r _ => r = f p0.toNatClampNeg) (fun _ => []) (fun _ => []) := by
  refine Ci_of (lv := [(0, .ref h0), (1, .int p0), (2, .int p1)]) (by decide) rfl rfl ?_
  intro p e s m below meth c A ls hx hb hml hr hown hta hlocks hnm hnw hP hD hK hS hA hl
  have hown : s.vm.findClass RX10 = some m.cls := hown
  refine lv_aload_n hx hb dX10_exchange_0 rfl (lv_at hl 0 rfl) ?_
  refine lv_iload_n hx hb dX10_exchange_1 rfl (lv_at hl 1 rfl) ?_
  refine va_iald hx hb hK hP 0 0 rfl rfl hi dX10_exchange_2 ?_
  refine lv_istore_n (lv' := [(3, .int (f (p0).toNatClampNeg)), (0, .ref h0), (1, .int p0), (2, .int p1)]) hx hb dX10_exchange_3 rfl hl (by decide) rfl (fun ls hl => ?_)
  refine lv_aload_n hx hb dX10_exchange_4 rfl (lv_at hl 1 rfl) ?_
  refine lv_iload_n hx hb dX10_exchange_5 rfl (lv_at hl 2 rfl) ?_
  refine lv_iload_n hx hb dX10_exchange_6 rfl (lv_at hl 3 rfl) ?_
  refine va_iast hx hb hK hP hD hS 0 0 rfl rfl hi dX10_exchange_7 (fun H locs hP hD hS => ?_)
  have hP : va_P (dC, dI) vwCl [(h0, .inl (cA, n, .inl (upd f ((p0 : Int32).toNatClampNeg) p1)))] H := hP
  have hD : va_D A [(h0, .inl (cA, n, .inl (upd f ((p0 : Int32).toNatClampNeg) p1)))] := hD
  refine lv_iload_n hx hb dX10_exchange_8 rfl (lv_at hl 0 rfl) ?_
  refine W.widen (k := 0) (n := 0) (Nat.le_of_ble_eq_true rfl) (Nat.le_of_ble_eq_true rfl) ?_
  exact k_iret () hx hb hr hlocks rfl P_nil D_nil (hK.sub (tys' := []) [] rfl) hS rfl dX10_exchange_9
set_option maxHeartbeats 4000000 in
set_option maxRecDepth 100000 in
theorem c_drop (l : Launch) (dC : Nat → ClassId) (dI : Nat → Nat → Nat) (q : Nat → Nat) (k : Nat → ClassId) (sz : Nat) : Cv l (dC, dI) yX8_drop cX8_drop 1 { frames := 0, cells := 0, slots := 0, locals := 0 } [.ref (q 8)] [] [zwl q k] sz 0 0 Unit (fun _ => True) (fun _ => []) (fun _ => []) := by
  refine Cv_of (lv := [(0, .ref (q 8))]) (by decide) rfl rfl ?_
  intro p e s m below meth c A ls hx hb hml hr hown hta hlocks hnm hnw hP hD hK hS hA hl
  have hown : s.vm.findClass RX8 = some m.cls := hown
  refine lv_aload_n hx hb dX8_drop_0 rfl (lv_at hl 0 rfl) ?_
  refine lv_iconst (v := 0) hx hb dX8_drop_1 (by decide) ?_
  refine va_put (D := (dC, dI)) (ci := 7) (v := .int 0) (ty := .int) (C := RX8) (T := TX8) (N := 5) hx hb hta inlX8 tyX8 tyX8_ok nmX8 hown hK hP hD hS 0 rfl rfl 2 (by decide) (hta _ fl_X8_18) (fun _ h9 => h9) rfl (by decide +kernel) rfl rfl (Nat.le_of_ble_eq_true rfl) dX8_drop_2 (fun H locs hP hD hS => ?_)
  have hP : va_P (dC, dI) vwCl [(q 8, .inr (7, [.ref (q 33), .ref (q 34), .int 0, .int (-1), .int 0]))] H := hP
  have hD : va_D A [(q 8, .inr (7, [.ref (q 33), .ref (q 34), .int 0, .int (-1), .int 0]))] := hD
  refine lv_aload_n hx hb dX8_drop_5 rfl (lv_at hl 0 rfl) ?_
  refine lv_iconst (v := (-1)) hx hb dX8_drop_6 (by decide) ?_
  refine va_put (D := (dC, dI)) (ci := 7) (v := .int (-1)) (ty := .int) (C := RX8) (T := TX8) (N := 5) hx hb hta inlX8 tyX8 tyX8_ok nmX8 hown hK hP hD hS 0 rfl rfl 3 (by decide) (hta _ fl_X8_22) (fun _ h9 => h9) rfl (by decide +kernel) rfl rfl (Nat.le_of_ble_eq_true rfl) dX8_drop_7 (fun H locs hP hD hS => ?_)
  have hP : va_P (dC, dI) vwCl [(q 8, .inr (7, [.ref (q 33), .ref (q 34), .int 0, .int (-1), .int 0]))] H := hP
  have hD : va_D A [(q 8, .inr (7, [.ref (q 33), .ref (q 34), .int 0, .int (-1), .int 0]))] := hD
  refine lv_aload_n hx hb dX8_drop_10 rfl (lv_at hl 0 rfl) ?_
  refine lv_iconst (v := 0) hx hb dX8_drop_11 (by decide) ?_
  refine va_put (D := (dC, dI)) (ci := 7) (v := .int 0) (ty := .boolean) (C := RX8) (T := TX8) (N := 5) hx hb hta inlX8 tyX8 tyX8_ok nmX8 hown hK hP hD hS 0 rfl rfl 4 (by decide) (hta _ fl_X8_25) (fun _ h9 => h9) rfl (by decide +kernel) rfl rfl (Nat.le_of_ble_eq_true rfl) dX8_drop_12 (fun H locs hP hD hS => ?_)
  have hP : va_P (dC, dI) vwCl [(q 8, .inr (7, [.ref (q 33), .ref (q 34), .int 0, .int (-1), .int 0]))] H := hP
  have hD : va_D A [(q 8, .inr (7, [.ref (q 33), .ref (q 34), .int 0, .int (-1), .int 0]))] := hD
  refine W.widen (k := 0) (n := 0) (Nat.le_of_ble_eq_true rfl) (Nat.le_of_ble_eq_true rfl) ?_
  exact k_vret () hx hb hr hlocks P_nil D_nil (hK.sub (tys' := []) [] rfl) hS trivial dX8_drop_15
set_option maxHeartbeats 4000000 in
set_option maxRecDepth 100000 in
theorem c_atHand (l : Launch) (dC : Nat → ClassId) (dI : Nat → Nat → Nat) (q : Nat → Nat) (k : Nat → ClassId) (sz : Nat) : Ci l (dC, dI) yX8_atHand cX8_atHand 1 (some .boolean) { frames := 0, cells := 0, slots := 0, locals := 0 } [.ref (q 8)] [] [zwl q k] sz 0 0 Unit (fun r _ => r = 0) (fun _ => []) (fun _ => []) := by
  refine Ci_of (lv := [(0, .ref (q 8))]) (by decide) rfl rfl ?_
  intro p e s m below meth c A ls hx hb hml hr hown hta hlocks hnm hnw hP hD hK hS hA hl
  have hown : s.vm.findClass RX8 = some m.cls := hown
  refine lv_aload_n hx hb dX8_atHand_0 rfl (lv_at hl 0 rfl) ?_
  refine va_get (D := (dC, dI)) (ci := 7) (v := .int (-1)) (C := RX8) (T := TX8) (N := 5) hx hb hta inlX8 hown hK hP 0 rfl rfl 3 (by decide) (hta _ fl_X8_22) (fun _ h9 => h9) rfl dX8_atHand_1 ?_
  refine lv_iconst (v := (-1)) hx hb dX8_atHand_4 (by decide) ?_
  refine lv_icmp_eq (tgt := 12) hx hb dX8_atHand_5 (by decide) (fun _ => ?_) (fun c => absurd (by decide) c)
  refine lv_iconst (v := 0) hx hb dX8_atHand_12 (by decide) ?_
  refine W.widen (k := 0) (n := 0) (Nat.le_of_ble_eq_true rfl) (Nat.le_of_ble_eq_true rfl) ?_
  exact k_iret () hx hb hr hlocks rfl P_nil D_nil (hK.sub (tys' := []) [] rfl) hS rfl dX8_atHand_13
set_option maxHeartbeats 4000000 in
set_option maxRecDepth 100000 in
theorem c_forgetAnswers (l : Launch) (dC : Nat → ClassId) (dI : Nat → Nat → Nat) (q : Nat → Nat) (k : Nat → ClassId) (sz : Nat) : Cv l (dC, dI) yX10_forgetAnswers cX10_forgetAnswers 1 { frames := 1, cells := 0, slots := 0, locals := 20 } [.ref (q 0)] [] [zLF q k, zwl q k] sz 0 0 Unit (fun _ => True) (fun u => [zLF q k]) (fun _ => []) := by
  refine Cv_of (lv := [(0, .ref (q 0))]) (by decide) rfl rfl ?_
  intro p e s m below meth c A ls hx hb hml hr hown hta hlocks hnm hnw hP hD hK hS hA hl
  have hown : s.vm.findClass RX10 = some m.cls := hown
  refine lv_aload_n hx hb dX10_forgetAnswers_0 rfl (lv_at hl 0 rfl) ?_
  refine va_get (D := (dC, dI)) (ci := 9) (v := .ref (q 8)) (C := RX10) (T := TX10) (N := 15) hx hb hta inlX10 hown hK hP 0 rfl rfl 7 (by decide) (hta _ fl_X10_61) (fun _ h9 => h9) rfl dX10_forgetAnswers_1 ?_
  refine kVNv (b := (q 8)) (n := 0) (As := []) (rest := []) ⟨hx, hb, hml, hown, hta⟩ hnw (c_drop l dC dI q k  s.heap.size) cd_X8_drop iz_X8 nm_X10_311 im_X8_drop se_X8_X8_drop (by decide +kernel) rfl (Nat.le_of_ble_eq_true rfl) (Nat.le_of_ble_eq_true rfl) rfl rfl (Nat.le_of_ble_eq_true rfl) (Nat.le_of_ble_eq_true rfl) hP hD hK hS hA [1] [0] [] rfl (wr := [zLF q k]) rfl (by decide) (by decide) (by decide) rfl rfl 0 rfl hl.1 rfl (Nat.le_of_ble_eq_true rfl) dX10_forgetAnswers_4 (fun u1 H locs hw2 hP hD hK hS => ?_)
  have hP : va_P (dC, dI) vwCl [zLF q k] H := hP
  have hD : va_D A [zLF q k] := hD
  have hK : va_K (dC, dI) vwCl [] s := hK
  refine lv_aload_n hx hb dX10_forgetAnswers_7 rfl (lv_at hl 0 rfl) ?_
  refine lv_iconst (v := 0) hx hb dX10_forgetAnswers_8 (by decide) ?_
  refine va_put (D := (dC, dI)) (ci := 9) (v := .int 0) (ty := .boolean) (C := RX10) (T := TX10) (N := 15) hx hb hta inlX10 tyX10 tyX10_ok nmX10 hown hK hP hD hS 0 rfl rfl 12 (by decide) (hta _ fl_X10_80) (fun _ h9 => h9) rfl (by decide +kernel) rfl rfl (Nat.le_of_ble_eq_true rfl) dX10_forgetAnswers_9 (fun H locs hP hD hS => ?_)
  have hP : va_P (dC, dI) vwCl [(q 0, .inr (9, [.ref (q 1), .ref (q 2), .ref (q 3), .ref (q 4), .ref (q 5), .ref (q 6), .ref (q 7), .ref (q 8), .ref (q 9), .int 0, .null, .null, .int 0, .int 0, .int 0]))] H := hP
  have hD : va_D A [(q 0, .inr (9, [.ref (q 1), .ref (q 2), .ref (q 3), .ref (q 4), .ref (q 5), .ref (q 6), .ref (q 7), .ref (q 8), .ref (q 9), .int 0, .null, .null, .int 0, .int 0, .int 0]))] := hD
  have hP9 := hP.sub (ws' := [(q 0, .inr (9, [.ref (q 1), .ref (q 2), .ref (q 3), .ref (q 4), .ref (q 5), .ref (q 6), .ref (q 7), .ref (q 8), .ref (q 9), .int 0, .null, .null, .int 0, .int 0, .int 0]))]) [0] rfl
  have hD9 := hD.sub (ws' := [(q 0, .inr (9, [.ref (q 1), .ref (q 2), .ref (q 3), .ref (q 4), .ref (q 5), .ref (q 6), .ref (q 7), .ref (q 8), .ref (q 9), .int 0, .null, .null, .int 0, .int 0, .int 0]))]) [0] (by decide) rfl
  have hK9 := hK.sub (tys' := []) [] rfl
  refine W.widen (k := 0) (n := 0) (Nat.le_of_ble_eq_true rfl) (Nat.le_of_ble_eq_true rfl) ?_
  exact k_vret () hx hb hr hlocks hP9 hD9 hK9 hS trivial dX10_forgetAnswers_12
set_option maxHeartbeats 4000000 in
set_option maxRecDepth 100000 in
theorem c_forgetAll (l : Launch) (dC : Nat → ClassId) (dI : Nat → Nat → Nat) (q : Nat → Nat) (k : Nat → ClassId) (sz : Nat) : Cv l (dC, dI) yX2_forgetAll cX2_forgetAll 1 { frames := 1, cells := 0, slots := 0, locals := 23 } [.ref (q 5)] [(k 32, .int)] [zbk q k, zbs q k] sz 0 0 Unit (fun _ => True) (fun _ => []) (fun _ => []) := by
  refine Cv_of (lv := [(0, .ref (q 5))]) (by decide) rfl rfl ?_
  intro p e s m below meth c A ls hx hb hml hr hown hta hlocks hnm hnw hP hD hK hS hA hl
  have hown : s.vm.findClass RX2 = some m.cls := hown
  refine lv_aload_n hx hb dX2_forgetAll_0 rfl (lv_at hl 0 rfl) ?_
  refine va_get (D := (dC, dI)) (ci := 1) (v := .ref (q 32)) (C := RX2) (T := TX2) (N := 4) hx hb hta inlX2 hown hK hP 0 rfl rfl 3 (by decide) (hta _ fl_X2_15) (fun _ h9 => h9) rfl dX2_forgetAll_1 ?_
  refine lv_iconst (v := (-1)) hx hb dX2_forgetAll_4 (by decide) ?_
  refine kSv (b := 0) (n := 2) (As := [.ref (q 32), .int (-1)]) (rest := []) ⟨hx, hb, hml, hown, hta⟩ hnw (c_fill l dC dI (q 32) (k 32) 16 (fun _ => (-1)) (-1) (by decide) s.heap.size) cd_J7_fill_53178 iz_J7 ml_X2_27 st_J7_fill_53178 (by decide +kernel) rfl (Nat.le_of_ble_eq_true rfl) (Nat.le_of_ble_eq_true rfl) rfl rfl (Nat.le_of_ble_eq_true rfl) (Nat.le_of_ble_eq_true rfl) hP hD hK hS hA [1] [0] [0] rfl (wr := [zbk q k]) rfl (by decide) (by decide) (by decide) rfl hl.1 rfl (Nat.le_of_ble_eq_true rfl) dX2_forgetAll_5 (fun u1 H locs hw2 hP hD hK hS => ?_)
  have hP : va_P (dC, dI) vwCl [zbk q k, (q 32, .inl (k 32, 16, .inl (fun _ => (-1))))] H := hP
  have hD : va_D A [zbk q k, (q 32, .inl (k 32, 16, .inl (fun _ => (-1))))] := hD
  have hK : va_K (dC, dI) vwCl [(k 32, .int), (k 32, .int)] s := hK
  refine W.widen (k := 0) (n := 0) (Nat.le_of_ble_eq_true rfl) (Nat.le_of_ble_eq_true rfl) ?_
  exact k_vret () hx hb hr hlocks P_nil D_nil (hK.sub (tys' := []) [] rfl) hS trivial dX2_forgetAll_8
set_option maxHeartbeats 4000000 in
set_option maxRecDepth 100000 in
theorem c_instrumentChanged (l : Launch) (dC : Nat → ClassId) (dI : Nat → Nat → Nat) (q : Nat → Nat) (k : Nat → ClassId) (sz : Nat) : Cv l (dC, dI) yX10_instrumentChanged cX10_instrumentChanged 1 { frames := 2, cells := 0, slots := 0, locals := 43 } [.ref (q 0)] [(k 32, .int)] [zLF q k, zwl q k, zbk q k, zbs q k] sz 0 0 Unit (fun _ => True) (fun u => [zLF q k]) (fun _ => []) := by
  refine Cv_of (lv := [(0, .ref (q 0))]) (by decide) rfl rfl ?_
  intro p e s m below meth c A ls hx hb hml hr hown hta hlocks hnm hnw hP hD hK hS hA hl
  have hown : s.vm.findClass RX10 = some m.cls := hown
  refine lv_aload_n hx hb dX10_instrumentChanged_0 rfl (lv_at hl 0 rfl) ?_
  refine kVv (b := (q 0)) (n := 0) (As := []) (rest := []) ⟨hx, hb, hml, hown, hta⟩ hnw (c_forgetAnswers l dC dI q k  s.heap.size) cd_X10_forgetAnswers iz_X10 ml_X10_143 im_X10_forgetAnswers se_X10_X10_forgetAnswers (by decide +kernel) rfl (Nat.le_of_ble_eq_true rfl) (Nat.le_of_ble_eq_true rfl) rfl rfl (Nat.le_of_ble_eq_true rfl) (Nat.le_of_ble_eq_true rfl) hP hD hK hS hA [0, 1] [2, 3] [] rfl (wr := [zbk q k, zbs q k]) rfl (by decide) (by decide) (by decide) rfl rfl 0 rfl hl.1 rfl (Nat.le_of_ble_eq_true rfl) dX10_instrumentChanged_1 (fun u1 H locs hw2 hP hD hK hS => ?_)
  have hP : va_P (dC, dI) vwCl [zbk q k, zbs q k, zLF q k] H := hP
  have hD : va_D A [zbk q k, zbs q k, zLF q k] := hD
  have hK : va_K (dC, dI) vwCl [(k 32, .int)] s := hK
  refine lv_aload_n hx hb dX10_instrumentChanged_4 rfl (lv_at hl 0 rfl) ?_
  refine va_get (D := (dC, dI)) (ci := 9) (v := .ref (q 5)) (C := RX10) (T := TX10) (N := 15) hx hb hta inlX10 hown hK hP 2 rfl rfl 4 (by decide) (hta _ fl_X10_44) (fun _ h9 => h9) rfl dX10_instrumentChanged_5 ?_
  refine kVNv (b := (q 5)) (n := 0) (As := []) (rest := []) ⟨hx, hb, hml, hown, hta⟩ hnw (c_forgetAll l dC dI q k  H.size) cd_X2_forgetAll iz_X2 nm_X10_157 im_X2_forgetAll se_X2_X2_forgetAll (by decide +kernel) rfl (Nat.le_of_ble_eq_true rfl) (Nat.le_of_ble_eq_true rfl) rfl rfl (Nat.le_of_ble_eq_true rfl) (Nat.le_of_ble_eq_true rfl) hP hD hK hS hA [0, 1] [2] [0] rfl (wr := [zLF q k]) rfl (by decide) (by decide) (by decide) rfl rfl 0 rfl hl.1 rfl (Nat.le_of_ble_eq_true rfl) dX10_instrumentChanged_8 (fun u4 H locs hw5 hP hD hK hS => ?_)
  have hP : va_P (dC, dI) vwCl [zLF q k] H := hP
  have hD : va_D A [zLF q k] := hD
  have hK : va_K (dC, dI) vwCl [(k 32, .int)] s := hK
  have hP9 := hP.sub (ws' := [zLF q k]) [0] rfl
  have hD9 := hD.sub (ws' := [zLF q k]) [0] (by decide) rfl
  have hK9 := hK.sub (tys' := []) [] rfl
  refine W.widen (k := 0) (n := 0) (Nat.le_of_ble_eq_true rfl) (Nat.le_of_ble_eq_true rfl) ?_
  exact k_vret () hx hb hr hlocks hP9 hD9 hK9 hS trivial dX10_instrumentChanged_11
set_option maxHeartbeats 4000000 in
set_option maxRecDepth 100000 in
theorem c_hasCourse (l : Launch) (dC : Nat → ClassId) (dI : Nat → Nat → Nat) (q : Nat → Nat) (k : Nat → ClassId) (p0 : Int32) (sz : Nat) : Ci l (dC, dI) yX4_hasCourse cX4_hasCourse 2 (some .boolean) { frames := 0, cells := 0, slots := 0, locals := 0 } [.ref (q 1), .int p0] [] [zlu q k] sz 0 0 Unit (fun r _ => r = 0) (fun _ => []) (fun _ => []) := by
  refine Ci_of (lv := [(0, .ref (q 1)), (1, .int p0)]) (by decide) rfl rfl ?_
  intro p e s m below meth c A ls hx hb hml hr hown hta hlocks hnm hnw hP hD hK hS hA hl
  have hown : s.vm.findClass RX4 = some m.cls := hown
  refine lv_iload_n hx hb dX4_hasCourse_0 rfl (lv_at hl 1 rfl) ?_
  refine lv_if_lt (tgt := 16) hx hb dX4_hasCourse_1 (by decide) (fun c_1 => ?_) (fun c_1 => ?_)
  · refine lv_iconst (v := 0) hx hb dX4_hasCourse_16 (by decide) ?_
    refine W.widen (k := 0) (n := 0) (Nat.le_of_ble_eq_true rfl) (Nat.le_of_ble_eq_true rfl) ?_
    exact k_iret () hx hb hr hlocks rfl P_nil D_nil (hK.sub (tys' := []) [] rfl) hS rfl dX4_hasCourse_17
  · refine lv_iload_n hx hb dX4_hasCourse_4 rfl (lv_at hl 1 rfl) ?_
    refine lv_aload_n hx hb dX4_hasCourse_5 rfl (lv_at hl 0 rfl) ?_
    refine va_get (D := (dC, dI)) (ci := 3) (v := .int 0) (C := RX4) (T := TX4) (N := 7) hx hb hta inlX4 hown hK hP 0 rfl rfl 0 (by decide) (hta _ fl_X4_9) (fun _ h9 => h9) rfl dX4_hasCourse_6 ?_
    refine lv_icmp_ge (tgt := 16) hx hb dX4_hasCourse_9 (by decide) (fun c_2 => ?_) (fun c => absurd (Int32.not_lt.mp c_1) c)
    refine lv_iconst (v := 0) hx hb dX4_hasCourse_16 (by decide) ?_
    refine W.widen (k := 0) (n := 0) (Nat.le_of_ble_eq_true rfl) (Nat.le_of_ble_eq_true rfl) ?_
    exact k_iret () hx hb hr hlocks rfl P_nil D_nil (hK.sub (tys' := []) [] rfl) hS rfl dX4_hasCourse_17
set_option maxHeartbeats 4000000 in
set_option maxRecDepth 100000 in
theorem c_hasTick (l : Launch) (dC : Nat → ClassId) (dI : Nat → Nat → Nat) (q : Nat → Nat) (k : Nat → ClassId) (p0 : Int32) (sz : Nat) : Ci l (dC, dI) yX5_hasTick cX5_hasTick 2 (some .boolean) { frames := 0, cells := 0, slots := 0, locals := 0 } [.ref (q 2), .int p0] [] [zpi q k] sz 0 0 Unit (fun r _ => r = 0) (fun _ => []) (fun _ => []) := by
  refine Ci_of (lv := [(0, .ref (q 2)), (1, .int p0)]) (by decide) rfl rfl ?_
  intro p e s m below meth c A ls hx hb hml hr hown hta hlocks hnm hnw hP hD hK hS hA hl
  have hown : s.vm.findClass RX5 = some m.cls := hown
  refine lv_iload_n hx hb dX5_hasTick_0 rfl (lv_at hl 1 rfl) ?_
  refine lv_if_lt (tgt := 16) hx hb dX5_hasTick_1 (by decide) (fun c_1 => ?_) (fun c_1 => ?_)
  · refine lv_iconst (v := 0) hx hb dX5_hasTick_16 (by decide) ?_
    refine W.widen (k := 0) (n := 0) (Nat.le_of_ble_eq_true rfl) (Nat.le_of_ble_eq_true rfl) ?_
    exact k_iret () hx hb hr hlocks rfl P_nil D_nil (hK.sub (tys' := []) [] rfl) hS rfl dX5_hasTick_17
  · refine lv_iload_n hx hb dX5_hasTick_4 rfl (lv_at hl 1 rfl) ?_
    refine lv_aload_n hx hb dX5_hasTick_5 rfl (lv_at hl 0 rfl) ?_
    refine va_get (D := (dC, dI)) (ci := 4) (v := .int 0) (C := RX5) (T := TX5) (N := 7) hx hb hta inlX5 hown hK hP 0 rfl rfl 0 (by decide) (hta _ fl_X5_9) (fun _ h9 => h9) rfl dX5_hasTick_6 ?_
    refine lv_icmp_ge (tgt := 16) hx hb dX5_hasTick_9 (by decide) (fun c_2 => ?_) (fun c => absurd (Int32.not_lt.mp c_1) c)
    refine lv_iconst (v := 0) hx hb dX5_hasTick_16 (by decide) ?_
    refine W.widen (k := 0) (n := 0) (Nat.le_of_ble_eq_true rfl) (Nat.le_of_ble_eq_true rfl) ?_
    exact k_iret () hx hb hr hlocks rfl P_nil D_nil (hK.sub (tys' := []) [] rfl) hS rfl dX5_hasTick_17
set_option maxHeartbeats 4000000 in
set_option maxRecDepth 100000 in
theorem c_hasNote (l : Launch) (dC : Nat → ClassId) (dI : Nat → Nat → Nat) (q : Nat → Nat) (k : Nat → ClassId) (p0 : Int32) (p1 : Int32) (sz : Nat) : Ci l (dC, dI) yX5_hasNote cX5_hasNote 3 (some .boolean) { frames := 1, cells := 0, slots := 0, locals := 21 } [.ref (q 2), .int p0, .int p1] [] [zpi q k] sz 0 0 Unit (fun r _ => r = 0) (fun _ => []) (fun _ => []) := by
  refine Ci_of (lv := [(0, .ref (q 2)), (1, .int p0), (2, .int p1)]) (by decide) rfl rfl ?_
  intro p e s m below meth c A ls hx hb hml hr hown hta hlocks hnm hnw hP hD hK hS hA hl
  have hown : s.vm.findClass RX5 = some m.cls := hown
  refine lv_aload_n hx hb dX5_hasNote_0 rfl (lv_at hl 0 rfl) ?_
  refine lv_iload_n hx hb dX5_hasNote_1 rfl (lv_at hl 1 rfl) ?_
  refine kVi (b := (q 2)) (n := 1) (As := [.int p0]) (rest := []) ⟨hx, hb, hml, hown, hta⟩ hnw (c_hasTick l dC dI q k p0  s.heap.size) cd_X5_hasTick iz_X5 ml_X5_34 im_X5_hasTick se_X5_X5_hasTick (by decide +kernel) rfl (Nat.le_of_ble_eq_true rfl) (Nat.le_of_ble_eq_true rfl) rfl rfl (Nat.le_of_ble_eq_true rfl) (Nat.le_of_ble_eq_true rfl) hP hD hK hS hA [0] [] [] rfl (wr := []) rfl (by decide) (by decide) (by decide) rfl rfl 0 rfl hl.1 rfl (Nat.le_of_ble_eq_true rfl) dX5_hasNote_2 (fun r3 u1 H locs hw2 hP hD hK hS => ?_)
  have hP : va_P (dC, dI) vwCl [] H := hP
  have hD : va_D A [] := hD
  have hK : va_K (dC, dI) vwCl [] s := hK
  obtain rfl : r3 = 0 := hw2
  refine lv_if_eq (tgt := 26) hx hb dX5_hasNote_5 (by decide) (fun _ => ?_) (fun c => absurd (by decide) c)
  refine lv_iconst (v := 0) hx hb dX5_hasNote_26 (by decide) ?_
  refine W.widen (k := 0) (n := 0) (Nat.le_of_ble_eq_true rfl) (Nat.le_of_ble_eq_true rfl) ?_
  exact k_iret () hx hb hr hlocks rfl P_nil D_nil (hK.sub (tys' := []) [] rfl) hS rfl dX5_hasNote_27
set_option maxHeartbeats 4000000 in
set_option maxRecDepth 100000 in
theorem c_isTied (l : Launch) (dC : Nat → ClassId) (dI : Nat → Nat → Nat) (p0 : Int32) (sz : Nat) : Ci l (dC, dI) yX5_isTied cX5_isTied 1 (some .boolean) { frames := 0, cells := 0, slots := 0, locals := 0 } [.int p0] [] [] sz 0 0 Unit (fun r _ => r = if tiedB p0 then 1 else 0) (fun _ => []) (fun _ => []) := by
  refine Ci_of (lv := [(0, .int p0)]) (by decide) rfl rfl ?_
  intro p e s m below meth c A ls hx hb hml hr hown hta hlocks hnm hnw hP hD hK hS hA hl
  have hown : s.vm.findClass RX5 = some m.cls := hown
  refine lv_iload_n hx hb dX5_isTied_0 rfl (lv_at hl 0 rfl) ?_
  refine lv_iconst (v := 1) hx hb dX5_isTied_1 (by decide) ?_
  refine lv_icmp_eq (tgt := 10) hx hb dX5_isTied_2 (by decide) (fun c_1 => ?_) (fun c_1 => ?_)
  · refine lv_iconst (v := 1) hx hb dX5_isTied_10 (by decide) ?_
    refine lv_goto (tgt := 15) hx hb dX5_isTied_11 (by decide) ?_
    refine W.widen (k := 0) (n := 0) (Nat.le_of_ble_eq_true rfl) (Nat.le_of_ble_eq_true rfl) ?_
    exact k_iret () hx hb hr hlocks rfl P_nil D_nil (hK.sub (tys' := []) [] rfl) hS (by simp [tiedB, c_1]) dX5_isTied_15
  · refine lv_iload_n hx hb dX5_isTied_5 rfl (lv_at hl 0 rfl) ?_
    refine lv_iconst (v := 2) hx hb dX5_isTied_6 (by decide) ?_
    refine lv_icmp_ne (tgt := 14) hx hb dX5_isTied_7 (by decide) (fun c_2 => ?_) (fun c_2 => ?_)
    · refine lv_iconst (v := 0) hx hb dX5_isTied_14 (by decide) ?_
      refine W.widen (k := 0) (n := 0) (Nat.le_of_ble_eq_true rfl) (Nat.le_of_ble_eq_true rfl) ?_
      exact k_iret () hx hb hr hlocks rfl P_nil D_nil (hK.sub (tys' := []) [] rfl) hS (by simp [tiedB, c_1, c_2]) dX5_isTied_15
    · refine lv_iconst (v := 1) hx hb dX5_isTied_10 (by decide) ?_
      refine lv_goto (tgt := 15) hx hb dX5_isTied_11 (by decide) ?_
      refine W.widen (k := 0) (n := 0) (Nat.le_of_ble_eq_true rfl) (Nat.le_of_ble_eq_true rfl) ?_
      exact k_iret () hx hb hr hlocks rfl P_nil D_nil (hK.sub (tys' := []) [] rfl) hS (by simp [tiedB, c_1, c_2]) dX5_isTied_15
set_option maxHeartbeats 4000000 in
set_option maxRecDepth 100000 in
theorem c_noteOfPitch (l : Launch) (dC : Nat → ClassId) (dI : Nat → Nat → Nat) (q : Nat → Nat) (k : Nat → ClassId) (p0 : Int32) (sz : Nat) : Ci l (dC, dI) yX5_noteOfPitch cX5_noteOfPitch 4 (some .int) { frames := 0, cells := 0, slots := 0, locals := 0 } [.ref (q 2), .int 0, .int p0] [(k 20, .int)] [zpi q k, zsz q k] sz 0 0 Unit (fun r _ => r = (-1)) (fun u => [zpi q k, zsz q k]) (fun u => [(k 20, .int)]) := by
  refine Ci_of (lv := [(0, .ref (q 2)), (1, .int 0), (2, .int p0)]) (by decide) rfl rfl ?_
  intro p e s m below meth c A ls hx hb hml hr hown hta hlocks hnm hnw hP hD hK hS hA hl
  have hown : s.vm.findClass RX5 = some m.cls := hown
  refine lv_iconst (v := 0) hx hb dX5_noteOfPitch_0 (by decide) ?_
  refine lv_istore_n (lv' := [(3, .int 0), (0, .ref (q 2)), (1, .int 0), (2, .int p0)]) hx hb dX5_noteOfPitch_1 rfl hl (by decide) rfl (fun ls hl => ?_)
  refine lv_iload_n hx hb dX5_noteOfPitch_2 rfl (lv_at hl 0 rfl) ?_
  refine lv_aload_n hx hb dX5_noteOfPitch_3 rfl (lv_at hl 1 rfl) ?_
  refine va_get (D := (dC, dI)) (ci := 4) (v := .ref (q 20)) (C := RX5) (T := TX5) (N := 7) hx hb hta inlX5 hown hK hP 0 rfl rfl 1 (by decide) (hta _ fl_X5_15) (fun _ h9 => h9) rfl dX5_noteOfPitch_4 ?_
  refine lv_iload_n hx hb dX5_noteOfPitch_7 rfl (lv_at hl 2 rfl) ?_
  refine va_iald hx hb hK hP 1 0 rfl rfl (vin (by decide)) dX5_noteOfPitch_8 ?_
  refine k_top (y := 0) rfl ?_
  refine lv_icmp_ge (tgt := 34) hx hb dX5_noteOfPitch_9 (by decide) (fun _ => ?_) (fun c => absurd (by decide) c)
  refine lv_iconst (v := (-1)) hx hb dX5_noteOfPitch_34 (by decide) ?_
  have hP9 := hP.sub (ws' := [zpi q k, zsz q k]) [0, 1] rfl
  have hD9 := hD.sub (ws' := [zpi q k, zsz q k]) [0, 1] (by decide) rfl
  have hK9 := hK.sub (tys' := [(k 20, .int)]) [0] rfl
  refine W.widen (k := 0) (n := 0) (Nat.le_of_ble_eq_true rfl) (Nat.le_of_ble_eq_true rfl) ?_
  exact k_iret () hx hb hr hlocks rfl hP9 hD9 hK9 hS rfl dX5_noteOfPitch_35
set_option maxHeartbeats 4000000 in
set_option maxRecDepth 100000 in
theorem c_foreOf (l : Launch) (dC : Nat → ClassId) (dI : Nat → Nat → Nat) (q : Nat → Nat) (k : Nat → ClassId) (p0 : Int32) (p1 : Int32) (sz : Nat) : Ci l (dC, dI) yX5_foreOf cX5_foreOf 3 (some .int) { frames := 1, cells := 0, slots := 0, locals := 20 } [.ref (q 2), .int p0, .int p1] [] [zpi q k] sz 0 0 Unit (fun r _ => r = (-1)) (fun u => [zpi q k]) (fun _ => []) := by
  refine Ci_of (lv := [(0, .ref (q 2)), (1, .int p0), (2, .int p1)]) (by decide) rfl rfl ?_
  intro p e s m below meth c A ls hx hb hml hr hown hta hlocks hnm hnw hP hD hK hS hA hl
  have hown : s.vm.findClass RX5 = some m.cls := hown
  refine lv_iload_n hx hb dX5_foreOf_0 rfl (lv_at hl 2 rfl) ?_
  refine kSi (b := 0) (n := 1) (As := [.int p1]) (rest := []) ⟨hx, hb, hml, hown, hta⟩ hnw (c_isTied l dC dI p1  s.heap.size) cd_X5_isTied iz_X5 ml_X5_38 st_X5_isTied (by decide +kernel) rfl (Nat.le_of_ble_eq_true rfl) (Nat.le_of_ble_eq_true rfl) rfl rfl (Nat.le_of_ble_eq_true rfl) (Nat.le_of_ble_eq_true rfl) hP hD hK hS hA [] [0] [] rfl (wr := [zpi q k]) rfl (by decide) (by decide) (by decide) rfl hl.1 rfl (Nat.le_of_ble_eq_true rfl) dX5_foreOf_1 (fun r3 u1 H locs hw2 hP hD hK hS => ?_)
  have hP : va_P (dC, dI) vwCl [zpi q k] H := hP
  have hD : va_D A [zpi q k] := hD
  have hK : va_K (dC, dI) vwCl [] s := hK
  obtain rfl : r3 = if tiedB p1 then 1 else 0 := hw2
  refine lv_if_eq (tgt := 14) hx hb dX5_foreOf_4 (by decide) (fun c_4 => ?_) (fun c_4 => ?_)
  · have n_5 : (tiedB p1) = false := ite0 c_4
    refine lv_iconst (v := (-1)) hx hb dX5_foreOf_14 (by decide) ?_
    have hP9 := hP.sub (ws' := [zpi q k]) [0] rfl
    have hD9 := hD.sub (ws' := [zpi q k]) [0] (by decide) rfl
    have hK9 := hK.sub (tys' := []) [] rfl
    refine W.widen (k := 0) (n := 0) (Nat.le_of_ble_eq_true rfl) (Nat.le_of_ble_eq_true rfl) ?_
    exact k_iret () hx hb hr hlocks rfl hP9 hD9 hK9 hS rfl dX5_foreOf_15
  · have n_6 : (tiedB p1) = true := ite1 c_4
    refine lv_aload_n hx hb dX5_foreOf_7 rfl (lv_at hl 0 rfl) ?_
    refine va_get (D := (dC, dI)) (ci := 4) (v := .int 0) (C := RX5) (T := TX5) (N := 7) hx hb hta inlX5 hown hK hP 0 rfl rfl 0 (by decide) (hta _ fl_X5_9) (fun _ h9 => h9) rfl dX5_foreOf_8 ?_
    refine lv_if_ne (tgt := 16) hx hb dX5_foreOf_11 (by decide) (fun c => absurd c (by decide)) (fun _ => ?_)
    refine lv_iconst (v := (-1)) hx hb dX5_foreOf_14 (by decide) ?_
    have hP9 := hP.sub (ws' := [zpi q k]) [0] rfl
    have hD9 := hD.sub (ws' := [zpi q k]) [0] (by decide) rfl
    have hK9 := hK.sub (tys' := []) [] rfl
    refine W.widen (k := 0) (n := 0) (Nat.le_of_ble_eq_true rfl) (Nat.le_of_ble_eq_true rfl) ?_
    exact k_iret () hx hb hr hlocks rfl hP9 hD9 hK9 hS rfl dX5_foreOf_15
set_option maxHeartbeats 4000000 in
set_option maxRecDepth 100000 in
theorem c_addNote (l : Launch) (dC : Nat → ClassId) (dI : Nat → Nat → Nat) (q : Nat → Nat) (k : Nat → ClassId) (p0 : Int32) (p1 : Int32) (p2 : Int32) (p3 : Int32) (p4 : Int32) (sz : Nat) : Ci l (dC, dI) yX5_addNote cX5_addNote 8 (some .int) { frames := 0, cells := 0, slots := 0, locals := 0 } [.ref (q 2), .int p0, .int p1, .int p2, .int p3, .int p4] [(k 20, .int), (k 21, .int), (k 22, .int), (k 23, .int), (k 24, .int), (k 25, .int)] [zpi q k, zsz q k, zpt q k, zkd q k, zpr q k, zfo q k, zfx q k] sz 0 0 Unit (fun r _ => r = 1) (fun _ => []) (fun _ => []) := by
  refine Ci_of (lv := [(0, .ref (q 2)), (1, .int p0), (2, .int p1), (3, .int p2), (4, .int p3), (5, .int p4)]) (by decide) rfl rfl ?_
  intro p e s m below meth c A ls hx hb hml hr hown hta hlocks hnm hnw hP hD hK hS hA hl
  have hown : s.vm.findClass RX5 = some m.cls := hown
  refine lv_aload_n hx hb dX5_addNote_0 rfl (lv_at hl 0 rfl) ?_
  refine va_get (D := (dC, dI)) (ci := 4) (v := .ref (q 20)) (C := RX5) (T := TX5) (N := 7) hx hb hta inlX5 hown hK hP 0 rfl rfl 1 (by decide) (hta _ fl_X5_15) (fun _ h9 => h9) rfl dX5_addNote_1 ?_
  refine lv_aload_n hx hb dX5_addNote_4 rfl (lv_at hl 0 rfl) ?_
  refine va_get (D := (dC, dI)) (ci := 4) (v := .int 0) (C := RX5) (T := TX5) (N := 7) hx hb hta inlX5 hown hK hP 0 rfl rfl 0 (by decide) (hta _ fl_X5_9) (fun _ h9 => h9) rfl dX5_addNote_5 ?_
  refine va_iald hx hb hK hP 1 0 rfl rfl (vin (by decide)) dX5_addNote_8 ?_
  refine k_top (y := 0) rfl ?_
  refine lv_istore (lv' := [(6, .int 0), (0, .ref (q 2)), (1, .int p0), (2, .int p1), (3, .int p2), (4, .int p3), (5, .int p4)]) hx hb dX5_addNote_9 hl (by decide) rfl (fun ls hl => ?_)
  refine lv_aload_n hx hb dX5_addNote_11 rfl (lv_at hl 1 rfl) ?_
  refine va_get (D := (dC, dI)) (ci := 4) (v := .int 0) (C := RX5) (T := TX5) (N := 7) hx hb hta inlX5 hown hK hP 0 rfl rfl 0 (by decide) (hta _ fl_X5_9) (fun _ h9 => h9) rfl dX5_addNote_12 ?_
  refine lv_iconst (v := 4) hx hb dX5_addNote_15 (by decide) ?_
  refine lv_imul hx hb dX5_addNote_16 ?_
  refine k_top (y := 0) (by decide) ?_
  refine lv_iload hx hb dX5_addNote_17 (lv_at hl 0 rfl) ?_
  refine lv_iadd hx hb dX5_addNote_19 ?_
  refine k_top (y := 0) (by decide) ?_
  refine lv_istore (lv' := [(7, .int 0), (6, .int 0), (0, .ref (q 2)), (1, .int p0), (2, .int p1), (3, .int p2), (4, .int p3), (5, .int p4)]) hx hb dX5_addNote_20 hl (by decide) rfl (fun ls hl => ?_)
  refine lv_aload_n hx hb dX5_addNote_22 rfl (lv_at hl 2 rfl) ?_
  refine va_get (D := (dC, dI)) (ci := 4) (v := .ref (q 21)) (C := RX5) (T := TX5) (N := 7) hx hb hta inlX5 hown hK hP 0 rfl rfl 2 (by decide) (hta _ fl_X5_19) (fun _ h9 => h9) rfl dX5_addNote_23 ?_
  refine lv_iload hx hb dX5_addNote_26 (lv_at hl 0 rfl) ?_
  refine lv_iload_n hx hb dX5_addNote_28 rfl (lv_at hl 3 rfl) ?_
  refine va_iast hx hb hK hP hD hS 2 1 rfl rfl (vin (by decide)) dX5_addNote_29 (fun H locs hP hD hS => ?_)
  have hP : va_P (dC, dI) vwCl [zpi q k, zsz q k, (q 21, .inl (k 21, 68, .inl (upd (fun _ => 0) 0 p0))), zkd q k, zpr q k, zfo q k, zfx q k] H := hP
  have hD : va_D A [zpi q k, zsz q k, (q 21, .inl (k 21, 68, .inl (upd (fun _ => 0) 0 p0))), zkd q k, zpr q k, zfo q k, zfx q k] := hD
  refine lv_aload_n hx hb dX5_addNote_30 rfl (lv_at hl 2 rfl) ?_
  refine va_get (D := (dC, dI)) (ci := 4) (v := .ref (q 22)) (C := RX5) (T := TX5) (N := 7) hx hb hta inlX5 hown hK hP 0 rfl rfl 3 (by decide) (hta _ fl_X5_22) (fun _ h9 => h9) rfl dX5_addNote_31 ?_
  refine lv_iload hx hb dX5_addNote_34 (lv_at hl 0 rfl) ?_
  refine lv_iload_n hx hb dX5_addNote_36 rfl (lv_at hl 4 rfl) ?_
  refine va_iast hx hb hK hP hD hS 3 2 rfl rfl (vin (by decide)) dX5_addNote_37 (fun H locs hP hD hS => ?_)
  have hP : va_P (dC, dI) vwCl [zpi q k, zsz q k, (q 21, .inl (k 21, 68, .inl (upd (fun _ => 0) 0 p0))), (q 22, .inl (k 22, 68, .inl (upd (fun _ => 0) 0 p1))), zpr q k, zfo q k, zfx q k] H := hP
  have hD : va_D A [zpi q k, zsz q k, (q 21, .inl (k 21, 68, .inl (upd (fun _ => 0) 0 p0))), (q 22, .inl (k 22, 68, .inl (upd (fun _ => 0) 0 p1))), zpr q k, zfo q k, zfx q k] := hD
  refine lv_aload_n hx hb dX5_addNote_38 rfl (lv_at hl 2 rfl) ?_
  refine va_get (D := (dC, dI)) (ci := 4) (v := .ref (q 23)) (C := RX5) (T := TX5) (N := 7) hx hb hta inlX5 hown hK hP 0 rfl rfl 4 (by decide) (hta _ fl_X5_25) (fun _ h9 => h9) rfl dX5_addNote_39 ?_
  refine lv_iload hx hb dX5_addNote_42 (lv_at hl 0 rfl) ?_
  refine lv_iload_n hx hb dX5_addNote_44 rfl (lv_at hl 5 rfl) ?_
  refine va_iast hx hb hK hP hD hS 4 3 rfl rfl (vin (by decide)) dX5_addNote_45 (fun H locs hP hD hS => ?_)
  have hP : va_P (dC, dI) vwCl [zpi q k, zsz q k, (q 21, .inl (k 21, 68, .inl (upd (fun _ => 0) 0 p0))), (q 22, .inl (k 22, 68, .inl (upd (fun _ => 0) 0 p1))), (q 23, .inl (k 23, 68, .inl (upd (fun _ => 0) 0 p2))), zfo q k, zfx q k] H := hP
  have hD : va_D A [zpi q k, zsz q k, (q 21, .inl (k 21, 68, .inl (upd (fun _ => 0) 0 p0))), (q 22, .inl (k 22, 68, .inl (upd (fun _ => 0) 0 p1))), (q 23, .inl (k 23, 68, .inl (upd (fun _ => 0) 0 p2))), zfo q k, zfx q k] := hD
  refine lv_aload_n hx hb dX5_addNote_46 rfl (lv_at hl 2 rfl) ?_
  refine va_get (D := (dC, dI)) (ci := 4) (v := .ref (q 24)) (C := RX5) (T := TX5) (N := 7) hx hb hta inlX5 hown hK hP 0 rfl rfl 5 (by decide) (hta _ fl_X5_28) (fun _ h9 => h9) rfl dX5_addNote_47 ?_
  refine lv_iload hx hb dX5_addNote_50 (lv_at hl 0 rfl) ?_
  refine lv_iload hx hb dX5_addNote_52 (lv_at hl 6 rfl) ?_
  refine va_iast hx hb hK hP hD hS 5 4 rfl rfl (vin (by decide)) dX5_addNote_54 (fun H locs hP hD hS => ?_)
  have hP : va_P (dC, dI) vwCl [zpi q k, zsz q k, (q 21, .inl (k 21, 68, .inl (upd (fun _ => 0) 0 p0))), (q 22, .inl (k 22, 68, .inl (upd (fun _ => 0) 0 p1))), (q 23, .inl (k 23, 68, .inl (upd (fun _ => 0) 0 p2))), (q 24, .inl (k 24, 68, .inl (upd (fun _ => 0) 0 p3))), zfx q k] H := hP
  have hD : va_D A [zpi q k, zsz q k, (q 21, .inl (k 21, 68, .inl (upd (fun _ => 0) 0 p0))), (q 22, .inl (k 22, 68, .inl (upd (fun _ => 0) 0 p1))), (q 23, .inl (k 23, 68, .inl (upd (fun _ => 0) 0 p2))), (q 24, .inl (k 24, 68, .inl (upd (fun _ => 0) 0 p3))), zfx q k] := hD
  refine lv_aload_n hx hb dX5_addNote_55 rfl (lv_at hl 2 rfl) ?_
  refine va_get (D := (dC, dI)) (ci := 4) (v := .ref (q 25)) (C := RX5) (T := TX5) (N := 7) hx hb hta inlX5 hown hK hP 0 rfl rfl 6 (by decide) (hta _ fl_X5_31) (fun _ h9 => h9) rfl dX5_addNote_56 ?_
  refine lv_iload hx hb dX5_addNote_59 (lv_at hl 0 rfl) ?_
  refine lv_iload hx hb dX5_addNote_61 (lv_at hl 7 rfl) ?_
  refine va_iast hx hb hK hP hD hS 6 5 rfl rfl (vin (by decide)) dX5_addNote_63 (fun H locs hP hD hS => ?_)
  have hP : va_P (dC, dI) vwCl [zpi q k, zsz q k, (q 21, .inl (k 21, 68, .inl (upd (fun _ => 0) 0 p0))), (q 22, .inl (k 22, 68, .inl (upd (fun _ => 0) 0 p1))), (q 23, .inl (k 23, 68, .inl (upd (fun _ => 0) 0 p2))), (q 24, .inl (k 24, 68, .inl (upd (fun _ => 0) 0 p3))), (q 25, .inl (k 25, 68, .inl (upd (fun _ => 0) 0 p4)))] H := hP
  have hD : va_D A [zpi q k, zsz q k, (q 21, .inl (k 21, 68, .inl (upd (fun _ => 0) 0 p0))), (q 22, .inl (k 22, 68, .inl (upd (fun _ => 0) 0 p1))), (q 23, .inl (k 23, 68, .inl (upd (fun _ => 0) 0 p2))), (q 24, .inl (k 24, 68, .inl (upd (fun _ => 0) 0 p3))), (q 25, .inl (k 25, 68, .inl (upd (fun _ => 0) 0 p4)))] := hD
  refine lv_aload_n hx hb dX5_addNote_64 rfl (lv_at hl 2 rfl) ?_
  refine va_get (D := (dC, dI)) (ci := 4) (v := .ref (q 20)) (C := RX5) (T := TX5) (N := 7) hx hb hta inlX5 hown hK hP 0 rfl rfl 1 (by decide) (hta _ fl_X5_15) (fun _ h9 => h9) rfl dX5_addNote_65 ?_
  refine lv_aload_n hx hb dX5_addNote_68 rfl (lv_at hl 2 rfl) ?_
  refine va_get (D := (dC, dI)) (ci := 4) (v := .int 0) (C := RX5) (T := TX5) (N := 7) hx hb hta inlX5 hown hK hP 0 rfl rfl 0 (by decide) (hta _ fl_X5_9) (fun _ h9 => h9) rfl dX5_addNote_69 ?_
  refine lv_iload hx hb dX5_addNote_72 (lv_at hl 1 rfl) ?_
  refine lv_iconst (v := 1) hx hb dX5_addNote_74 (by decide) ?_
  refine lv_iadd hx hb dX5_addNote_75 ?_
  refine k_top (y := 1) (by decide) ?_
  refine va_iast hx hb hK hP hD hS 1 0 rfl rfl (vin (by decide)) dX5_addNote_76 (fun H locs hP hD hS => ?_)
  have hP : va_P (dC, dI) vwCl [zpi q k, (q 20, .inl (k 20, 17, .inl (upd (fun _ => 0) 0 1))), (q 21, .inl (k 21, 68, .inl (upd (fun _ => 0) 0 p0))), (q 22, .inl (k 22, 68, .inl (upd (fun _ => 0) 0 p1))), (q 23, .inl (k 23, 68, .inl (upd (fun _ => 0) 0 p2))), (q 24, .inl (k 24, 68, .inl (upd (fun _ => 0) 0 p3))), (q 25, .inl (k 25, 68, .inl (upd (fun _ => 0) 0 p4)))] H := hP
  have hD : va_D A [zpi q k, (q 20, .inl (k 20, 17, .inl (upd (fun _ => 0) 0 1))), (q 21, .inl (k 21, 68, .inl (upd (fun _ => 0) 0 p0))), (q 22, .inl (k 22, 68, .inl (upd (fun _ => 0) 0 p1))), (q 23, .inl (k 23, 68, .inl (upd (fun _ => 0) 0 p2))), (q 24, .inl (k 24, 68, .inl (upd (fun _ => 0) 0 p3))), (q 25, .inl (k 25, 68, .inl (upd (fun _ => 0) 0 p4)))] := hD
  refine lv_iload hx hb dX5_addNote_77 (lv_at hl 1 rfl) ?_
  refine lv_iconst (v := 1) hx hb dX5_addNote_79 (by decide) ?_
  refine lv_iadd hx hb dX5_addNote_80 ?_
  refine k_top (y := 1) (by decide) ?_
  refine W.widen (k := 0) (n := 0) (Nat.le_of_ble_eq_true rfl) (Nat.le_of_ble_eq_true rfl) ?_
  exact k_iret () hx hb hr hlocks rfl P_nil D_nil (hK.sub (tys' := []) [] rfl) hS rfl dX5_addNote_81
set_option maxHeartbeats 4000000 in
set_option maxRecDepth 100000 in
theorem c_notesOfTicks (l : Launch) (dC : Nat → ClassId) (dI : Nat → Nat → Nat) (q : Nat → Nat) (k : Nat → ClassId) (sz : Nat) : Ci l (dC, dI) yX5_notesOfTicks cX5_notesOfTicks 3 (some .int) { frames := 0, cells := 0, slots := 0, locals := 0 } [.ref (q 2)] [] [zpi q k] sz 0 0 Unit (fun r _ => r = 0) (fun _ => []) (fun _ => []) := by
  refine Ci_of (lv := [(0, .ref (q 2))]) (by decide) rfl rfl ?_
  intro p e s m below meth c A ls hx hb hml hr hown hta hlocks hnm hnw hP hD hK hS hA hl
  have hown : s.vm.findClass RX5 = some m.cls := hown
  refine lv_iconst (v := 0) hx hb dX5_notesOfTicks_0 (by decide) ?_
  refine lv_istore_n (lv' := [(1, .int 0), (0, .ref (q 2))]) hx hb dX5_notesOfTicks_1 rfl hl (by decide) rfl (fun ls hl => ?_)
  refine lv_iconst (v := 0) hx hb dX5_notesOfTicks_2 (by decide) ?_
  refine lv_istore_n (lv' := [(2, .int 0), (1, .int 0), (0, .ref (q 2))]) hx hb dX5_notesOfTicks_3 rfl hl (by decide) rfl (fun ls hl => ?_)
  refine lv_iload_n hx hb dX5_notesOfTicks_4 rfl (lv_at hl 0 rfl) ?_
  refine lv_aload_n hx hb dX5_notesOfTicks_5 rfl (lv_at hl 2 rfl) ?_
  refine va_get (D := (dC, dI)) (ci := 4) (v := .int 0) (C := RX5) (T := TX5) (N := 7) hx hb hta inlX5 hown hK hP 0 rfl rfl 0 (by decide) (hta _ fl_X5_9) (fun _ h9 => h9) rfl dX5_notesOfTicks_6 ?_
  refine lv_icmp_ge (tgt := 27) hx hb dX5_notesOfTicks_9 (by decide) (fun _ => ?_) (fun c => absurd (by decide) c)
  refine lv_iload_n hx hb dX5_notesOfTicks_27 rfl (lv_at hl 1 rfl) ?_
  refine W.widen (k := 0) (n := 0) (Nat.le_of_ble_eq_true rfl) (Nat.le_of_ble_eq_true rfl) ?_
  exact k_iret () hx hb hr hlocks rfl P_nil D_nil (hK.sub (tys' := []) [] rfl) hS rfl dX5_notesOfTicks_28
set_option maxHeartbeats 4000000 in
set_option maxRecDepth 100000 in
theorem c_removeAll (l : Launch) (dC : Nat → ClassId) (dI : Nat → Nat → Nat) (q : Nat → Nat) (k : Nat → ClassId) (sz : Nat) : Cv l (dC, dI) yX5_removeAll cX5_removeAll 1 { frames := 0, cells := 0, slots := 0, locals := 0 } [.ref (q 2)] [(k 20, .int)] [zpi q k, zsz q k] sz 0 0 Unit (fun _ => True) (fun _ => []) (fun _ => []) := by
  refine Cv_of (lv := [(0, .ref (q 2))]) (by decide) rfl rfl ?_
  intro p e s m below meth c A ls hx hb hml hr hown hta hlocks hnm hnw hP hD hK hS hA hl
  have hown : s.vm.findClass RX5 = some m.cls := hown
  refine lv_aload_n hx hb dX5_removeAll_0 rfl (lv_at hl 0 rfl) ?_
  refine lv_iconst (v := 0) hx hb dX5_removeAll_1 (by decide) ?_
  refine va_put (D := (dC, dI)) (ci := 4) (v := .int 0) (ty := .int) (C := RX5) (T := TX5) (N := 7) hx hb hta inlX5 tyX5 tyX5_ok nmX5 hown hK hP hD hS 0 rfl rfl 0 (by decide) (hta _ fl_X5_9) (fun _ h9 => h9) rfl (by decide +kernel) rfl rfl (Nat.le_of_ble_eq_true rfl) dX5_removeAll_2 (fun H locs hP hD hS => ?_)
  have hP : va_P (dC, dI) vwCl [(q 2, .inr (4, [.int 0, .ref (q 20), .ref (q 21), .ref (q 22), .ref (q 23), .ref (q 24), .ref (q 25)])), zsz q k] H := hP
  have hD : va_D A [(q 2, .inr (4, [.int 0, .ref (q 20), .ref (q 21), .ref (q 22), .ref (q 23), .ref (q 24), .ref (q 25)])), zsz q k] := hD
  refine lv_aload_n hx hb dX5_removeAll_5 rfl (lv_at hl 0 rfl) ?_
  refine va_get (D := (dC, dI)) (ci := 4) (v := .ref (q 20)) (C := RX5) (T := TX5) (N := 7) hx hb hta inlX5 hown hK hP 0 rfl rfl 1 (by decide) (hta _ fl_X5_15) (fun _ h9 => h9) rfl dX5_removeAll_6 ?_
  refine lv_iconst (v := 0) hx hb dX5_removeAll_9 (by decide) ?_
  refine lv_iconst (v := 0) hx hb dX5_removeAll_10 (by decide) ?_
  refine va_iast hx hb hK hP hD hS 1 0 rfl rfl (vin (by decide)) dX5_removeAll_11 (fun H locs hP hD hS => ?_)
  have hP : va_P (dC, dI) vwCl [(q 2, .inr (4, [.int 0, .ref (q 20), .ref (q 21), .ref (q 22), .ref (q 23), .ref (q 24), .ref (q 25)])), (q 20, .inl (k 20, 17, .inl (upd (fun _ => 0) 0 0)))] H := hP
  have hD : va_D A [(q 2, .inr (4, [.int 0, .ref (q 20), .ref (q 21), .ref (q 22), .ref (q 23), .ref (q 24), .ref (q 25)])), (q 20, .inl (k 20, 17, .inl (upd (fun _ => 0) 0 0)))] := hD
  refine W.widen (k := 0) (n := 0) (Nat.le_of_ble_eq_true rfl) (Nat.le_of_ble_eq_true rfl) ?_
  exact k_vret () hx hb hr hlocks P_nil D_nil (hK.sub (tys' := []) [] rfl) hS trivial dX5_removeAll_12
set_option maxHeartbeats 4000000 in
set_option maxRecDepth 100000 in
theorem c_addCourse (l : Launch) (dC : Nat → ClassId) (dI : Nat → Nat → Nat) (q : Nat → Nat) (k : Nat → ClassId) (p0 : Int32) (p1 : Int32) (sz : Nat) : Ci l (dC, dI) yX4_addCourse cX4_addCourse 5 (some .int) { frames := 0, cells := 0, slots := 0, locals := 0 } [.ref (q 1), .int p0, .int p1] [(k 10, .int), (k 11, .int), (k 14, .int)] [zlu q k, ztu q k, zfr q k, ztn q k] sz 0 0 Unit (fun r _ => r = 0) (fun _ => []) (fun _ => []) := by
  refine Ci_of (lv := [(0, .ref (q 1)), (1, .int p0), (2, .int p1)]) (by decide) rfl rfl ?_
  intro p e s m below meth c A ls hx hb hml hr hown hta hlocks hnm hnw hP hD hK hS hA hl
  have hown : s.vm.findClass RX4 = some m.cls := hown
  refine lv_aload_n hx hb dX4_addCourse_0 rfl (lv_at hl 0 rfl) ?_
  refine va_get (D := (dC, dI)) (ci := 3) (v := .int 0) (C := RX4) (T := TX4) (N := 7) hx hb hta inlX4 hown hK hP 0 rfl rfl 0 (by decide) (hta _ fl_X4_9) (fun _ h9 => h9) rfl dX4_addCourse_1 ?_
  refine lv_istore_n (lv' := [(3, .int 0), (0, .ref (q 1)), (1, .int p0), (2, .int p1)]) hx hb dX4_addCourse_4 rfl hl (by decide) rfl (fun ls hl => ?_)
  refine lv_aload_n hx hb dX4_addCourse_5 rfl (lv_at hl 1 rfl) ?_
  refine va_get (D := (dC, dI)) (ci := 3) (v := .ref (q 10)) (C := RX4) (T := TX4) (N := 7) hx hb hta inlX4 hown hK hP 0 rfl rfl 2 (by decide) (hta _ fl_X4_19) (fun _ h9 => h9) rfl dX4_addCourse_6 ?_
  refine lv_iload_n hx hb dX4_addCourse_9 rfl (lv_at hl 0 rfl) ?_
  refine lv_iload_n hx hb dX4_addCourse_10 rfl (lv_at hl 2 rfl) ?_
  refine va_iast hx hb hK hP hD hS 1 0 rfl rfl (vin (by decide)) dX4_addCourse_11 (fun H locs hP hD hS => ?_)
  have hP : va_P (dC, dI) vwCl [zlu q k, (q 10, .inl (k 10, 6, .inl (upd (fun _ => 0) 0 p0))), zfr q k, ztn q k] H := hP
  have hD : va_D A [zlu q k, (q 10, .inl (k 10, 6, .inl (upd (fun _ => 0) 0 p0))), zfr q k, ztn q k] := hD
  refine lv_aload_n hx hb dX4_addCourse_12 rfl (lv_at hl 1 rfl) ?_
  refine va_get (D := (dC, dI)) (ci := 3) (v := .ref (q 11)) (C := RX4) (T := TX4) (N := 7) hx hb hta inlX4 hown hK hP 0 rfl rfl 3 (by decide) (hta _ fl_X4_23) (fun _ h9 => h9) rfl dX4_addCourse_13 ?_
  refine lv_iload_n hx hb dX4_addCourse_16 rfl (lv_at hl 0 rfl) ?_
  refine lv_iload_n hx hb dX4_addCourse_17 rfl (lv_at hl 3 rfl) ?_
  refine va_iast hx hb hK hP hD hS 2 1 rfl rfl (vin (by decide)) dX4_addCourse_18 (fun H locs hP hD hS => ?_)
  have hP : va_P (dC, dI) vwCl [zlu q k, (q 10, .inl (k 10, 6, .inl (upd (fun _ => 0) 0 p0))), (q 11, .inl (k 11, 6, .inl (upd (fun _ => 0) 0 p1))), ztn q k] H := hP
  have hD : va_D A [zlu q k, (q 10, .inl (k 10, 6, .inl (upd (fun _ => 0) 0 p0))), (q 11, .inl (k 11, 6, .inl (upd (fun _ => 0) 0 p1))), ztn q k] := hD
  refine lv_iconst (v := 0) hx hb dX4_addCourse_19 (by decide) ?_
  refine lv_istore (lv' := [(4, .int 0), (3, .int 0), (0, .ref (q 1)), (1, .int p0), (2, .int p1)]) hx hb dX4_addCourse_20 hl (by decide) rfl (fun ls hl => ?_)
  refine lv_iload hx hb dX4_addCourse_22 (lv_at hl 0 rfl) ?_
  refine lv_iconst (v := 4) hx hb dX4_addCourse_24 (by decide) ?_
  refine lv_icmp_ge (tgt := 47) hx hb dX4_addCourse_25 (by decide) (fun c => absurd c (by decide)) (fun _ => ?_)
  refine lv_aload_n hx hb dX4_addCourse_28 rfl (lv_at hl 2 rfl) ?_
  refine va_get (D := (dC, dI)) (ci := 3) (v := .ref (q 14)) (C := RX4) (T := TX4) (N := 7) hx hb hta inlX4 hown hK hP 0 rfl rfl 6 (by decide) (hta _ fl_X4_32) (fun _ h9 => h9) rfl dX4_addCourse_29 ?_
  refine lv_iload hx hb dX4_addCourse_32 (lv_at hl 0 rfl) ?_
  refine lv_bipush (v := 6) hx hb dX4_addCourse_34 (by decide) ?_
  refine lv_imul hx hb dX4_addCourse_36 ?_
  refine k_top (y := 0) (by decide) ?_
  refine lv_iload_n hx hb dX4_addCourse_37 rfl (lv_at hl 1 rfl) ?_
  refine lv_iadd hx hb dX4_addCourse_38 ?_
  refine k_top (y := 0) (by decide) ?_
  refine lv_iload_n hx hb dX4_addCourse_39 rfl (lv_at hl 3 rfl) ?_
  refine va_iast hx hb hK hP hD hS 3 2 rfl rfl (vin (by decide)) dX4_addCourse_40 (fun H locs hP hD hS => ?_)
  have hP : va_P (dC, dI) vwCl [zlu q k, (q 10, .inl (k 10, 6, .inl (upd (fun _ => 0) 0 p0))), (q 11, .inl (k 11, 6, .inl (upd (fun _ => 0) 0 p1))), (q 14, .inl (k 14, 24, .inl (upd (fun _ => 0) 0 p0)))] H := hP
  have hD : va_D A [zlu q k, (q 10, .inl (k 10, 6, .inl (upd (fun _ => 0) 0 p0))), (q 11, .inl (k 11, 6, .inl (upd (fun _ => 0) 0 p1))), (q 14, .inl (k 14, 24, .inl (upd (fun _ => 0) 0 p0)))] := hD
  refine lv_iinc (v := 1) (lv' := [(4, .int 1), (3, .int 0), (0, .ref (q 1)), (1, .int p0), (2, .int p1)]) hx hb dX4_addCourse_41 hl (k := 0) rfl (by decide) (by decide) rfl (fun ls hl => ?_)
  refine lv_goto (tgt := 22) hx hb dX4_addCourse_44 (by decide) ?_
  refine lv_iload hx hb dX4_addCourse_22 (lv_at hl 0 rfl) ?_
  refine lv_iconst (v := 4) hx hb dX4_addCourse_24 (by decide) ?_
  refine lv_icmp_ge (tgt := 47) hx hb dX4_addCourse_25 (by decide) (fun c => absurd c (by decide)) (fun _ => ?_)
  refine lv_aload_n hx hb dX4_addCourse_28 rfl (lv_at hl 2 rfl) ?_
  refine va_get (D := (dC, dI)) (ci := 3) (v := .ref (q 14)) (C := RX4) (T := TX4) (N := 7) hx hb hta inlX4 hown hK hP 0 rfl rfl 6 (by decide) (hta _ fl_X4_32) (fun _ h9 => h9) rfl dX4_addCourse_29 ?_
  refine lv_iload hx hb dX4_addCourse_32 (lv_at hl 0 rfl) ?_
  refine lv_bipush (v := 6) hx hb dX4_addCourse_34 (by decide) ?_
  refine lv_imul hx hb dX4_addCourse_36 ?_
  refine k_top (y := 6) (by decide) ?_
  refine lv_iload_n hx hb dX4_addCourse_37 rfl (lv_at hl 1 rfl) ?_
  refine lv_iadd hx hb dX4_addCourse_38 ?_
  refine k_top (y := 6) (by decide) ?_
  refine lv_iload_n hx hb dX4_addCourse_39 rfl (lv_at hl 3 rfl) ?_
  refine va_iast hx hb hK hP hD hS 3 2 rfl rfl (vin (by decide)) dX4_addCourse_40 (fun H locs hP hD hS => ?_)
  have hP : va_P (dC, dI) vwCl [zlu q k, (q 10, .inl (k 10, 6, .inl (upd (fun _ => 0) 0 p0))), (q 11, .inl (k 11, 6, .inl (upd (fun _ => 0) 0 p1))), (q 14, .inl (k 14, 24, .inl (upd (upd (fun _ => 0) 0 p0) 6 p0)))] H := hP
  have hD : va_D A [zlu q k, (q 10, .inl (k 10, 6, .inl (upd (fun _ => 0) 0 p0))), (q 11, .inl (k 11, 6, .inl (upd (fun _ => 0) 0 p1))), (q 14, .inl (k 14, 24, .inl (upd (upd (fun _ => 0) 0 p0) 6 p0)))] := hD
  refine lv_iinc (v := 2) (lv' := [(4, .int 2), (3, .int 0), (0, .ref (q 1)), (1, .int p0), (2, .int p1)]) hx hb dX4_addCourse_41 hl (k := 0) rfl (by decide) (by decide) rfl (fun ls hl => ?_)
  refine lv_goto (tgt := 22) hx hb dX4_addCourse_44 (by decide) ?_
  refine lv_iload hx hb dX4_addCourse_22 (lv_at hl 0 rfl) ?_
  refine lv_iconst (v := 4) hx hb dX4_addCourse_24 (by decide) ?_
  refine lv_icmp_ge (tgt := 47) hx hb dX4_addCourse_25 (by decide) (fun c => absurd c (by decide)) (fun _ => ?_)
  refine lv_aload_n hx hb dX4_addCourse_28 rfl (lv_at hl 2 rfl) ?_
  refine va_get (D := (dC, dI)) (ci := 3) (v := .ref (q 14)) (C := RX4) (T := TX4) (N := 7) hx hb hta inlX4 hown hK hP 0 rfl rfl 6 (by decide) (hta _ fl_X4_32) (fun _ h9 => h9) rfl dX4_addCourse_29 ?_
  refine lv_iload hx hb dX4_addCourse_32 (lv_at hl 0 rfl) ?_
  refine lv_bipush (v := 6) hx hb dX4_addCourse_34 (by decide) ?_
  refine lv_imul hx hb dX4_addCourse_36 ?_
  refine k_top (y := 12) (by decide) ?_
  refine lv_iload_n hx hb dX4_addCourse_37 rfl (lv_at hl 1 rfl) ?_
  refine lv_iadd hx hb dX4_addCourse_38 ?_
  refine k_top (y := 12) (by decide) ?_
  refine lv_iload_n hx hb dX4_addCourse_39 rfl (lv_at hl 3 rfl) ?_
  refine va_iast hx hb hK hP hD hS 3 2 rfl rfl (vin (by decide)) dX4_addCourse_40 (fun H locs hP hD hS => ?_)
  have hP : va_P (dC, dI) vwCl [zlu q k, (q 10, .inl (k 10, 6, .inl (upd (fun _ => 0) 0 p0))), (q 11, .inl (k 11, 6, .inl (upd (fun _ => 0) 0 p1))), (q 14, .inl (k 14, 24, .inl (upd (upd (upd (fun _ => 0) 0 p0) 6 p0) 12 p0)))] H := hP
  have hD : va_D A [zlu q k, (q 10, .inl (k 10, 6, .inl (upd (fun _ => 0) 0 p0))), (q 11, .inl (k 11, 6, .inl (upd (fun _ => 0) 0 p1))), (q 14, .inl (k 14, 24, .inl (upd (upd (upd (fun _ => 0) 0 p0) 6 p0) 12 p0)))] := hD
  refine lv_iinc (v := 3) (lv' := [(4, .int 3), (3, .int 0), (0, .ref (q 1)), (1, .int p0), (2, .int p1)]) hx hb dX4_addCourse_41 hl (k := 0) rfl (by decide) (by decide) rfl (fun ls hl => ?_)
  refine lv_goto (tgt := 22) hx hb dX4_addCourse_44 (by decide) ?_
  refine lv_iload hx hb dX4_addCourse_22 (lv_at hl 0 rfl) ?_
  refine lv_iconst (v := 4) hx hb dX4_addCourse_24 (by decide) ?_
  refine lv_icmp_ge (tgt := 47) hx hb dX4_addCourse_25 (by decide) (fun c => absurd c (by decide)) (fun _ => ?_)
  refine lv_aload_n hx hb dX4_addCourse_28 rfl (lv_at hl 2 rfl) ?_
  refine va_get (D := (dC, dI)) (ci := 3) (v := .ref (q 14)) (C := RX4) (T := TX4) (N := 7) hx hb hta inlX4 hown hK hP 0 rfl rfl 6 (by decide) (hta _ fl_X4_32) (fun _ h9 => h9) rfl dX4_addCourse_29 ?_
  refine lv_iload hx hb dX4_addCourse_32 (lv_at hl 0 rfl) ?_
  refine lv_bipush (v := 6) hx hb dX4_addCourse_34 (by decide) ?_
  refine lv_imul hx hb dX4_addCourse_36 ?_
  refine k_top (y := 18) (by decide) ?_
  refine lv_iload_n hx hb dX4_addCourse_37 rfl (lv_at hl 1 rfl) ?_
  refine lv_iadd hx hb dX4_addCourse_38 ?_
  refine k_top (y := 18) (by decide) ?_
  refine lv_iload_n hx hb dX4_addCourse_39 rfl (lv_at hl 3 rfl) ?_
  refine va_iast hx hb hK hP hD hS 3 2 rfl rfl (vin (by decide)) dX4_addCourse_40 (fun H locs hP hD hS => ?_)
  have hP : va_P (dC, dI) vwCl [zlu q k, (q 10, .inl (k 10, 6, .inl (upd (fun _ => 0) 0 p0))), (q 11, .inl (k 11, 6, .inl (upd (fun _ => 0) 0 p1))), (q 14, .inl (k 14, 24, .inl (upd (upd (upd (upd (fun _ => 0) 0 p0) 6 p0) 12 p0) 18 p0)))] H := hP
  have hD : va_D A [zlu q k, (q 10, .inl (k 10, 6, .inl (upd (fun _ => 0) 0 p0))), (q 11, .inl (k 11, 6, .inl (upd (fun _ => 0) 0 p1))), (q 14, .inl (k 14, 24, .inl (upd (upd (upd (upd (fun _ => 0) 0 p0) 6 p0) 12 p0) 18 p0)))] := hD
  refine lv_iinc (v := 4) (lv' := [(4, .int 4), (3, .int 0), (0, .ref (q 1)), (1, .int p0), (2, .int p1)]) hx hb dX4_addCourse_41 hl (k := 0) rfl (by decide) (by decide) rfl (fun ls hl => ?_)
  refine lv_goto (tgt := 22) hx hb dX4_addCourse_44 (by decide) ?_
  refine lv_iload hx hb dX4_addCourse_22 (lv_at hl 0 rfl) ?_
  refine lv_iconst (v := 4) hx hb dX4_addCourse_24 (by decide) ?_
  refine lv_icmp_ge (tgt := 47) hx hb dX4_addCourse_25 (by decide) (fun _ => ?_) (fun c => absurd (by decide) c)
  refine lv_aload_n hx hb dX4_addCourse_47 rfl (lv_at hl 2 rfl) ?_
  refine lv_dup hx hb dX4_addCourse_48 rfl ?_
  refine va_get (D := (dC, dI)) (ci := 3) (v := .int 0) (C := RX4) (T := TX4) (N := 7) hx hb hta inlX4 hown hK hP 0 rfl rfl 0 (by decide) (hta _ fl_X4_9) (fun _ h9 => h9) rfl dX4_addCourse_49 ?_
  refine lv_iconst (v := 1) hx hb dX4_addCourse_52 (by decide) ?_
  refine lv_iadd hx hb dX4_addCourse_53 ?_
  refine k_top (y := 1) (by decide) ?_
  refine va_put (D := (dC, dI)) (ci := 3) (v := .int 1) (ty := .int) (C := RX4) (T := TX4) (N := 7) hx hb hta inlX4 tyX4 tyX4_ok nmX4 hown hK hP hD hS 0 rfl rfl 0 (by decide) (hta _ fl_X4_9) (fun _ h9 => h9) rfl (by decide +kernel) rfl rfl (Nat.le_of_ble_eq_true rfl) dX4_addCourse_54 (fun H locs hP hD hS => ?_)
  have hP : va_P (dC, dI) vwCl [(q 1, .inr (3, [.int 1, .int 0, .ref (q 10), .ref (q 11), .ref (q 12), .ref (q 13), .ref (q 14)])), (q 10, .inl (k 10, 6, .inl (upd (fun _ => 0) 0 p0))), (q 11, .inl (k 11, 6, .inl (upd (fun _ => 0) 0 p1))), (q 14, .inl (k 14, 24, .inl (upd (upd (upd (upd (fun _ => 0) 0 p0) 6 p0) 12 p0) 18 p0)))] H := hP
  have hD : va_D A [(q 1, .inr (3, [.int 1, .int 0, .ref (q 10), .ref (q 11), .ref (q 12), .ref (q 13), .ref (q 14)])), (q 10, .inl (k 10, 6, .inl (upd (fun _ => 0) 0 p0))), (q 11, .inl (k 11, 6, .inl (upd (fun _ => 0) 0 p1))), (q 14, .inl (k 14, 24, .inl (upd (upd (upd (upd (fun _ => 0) 0 p0) 6 p0) 12 p0) 18 p0)))] := hD
  refine lv_iload_n hx hb dX4_addCourse_57 rfl (lv_at hl 1 rfl) ?_
  refine W.widen (k := 0) (n := 0) (Nat.le_of_ble_eq_true rfl) (Nat.le_of_ble_eq_true rfl) ?_
  exact k_iret () hx hb hr hlocks rfl P_nil D_nil (hK.sub (tys' := []) [] rfl) hS rfl dX4_addCourse_58
set_option maxHeartbeats 4000000 in
set_option maxRecDepth 100000 in
theorem c_append (l : Launch) (dC : Nat → ClassId) (dI : Nat → Nat → Nat) (q : Nat → Nat) (k : Nat → ClassId) (p0 : Int32) (sz : Nat) : Cv l (dC, dI) yX6_append cX6_append 2 { frames := 0, cells := 0, slots := 0, locals := 0 } [.ref (q 3), .int p0] [(k 30, .int)] [ztp q k, zby q k] sz 0 0 Unit (fun _ => True) (fun u => [(q 3, .inr (5, [.ref (q 30), .int 1]))]) (fun _ => []) := by
  refine Cv_of (lv := [(0, .ref (q 3)), (1, .int p0)]) (by decide) rfl rfl ?_
  intro p e s m below meth c A ls hx hb hml hr hown hta hlocks hnm hnw hP hD hK hS hA hl
  have hown : s.vm.findClass RX6 = some m.cls := hown
  refine lv_aload_n hx hb dX6_append_0 rfl (lv_at hl 0 rfl) ?_
  refine va_get (D := (dC, dI)) (ci := 5) (v := .int 0) (C := RX6) (T := TX6) (N := 2) hx hb hta inlX6 hown hK hP 0 rfl rfl 1 (by decide) (hta _ fl_X6_15) (fun _ h9 => h9) rfl dX6_append_1 ?_
  refine lv_sipush (v := 600) hx hb dX6_append_4 (by decide) ?_
  refine lv_icmp_lt (tgt := 11) hx hb dX6_append_7 (by decide) (fun _ => ?_) (fun c => absurd (by decide) c)
  refine lv_aload_n hx hb dX6_append_11 rfl (lv_at hl 0 rfl) ?_
  refine va_get (D := (dC, dI)) (ci := 5) (v := .ref (q 30)) (C := RX6) (T := TX6) (N := 2) hx hb hta inlX6 hown hK hP 0 rfl rfl 0 (by decide) (hta _ fl_X6_9) (fun _ h9 => h9) rfl dX6_append_12 ?_
  refine lv_aload_n hx hb dX6_append_15 rfl (lv_at hl 0 rfl) ?_
  refine va_get (D := (dC, dI)) (ci := 5) (v := .int 0) (C := RX6) (T := TX6) (N := 2) hx hb hta inlX6 hown hK hP 0 rfl rfl 1 (by decide) (hta _ fl_X6_15) (fun _ h9 => h9) rfl dX6_append_16 ?_
  refine lv_iload_n hx hb dX6_append_19 rfl (lv_at hl 1 rfl) ?_
  refine va_iast hx hb hK hP hD hS 1 0 rfl rfl (vin (by decide)) dX6_append_20 (fun H locs hP hD hS => ?_)
  have hP : va_P (dC, dI) vwCl [ztp q k, (q 30, .inl (k 30, 600, .inl (upd (fun _ => 0) 0 p0)))] H := hP
  have hD : va_D A [ztp q k, (q 30, .inl (k 30, 600, .inl (upd (fun _ => 0) 0 p0)))] := hD
  refine lv_aload_n hx hb dX6_append_21 rfl (lv_at hl 0 rfl) ?_
  refine lv_dup hx hb dX6_append_22 rfl ?_
  refine va_get (D := (dC, dI)) (ci := 5) (v := .int 0) (C := RX6) (T := TX6) (N := 2) hx hb hta inlX6 hown hK hP 0 rfl rfl 1 (by decide) (hta _ fl_X6_15) (fun _ h9 => h9) rfl dX6_append_23 ?_
  refine lv_iconst (v := 1) hx hb dX6_append_26 (by decide) ?_
  refine lv_iadd hx hb dX6_append_27 ?_
  refine k_top (y := 1) (by decide) ?_
  refine va_put (D := (dC, dI)) (ci := 5) (v := .int 1) (ty := .int) (C := RX6) (T := TX6) (N := 2) hx hb hta inlX6 tyX6 tyX6_ok nmX6 hown hK hP hD hS 0 rfl rfl 1 (by decide) (hta _ fl_X6_15) (fun _ h9 => h9) rfl (by decide +kernel) rfl rfl (Nat.le_of_ble_eq_true rfl) dX6_append_28 (fun H locs hP hD hS => ?_)
  have hP : va_P (dC, dI) vwCl [(q 3, .inr (5, [.ref (q 30), .int 1])), (q 30, .inl (k 30, 600, .inl (upd (fun _ => 0) 0 p0)))] H := hP
  have hD : va_D A [(q 3, .inr (5, [.ref (q 30), .int 1])), (q 30, .inl (k 30, 600, .inl (upd (fun _ => 0) 0 p0)))] := hD
  have hP9 := hP.sub (ws' := [(q 3, .inr (5, [.ref (q 30), .int 1]))]) [0] rfl
  have hD9 := hD.sub (ws' := [(q 3, .inr (5, [.ref (q 30), .int 1]))]) [0] (by decide) rfl
  have hK9 := hK.sub (tys' := []) [] rfl
  refine W.widen (k := 0) (n := 0) (Nat.le_of_ble_eq_true rfl) (Nat.le_of_ble_eq_true rfl) ?_
  exact k_vret () hx hb hr hlocks hP9 hD9 hK9 hS trivial dX6_append_31
set_option maxHeartbeats 4000000 in
set_option maxRecDepth 100000 in
theorem m_forget (l : Launch) (dC : Nat → ClassId) (dI : Nat → Nat → Nat) (g : Nat → Nat) (h : Nat → ClassId) (x0 : Int32) (x1 : Int32) (sz : Nat) : Cv l (dC, dI) yX11_forget cX11_forget 1 { frames := 0, cells := 0, slots := 0, locals := 0 } [.ref (g 47)] [] [(g 47, .inr (10, [.int x0, .int x1, .ref (g 2), .ref (g 3), .ref (g 4), .ref (g 5), .ref (g 6), .int 0, .int 0, .ref (g 9), .ref (g 10), .ref (g 11), .ref (g 12), .ref (g 13), .int 0, .int 0, .ref (g 16), .ref (g 17), .ref (g 18), .ref (g 19), .ref (g 20), .ref (g 21), .ref (g 22), .ref (g 23), .ref (g 24), .ref (g 25), .ref (g 26), .ref (g 27), .ref (g 28), .ref (g 29), .int 0, .ref (g 31), .ref (g 32), .int 0, .int 0, .ref (g 35), .int 0, .ref (g 37), .ref (g 38), .int 0, .ref (g 40), .ref (g 41), .int 0, .ref (g 43), .ref (g 44), .ref (g 45), .int 0]))] sz 0 0 Unit (fun _ => True) (fun u => [(g 47, .inr (10, [.int x0, .int x1, .ref (g 2), .ref (g 3), .ref (g 4), .ref (g 5), .ref (g 6), .int 0, .int 0, .ref (g 9), .ref (g 10), .ref (g 11), .ref (g 12), .ref (g 13), .int 0, .int 0, .ref (g 16), .ref (g 17), .ref (g 18), .ref (g 19), .ref (g 20), .ref (g 21), .ref (g 22), .ref (g 23), .ref (g 24), .ref (g 25), .ref (g 26), .ref (g 27), .ref (g 28), .ref (g 29), .int 0, .ref (g 31), .ref (g 32), .int 0, .int 0, .ref (g 35), .int 0, .ref (g 37), .ref (g 38), .int 0, .ref (g 40), .ref (g 41), .int 0, .ref (g 43), .ref (g 44), .ref (g 45), .int 0]))]) (fun _ => []) := by
  refine Cv_of (lv := [(0, .ref (g 47))]) (by decide) rfl rfl ?_
  intro p e s m below meth c A ls hx hb hml hr hown hta hlocks hnm hnw hP hD hK hS hA hl
  have hown : s.vm.findClass RX11 = some m.cls := hown
  refine lv_aload_n hx hb dX11_forget_0 rfl (lv_at hl 0 rfl) ?_
  refine lv_iconst (v := 0) hx hb dX11_forget_1 (by decide) ?_
  refine va_put (D := (dC, dI)) (ci := 10) (v := .int 0) (ty := .boolean) (C := RX11) (T := TX11) (N := 47) hx hb hta inlX11 tyX11 tyX11_ok nmX11 hown hK hP hD hS 0 rfl rfl 14 (by decide) (hta _ fl_X11_53) (fun _ h9 => h9) rfl (by decide +kernel) rfl rfl (Nat.le_of_ble_eq_true rfl) dX11_forget_2 (fun H locs hP hD hS => ?_)
  have hP : va_P (dC, dI) vwCl [(g 47, .inr (10, [.int x0, .int x1, .ref (g 2), .ref (g 3), .ref (g 4), .ref (g 5), .ref (g 6), .int 0, .int 0, .ref (g 9), .ref (g 10), .ref (g 11), .ref (g 12), .ref (g 13), .int 0, .int 0, .ref (g 16), .ref (g 17), .ref (g 18), .ref (g 19), .ref (g 20), .ref (g 21), .ref (g 22), .ref (g 23), .ref (g 24), .ref (g 25), .ref (g 26), .ref (g 27), .ref (g 28), .ref (g 29), .int 0, .ref (g 31), .ref (g 32), .int 0, .int 0, .ref (g 35), .int 0, .ref (g 37), .ref (g 38), .int 0, .ref (g 40), .ref (g 41), .int 0, .ref (g 43), .ref (g 44), .ref (g 45), .int 0]))] H := hP
  have hD : va_D A [(g 47, .inr (10, [.int x0, .int x1, .ref (g 2), .ref (g 3), .ref (g 4), .ref (g 5), .ref (g 6), .int 0, .int 0, .ref (g 9), .ref (g 10), .ref (g 11), .ref (g 12), .ref (g 13), .int 0, .int 0, .ref (g 16), .ref (g 17), .ref (g 18), .ref (g 19), .ref (g 20), .ref (g 21), .ref (g 22), .ref (g 23), .ref (g 24), .ref (g 25), .ref (g 26), .ref (g 27), .ref (g 28), .ref (g 29), .int 0, .ref (g 31), .ref (g 32), .int 0, .int 0, .ref (g 35), .int 0, .ref (g 37), .ref (g 38), .int 0, .ref (g 40), .ref (g 41), .int 0, .ref (g 43), .ref (g 44), .ref (g 45), .int 0]))] := hD
  refine lv_aload_n hx hb dX11_forget_5 rfl (lv_at hl 0 rfl) ?_
  refine lv_iconst (v := 0) hx hb dX11_forget_6 (by decide) ?_
  refine va_put (D := (dC, dI)) (ci := 10) (v := .int 0) (ty := .boolean) (C := RX11) (T := TX11) (N := 47) hx hb hta inlX11 tyX11 tyX11_ok nmX11 hown hK hP hD hS 0 rfl rfl 15 (by decide) (hta _ fl_X11_57) (fun _ h9 => h9) rfl (by decide +kernel) rfl rfl (Nat.le_of_ble_eq_true rfl) dX11_forget_7 (fun H locs hP hD hS => ?_)
  have hP : va_P (dC, dI) vwCl [(g 47, .inr (10, [.int x0, .int x1, .ref (g 2), .ref (g 3), .ref (g 4), .ref (g 5), .ref (g 6), .int 0, .int 0, .ref (g 9), .ref (g 10), .ref (g 11), .ref (g 12), .ref (g 13), .int 0, .int 0, .ref (g 16), .ref (g 17), .ref (g 18), .ref (g 19), .ref (g 20), .ref (g 21), .ref (g 22), .ref (g 23), .ref (g 24), .ref (g 25), .ref (g 26), .ref (g 27), .ref (g 28), .ref (g 29), .int 0, .ref (g 31), .ref (g 32), .int 0, .int 0, .ref (g 35), .int 0, .ref (g 37), .ref (g 38), .int 0, .ref (g 40), .ref (g 41), .int 0, .ref (g 43), .ref (g 44), .ref (g 45), .int 0]))] H := hP
  have hD : va_D A [(g 47, .inr (10, [.int x0, .int x1, .ref (g 2), .ref (g 3), .ref (g 4), .ref (g 5), .ref (g 6), .int 0, .int 0, .ref (g 9), .ref (g 10), .ref (g 11), .ref (g 12), .ref (g 13), .int 0, .int 0, .ref (g 16), .ref (g 17), .ref (g 18), .ref (g 19), .ref (g 20), .ref (g 21), .ref (g 22), .ref (g 23), .ref (g 24), .ref (g 25), .ref (g 26), .ref (g 27), .ref (g 28), .ref (g 29), .int 0, .ref (g 31), .ref (g 32), .int 0, .int 0, .ref (g 35), .int 0, .ref (g 37), .ref (g 38), .int 0, .ref (g 40), .ref (g 41), .int 0, .ref (g 43), .ref (g 44), .ref (g 45), .int 0]))] := hD
  have hP9 := hP.sub (ws' := [(g 47, .inr (10, [.int x0, .int x1, .ref (g 2), .ref (g 3), .ref (g 4), .ref (g 5), .ref (g 6), .int 0, .int 0, .ref (g 9), .ref (g 10), .ref (g 11), .ref (g 12), .ref (g 13), .int 0, .int 0, .ref (g 16), .ref (g 17), .ref (g 18), .ref (g 19), .ref (g 20), .ref (g 21), .ref (g 22), .ref (g 23), .ref (g 24), .ref (g 25), .ref (g 26), .ref (g 27), .ref (g 28), .ref (g 29), .int 0, .ref (g 31), .ref (g 32), .int 0, .int 0, .ref (g 35), .int 0, .ref (g 37), .ref (g 38), .int 0, .ref (g 40), .ref (g 41), .int 0, .ref (g 43), .ref (g 44), .ref (g 45), .int 0]))]) [0] rfl
  have hD9 := hD.sub (ws' := [(g 47, .inr (10, [.int x0, .int x1, .ref (g 2), .ref (g 3), .ref (g 4), .ref (g 5), .ref (g 6), .int 0, .int 0, .ref (g 9), .ref (g 10), .ref (g 11), .ref (g 12), .ref (g 13), .int 0, .int 0, .ref (g 16), .ref (g 17), .ref (g 18), .ref (g 19), .ref (g 20), .ref (g 21), .ref (g 22), .ref (g 23), .ref (g 24), .ref (g 25), .ref (g 26), .ref (g 27), .ref (g 28), .ref (g 29), .int 0, .ref (g 31), .ref (g 32), .int 0, .int 0, .ref (g 35), .int 0, .ref (g 37), .ref (g 38), .int 0, .ref (g 40), .ref (g 41), .int 0, .ref (g 43), .ref (g 44), .ref (g 45), .int 0]))]) [0] (by decide) rfl
  have hK9 := hK.sub (tys' := []) [] rfl
  refine W.widen (k := 0) (n := 0) (Nat.le_of_ble_eq_true rfl) (Nat.le_of_ble_eq_true rfl) ?_
  exact k_vret () hx hb hr hlocks hP9 hD9 hK9 hS trivial dX11_forget_10
set_option maxHeartbeats 4000000 in
set_option maxRecDepth 100000 in
theorem m_isCourse (l : Launch) (dC : Nat → ClassId) (dI : Nat → Nat → Nat) (g : Nat → Nat) (h : Nat → ClassId) (p0 : Int32) (sz : Nat) : Ci l (dC, dI) yX11_isCourse cX11_isCourse 2 (some .boolean) { frames := 1, cells := 0, slots := 0, locals := 23 } [.ref (g 47), .int p0] [] [zM g h] sz 0 0 Unit (fun r _ => r = 0) (fun u => [zM g h]) (fun _ => []) := by
  refine Ci_of (lv := [(0, .ref (g 47)), (1, .int p0)]) (by decide) rfl rfl ?_
  intro p e s m below meth c A ls hx hb hml hr hown hta hlocks hnm hnw hP hD hK hS hA hl
  have hown : s.vm.findClass RX11 = some m.cls := hown
  refine lv_aload_n hx hb dX11_isCourse_0 rfl (lv_at hl 0 rfl) ?_
  refine lv_iload_n hx hb dX11_isCourse_1 rfl (lv_at hl 1 rfl) ?_
  refine lv_iconst (v := 0) hx hb dX11_isCourse_2 (by decide) ?_
  refine lv_aload_n hx hb dX11_isCourse_3 rfl (lv_at hl 0 rfl) ?_
  refine va_get (D := (dC, dI)) (ci := 10) (v := .int 0) (C := RX11) (T := TX11) (N := 47) hx hb hta inlX11 hown hK hP 0 rfl rfl 0 (by decide) (hta _ fl_X11_7) (fun _ h9 => h9) rfl dX11_isCourse_4 ?_
  refine lv_iconst (v := 1) hx hb dX11_isCourse_7 (by decide) ?_
  refine lv_isub hx hb dX11_isCourse_8 ?_
  refine k_top (y := (-1)) (by decide) ?_
  refine kVi (b := (g 47)) (n := 3) (As := [.int p0, .int 0, .int (-1)]) (rest := []) ⟨hx, hb, hml, hown, hta⟩ hnw (m_in l dC dI g h p0 0 (-1)  s.heap.size) cd_X11_in iz_X11 ml_X11_156 im_X11_in se_X11_X11_in (by decide +kernel) rfl (Nat.le_of_ble_eq_true rfl) (Nat.le_of_ble_eq_true rfl) rfl rfl (Nat.le_of_ble_eq_true rfl) (Nat.le_of_ble_eq_true rfl) hP hD hK hS hA [0] [] [] rfl (wr := []) rfl (by decide) (by decide) (by decide) rfl rfl 0 rfl hl.1 rfl (Nat.le_of_ble_eq_true rfl) dX11_isCourse_9 (fun r3 u1 H locs hw2 hP hD hK hS => ?_)
  have hP : va_P (dC, dI) vwCl [zM g h] H := hP
  have hD : va_D A [zM g h] := hD
  have hK : va_K (dC, dI) vwCl [] s := hK
  obtain rfl : r3 = 0 := hw2.trans (by rw [inB_neg]; rfl)
  have hP9 := hP.sub (ws' := [zM g h]) [0] rfl
  have hD9 := hD.sub (ws' := [zM g h]) [0] (by decide) rfl
  have hK9 := hK.sub (tys' := []) [] rfl
  refine W.widen (k := 0) (n := 0) (Nat.le_of_ble_eq_true rfl) (Nat.le_of_ble_eq_true rfl) ?_
  exact k_iret () hx hb hr hlocks rfl hP9 hD9 hK9 hS rfl dX11_isCourse_12
set_option maxHeartbeats 4000000 in
set_option maxRecDepth 100000 in
theorem m_isTick (l : Launch) (dC : Nat → ClassId) (dI : Nat → Nat → Nat) (g : Nat → Nat) (h : Nat → ClassId) (p0 : Int32) (sz : Nat) : Ci l (dC, dI) yX11_isTick cX11_isTick 2 (some .boolean) { frames := 1, cells := 0, slots := 0, locals := 23 } [.ref (g 47), .int p0] [] [zM g h] sz 0 0 Unit (fun r _ => r = 0) (fun u => [zM g h]) (fun _ => []) := by
  refine Ci_of (lv := [(0, .ref (g 47)), (1, .int p0)]) (by decide) rfl rfl ?_
  intro p e s m below meth c A ls hx hb hml hr hown hta hlocks hnm hnw hP hD hK hS hA hl
  have hown : s.vm.findClass RX11 = some m.cls := hown
  refine lv_aload_n hx hb dX11_isTick_0 rfl (lv_at hl 0 rfl) ?_
  refine lv_iload_n hx hb dX11_isTick_1 rfl (lv_at hl 1 rfl) ?_
  refine lv_iconst (v := 0) hx hb dX11_isTick_2 (by decide) ?_
  refine lv_aload_n hx hb dX11_isTick_3 rfl (lv_at hl 0 rfl) ?_
  refine va_get (D := (dC, dI)) (ci := 10) (v := .int 0) (C := RX11) (T := TX11) (N := 47) hx hb hta inlX11 hown hK hP 0 rfl rfl 7 (by decide) (hta _ fl_X11_32) (fun _ h9 => h9) rfl dX11_isTick_4 ?_
  refine lv_iconst (v := 1) hx hb dX11_isTick_7 (by decide) ?_
  refine lv_isub hx hb dX11_isTick_8 ?_
  refine k_top (y := (-1)) (by decide) ?_
  refine kVi (b := (g 47)) (n := 3) (As := [.int p0, .int 0, .int (-1)]) (rest := []) ⟨hx, hb, hml, hown, hta⟩ hnw (m_in l dC dI g h p0 0 (-1)  s.heap.size) cd_X11_in iz_X11 ml_X11_156 im_X11_in se_X11_X11_in (by decide +kernel) rfl (Nat.le_of_ble_eq_true rfl) (Nat.le_of_ble_eq_true rfl) rfl rfl (Nat.le_of_ble_eq_true rfl) (Nat.le_of_ble_eq_true rfl) hP hD hK hS hA [0] [] [] rfl (wr := []) rfl (by decide) (by decide) (by decide) rfl rfl 0 rfl hl.1 rfl (Nat.le_of_ble_eq_true rfl) dX11_isTick_9 (fun r3 u1 H locs hw2 hP hD hK hS => ?_)
  have hP : va_P (dC, dI) vwCl [zM g h] H := hP
  have hD : va_D A [zM g h] := hD
  have hK : va_K (dC, dI) vwCl [] s := hK
  obtain rfl : r3 = 0 := hw2.trans (by rw [inB_neg]; rfl)
  have hP9 := hP.sub (ws' := [zM g h]) [0] rfl
  have hD9 := hD.sub (ws' := [zM g h]) [0] (by decide) rfl
  have hK9 := hK.sub (tys' := []) [] rfl
  refine W.widen (k := 0) (n := 0) (Nat.le_of_ble_eq_true rfl) (Nat.le_of_ble_eq_true rfl) ?_
  exact k_iret () hx hb hr hlocks rfl hP9 hD9 hK9 hS rfl dX11_isTick_12
set_option maxHeartbeats 4000000 in
set_option maxRecDepth 100000 in
theorem m_isNote (l : Launch) (dC : Nat → ClassId) (dI : Nat → Nat → Nat) (g : Nat → Nat) (h : Nat → ClassId) (p0 : Int32) (p1 : Int32) (sz : Nat) : Ci l (dC, dI) yX11_isNote cX11_isNote 3 (some .boolean) { frames := 2, cells := 0, slots := 0, locals := 44 } [.ref (g 47), .int p0, .int p1] [] [zM g h] sz 0 0 Unit (fun r _ => r = 0) (fun u => [zM g h]) (fun _ => []) := by
  refine Ci_of (lv := [(0, .ref (g 47)), (1, .int p0), (2, .int p1)]) (by decide) rfl rfl ?_
  intro p e s m below meth c A ls hx hb hml hr hown hta hlocks hnm hnw hP hD hK hS hA hl
  have hown : s.vm.findClass RX11 = some m.cls := hown
  refine lv_aload_n hx hb dX11_isNote_0 rfl (lv_at hl 0 rfl) ?_
  refine lv_iload_n hx hb dX11_isNote_1 rfl (lv_at hl 1 rfl) ?_
  refine kVi (b := (g 47)) (n := 1) (As := [.int p0]) (rest := []) ⟨hx, hb, hml, hown, hta⟩ hnw (m_isTick l dC dI g h p0  s.heap.size) cd_X11_isTick iz_X11 ml_X11_160 im_X11_isTick se_X11_X11_isTick (by decide +kernel) rfl (Nat.le_of_ble_eq_true rfl) (Nat.le_of_ble_eq_true rfl) rfl rfl (Nat.le_of_ble_eq_true rfl) (Nat.le_of_ble_eq_true rfl) hP hD hK hS hA [0] [] [] rfl (wr := []) rfl (by decide) (by decide) (by decide) rfl rfl 0 rfl hl.1 rfl (Nat.le_of_ble_eq_true rfl) dX11_isNote_2 (fun r3 u1 H locs hw2 hP hD hK hS => ?_)
  have hP : va_P (dC, dI) vwCl [zM g h] H := hP
  have hD : va_D A [zM g h] := hD
  have hK : va_K (dC, dI) vwCl [] s := hK
  obtain rfl : r3 = 0 := hw2
  refine lv_if_eq (tgt := 29) hx hb dX11_isNote_5 (by decide) (fun _ => ?_) (fun c => absurd (by decide) c)
  refine lv_iconst (v := 0) hx hb dX11_isNote_29 (by decide) ?_
  have hP9 := hP.sub (ws' := [zM g h]) [0] rfl
  have hD9 := hD.sub (ws' := [zM g h]) [0] (by decide) rfl
  have hK9 := hK.sub (tys' := []) [] rfl
  refine W.widen (k := 0) (n := 0) (Nat.le_of_ble_eq_true rfl) (Nat.le_of_ble_eq_true rfl) ?_
  exact k_iret () hx hb hr hlocks rfl hP9 hD9 hK9 hS rfl dX11_isNote_30
set_option maxHeartbeats 4000000 in
set_option maxRecDepth 100000 in
theorem m_spot (l : Launch) (dC : Nat → ClassId) (dI : Nat → Nat → Nat) (g : Nat → Nat) (h : Nat → ClassId) (p0 : Int32) (p1 : Int32) (sz : Nat) : Ci l (dC, dI) yX11_spot cX11_spot 3 (some .int) { frames := 0, cells := 0, slots := 0, locals := 0 } [.ref (g 47), .int p0, .int p1] [] [zM g h] sz 0 0 Unit (fun r _ => r = 4 * p0 + p1) (fun u => [zM g h]) (fun _ => []) := by
  refine Ci_of (lv := [(0, .ref (g 47)), (1, .int p0), (2, .int p1)]) (by decide) rfl rfl ?_
  intro p e s m below meth c A ls hx hb hml hr hown hta hlocks hnm hnw hP hD hK hS hA hl
  have hown : s.vm.findClass RX11 = some m.cls := hown
  refine lv_iconst (v := 4) hx hb dX11_spot_0 (by decide) ?_
  refine lv_iload_n hx hb dX11_spot_1 rfl (lv_at hl 1 rfl) ?_
  refine lv_imul hx hb dX11_spot_2 ?_
  refine lv_iload_n hx hb dX11_spot_3 rfl (lv_at hl 2 rfl) ?_
  refine lv_iadd hx hb dX11_spot_4 ?_
  have hP9 := hP.sub (ws' := [zM g h]) [0] rfl
  have hD9 := hD.sub (ws' := [zM g h]) [0] (by decide) rfl
  have hK9 := hK.sub (tys' := []) [] rfl
  refine W.widen (k := 0) (n := 0) (Nat.le_of_ble_eq_true rfl) (Nat.le_of_ble_eq_true rfl) ?_
  exact k_iret () hx hb hr hlocks rfl hP9 hD9 hK9 hS rfl dX11_spot_5
end
section
set_option maxHeartbeats 4000000 in
set_option maxRecDepth 100000 in
theorem x_course (l : Launch) (dC : Nat → ClassId) (dI : Nat → Nat → Nat) (q : Nat → Nat) (k : Nat → ClassId) (p0 : Int32) (p1 : Int32) (sz : Nat) : Ci l (dC, dI) yX10_course cX10_course 3 (some .int) { frames := 3, cells := 0, slots := 0, locals := 63 } [.ref (q 0), .int p0, .int p1] [(k 32, .int), (k 10, .int), (k 11, .int), (k 14, .int)] [zLF q k, zlu q k, zpi q k, zwl q k, zbk q k, zbs q k, ztu q k, zfr q k, ztn q k] sz 0 0 Unit (fun r _ => r = sp_course p0 p1) (fun _ => []) (fun _ => []) := by
  refine Ci_of (lv := [(0, .ref (q 0)), (1, .int p0), (2, .int p1)]) (by decide) rfl rfl ?_
  intro p e s m below meth c A ls hx hb hml hr hown hta hlocks hnm hnw hP hD hK hS hA hl
  have hown : s.vm.findClass RX10 = some m.cls := hown
  refine lv_iload_n hx hb dX10_course_0 rfl (lv_at hl 1 rfl) ?_
  refine lv_bipush (v := 99) hx hb dX10_course_1 (by decide) ?_
  refine kSi (b := 0) (n := 2) (As := [.int p0, .int 99]) (rest := []) ⟨hx, hb, hml, hown, hta⟩ hnw (c_within l dC dI p0 99  s.heap.size) cd_X10_within iz_X10 ml_X10_90 st_X10_within (by decide +kernel) rfl (Nat.le_of_ble_eq_true rfl) (Nat.le_of_ble_eq_true rfl) rfl rfl (Nat.le_of_ble_eq_true rfl) (Nat.le_of_ble_eq_true rfl) hP hD hK hS hA [] [0, 1, 2, 3, 4, 5, 6, 7, 8] [] rfl (wr := [zLF q k, zlu q k, zpi q k, zwl q k, zbk q k, zbs q k, ztu q k, zfr q k, ztn q k]) rfl (by decide) (by decide) (by decide) rfl hl.1 rfl (Nat.le_of_ble_eq_true rfl) dX10_course_3 (fun r3 u1 H locs hw2 hP hD hK hS => ?_)
  have hP : va_P (dC, dI) vwCl [zLF q k, zlu q k, zpi q k, zwl q k, zbk q k, zbs q k, ztu q k, zfr q k, ztn q k] H := hP
  have hD : va_D A [zLF q k, zlu q k, zpi q k, zwl q k, zbk q k, zbs q k, ztu q k, zfr q k, ztn q k] := hD
  have hK : va_K (dC, dI) vwCl [(k 32, .int), (k 10, .int), (k 11, .int), (k 14, .int)] s := hK
  obtain rfl : r3 = if inB p0 0 99 then 1 else 0 := hw2
  refine lv_if_eq (tgt := 18) hx hb dX10_course_6 (by decide) (fun c_4 => ?_) (fun c_4 => ?_)
  · have n_5 : (inB p0 0 99) = false := ite0 c_4
    refine lv_bipush (v := (-2)) hx hb dX10_course_18 (by decide) ?_
    refine W.widen (k := 0) (n := 0) (Nat.le_of_ble_eq_true rfl) (Nat.le_of_ble_eq_true rfl) ?_
    exact k_iret () hx hb hr hlocks rfl P_nil D_nil (hK.sub (tys' := []) [] rfl) hS (by first | rfl | (simp [sp_course, n_5]; done) | (simp [sp_course, c_4, n_5]; done)) dX10_course_20
  · have n_6 : (inB p0 0 99) = true := ite1 c_4
    refine lv_iload_n hx hb dX10_course_9 rfl (lv_at hl 2 rfl) ?_
    refine lv_bipush (v := 12) hx hb dX10_course_10 (by decide) ?_
    refine kSi (b := 0) (n := 2) (As := [.int p1, .int 12]) (rest := []) ⟨hx, hb, hml, hown, hta⟩ hnw (c_within l dC dI p1 12  H.size) cd_X10_within iz_X10 ml_X10_90 st_X10_within (by decide +kernel) rfl (Nat.le_of_ble_eq_true rfl) (Nat.le_of_ble_eq_true rfl) rfl rfl (Nat.le_of_ble_eq_true rfl) (Nat.le_of_ble_eq_true rfl) hP hD hK hS hA [] [0, 1, 2, 3, 4, 5, 6, 7, 8] [] rfl (wr := [zLF q k, zlu q k, zpi q k, zwl q k, zbk q k, zbs q k, ztu q k, zfr q k, ztn q k]) rfl (by decide) (by decide) (by decide) rfl hl.1 rfl (Nat.le_of_ble_eq_true rfl) dX10_course_12 (fun r9 u7 H locs hw8 hP hD hK hS => ?_)
    have hP : va_P (dC, dI) vwCl [zLF q k, zlu q k, zpi q k, zwl q k, zbk q k, zbs q k, ztu q k, zfr q k, ztn q k] H := hP
    have hD : va_D A [zLF q k, zlu q k, zpi q k, zwl q k, zbk q k, zbs q k, ztu q k, zfr q k, ztn q k] := hD
    have hK : va_K (dC, dI) vwCl [(k 32, .int), (k 10, .int), (k 11, .int), (k 14, .int)] s := hK
    obtain rfl : r9 = if inB p1 0 12 then 1 else 0 := hw8
    refine lv_if_ne (tgt := 21) hx hb dX10_course_15 (by decide) (fun c_10 => ?_) (fun c_10 => ?_)
    · have n_11 : (inB p1 0 12) = true := ite1 c_10
      refine lv_aload_n hx hb dX10_course_21 rfl (lv_at hl 0 rfl) ?_
      refine va_get (D := (dC, dI)) (ci := 9) (v := .ref (q 2)) (C := RX10) (T := TX10) (N := 15) hx hb hta inlX10 hown hK hP 0 rfl rfl 1 (by decide) (hta _ fl_X10_19) (fun _ h9 => h9) rfl dX10_course_22 ?_
      refine va_getN (D := (dC, dI)) (ci := 4) (v := .int 0) (C := RX5) (T := TX5) (N := 7) hx hb hta inlX5 hown hK hP 2 rfl rfl 0 (by decide) (hnw.f nf_X10_94) (fun _ h9 => h9) rfl dX10_course_25 ?_
      refine lv_if_le (tgt := 34) hx hb dX10_course_28 (by decide) (fun _ => ?_) (fun c => absurd (by decide) c)
      refine lv_aload_n hx hb dX10_course_34 rfl (lv_at hl 0 rfl) ?_
      refine va_get (D := (dC, dI)) (ci := 9) (v := .ref (q 1)) (C := RX10) (T := TX10) (N := 15) hx hb hta inlX10 hown hK hP 0 rfl rfl 0 (by decide) (hta _ fl_X10_10) (fun _ h9 => h9) rfl dX10_course_35 ?_
      refine va_getN (D := (dC, dI)) (ci := 3) (v := .int 0) (C := RX4) (T := TX4) (N := 7) hx hb hta inlX4 hown hK hP 1 rfl rfl 0 (by decide) (hnw.f nf_X10_97) (fun _ h9 => h9) rfl dX10_course_38 ?_
      refine lv_bipush (v := 6) hx hb dX10_course_41 (by decide) ?_
      refine lv_icmp_lt (tgt := 49) hx hb dX10_course_43 (by decide) (fun _ => ?_) (fun c => absurd (by decide) c)
      refine lv_aload_n hx hb dX10_course_49 rfl (lv_at hl 0 rfl) ?_
      refine kVv (b := (q 0)) (n := 0) (As := []) (rest := []) ⟨hx, hb, hml, hown, hta⟩ hnw (c_instrumentChanged l dC dI q k  H.size) cd_X10_instrumentChanged iz_X10 ml_X10_100 im_X10_instrumentChanged se_X10_X10_instrumentChanged (by decide +kernel) rfl (Nat.le_of_ble_eq_true rfl) (Nat.le_of_ble_eq_true rfl) rfl rfl (Nat.le_of_ble_eq_true rfl) (Nat.le_of_ble_eq_true rfl) hP hD hK hS hA [0, 3, 4, 5] [1, 2, 6, 7, 8] [0] rfl (wr := [zlu q k, zpi q k, ztu q k, zfr q k, ztn q k]) rfl (by decide) (by decide) (by decide) rfl rfl 0 rfl hl.1 rfl (Nat.le_of_ble_eq_true rfl) dX10_course_50 (fun u12 H locs hw13 hP hD hK hS => ?_)
      have hP : va_P (dC, dI) vwCl [zlu q k, zpi q k, ztu q k, zfr q k, ztn q k, zLF q k] H := hP
      have hD : va_D A [zlu q k, zpi q k, ztu q k, zfr q k, ztn q k, zLF q k] := hD
      have hK : va_K (dC, dI) vwCl [(k 32, .int), (k 10, .int), (k 11, .int), (k 14, .int)] s := hK
      refine lv_aload_n hx hb dX10_course_53 rfl (lv_at hl 0 rfl) ?_
      refine va_get (D := (dC, dI)) (ci := 9) (v := .ref (q 1)) (C := RX10) (T := TX10) (N := 15) hx hb hta inlX10 hown hK hP 5 rfl rfl 0 (by decide) (hta _ fl_X10_10) (fun _ h9 => h9) rfl dX10_course_54 ?_
      refine lv_iload_n hx hb dX10_course_57 rfl (lv_at hl 1 rfl) ?_
      refine lv_iload_n hx hb dX10_course_58 rfl (lv_at hl 2 rfl) ?_
      refine kVNi (b := (q 1)) (n := 2) (As := [.int p0, .int p1]) (rest := []) ⟨hx, hb, hml, hown, hta⟩ hnw (c_addCourse l dC dI q k p0 p1  H.size) cd_X4_addCourse iz_X4 nm_X10_103 im_X4_addCourse se_X4_X4_addCourse (by decide +kernel) rfl (Nat.le_of_ble_eq_true rfl) (Nat.le_of_ble_eq_true rfl) rfl rfl (Nat.le_of_ble_eq_true rfl) (Nat.le_of_ble_eq_true rfl) hP hD hK hS hA [0, 2, 3, 4] [1, 5] [1, 2, 3] rfl (wr := [zpi q k, zLF q k]) rfl (by decide) (by decide) (by decide) rfl rfl 0 rfl hl.1 rfl (Nat.le_of_ble_eq_true rfl) dX10_course_59 (fun r17 u15 H locs hw16 hP hD hK hS => ?_)
      have hP : va_P (dC, dI) vwCl [zpi q k, zLF q k] H := hP
      have hD : va_D A [zpi q k, zLF q k] := hD
      have hK : va_K (dC, dI) vwCl [(k 32, .int), (k 10, .int), (k 11, .int), (k 14, .int)] s := hK
      obtain rfl : r17 = 0 := hw16
      refine W.widen (k := 0) (n := 0) (Nat.le_of_ble_eq_true rfl) (Nat.le_of_ble_eq_true rfl) ?_
      exact k_iret () hx hb hr hlocks rfl P_nil D_nil (hK.sub (tys' := []) [] rfl) hS (by first | rfl | (simp [sp_course, n_6, n_11]; done) | (simp [sp_course, c_4, n_6, c_10, n_11]; done)) dX10_course_62
    · have n_18 : (inB p1 0 12) = false := ite0 c_10
      refine lv_bipush (v := (-2)) hx hb dX10_course_18 (by decide) ?_
      refine W.widen (k := 0) (n := 0) (Nat.le_of_ble_eq_true rfl) (Nat.le_of_ble_eq_true rfl) ?_
      exact k_iret () hx hb hr hlocks rfl P_nil D_nil (hK.sub (tys' := []) [] rfl) hS (by first | rfl | (simp [sp_course, n_6, n_18]; done) | (simp [sp_course, c_4, n_6, c_10, n_18]; done)) dX10_course_20
set_option maxHeartbeats 4000000 in
set_option maxRecDepth 100000 in
theorem x_tune (l : Launch) (dC : Nat → ClassId) (dI : Nat → Nat → Nat) (q : Nat → Nat) (k : Nat → ClassId) (p0 : Int32) (p1 : Int32) (sz : Nat) : Ci l (dC, dI) yX10_tune cX10_tune 3 (some .int) { frames := 1, cells := 0, slots := 0, locals := 21 } [.ref (q 0), .int p0, .int p1] [] [zLF q k, zlu q k] sz 0 0 Unit (fun r _ => r = (-1)) (fun _ => []) (fun _ => []) := by
  refine Ci_of (lv := [(0, .ref (q 0)), (1, .int p0), (2, .int p1)]) (by decide) rfl rfl ?_
  intro p e s m below meth c A ls hx hb hml hr hown hta hlocks hnm hnw hP hD hK hS hA hl
  have hown : s.vm.findClass RX10 = some m.cls := hown
  refine lv_aload_n hx hb dX10_tune_0 rfl (lv_at hl 0 rfl) ?_
  refine va_get (D := (dC, dI)) (ci := 9) (v := .ref (q 1)) (C := RX10) (T := TX10) (N := 15) hx hb hta inlX10 hown hK hP 0 rfl rfl 0 (by decide) (hta _ fl_X10_10) (fun _ h9 => h9) rfl dX10_tune_1 ?_
  refine lv_iload_n hx hb dX10_tune_4 rfl (lv_at hl 1 rfl) ?_
  refine kVNi (b := (q 1)) (n := 1) (As := [.int p0]) (rest := []) ⟨hx, hb, hml, hown, hta⟩ hnw (c_hasCourse l dC dI q k p0  s.heap.size) cd_X4_hasCourse iz_X4 nm_X10_107 im_X4_hasCourse se_X4_X4_hasCourse (by decide +kernel) rfl (Nat.le_of_ble_eq_true rfl) (Nat.le_of_ble_eq_true rfl) rfl rfl (Nat.le_of_ble_eq_true rfl) (Nat.le_of_ble_eq_true rfl) hP hD hK hS hA [1] [0] [] rfl (wr := [zLF q k]) rfl (by decide) (by decide) (by decide) rfl rfl 0 rfl hl.1 rfl (Nat.le_of_ble_eq_true rfl) dX10_tune_5 (fun r3 u1 H locs hw2 hP hD hK hS => ?_)
  have hP : va_P (dC, dI) vwCl [zLF q k] H := hP
  have hD : va_D A [zLF q k] := hD
  have hK : va_K (dC, dI) vwCl [] s := hK
  obtain rfl : r3 = 0 := hw2
  refine lv_if_ne (tgt := 13) hx hb dX10_tune_8 (by decide) (fun c => absurd c (by decide)) (fun _ => ?_)
  refine lv_iconst (v := (-1)) hx hb dX10_tune_11 (by decide) ?_
  refine W.widen (k := 0) (n := 0) (Nat.le_of_ble_eq_true rfl) (Nat.le_of_ble_eq_true rfl) ?_
  exact k_iret () hx hb hr hlocks rfl P_nil D_nil (hK.sub (tys' := []) [] rfl) hS rfl dX10_tune_12
set_option maxHeartbeats 4000000 in
set_option maxRecDepth 100000 in
theorem x_slack (l : Launch) (dC : Nat → ClassId) (dI : Nat → Nat → Nat) (q : Nat → Nat) (k : Nat → ClassId) (p0 : Int32) (p1 : Int32) (sz : Nat) : Ci l (dC, dI) yX10_slack cX10_slack 3 (some .int) { frames := 3, cells := 0, slots := 0, locals := 63 } [.ref (q 0), .int p0, .int p1] [(k 32, .int), (k 12, .int)] [zLF q k, zlu q k, zwl q k, zbk q k, zbs q k, zsl q k] sz 0 0 Unit (fun r _ => r = sp_slack p0 p1) (fun _ => []) (fun _ => []) := by
  refine Ci_of (lv := [(0, .ref (q 0)), (1, .int p0), (2, .int p1)]) (by decide) rfl rfl ?_
  intro p e s m below meth c A ls hx hb hml hr hown hta hlocks hnm hnw hP hD hK hS hA hl
  have hown : s.vm.findClass RX10 = some m.cls := hown
  refine lv_iload_n hx hb dX10_slack_0 rfl (lv_at hl 1 rfl) ?_
  refine lv_iconst (v := 1) hx hb dX10_slack_1 (by decide) ?_
  refine lv_icmp_lt (tgt := 10) hx hb dX10_slack_2 (by decide) (fun c_1 => ?_) (fun c_1 => ?_)
  · refine lv_iconst (v := (-1)) hx hb dX10_slack_10 (by decide) ?_
    refine W.widen (k := 0) (n := 0) (Nat.le_of_ble_eq_true rfl) (Nat.le_of_ble_eq_true rfl) ?_
    exact k_iret () hx hb hr hlocks rfl P_nil D_nil (hK.sub (tys' := []) [] rfl) hS (by simp [sp_slack, inB_f1 (hi := 4) c_1]) dX10_slack_11
  · refine lv_iload_n hx hb dX10_slack_5 rfl (lv_at hl 1 rfl) ?_
    refine lv_iconst (v := 4) hx hb dX10_slack_6 (by decide) ?_
    refine lv_icmp_le (tgt := 12) hx hb dX10_slack_7 (by decide) (fun c_2 => ?_) (fun c_2 => ?_)
    · refine lv_iload_n hx hb dX10_slack_12 rfl (lv_at hl 2 rfl) ?_
      refine lv_iconst (v := 2) hx hb dX10_slack_13 (by decide) ?_
      refine kSi (b := 0) (n := 2) (As := [.int p1, .int 2]) (rest := []) ⟨hx, hb, hml, hown, hta⟩ hnw (c_within l dC dI p1 2  s.heap.size) cd_X10_within iz_X10 ml_X10_90 st_X10_within (by decide +kernel) rfl (Nat.le_of_ble_eq_true rfl) (Nat.le_of_ble_eq_true rfl) rfl rfl (Nat.le_of_ble_eq_true rfl) (Nat.le_of_ble_eq_true rfl) hP hD hK hS hA [] [0, 1, 2, 3, 4, 5] [] rfl (wr := [zLF q k, zlu q k, zwl q k, zbk q k, zbs q k, zsl q k]) rfl (by decide) (by decide) (by decide) rfl hl.1 rfl (Nat.le_of_ble_eq_true rfl) dX10_slack_14 (fun r5 u3 H locs hw4 hP hD hK hS => ?_)
      have hP : va_P (dC, dI) vwCl [zLF q k, zlu q k, zwl q k, zbk q k, zbs q k, zsl q k] H := hP
      have hD : va_D A [zLF q k, zlu q k, zwl q k, zbk q k, zbs q k, zsl q k] := hD
      have hK : va_K (dC, dI) vwCl [(k 32, .int), (k 12, .int)] s := hK
      obtain rfl : r5 = if inB p1 0 2 then 1 else 0 := hw4
      refine lv_if_ne (tgt := 23) hx hb dX10_slack_17 (by decide) (fun c_6 => ?_) (fun c_6 => ?_)
      · have n_7 : (inB p1 0 2) = true := ite1 c_6
        refine lv_aload_n hx hb dX10_slack_23 rfl (lv_at hl 0 rfl) ?_
        refine kVv (b := (q 0)) (n := 0) (As := []) (rest := []) ⟨hx, hb, hml, hown, hta⟩ hnw (c_instrumentChanged l dC dI q k  H.size) cd_X10_instrumentChanged iz_X10 ml_X10_100 im_X10_instrumentChanged se_X10_X10_instrumentChanged (by decide +kernel) rfl (Nat.le_of_ble_eq_true rfl) (Nat.le_of_ble_eq_true rfl) rfl rfl (Nat.le_of_ble_eq_true rfl) (Nat.le_of_ble_eq_true rfl) hP hD hK hS hA [0, 2, 3, 4] [1, 5] [0] rfl (wr := [zlu q k, zsl q k]) rfl (by decide) (by decide) (by decide) rfl rfl 0 rfl hl.1 rfl (Nat.le_of_ble_eq_true rfl) dX10_slack_24 (fun u8 H locs hw9 hP hD hK hS => ?_)
        have hP : va_P (dC, dI) vwCl [zlu q k, zsl q k, zLF q k] H := hP
        have hD : va_D A [zlu q k, zsl q k, zLF q k] := hD
        have hK : va_K (dC, dI) vwCl [(k 32, .int), (k 12, .int)] s := hK
        refine lv_aload_n hx hb dX10_slack_27 rfl (lv_at hl 0 rfl) ?_
        refine va_get (D := (dC, dI)) (ci := 9) (v := .ref (q 1)) (C := RX10) (T := TX10) (N := 15) hx hb hta inlX10 hown hK hP 2 rfl rfl 0 (by decide) (hta _ fl_X10_10) (fun _ h9 => h9) rfl dX10_slack_28 ?_
        refine va_getN (D := (dC, dI)) (ci := 3) (v := .ref (q 12)) (C := RX4) (T := TX4) (N := 7) hx hb hta inlX4 hown hK hP 0 rfl rfl 4 (by decide) (hnw.f nf_X10_118) (fun _ h9 => h9) rfl dX10_slack_31 ?_
        refine lv_iload_n hx hb dX10_slack_34 rfl (lv_at hl 1 rfl) ?_
        refine lv_iload_n hx hb dX10_slack_35 rfl (lv_at hl 2 rfl) ?_
        refine kSi (b := 0) (n := 3) (As := [.ref (q 12), .int p0, .int p1]) (rest := []) ⟨hx, hb, hml, hown, hta⟩ hnw (c_exch l dC dI (q 12) (k 12) 5 (fun _ => 1) p0 p1 (vinB (inB_t c_1 (Int32.not_lt.mpr c_2)) (by decide) (by decide)) H.size) cd_X10_exchange iz_X10 ml_X10_114 st_X10_exchange (by decide +kernel) rfl (Nat.le_of_ble_eq_true rfl) (Nat.le_of_ble_eq_true rfl) rfl rfl (Nat.le_of_ble_eq_true rfl) (Nat.le_of_ble_eq_true rfl) hP hD hK hS hA [1] [0, 2] [1] rfl (wr := [zlu q k, zLF q k]) rfl (by decide) (by decide) (by decide) rfl hl.1 rfl (Nat.le_of_ble_eq_true rfl) dX10_slack_36 (fun r13 u11 H locs hw12 hP hD hK hS => ?_)
        have hP : va_P (dC, dI) vwCl [zlu q k, zLF q k] H := hP
        have hD : va_D A [zlu q k, zLF q k] := hD
        have hK : va_K (dC, dI) vwCl [(k 32, .int), (k 12, .int)] s := hK
        obtain rfl : r13 = 1 := hw12
        refine W.widen (k := 0) (n := 0) (Nat.le_of_ble_eq_true rfl) (Nat.le_of_ble_eq_true rfl) ?_
        exact k_iret () hx hb hr hlocks rfl P_nil D_nil (hK.sub (tys' := []) [] rfl) hS (by simp [sp_slack, inB_t c_1 (Int32.not_lt.mpr c_2), c_6, n_7]) dX10_slack_39
      · have n_14 : (inB p1 0 2) = false := ite0 c_6
        refine lv_bipush (v := (-2)) hx hb dX10_slack_20 (by decide) ?_
        refine W.widen (k := 0) (n := 0) (Nat.le_of_ble_eq_true rfl) (Nat.le_of_ble_eq_true rfl) ?_
        exact k_iret () hx hb hr hlocks rfl P_nil D_nil (hK.sub (tys' := []) [] rfl) hS (by simp [sp_slack, inB_t c_1 (Int32.not_lt.mpr c_2), c_6, n_14]) dX10_slack_22
    · refine lv_iconst (v := (-1)) hx hb dX10_slack_10 (by decide) ?_
      refine W.widen (k := 0) (n := 0) (Nat.le_of_ble_eq_true rfl) (Nat.le_of_ble_eq_true rfl) ?_
      exact k_iret () hx hb hr hlocks rfl P_nil D_nil (hK.sub (tys' := []) [] rfl) hS (by simp [sp_slack, inB_f2 (lo := 1) (Int32.not_le.mp c_2)]) dX10_slack_11
set_option maxHeartbeats 4000000 in
set_option maxRecDepth 100000 in
theorem x_bars (l : Launch) (dC : Nat → ClassId) (dI : Nat → Nat → Nat) (q : Nat → Nat) (k : Nat → ClassId) (p0 : Int32) (sz : Nat) : Ci l (dC, dI) yX10_bars cX10_bars 3 (some .int) { frames := 3, cells := 0, slots := 0, locals := 63 } [.ref (q 0), .int p0] [(k 32, .int)] [zLF q k, zlu q k, zwl q k, zbk q k, zbs q k] sz 0 0 Unit (fun r _ => r = sp_bars p0) (fun _ => []) (fun _ => []) := by
  refine Ci_of (lv := [(0, .ref (q 0)), (1, .int p0)]) (by decide) rfl rfl ?_
  intro p e s m below meth c A ls hx hb hml hr hown hta hlocks hnm hnw hP hD hK hS hA hl
  have hown : s.vm.findClass RX10 = some m.cls := hown
  refine lv_iload_n hx hb dX10_bars_0 rfl (lv_at hl 1 rfl) ?_
  refine lv_iconst (v := 1) hx hb dX10_bars_1 (by decide) ?_
  refine kSi (b := 0) (n := 2) (As := [.int p0, .int 1]) (rest := []) ⟨hx, hb, hml, hown, hta⟩ hnw (c_within l dC dI p0 1  s.heap.size) cd_X10_within iz_X10 ml_X10_90 st_X10_within (by decide +kernel) rfl (Nat.le_of_ble_eq_true rfl) (Nat.le_of_ble_eq_true rfl) rfl rfl (Nat.le_of_ble_eq_true rfl) (Nat.le_of_ble_eq_true rfl) hP hD hK hS hA [] [0, 1, 2, 3, 4] [] rfl (wr := [zLF q k, zlu q k, zwl q k, zbk q k, zbs q k]) rfl (by decide) (by decide) (by decide) rfl hl.1 rfl (Nat.le_of_ble_eq_true rfl) dX10_bars_2 (fun r3 u1 H locs hw2 hP hD hK hS => ?_)
  have hP : va_P (dC, dI) vwCl [zLF q k, zlu q k, zwl q k, zbk q k, zbs q k] H := hP
  have hD : va_D A [zLF q k, zlu q k, zwl q k, zbk q k, zbs q k] := hD
  have hK : va_K (dC, dI) vwCl [(k 32, .int)] s := hK
  obtain rfl : r3 = if inB p0 0 1 then 1 else 0 := hw2
  refine lv_if_ne (tgt := 11) hx hb dX10_bars_5 (by decide) (fun c_4 => ?_) (fun c_4 => ?_)
  · have n_5 : (inB p0 0 1) = true := ite1 c_4
    refine lv_aload_n hx hb dX10_bars_11 rfl (lv_at hl 0 rfl) ?_
    refine kVv (b := (q 0)) (n := 0) (As := []) (rest := []) ⟨hx, hb, hml, hown, hta⟩ hnw (c_instrumentChanged l dC dI q k  H.size) cd_X10_instrumentChanged iz_X10 ml_X10_100 im_X10_instrumentChanged se_X10_X10_instrumentChanged (by decide +kernel) rfl (Nat.le_of_ble_eq_true rfl) (Nat.le_of_ble_eq_true rfl) rfl rfl (Nat.le_of_ble_eq_true rfl) (Nat.le_of_ble_eq_true rfl) hP hD hK hS hA [0, 2, 3, 4] [1] [0] rfl (wr := [zlu q k]) rfl (by decide) (by decide) (by decide) rfl rfl 0 rfl hl.1 rfl (Nat.le_of_ble_eq_true rfl) dX10_bars_12 (fun u6 H locs hw7 hP hD hK hS => ?_)
    have hP : va_P (dC, dI) vwCl [zlu q k, zLF q k] H := hP
    have hD : va_D A [zlu q k, zLF q k] := hD
    have hK : va_K (dC, dI) vwCl [(k 32, .int)] s := hK
    refine lv_aload_n hx hb dX10_bars_15 rfl (lv_at hl 0 rfl) ?_
    refine va_get (D := (dC, dI)) (ci := 9) (v := .ref (q 1)) (C := RX10) (T := TX10) (N := 15) hx hb hta inlX10 hown hK hP 1 rfl rfl 0 (by decide) (hta _ fl_X10_10) (fun _ h9 => h9) rfl dX10_bars_16 ?_
    refine va_getN (D := (dC, dI)) (ci := 3) (v := .int 0) (C := RX4) (T := TX4) (N := 7) hx hb hta inlX4 hown hK hP 0 rfl rfl 1 (by decide) (hnw.f nf_X10_121) (fun _ h9 => h9) rfl dX10_bars_19 ?_
    refine lv_if_eq (tgt := 29) hx hb dX10_bars_22 (by decide) (fun _ => ?_) (fun c => absurd (by decide) c)
    refine lv_iconst (v := 0) hx hb dX10_bars_29 (by decide) ?_
    refine lv_istore_n (lv' := [(2, .int 0), (0, .ref (q 0)), (1, .int p0)]) hx hb dX10_bars_30 rfl hl (by decide) rfl (fun ls hl => ?_)
    refine lv_aload_n hx hb dX10_bars_31 rfl (lv_at hl 1 rfl) ?_
    refine va_get (D := (dC, dI)) (ci := 9) (v := .ref (q 1)) (C := RX10) (T := TX10) (N := 15) hx hb hta inlX10 hown hK hP 1 rfl rfl 0 (by decide) (hta _ fl_X10_10) (fun _ h9 => h9) rfl dX10_bars_32 ?_
    refine lv_iload_n hx hb dX10_bars_35 rfl (lv_at hl 2 rfl) ?_
    refine lv_iconst (v := 1) hx hb dX10_bars_36 (by decide) ?_
    refine lv_icmp_ne (tgt := 44) hx hb dX10_bars_37 (by decide) (fun c_9 => ?_) (fun c_9 => ?_)
    · refine lv_iconst (v := 0) hx hb dX10_bars_44 (by decide) ?_
      refine va_putN (D := (dC, dI)) (ci := 3) (v := .int 0) (ty := .boolean) (C := RX4) (T := TX4) (N := 7) hx hb hta inlX4 tyX4 tyX4_ok nmX4 hown hK hP hD hS 0 rfl rfl 1 (by decide) (hnw.f nf_X10_121) (fun _ h9 => h9) rfl (by decide +kernel) rfl rfl (Nat.le_of_ble_eq_true rfl) dX10_bars_45 (fun H locs hP hD hS => ?_)
      have hP : va_P (dC, dI) vwCl [(q 1, .inr (3, [.int 0, .int 0, .ref (q 10), .ref (q 11), .ref (q 12), .ref (q 13), .ref (q 14)])), zLF q k] H := hP
      have hD : va_D A [(q 1, .inr (3, [.int 0, .int 0, .ref (q 10), .ref (q 11), .ref (q 12), .ref (q 13), .ref (q 14)])), zLF q k] := hD
      refine lv_iload_n hx hb dX10_bars_48 rfl (lv_at hl 0 rfl) ?_
      refine W.widen (k := 0) (n := 0) (Nat.le_of_ble_eq_true rfl) (Nat.le_of_ble_eq_true rfl) ?_
      exact k_iret () hx hb hr hlocks rfl P_nil D_nil (hK.sub (tys' := []) [] rfl) hS (by first | rfl | (simp [sp_bars, n_5]; done) | (simp [sp_bars, c_4, n_5, c_9]; done)) dX10_bars_49
    · refine lv_iconst (v := 1) hx hb dX10_bars_40 (by decide) ?_
      refine lv_goto (tgt := 45) hx hb dX10_bars_41 (by decide) ?_
      refine va_putN (D := (dC, dI)) (ci := 3) (v := .int 1) (ty := .boolean) (C := RX4) (T := TX4) (N := 7) hx hb hta inlX4 tyX4 tyX4_ok nmX4 hown hK hP hD hS 0 rfl rfl 1 (by decide) (hnw.f nf_X10_121) (fun _ h9 => h9) rfl (by decide +kernel) rfl rfl (Nat.le_of_ble_eq_true rfl) dX10_bars_45 (fun H locs hP hD hS => ?_)
      have hP : va_P (dC, dI) vwCl [(q 1, .inr (3, [.int 0, .int 1, .ref (q 10), .ref (q 11), .ref (q 12), .ref (q 13), .ref (q 14)])), zLF q k] H := hP
      have hD : va_D A [(q 1, .inr (3, [.int 0, .int 1, .ref (q 10), .ref (q 11), .ref (q 12), .ref (q 13), .ref (q 14)])), zLF q k] := hD
      refine lv_iload_n hx hb dX10_bars_48 rfl (lv_at hl 0 rfl) ?_
      refine W.widen (k := 0) (n := 0) (Nat.le_of_ble_eq_true rfl) (Nat.le_of_ble_eq_true rfl) ?_
      exact k_iret () hx hb hr hlocks rfl P_nil D_nil (hK.sub (tys' := []) [] rfl) hS (by first | rfl | (simp [sp_bars, n_5]; done) | (simp [sp_bars, c_4, n_5, c_9]; done)) dX10_bars_49
  · have n_10 : (inB p0 0 1) = false := ite0 c_4
    refine lv_bipush (v := (-2)) hx hb dX10_bars_8 (by decide) ?_
    refine W.widen (k := 0) (n := 0) (Nat.le_of_ble_eq_true rfl) (Nat.le_of_ble_eq_true rfl) ?_
    exact k_iret () hx hb hr hlocks rfl P_nil D_nil (hK.sub (tys' := []) [] rfl) hS (by first | rfl | (simp [sp_bars, n_10]; done) | (simp [sp_bars, c_4, n_10]; done)) dX10_bars_10
set_option maxHeartbeats 4000000 in
set_option maxRecDepth 100000 in
theorem x_weight (l : Launch) (dC : Nat → ClassId) (dI : Nat → Nat → Nat) (q : Nat → Nat) (k : Nat → ClassId) (p0 : Int32) (p1 : Int32) (sz : Nat) : Ci l (dC, dI) yX10_weight cX10_weight 3 (some .int) { frames := 3, cells := 0, slots := 0, locals := 63 } [.ref (q 0), .int p0, .int p1] [(k 32, .int), (k 13, .int)] [zLF q k, zlu q k, zwl q k, zbk q k, zbs q k, zwe q k] sz 0 0 Unit (fun r _ => r = sp_weight p0 p1) (fun _ => []) (fun _ => []) := by
  refine Ci_of (lv := [(0, .ref (q 0)), (1, .int p0), (2, .int p1)]) (by decide) rfl rfl ?_
  intro p e s m below meth c A ls hx hb hml hr hown hta hlocks hnm hnw hP hD hK hS hA hl
  have hown : s.vm.findClass RX10 = some m.cls := hown
  refine lv_iload_n hx hb dX10_weight_0 rfl (lv_at hl 1 rfl) ?_
  refine lv_iconst (v := 4) hx hb dX10_weight_1 (by decide) ?_
  refine kSi (b := 0) (n := 2) (As := [.int p0, .int 4]) (rest := []) ⟨hx, hb, hml, hown, hta⟩ hnw (c_within l dC dI p0 4  s.heap.size) cd_X10_within iz_X10 ml_X10_90 st_X10_within (by decide +kernel) rfl (Nat.le_of_ble_eq_true rfl) (Nat.le_of_ble_eq_true rfl) rfl rfl (Nat.le_of_ble_eq_true rfl) (Nat.le_of_ble_eq_true rfl) hP hD hK hS hA [] [0, 1, 2, 3, 4, 5] [] rfl (wr := [zLF q k, zlu q k, zwl q k, zbk q k, zbs q k, zwe q k]) rfl (by decide) (by decide) (by decide) rfl hl.1 rfl (Nat.le_of_ble_eq_true rfl) dX10_weight_2 (fun r3 u1 H locs hw2 hP hD hK hS => ?_)
  have hP : va_P (dC, dI) vwCl [zLF q k, zlu q k, zwl q k, zbk q k, zbs q k, zwe q k] H := hP
  have hD : va_D A [zLF q k, zlu q k, zwl q k, zbk q k, zbs q k, zwe q k] := hD
  have hK : va_K (dC, dI) vwCl [(k 32, .int), (k 13, .int)] s := hK
  obtain rfl : r3 = if inB p0 0 4 then 1 else 0 := hw2
  refine lv_if_ne (tgt := 10) hx hb dX10_weight_5 (by decide) (fun c_4 => ?_) (fun c_4 => ?_)
  · have n_5 : (inB p0 0 4) = true := ite1 c_4
    refine lv_iload_n hx hb dX10_weight_10 rfl (lv_at hl 2 rfl) ?_
    refine lv_bipush (v := 9) hx hb dX10_weight_11 (by decide) ?_
    refine kSi (b := 0) (n := 2) (As := [.int p1, .int 9]) (rest := []) ⟨hx, hb, hml, hown, hta⟩ hnw (c_within l dC dI p1 9  H.size) cd_X10_within iz_X10 ml_X10_90 st_X10_within (by decide +kernel) rfl (Nat.le_of_ble_eq_true rfl) (Nat.le_of_ble_eq_true rfl) rfl rfl (Nat.le_of_ble_eq_true rfl) (Nat.le_of_ble_eq_true rfl) hP hD hK hS hA [] [0, 1, 2, 3, 4, 5] [] rfl (wr := [zLF q k, zlu q k, zwl q k, zbk q k, zbs q k, zwe q k]) rfl (by decide) (by decide) (by decide) rfl hl.1 rfl (Nat.le_of_ble_eq_true rfl) dX10_weight_13 (fun r8 u6 H locs hw7 hP hD hK hS => ?_)
    have hP : va_P (dC, dI) vwCl [zLF q k, zlu q k, zwl q k, zbk q k, zbs q k, zwe q k] H := hP
    have hD : va_D A [zLF q k, zlu q k, zwl q k, zbk q k, zbs q k, zwe q k] := hD
    have hK : va_K (dC, dI) vwCl [(k 32, .int), (k 13, .int)] s := hK
    obtain rfl : r8 = if inB p1 0 9 then 1 else 0 := hw7
    refine lv_if_ne (tgt := 22) hx hb dX10_weight_16 (by decide) (fun c_9 => ?_) (fun c_9 => ?_)
    · have n_10 : (inB p1 0 9) = true := ite1 c_9
      refine lv_aload_n hx hb dX10_weight_22 rfl (lv_at hl 0 rfl) ?_
      refine kVv (b := (q 0)) (n := 0) (As := []) (rest := []) ⟨hx, hb, hml, hown, hta⟩ hnw (c_instrumentChanged l dC dI q k  H.size) cd_X10_instrumentChanged iz_X10 ml_X10_100 im_X10_instrumentChanged se_X10_X10_instrumentChanged (by decide +kernel) rfl (Nat.le_of_ble_eq_true rfl) (Nat.le_of_ble_eq_true rfl) rfl rfl (Nat.le_of_ble_eq_true rfl) (Nat.le_of_ble_eq_true rfl) hP hD hK hS hA [0, 2, 3, 4] [1, 5] [0] rfl (wr := [zlu q k, zwe q k]) rfl (by decide) (by decide) (by decide) rfl rfl 0 rfl hl.1 rfl (Nat.le_of_ble_eq_true rfl) dX10_weight_23 (fun u11 H locs hw12 hP hD hK hS => ?_)
      have hP : va_P (dC, dI) vwCl [zlu q k, zwe q k, zLF q k] H := hP
      have hD : va_D A [zlu q k, zwe q k, zLF q k] := hD
      have hK : va_K (dC, dI) vwCl [(k 32, .int), (k 13, .int)] s := hK
      refine lv_aload_n hx hb dX10_weight_26 rfl (lv_at hl 0 rfl) ?_
      refine va_get (D := (dC, dI)) (ci := 9) (v := .ref (q 1)) (C := RX10) (T := TX10) (N := 15) hx hb hta inlX10 hown hK hP 2 rfl rfl 0 (by decide) (hta _ fl_X10_10) (fun _ h9 => h9) rfl dX10_weight_27 ?_
      refine va_getN (D := (dC, dI)) (ci := 3) (v := .ref (q 13)) (C := RX4) (T := TX4) (N := 7) hx hb hta inlX4 hown hK hP 0 rfl rfl 5 (by decide) (hnw.f nf_X10_124) (fun _ h9 => h9) rfl dX10_weight_30 ?_
      refine lv_iload_n hx hb dX10_weight_33 rfl (lv_at hl 1 rfl) ?_
      refine lv_iload_n hx hb dX10_weight_34 rfl (lv_at hl 2 rfl) ?_
      refine kSi (b := 0) (n := 3) (As := [.ref (q 13), .int p0, .int p1]) (rest := []) ⟨hx, hb, hml, hown, hta⟩ hnw (c_exch l dC dI (q 13) (k 13) 5 (fun _ => 1) p0 p1 (vinB n_5 (by decide) (by decide)) H.size) cd_X10_exchange iz_X10 ml_X10_114 st_X10_exchange (by decide +kernel) rfl (Nat.le_of_ble_eq_true rfl) (Nat.le_of_ble_eq_true rfl) rfl rfl (Nat.le_of_ble_eq_true rfl) (Nat.le_of_ble_eq_true rfl) hP hD hK hS hA [1] [0, 2] [1] rfl (wr := [zlu q k, zLF q k]) rfl (by decide) (by decide) (by decide) rfl hl.1 rfl (Nat.le_of_ble_eq_true rfl) dX10_weight_35 (fun r16 u14 H locs hw15 hP hD hK hS => ?_)
      have hP : va_P (dC, dI) vwCl [zlu q k, zLF q k] H := hP
      have hD : va_D A [zlu q k, zLF q k] := hD
      have hK : va_K (dC, dI) vwCl [(k 32, .int), (k 13, .int)] s := hK
      obtain rfl : r16 = 1 := hw15
      refine W.widen (k := 0) (n := 0) (Nat.le_of_ble_eq_true rfl) (Nat.le_of_ble_eq_true rfl) ?_
      exact k_iret () hx hb hr hlocks rfl P_nil D_nil (hK.sub (tys' := []) [] rfl) hS (by first | rfl | (simp [sp_weight, n_5, n_10]; done) | (simp [sp_weight, c_4, n_5, c_9, n_10]; done)) dX10_weight_38
    · have n_17 : (inB p1 0 9) = false := ite0 c_9
      refine lv_bipush (v := (-2)) hx hb dX10_weight_19 (by decide) ?_
      refine W.widen (k := 0) (n := 0) (Nat.le_of_ble_eq_true rfl) (Nat.le_of_ble_eq_true rfl) ?_
      exact k_iret () hx hb hr hlocks rfl P_nil D_nil (hK.sub (tys' := []) [] rfl) hS (by first | rfl | (simp [sp_weight, n_5, n_17]; done) | (simp [sp_weight, c_4, n_5, c_9, n_17]; done)) dX10_weight_21
  · have n_18 : (inB p0 0 4) = false := ite0 c_4
    refine lv_iconst (v := (-1)) hx hb dX10_weight_8 (by decide) ?_
    refine W.widen (k := 0) (n := 0) (Nat.le_of_ble_eq_true rfl) (Nat.le_of_ble_eq_true rfl) ?_
    exact k_iret () hx hb hr hlocks rfl P_nil D_nil (hK.sub (tys' := []) [] rfl) hS (by first | rfl | (simp [sp_weight, n_18]; done) | (simp [sp_weight, c_4, n_18]; done)) dX10_weight_9
set_option maxHeartbeats 4000000 in
set_option maxRecDepth 100000 in
theorem x_note (l : Launch) (dC : Nat → ClassId) (dI : Nat → Nat → Nat) (q : Nat → Nat) (k : Nat → ClassId) (p0 : Int32) (p1 : Int32) (p2 : Int32) (sz : Nat) : Ci l (dC, dI) yX10_note cX10_note 5 (some .int) { frames := 2, cells := 0, slots := 0, locals := 42 } [.ref (q 0), .int p0, .int p1, .int p2] [(k 20, .int), (k 21, .int), (k 22, .int), (k 23, .int), (k 24, .int), (k 25, .int)] [zLF q k, zpi q k, zsz q k, zpt q k, zkd q k, zpr q k, zfo q k, zfx q k] sz 0 0 Unit (fun r _ => r = sp_note p0 p1 p2) (fun _ => []) (fun _ => []) := by
  refine Ci_of (lv := [(0, .ref (q 0)), (1, .int p0), (2, .int p1), (3, .int p2)]) (by decide) rfl rfl ?_
  intro p e s m below meth c A ls hx hb hml hr hown hta hlocks hnm hnw hP hD hK hS hA hl
  have hown : s.vm.findClass RX10 = some m.cls := hown
  refine lv_iload_n hx hb dX10_note_0 rfl (lv_at hl 1 rfl) ?_
  refine lv_bipush (v := 120) hx hb dX10_note_1 (by decide) ?_
  refine kSi (b := 0) (n := 2) (As := [.int p0, .int 120]) (rest := []) ⟨hx, hb, hml, hown, hta⟩ hnw (c_within l dC dI p0 120  s.heap.size) cd_X10_within iz_X10 ml_X10_90 st_X10_within (by decide +kernel) rfl (Nat.le_of_ble_eq_true rfl) (Nat.le_of_ble_eq_true rfl) rfl rfl (Nat.le_of_ble_eq_true rfl) (Nat.le_of_ble_eq_true rfl) hP hD hK hS hA [] [0, 1, 2, 3, 4, 5, 6, 7] [] rfl (wr := [zLF q k, zpi q k, zsz q k, zpt q k, zkd q k, zpr q k, zfo q k, zfx q k]) rfl (by decide) (by decide) (by decide) rfl hl.1 rfl (Nat.le_of_ble_eq_true rfl) dX10_note_3 (fun r3 u1 H locs hw2 hP hD hK hS => ?_)
  have hP : va_P (dC, dI) vwCl [zLF q k, zpi q k, zsz q k, zpt q k, zkd q k, zpr q k, zfo q k, zfx q k] H := hP
  have hD : va_D A [zLF q k, zpi q k, zsz q k, zpt q k, zkd q k, zpr q k, zfo q k, zfx q k] := hD
  have hK : va_K (dC, dI) vwCl [(k 20, .int), (k 21, .int), (k 22, .int), (k 23, .int), (k 24, .int), (k 25, .int)] s := hK
  obtain rfl : r3 = if inB p0 0 120 then 1 else 0 := hw2
  refine lv_if_eq (tgt := 26) hx hb dX10_note_6 (by decide) (fun c_4 => ?_) (fun c_4 => ?_)
  · have n_5 : (inB p0 0 120) = false := ite0 c_4
    refine lv_bipush (v := (-2)) hx hb dX10_note_26 (by decide) ?_
    refine W.widen (k := 0) (n := 0) (Nat.le_of_ble_eq_true rfl) (Nat.le_of_ble_eq_true rfl) ?_
    exact k_iret () hx hb hr hlocks rfl P_nil D_nil (hK.sub (tys' := []) [] rfl) hS (by first | rfl | (simp [sp_note, n_5]; done) | (simp [sp_note, c_4, n_5]; done)) dX10_note_28
  · have n_6 : (inB p0 0 120) = true := ite1 c_4
    refine lv_iload_n hx hb dX10_note_9 rfl (lv_at hl 2 rfl) ?_
    refine lv_iconst (v := 3) hx hb dX10_note_10 (by decide) ?_
    refine kSi (b := 0) (n := 2) (As := [.int p1, .int 3]) (rest := []) ⟨hx, hb, hml, hown, hta⟩ hnw (c_within l dC dI p1 3  H.size) cd_X10_within iz_X10 ml_X10_90 st_X10_within (by decide +kernel) rfl (Nat.le_of_ble_eq_true rfl) (Nat.le_of_ble_eq_true rfl) rfl rfl (Nat.le_of_ble_eq_true rfl) (Nat.le_of_ble_eq_true rfl) hP hD hK hS hA [] [0, 1, 2, 3, 4, 5, 6, 7] [] rfl (wr := [zLF q k, zpi q k, zsz q k, zpt q k, zkd q k, zpr q k, zfo q k, zfx q k]) rfl (by decide) (by decide) (by decide) rfl hl.1 rfl (Nat.le_of_ble_eq_true rfl) dX10_note_11 (fun r9 u7 H locs hw8 hP hD hK hS => ?_)
    have hP : va_P (dC, dI) vwCl [zLF q k, zpi q k, zsz q k, zpt q k, zkd q k, zpr q k, zfo q k, zfx q k] H := hP
    have hD : va_D A [zLF q k, zpi q k, zsz q k, zpt q k, zkd q k, zpr q k, zfo q k, zfx q k] := hD
    have hK : va_K (dC, dI) vwCl [(k 20, .int), (k 21, .int), (k 22, .int), (k 23, .int), (k 24, .int), (k 25, .int)] s := hK
    obtain rfl : r9 = if inB p1 0 3 then 1 else 0 := hw8
    refine lv_if_eq (tgt := 26) hx hb dX10_note_14 (by decide) (fun c_10 => ?_) (fun c_10 => ?_)
    · have n_11 : (inB p1 0 3) = false := ite0 c_10
      refine lv_bipush (v := (-2)) hx hb dX10_note_26 (by decide) ?_
      refine W.widen (k := 0) (n := 0) (Nat.le_of_ble_eq_true rfl) (Nat.le_of_ble_eq_true rfl) ?_
      exact k_iret () hx hb hr hlocks rfl P_nil D_nil (hK.sub (tys' := []) [] rfl) hS (by first | rfl | (simp [sp_note, n_6, n_11]; done) | (simp [sp_note, c_4, n_6, c_10, n_11]; done)) dX10_note_28
    · have n_12 : (inB p1 0 3) = true := ite1 c_10
      refine lv_iload_n hx hb dX10_note_17 rfl (lv_at hl 3 rfl) ?_
      refine lv_bipush (v := 100) hx hb dX10_note_18 (by decide) ?_
      refine kSi (b := 0) (n := 2) (As := [.int p2, .int 100]) (rest := []) ⟨hx, hb, hml, hown, hta⟩ hnw (c_within l dC dI p2 100  H.size) cd_X10_within iz_X10 ml_X10_90 st_X10_within (by decide +kernel) rfl (Nat.le_of_ble_eq_true rfl) (Nat.le_of_ble_eq_true rfl) rfl rfl (Nat.le_of_ble_eq_true rfl) (Nat.le_of_ble_eq_true rfl) hP hD hK hS hA [] [0, 1, 2, 3, 4, 5, 6, 7] [] rfl (wr := [zLF q k, zpi q k, zsz q k, zpt q k, zkd q k, zpr q k, zfo q k, zfx q k]) rfl (by decide) (by decide) (by decide) rfl hl.1 rfl (Nat.le_of_ble_eq_true rfl) dX10_note_20 (fun r15 u13 H locs hw14 hP hD hK hS => ?_)
      have hP : va_P (dC, dI) vwCl [zLF q k, zpi q k, zsz q k, zpt q k, zkd q k, zpr q k, zfo q k, zfx q k] H := hP
      have hD : va_D A [zLF q k, zpi q k, zsz q k, zpt q k, zkd q k, zpr q k, zfo q k, zfx q k] := hD
      have hK : va_K (dC, dI) vwCl [(k 20, .int), (k 21, .int), (k 22, .int), (k 23, .int), (k 24, .int), (k 25, .int)] s := hK
      obtain rfl : r15 = if inB p2 0 100 then 1 else 0 := hw14
      refine lv_if_ne (tgt := 29) hx hb dX10_note_23 (by decide) (fun c_16 => ?_) (fun c_16 => ?_)
      · have n_17 : (inB p2 0 100) = true := ite1 c_16
        refine lv_aload_n hx hb dX10_note_29 rfl (lv_at hl 0 rfl) ?_
        refine va_get (D := (dC, dI)) (ci := 9) (v := .ref (q 2)) (C := RX10) (T := TX10) (N := 15) hx hb hta inlX10 hown hK hP 0 rfl rfl 1 (by decide) (hta _ fl_X10_19) (fun _ h9 => h9) rfl dX10_note_30 ?_
        refine lv_aload_n hx hb dX10_note_33 rfl (lv_at hl 0 rfl) ?_
        refine va_get (D := (dC, dI)) (ci := 9) (v := .ref (q 2)) (C := RX10) (T := TX10) (N := 15) hx hb hta inlX10 hown hK hP 0 rfl rfl 1 (by decide) (hta _ fl_X10_19) (fun _ h9 => h9) rfl dX10_note_34 ?_
        refine va_getN (D := (dC, dI)) (ci := 4) (v := .int 0) (C := RX5) (T := TX5) (N := 7) hx hb hta inlX5 hown hK hP 1 rfl rfl 0 (by decide) (hnw.f nf_X10_94) (fun _ h9 => h9) rfl dX10_note_37 ?_
        refine lv_iload_n hx hb dX10_note_40 rfl (lv_at hl 1 rfl) ?_
        refine kVNi (b := (q 2)) (n := 2) (As := [.int 0, .int p0]) (rest := []) ⟨hx, hb, hml, hown, hta⟩ hnw (c_noteOfPitch l dC dI q k p0  H.size) cd_X5_noteOfPitch iz_X5 nm_X10_127 im_X5_noteOfPitch se_X5_X5_noteOfPitch (by decide +kernel) rfl (Nat.le_of_ble_eq_true rfl) (Nat.le_of_ble_eq_true rfl) rfl rfl (Nat.le_of_ble_eq_true rfl) (Nat.le_of_ble_eq_true rfl) hP hD hK hS hA [1, 2] [0, 3, 4, 5, 6, 7] [0] rfl (wr := [zLF q k, zpt q k, zkd q k, zpr q k, zfo q k, zfx q k]) rfl (by decide) (by decide) (by decide) rfl rfl 0 rfl hl.1 rfl (Nat.le_of_ble_eq_true rfl) dX10_note_41 (fun r20 u18 H locs hw19 hP hD hK hS => ?_)
        have hP : va_P (dC, dI) vwCl [zLF q k, zpt q k, zkd q k, zpr q k, zfo q k, zfx q k, zpi q k, zsz q k] H := hP
        have hD : va_D A [zLF q k, zpt q k, zkd q k, zpr q k, zfo q k, zfx q k, zpi q k, zsz q k] := hD
        have hK : va_K (dC, dI) vwCl [(k 20, .int), (k 21, .int), (k 22, .int), (k 23, .int), (k 24, .int), (k 25, .int), (k 20, .int)] s := hK
        obtain rfl : r20 = (-1) := hw19
        refine lv_iconst (v := (-1)) hx hb dX10_note_44 (by decide) ?_
        refine lv_icmp_eq (tgt := 51) hx hb dX10_note_45 (by decide) (fun _ => ?_) (fun c => absurd (by decide) c)
        refine lv_aload_n hx hb dX10_note_51 rfl (lv_at hl 0 rfl) ?_
        refine va_get (D := (dC, dI)) (ci := 9) (v := .ref (q 2)) (C := RX10) (T := TX10) (N := 15) hx hb hta inlX10 hown hK hP 0 rfl rfl 1 (by decide) (hta _ fl_X10_19) (fun _ h9 => h9) rfl dX10_note_52 ?_
        refine lv_iload_n hx hb dX10_note_55 rfl (lv_at hl 1 rfl) ?_
        refine lv_iload_n hx hb dX10_note_56 rfl (lv_at hl 2 rfl) ?_
        refine kVNi (b := (q 2)) (n := 2) (As := [.int p0, .int p1]) (rest := []) ⟨hx, hb, hml, hown, hta⟩ hnw (c_foreOf l dC dI q k p0 p1  H.size) cd_X5_foreOf iz_X5 nm_X10_130 im_X5_foreOf se_X5_X5_foreOf (by decide +kernel) rfl (Nat.le_of_ble_eq_true rfl) (Nat.le_of_ble_eq_true rfl) rfl rfl (Nat.le_of_ble_eq_true rfl) (Nat.le_of_ble_eq_true rfl) hP hD hK hS hA [6] [0, 1, 2, 3, 4, 5, 7] [] rfl (wr := [zLF q k, zpt q k, zkd q k, zpr q k, zfo q k, zfx q k, zsz q k]) rfl (by decide) (by decide) (by decide) rfl rfl 0 rfl hl.1 rfl (Nat.le_of_ble_eq_true rfl) dX10_note_57 (fun r23 u21 H locs hw22 hP hD hK hS => ?_)
        have hP : va_P (dC, dI) vwCl [zLF q k, zpt q k, zkd q k, zpr q k, zfo q k, zfx q k, zsz q k, zpi q k] H := hP
        have hD : va_D A [zLF q k, zpt q k, zkd q k, zpr q k, zfo q k, zfx q k, zsz q k, zpi q k] := hD
        have hK : va_K (dC, dI) vwCl [(k 20, .int), (k 21, .int), (k 22, .int), (k 23, .int), (k 24, .int), (k 25, .int), (k 20, .int)] s := hK
        obtain rfl : r23 = (-1) := hw22
        refine lv_istore (lv' := [(4, .int (-1)), (0, .ref (q 0)), (1, .int p0), (2, .int p1), (3, .int p2)]) hx hb dX10_note_60 hl (by decide) rfl (fun ls hl => ?_)
        refine lv_iload_n hx hb dX10_note_62 rfl (lv_at hl 3 rfl) ?_
        refine kSNi (b := 0) (n := 1) (As := [.int p1]) (rest := []) ⟨hx, hb, hml, hown, hta⟩ hnw (c_isTied l dC dI p1  H.size) cd_X5_isTied iz_X5 nm_X10_133 st_X5_isTied (by decide +kernel) rfl (Nat.le_of_ble_eq_true rfl) (Nat.le_of_ble_eq_true rfl) rfl rfl (Nat.le_of_ble_eq_true rfl) (Nat.le_of_ble_eq_true rfl) hP hD hK hS hA [] [0, 1, 2, 3, 4, 5, 6, 7] [] rfl (wr := [zLF q k, zpt q k, zkd q k, zpr q k, zfo q k, zfx q k, zsz q k, zpi q k]) rfl (by decide) (by decide) (by decide) rfl hl.1 rfl (Nat.le_of_ble_eq_true rfl) dX10_note_63 (fun r26 u24 H locs hw25 hP hD hK hS => ?_)
        have hP : va_P (dC, dI) vwCl [zLF q k, zpt q k, zkd q k, zpr q k, zfo q k, zfx q k, zsz q k, zpi q k] H := hP
        have hD : va_D A [zLF q k, zpt q k, zkd q k, zpr q k, zfo q k, zfx q k, zsz q k, zpi q k] := hD
        have hK : va_K (dC, dI) vwCl [(k 20, .int), (k 21, .int), (k 22, .int), (k 23, .int), (k 24, .int), (k 25, .int), (k 20, .int)] s := hK
        obtain rfl : r26 = if tiedB p1 then 1 else 0 := hw25
        refine lv_if_eq (tgt := 78) hx hb dX10_note_66 (by decide) (fun c_27 => ?_) (fun c_27 => ?_)
        · have n_28 : (tiedB p1) = false := ite0 c_27
          refine lv_aload_n hx hb dX10_note_78 rfl (lv_at hl 1 rfl) ?_
          refine va_get (D := (dC, dI)) (ci := 9) (v := .ref (q 2)) (C := RX10) (T := TX10) (N := 15) hx hb hta inlX10 hown hK hP 0 rfl rfl 1 (by decide) (hta _ fl_X10_19) (fun _ h9 => h9) rfl dX10_note_79 ?_
          refine va_getN (D := (dC, dI)) (ci := 4) (v := .ref (q 20)) (C := RX5) (T := TX5) (N := 7) hx hb hta inlX5 hown hK hP 7 rfl rfl 1 (by decide) (hnw.f nf_X10_136) (fun _ h9 => h9) rfl dX10_note_82 ?_
          refine lv_aload_n hx hb dX10_note_85 rfl (lv_at hl 1 rfl) ?_
          refine va_get (D := (dC, dI)) (ci := 9) (v := .ref (q 2)) (C := RX10) (T := TX10) (N := 15) hx hb hta inlX10 hown hK hP 0 rfl rfl 1 (by decide) (hta _ fl_X10_19) (fun _ h9 => h9) rfl dX10_note_86 ?_
          refine va_getN (D := (dC, dI)) (ci := 4) (v := .int 0) (C := RX5) (T := TX5) (N := 7) hx hb hta inlX5 hown hK hP 7 rfl rfl 0 (by decide) (hnw.f nf_X10_94) (fun _ h9 => h9) rfl dX10_note_89 ?_
          refine va_iald hx hb hK hP 6 0 rfl rfl (vin (by decide)) dX10_note_92 ?_
          refine k_top (y := 0) rfl ?_
          refine lv_iconst (v := 4) hx hb dX10_note_93 (by decide) ?_
          refine lv_icmp_lt (tgt := 100) hx hb dX10_note_94 (by decide) (fun _ => ?_) (fun c => absurd (by decide) c)
          refine lv_aload_n hx hb dX10_note_100 rfl (lv_at hl 1 rfl) ?_
          refine va_get (D := (dC, dI)) (ci := 9) (v := .ref (q 2)) (C := RX10) (T := TX10) (N := 15) hx hb hta inlX10 hown hK hP 0 rfl rfl 1 (by decide) (hta _ fl_X10_19) (fun _ h9 => h9) rfl dX10_note_101 ?_
          refine lv_iload_n hx hb dX10_note_104 rfl (lv_at hl 2 rfl) ?_
          refine lv_iload_n hx hb dX10_note_105 rfl (lv_at hl 3 rfl) ?_
          refine lv_iload_n hx hb dX10_note_106 rfl (lv_at hl 4 rfl) ?_
          refine lv_iload hx hb dX10_note_107 (lv_at hl 0 rfl) ?_
          refine lv_iconst (v := (-1)) hx hb dX10_note_109 (by decide) ?_
          refine kVNi (b := (q 2)) (n := 5) (As := [.int p0, .int p1, .int p2, .int (-1), .int (-1)]) (rest := []) ⟨hx, hb, hml, hown, hta⟩ hnw (c_addNote l dC dI q k p0 p1 p2 (-1) (-1)  H.size) cd_X5_addNote iz_X5 nm_X10_139 im_X5_addNote se_X5_X5_addNote (by decide +kernel) rfl (Nat.le_of_ble_eq_true rfl) (Nat.le_of_ble_eq_true rfl) rfl rfl (Nat.le_of_ble_eq_true rfl) (Nat.le_of_ble_eq_true rfl) hP hD hK hS hA [7, 6, 1, 2, 3, 4, 5] [0] [0, 1, 2, 3, 4, 5] rfl (wr := [zLF q k]) rfl (by decide) (by decide) (by decide) rfl rfl 0 rfl hl.1 rfl (Nat.le_of_ble_eq_true rfl) dX10_note_110 (fun r31 u29 H locs hw30 hP hD hK hS => ?_)
          have hP : va_P (dC, dI) vwCl [zLF q k] H := hP
          have hD : va_D A [zLF q k] := hD
          have hK : va_K (dC, dI) vwCl [(k 20, .int), (k 21, .int), (k 22, .int), (k 23, .int), (k 24, .int), (k 25, .int), (k 20, .int)] s := hK
          obtain rfl : r31 = 1 := hw30
          refine W.widen (k := 0) (n := 0) (Nat.le_of_ble_eq_true rfl) (Nat.le_of_ble_eq_true rfl) ?_
          exact k_iret () hx hb hr hlocks rfl P_nil D_nil (hK.sub (tys' := []) [] rfl) hS (by first | rfl | (simp [sp_note, n_6, n_12, n_17, n_28]; done) | (simp [sp_note, c_4, n_6, c_10, n_12, c_16, n_17, c_27, n_28]; done)) dX10_note_113
        · have n_32 : (tiedB p1) = true := ite1 c_27
          refine lv_iload hx hb dX10_note_69 (lv_at hl 0 rfl) ?_
          refine lv_iconst (v := (-1)) hx hb dX10_note_71 (by decide) ?_
          refine lv_icmp_ne (tgt := 78) hx hb dX10_note_72 (by decide) (fun c => absurd c (by decide)) (fun _ => ?_)
          refine lv_bipush (v := (-3)) hx hb dX10_note_75 (by decide) ?_
          refine W.widen (k := 0) (n := 0) (Nat.le_of_ble_eq_true rfl) (Nat.le_of_ble_eq_true rfl) ?_
          exact k_iret () hx hb hr hlocks rfl P_nil D_nil (hK.sub (tys' := []) [] rfl) hS (by first | rfl | (simp [sp_note, n_6, n_12, n_17, n_32]; done) | (simp [sp_note, c_4, n_6, c_10, n_12, c_16, n_17, c_27, n_32]; done)) dX10_note_77
      · have n_33 : (inB p2 0 100) = false := ite0 c_16
        refine lv_bipush (v := (-2)) hx hb dX10_note_26 (by decide) ?_
        refine W.widen (k := 0) (n := 0) (Nat.le_of_ble_eq_true rfl) (Nat.le_of_ble_eq_true rfl) ?_
        exact k_iret () hx hb hr hlocks rfl P_nil D_nil (hK.sub (tys' := []) [] rfl) hS (by first | rfl | (simp [sp_note, n_6, n_12, n_33]; done) | (simp [sp_note, c_4, n_6, c_10, n_12, c_16, n_33]; done)) dX10_note_28
set_option maxHeartbeats 4000000 in
set_option maxRecDepth 100000 in
theorem x_tick (l : Launch) (dC : Nat → ClassId) (dI : Nat → Nat → Nat) (q : Nat → Nat) (k : Nat → ClassId) (sz : Nat) : Ci l (dC, dI) yX10_tick cX10_tick 2 (some .int) { frames := 0, cells := 0, slots := 0, locals := 0 } [.ref (q 0)] [] [zLF q k, zlu q k] sz 0 0 Unit (fun r _ => r = (-3)) (fun _ => []) (fun _ => []) := by
  refine Ci_of (lv := [(0, .ref (q 0))]) (by decide) rfl rfl ?_
  intro p e s m below meth c A ls hx hb hml hr hown hta hlocks hnm hnw hP hD hK hS hA hl
  have hown : s.vm.findClass RX10 = some m.cls := hown
  refine lv_aload_n hx hb dX10_tick_0 rfl (lv_at hl 0 rfl) ?_
  refine va_get (D := (dC, dI)) (ci := 9) (v := .ref (q 1)) (C := RX10) (T := TX10) (N := 15) hx hb hta inlX10 hown hK hP 0 rfl rfl 0 (by decide) (hta _ fl_X10_10) (fun _ h9 => h9) rfl dX10_tick_1 ?_
  refine va_getN (D := (dC, dI)) (ci := 3) (v := .int 0) (C := RX4) (T := TX4) (N := 7) hx hb hta inlX4 hown hK hP 1 rfl rfl 0 (by decide) (hnw.f nf_X10_97) (fun _ h9 => h9) rfl dX10_tick_4 ?_
  refine lv_if_ne (tgt := 13) hx hb dX10_tick_7 (by decide) (fun c => absurd c (by decide)) (fun _ => ?_)
  refine lv_bipush (v := (-3)) hx hb dX10_tick_10 (by decide) ?_
  refine W.widen (k := 0) (n := 0) (Nat.le_of_ble_eq_true rfl) (Nat.le_of_ble_eq_true rfl) ?_
  exact k_iret () hx hb hr hlocks rfl P_nil D_nil (hK.sub (tys' := []) [] rfl) hS rfl dX10_tick_12
set_option maxHeartbeats 4000000 in
set_option maxRecDepth 100000 in
theorem x_clear (l : Launch) (dC : Nat → ClassId) (dI : Nat → Nat → Nat) (q : Nat → Nat) (k : Nat → ClassId) (sz : Nat) : Ci l (dC, dI) yX10_clear cX10_clear 2 (some .int) { frames := 2, cells := 0, slots := 0, locals := 43 } [.ref (q 0)] [(k 32, .int), (k 20, .int)] [zLF q k, zpi q k, zwl q k, zbk q k, zbs q k, zsz q k] sz 0 0 Unit (fun r _ => r = 0) (fun _ => []) (fun _ => []) := by
  refine Ci_of (lv := [(0, .ref (q 0))]) (by decide) rfl rfl ?_
  intro p e s m below meth c A ls hx hb hml hr hown hta hlocks hnm hnw hP hD hK hS hA hl
  have hown : s.vm.findClass RX10 = some m.cls := hown
  refine lv_aload_n hx hb dX10_clear_0 rfl (lv_at hl 0 rfl) ?_
  refine kVv (b := (q 0)) (n := 0) (As := []) (rest := []) ⟨hx, hb, hml, hown, hta⟩ hnw (c_forgetAnswers l dC dI q k  s.heap.size) cd_X10_forgetAnswers iz_X10 ml_X10_143 im_X10_forgetAnswers se_X10_X10_forgetAnswers (by decide +kernel) rfl (Nat.le_of_ble_eq_true rfl) (Nat.le_of_ble_eq_true rfl) rfl rfl (Nat.le_of_ble_eq_true rfl) (Nat.le_of_ble_eq_true rfl) hP hD hK hS hA [0, 2] [1, 3, 4, 5] [] rfl (wr := [zpi q k, zbk q k, zbs q k, zsz q k]) rfl (by decide) (by decide) (by decide) rfl rfl 0 rfl hl.1 rfl (Nat.le_of_ble_eq_true rfl) dX10_clear_1 (fun u1 H locs hw2 hP hD hK hS => ?_)
  have hP : va_P (dC, dI) vwCl [zpi q k, zbk q k, zbs q k, zsz q k, zLF q k] H := hP
  have hD : va_D A [zpi q k, zbk q k, zbs q k, zsz q k, zLF q k] := hD
  have hK : va_K (dC, dI) vwCl [(k 32, .int), (k 20, .int)] s := hK
  refine lv_aload_n hx hb dX10_clear_4 rfl (lv_at hl 0 rfl) ?_
  refine va_get (D := (dC, dI)) (ci := 9) (v := .ref (q 2)) (C := RX10) (T := TX10) (N := 15) hx hb hta inlX10 hown hK hP 4 rfl rfl 1 (by decide) (hta _ fl_X10_19) (fun _ h9 => h9) rfl dX10_clear_5 ?_
  refine va_getN (D := (dC, dI)) (ci := 4) (v := .int 0) (C := RX5) (T := TX5) (N := 7) hx hb hta inlX5 hown hK hP 0 rfl rfl 0 (by decide) (hnw.f nf_X10_94) (fun _ h9 => h9) rfl dX10_clear_8 ?_
  refine lv_istore_n (lv' := [(1, .int 0), (0, .ref (q 0))]) hx hb dX10_clear_11 rfl hl (by decide) rfl (fun ls hl => ?_)
  refine lv_aload_n hx hb dX10_clear_12 rfl (lv_at hl 1 rfl) ?_
  refine va_get (D := (dC, dI)) (ci := 9) (v := .ref (q 2)) (C := RX10) (T := TX10) (N := 15) hx hb hta inlX10 hown hK hP 4 rfl rfl 1 (by decide) (hta _ fl_X10_19) (fun _ h9 => h9) rfl dX10_clear_13 ?_
  refine kVNv (b := (q 2)) (n := 0) (As := []) (rest := []) ⟨hx, hb, hml, hown, hta⟩ hnw (c_removeAll l dC dI q k  H.size) cd_X5_removeAll iz_X5 nm_X10_154 im_X5_removeAll se_X5_X5_removeAll (by decide +kernel) rfl (Nat.le_of_ble_eq_true rfl) (Nat.le_of_ble_eq_true rfl) rfl rfl (Nat.le_of_ble_eq_true rfl) (Nat.le_of_ble_eq_true rfl) hP hD hK hS hA [0, 3] [1, 2, 4] [1] rfl (wr := [zbk q k, zbs q k, zLF q k]) rfl (by decide) (by decide) (by decide) rfl rfl 0 rfl hl.1 rfl (Nat.le_of_ble_eq_true rfl) dX10_clear_16 (fun u4 H locs hw5 hP hD hK hS => ?_)
  have hP : va_P (dC, dI) vwCl [zbk q k, zbs q k, zLF q k] H := hP
  have hD : va_D A [zbk q k, zbs q k, zLF q k] := hD
  have hK : va_K (dC, dI) vwCl [(k 32, .int), (k 20, .int)] s := hK
  refine lv_aload_n hx hb dX10_clear_19 rfl (lv_at hl 1 rfl) ?_
  refine va_get (D := (dC, dI)) (ci := 9) (v := .ref (q 5)) (C := RX10) (T := TX10) (N := 15) hx hb hta inlX10 hown hK hP 2 rfl rfl 4 (by decide) (hta _ fl_X10_44) (fun _ h9 => h9) rfl dX10_clear_20 ?_
  refine kVNv (b := (q 5)) (n := 0) (As := []) (rest := []) ⟨hx, hb, hml, hown, hta⟩ hnw (c_forgetAll l dC dI q k  H.size) cd_X2_forgetAll iz_X2 nm_X10_157 im_X2_forgetAll se_X2_X2_forgetAll (by decide +kernel) rfl (Nat.le_of_ble_eq_true rfl) (Nat.le_of_ble_eq_true rfl) rfl rfl (Nat.le_of_ble_eq_true rfl) (Nat.le_of_ble_eq_true rfl) hP hD hK hS hA [0, 1] [2] [0] rfl (wr := [zLF q k]) rfl (by decide) (by decide) (by decide) rfl rfl 0 rfl hl.1 rfl (Nat.le_of_ble_eq_true rfl) dX10_clear_23 (fun u7 H locs hw8 hP hD hK hS => ?_)
  have hP : va_P (dC, dI) vwCl [zLF q k] H := hP
  have hD : va_D A [zLF q k] := hD
  have hK : va_K (dC, dI) vwCl [(k 32, .int), (k 20, .int)] s := hK
  refine lv_iload_n hx hb dX10_clear_26 rfl (lv_at hl 0 rfl) ?_
  refine W.widen (k := 0) (n := 0) (Nat.le_of_ble_eq_true rfl) (Nat.le_of_ble_eq_true rfl) ?_
  exact k_iret () hx hb hr hlocks rfl P_nil D_nil (hK.sub (tys' := []) [] rfl) hS rfl dX10_clear_27
set_option maxHeartbeats 4000000 in
set_option maxRecDepth 100000 in
theorem x_fix (l : Launch) (dC : Nat → ClassId) (dI : Nat → Nat → Nat) (q : Nat → Nat) (k : Nat → ClassId) (p0 : Int32) (p1 : Int32) (p2 : Int32) (sz : Nat) : Ci l (dC, dI) yX10_fix cX10_fix 4 (some .int) { frames := 2, cells := 0, slots := 0, locals := 43 } [.ref (q 0), .int p0, .int p1, .int p2] [] [zLF q k, zpi q k] sz 0 0 Unit (fun r _ => r = (-1)) (fun _ => []) (fun _ => []) := by
  refine Ci_of (lv := [(0, .ref (q 0)), (1, .int p0), (2, .int p1), (3, .int p2)]) (by decide) rfl rfl ?_
  intro p e s m below meth c A ls hx hb hml hr hown hta hlocks hnm hnw hP hD hK hS hA hl
  have hown : s.vm.findClass RX10 = some m.cls := hown
  refine lv_aload_n hx hb dX10_fix_0 rfl (lv_at hl 0 rfl) ?_
  refine va_get (D := (dC, dI)) (ci := 9) (v := .ref (q 2)) (C := RX10) (T := TX10) (N := 15) hx hb hta inlX10 hown hK hP 0 rfl rfl 1 (by decide) (hta _ fl_X10_19) (fun _ h9 => h9) rfl dX10_fix_1 ?_
  refine lv_iload_n hx hb dX10_fix_4 rfl (lv_at hl 1 rfl) ?_
  refine lv_iload_n hx hb dX10_fix_5 rfl (lv_at hl 2 rfl) ?_
  refine kVNi (b := (q 2)) (n := 2) (As := [.int p0, .int p1]) (rest := []) ⟨hx, hb, hml, hown, hta⟩ hnw (c_hasNote l dC dI q k p0 p1  s.heap.size) cd_X5_hasNote iz_X5 nm_X10_160 im_X5_hasNote se_X5_X5_hasNote (by decide +kernel) rfl (Nat.le_of_ble_eq_true rfl) (Nat.le_of_ble_eq_true rfl) rfl rfl (Nat.le_of_ble_eq_true rfl) (Nat.le_of_ble_eq_true rfl) hP hD hK hS hA [1] [0] [] rfl (wr := [zLF q k]) rfl (by decide) (by decide) (by decide) rfl rfl 0 rfl hl.1 rfl (Nat.le_of_ble_eq_true rfl) dX10_fix_6 (fun r3 u1 H locs hw2 hP hD hK hS => ?_)
  have hP : va_P (dC, dI) vwCl [zLF q k] H := hP
  have hD : va_D A [zLF q k] := hD
  have hK : va_K (dC, dI) vwCl [] s := hK
  obtain rfl : r3 = 0 := hw2
  refine lv_if_ne (tgt := 14) hx hb dX10_fix_9 (by decide) (fun c => absurd c (by decide)) (fun _ => ?_)
  refine lv_iconst (v := (-1)) hx hb dX10_fix_12 (by decide) ?_
  refine W.widen (k := 0) (n := 0) (Nat.le_of_ble_eq_true rfl) (Nat.le_of_ble_eq_true rfl) ?_
  exact k_iret () hx hb hr hlocks rfl P_nil D_nil (hK.sub (tys' := []) [] rfl) hS rfl dX10_fix_13
set_option maxHeartbeats 4000000 in
set_option maxRecDepth 100000 in
theorem x_told (l : Launch) (dC : Nat → ClassId) (dI : Nat → Nat → Nat) (q : Nat → Nat) (k : Nat → ClassId) (p0 : Int32) (p1 : Int32) (p2 : Int32) (sz : Nat) : Ci l (dC, dI) yX10_told cX10_told 5 (some .int) { frames := 2, cells := 0, slots := 0, locals := 43 } [.ref (q 0), .int p0, .int p1, .int p2] [] [zLF q k, zpi q k] sz 0 0 Unit (fun r _ => r = (-1)) (fun _ => []) (fun _ => []) := by
  refine Ci_of (lv := [(0, .ref (q 0)), (1, .int p0), (2, .int p1), (3, .int p2)]) (by decide) rfl rfl ?_
  intro p e s m below meth c A ls hx hb hml hr hown hta hlocks hnm hnw hP hD hK hS hA hl
  have hown : s.vm.findClass RX10 = some m.cls := hown
  refine lv_aload_n hx hb dX10_told_0 rfl (lv_at hl 0 rfl) ?_
  refine va_get (D := (dC, dI)) (ci := 9) (v := .ref (q 2)) (C := RX10) (T := TX10) (N := 15) hx hb hta inlX10 hown hK hP 0 rfl rfl 1 (by decide) (hta _ fl_X10_19) (fun _ h9 => h9) rfl dX10_told_1 ?_
  refine lv_iload_n hx hb dX10_told_4 rfl (lv_at hl 1 rfl) ?_
  refine lv_iload_n hx hb dX10_told_5 rfl (lv_at hl 2 rfl) ?_
  refine kVNi (b := (q 2)) (n := 2) (As := [.int p0, .int p1]) (rest := []) ⟨hx, hb, hml, hown, hta⟩ hnw (c_hasNote l dC dI q k p0 p1  s.heap.size) cd_X5_hasNote iz_X5 nm_X10_160 im_X5_hasNote se_X5_X5_hasNote (by decide +kernel) rfl (Nat.le_of_ble_eq_true rfl) (Nat.le_of_ble_eq_true rfl) rfl rfl (Nat.le_of_ble_eq_true rfl) (Nat.le_of_ble_eq_true rfl) hP hD hK hS hA [1] [0] [] rfl (wr := [zLF q k]) rfl (by decide) (by decide) (by decide) rfl rfl 0 rfl hl.1 rfl (Nat.le_of_ble_eq_true rfl) dX10_told_6 (fun r3 u1 H locs hw2 hP hD hK hS => ?_)
  have hP : va_P (dC, dI) vwCl [zLF q k] H := hP
  have hD : va_D A [zLF q k] := hD
  have hK : va_K (dC, dI) vwCl [] s := hK
  obtain rfl : r3 = 0 := hw2
  refine lv_if_ne (tgt := 14) hx hb dX10_told_9 (by decide) (fun c => absurd c (by decide)) (fun _ => ?_)
  refine lv_iconst (v := (-1)) hx hb dX10_told_12 (by decide) ?_
  refine W.widen (k := 0) (n := 0) (Nat.le_of_ble_eq_true rfl) (Nat.le_of_ble_eq_true rfl) ?_
  exact k_iret () hx hb hr hlocks rfl P_nil D_nil (hK.sub (tys' := []) [] rfl) hS rfl dX10_told_13
set_option maxHeartbeats 4000000 in
set_option maxRecDepth 100000 in
theorem x_grips (l : Launch) (dC : Nat → ClassId) (dI : Nat → Nat → Nat) (q : Nat → Nat) (k : Nat → ClassId) (p0 : Int32) (sz : Nat) : Ci l (dC, dI) yX10_grips cX10_grips 2 (some .int) { frames := 1, cells := 0, slots := 0, locals := 21 } [.ref (q 0), .int p0] [] [zLF q k, zpi q k] sz 0 0 Unit (fun r _ => r = (-1)) (fun _ => []) (fun _ => []) := by
  refine Ci_of (lv := [(0, .ref (q 0)), (1, .int p0)]) (by decide) rfl rfl ?_
  intro p e s m below meth c A ls hx hb hml hr hown hta hlocks hnm hnw hP hD hK hS hA hl
  have hown : s.vm.findClass RX10 = some m.cls := hown
  refine lv_aload_n hx hb dX10_grips_0 rfl (lv_at hl 0 rfl) ?_
  refine va_get (D := (dC, dI)) (ci := 9) (v := .ref (q 2)) (C := RX10) (T := TX10) (N := 15) hx hb hta inlX10 hown hK hP 0 rfl rfl 1 (by decide) (hta _ fl_X10_19) (fun _ h9 => h9) rfl dX10_grips_1 ?_
  refine lv_iload_n hx hb dX10_grips_4 rfl (lv_at hl 1 rfl) ?_
  refine kVNi (b := (q 2)) (n := 1) (As := [.int p0]) (rest := []) ⟨hx, hb, hml, hown, hta⟩ hnw (c_hasTick l dC dI q k p0  s.heap.size) cd_X5_hasTick iz_X5 nm_X10_178 im_X5_hasTick se_X5_X5_hasTick (by decide +kernel) rfl (Nat.le_of_ble_eq_true rfl) (Nat.le_of_ble_eq_true rfl) rfl rfl (Nat.le_of_ble_eq_true rfl) (Nat.le_of_ble_eq_true rfl) hP hD hK hS hA [1] [0] [] rfl (wr := [zLF q k]) rfl (by decide) (by decide) (by decide) rfl rfl 0 rfl hl.1 rfl (Nat.le_of_ble_eq_true rfl) dX10_grips_5 (fun r3 u1 H locs hw2 hP hD hK hS => ?_)
  have hP : va_P (dC, dI) vwCl [zLF q k] H := hP
  have hD : va_D A [zLF q k] := hD
  have hK : va_K (dC, dI) vwCl [] s := hK
  obtain rfl : r3 = 0 := hw2
  refine lv_if_ne (tgt := 13) hx hb dX10_grips_8 (by decide) (fun c => absurd c (by decide)) (fun _ => ?_)
  refine lv_iconst (v := (-1)) hx hb dX10_grips_11 (by decide) ?_
  refine W.widen (k := 0) (n := 0) (Nat.le_of_ble_eq_true rfl) (Nat.le_of_ble_eq_true rfl) ?_
  exact k_iret () hx hb hr hlocks rfl P_nil D_nil (hK.sub (tys' := []) [] rfl) hS rfl dX10_grips_12
set_option maxHeartbeats 4000000 in
set_option maxRecDepth 100000 in
theorem x_grip (l : Launch) (dC : Nat → ClassId) (dI : Nat → Nat → Nat) (q : Nat → Nat) (k : Nat → ClassId) (p0 : Int32) (p1 : Int32) (p2 : Int32) (p3 : Int32) (sz : Nat) : Ci l (dC, dI) yX10_grip cX10_grip 7 (some .int) { frames := 1, cells := 0, slots := 0, locals := 21 } [.ref (q 0), .int p0, .int p1, .int p2, .int p3] [] [zLF q k, zpi q k] sz 0 0 Unit (fun r _ => r = (-1)) (fun _ => []) (fun _ => []) := by
  refine Ci_of (lv := [(0, .ref (q 0)), (1, .int p0), (2, .int p1), (3, .int p2), (4, .int p3)]) (by decide) rfl rfl ?_
  intro p e s m below meth c A ls hx hb hml hr hown hta hlocks hnm hnw hP hD hK hS hA hl
  have hown : s.vm.findClass RX10 = some m.cls := hown
  refine lv_aload_n hx hb dX10_grip_0 rfl (lv_at hl 0 rfl) ?_
  refine va_get (D := (dC, dI)) (ci := 9) (v := .ref (q 2)) (C := RX10) (T := TX10) (N := 15) hx hb hta inlX10 hown hK hP 0 rfl rfl 1 (by decide) (hta _ fl_X10_19) (fun _ h9 => h9) rfl dX10_grip_1 ?_
  refine lv_iload_n hx hb dX10_grip_4 rfl (lv_at hl 1 rfl) ?_
  refine kVNi (b := (q 2)) (n := 1) (As := [.int p0]) (rest := []) ⟨hx, hb, hml, hown, hta⟩ hnw (c_hasTick l dC dI q k p0  s.heap.size) cd_X5_hasTick iz_X5 nm_X10_178 im_X5_hasTick se_X5_X5_hasTick (by decide +kernel) rfl (Nat.le_of_ble_eq_true rfl) (Nat.le_of_ble_eq_true rfl) rfl rfl (Nat.le_of_ble_eq_true rfl) (Nat.le_of_ble_eq_true rfl) hP hD hK hS hA [1] [0] [] rfl (wr := [zLF q k]) rfl (by decide) (by decide) (by decide) rfl rfl 0 rfl hl.1 rfl (Nat.le_of_ble_eq_true rfl) dX10_grip_5 (fun r3 u1 H locs hw2 hP hD hK hS => ?_)
  have hP : va_P (dC, dI) vwCl [zLF q k] H := hP
  have hD : va_D A [zLF q k] := hD
  have hK : va_K (dC, dI) vwCl [] s := hK
  obtain rfl : r3 = 0 := hw2
  refine lv_if_ne (tgt := 13) hx hb dX10_grip_8 (by decide) (fun c => absurd c (by decide)) (fun _ => ?_)
  refine lv_iconst (v := (-1)) hx hb dX10_grip_11 (by decide) ?_
  refine W.widen (k := 0) (n := 0) (Nat.le_of_ble_eq_true rfl) (Nat.le_of_ble_eq_true rfl) ?_
  exact k_iret () hx hb hr hlocks rfl P_nil D_nil (hK.sub (tys' := []) [] rfl) hS rfl dX10_grip_12
set_option maxHeartbeats 4000000 in
set_option maxRecDepth 100000 in
theorem x_why (l : Launch) (dC : Nat → ClassId) (dI : Nat → Nat → Nat) (q : Nat → Nat) (k : Nat → ClassId) (p0 : Int32) (sz : Nat) : Ci l (dC, dI) yX10_why cX10_why 7 (some .int) { frames := 1, cells := 0, slots := 0, locals := 21 } [.ref (q 0), .int p0] [] [zLF q k, zpi q k] sz 0 0 Unit (fun r _ => r = (-1)) (fun _ => []) (fun _ => []) := by
  refine Ci_of (lv := [(0, .ref (q 0)), (1, .int p0)]) (by decide) rfl rfl ?_
  intro p e s m below meth c A ls hx hb hml hr hown hta hlocks hnm hnw hP hD hK hS hA hl
  have hown : s.vm.findClass RX10 = some m.cls := hown
  refine lv_aload_n hx hb dX10_why_0 rfl (lv_at hl 0 rfl) ?_
  refine va_get (D := (dC, dI)) (ci := 9) (v := .ref (q 2)) (C := RX10) (T := TX10) (N := 15) hx hb hta inlX10 hown hK hP 0 rfl rfl 1 (by decide) (hta _ fl_X10_19) (fun _ h9 => h9) rfl dX10_why_1 ?_
  refine lv_iload_n hx hb dX10_why_4 rfl (lv_at hl 1 rfl) ?_
  refine kVNi (b := (q 2)) (n := 1) (As := [.int p0]) (rest := []) ⟨hx, hb, hml, hown, hta⟩ hnw (c_hasTick l dC dI q k p0  s.heap.size) cd_X5_hasTick iz_X5 nm_X10_178 im_X5_hasTick se_X5_X5_hasTick (by decide +kernel) rfl (Nat.le_of_ble_eq_true rfl) (Nat.le_of_ble_eq_true rfl) rfl rfl (Nat.le_of_ble_eq_true rfl) (Nat.le_of_ble_eq_true rfl) hP hD hK hS hA [1] [0] [] rfl (wr := [zLF q k]) rfl (by decide) (by decide) (by decide) rfl rfl 0 rfl hl.1 rfl (Nat.le_of_ble_eq_true rfl) dX10_why_5 (fun r3 u1 H locs hw2 hP hD hK hS => ?_)
  have hP : va_P (dC, dI) vwCl [zLF q k] H := hP
  have hD : va_D A [zLF q k] := hD
  have hK : va_K (dC, dI) vwCl [] s := hK
  obtain rfl : r3 = 0 := hw2
  refine lv_if_ne (tgt := 13) hx hb dX10_why_8 (by decide) (fun c => absurd c (by decide)) (fun _ => ?_)
  refine lv_iconst (v := (-1)) hx hb dX10_why_11 (by decide) ?_
  refine W.widen (k := 0) (n := 0) (Nat.le_of_ble_eq_true rfl) (Nat.le_of_ble_eq_true rfl) ?_
  exact k_iret () hx hb hr hlocks rfl P_nil D_nil (hK.sub (tys' := []) [] rfl) hS rfl dX10_why_12
set_option maxHeartbeats 4000000 in
set_option maxRecDepth 100000 in
theorem x_way (l : Launch) (dC : Nat → ClassId) (dI : Nat → Nat → Nat) (q : Nat → Nat) (k : Nat → ClassId) (sz : Nat) : Ci l (dC, dI) yX10_way cX10_way 2 (some .int) { frames := 0, cells := 0, slots := 0, locals := 0 } [.ref (q 0)] [] [zLF q k, zpi q k] sz 0 0 Unit (fun r _ => r = (-3)) (fun _ => []) (fun _ => []) := by
  refine Ci_of (lv := [(0, .ref (q 0))]) (by decide) rfl rfl ?_
  intro p e s m below meth c A ls hx hb hml hr hown hta hlocks hnm hnw hP hD hK hS hA hl
  have hown : s.vm.findClass RX10 = some m.cls := hown
  refine lv_aload_n hx hb dX10_way_0 rfl (lv_at hl 0 rfl) ?_
  refine va_get (D := (dC, dI)) (ci := 9) (v := .ref (q 2)) (C := RX10) (T := TX10) (N := 15) hx hb hta inlX10 hown hK hP 0 rfl rfl 1 (by decide) (hta _ fl_X10_19) (fun _ h9 => h9) rfl dX10_way_1 ?_
  refine va_getN (D := (dC, dI)) (ci := 4) (v := .int 0) (C := RX5) (T := TX5) (N := 7) hx hb hta inlX5 hown hK hP 1 rfl rfl 0 (by decide) (hnw.f nf_X10_94) (fun _ h9 => h9) rfl dX10_way_4 ?_
  refine lv_if_ne (tgt := 13) hx hb dX10_way_7 (by decide) (fun c => absurd c (by decide)) (fun _ => ?_)
  refine lv_bipush (v := (-3)) hx hb dX10_way_10 (by decide) ?_
  refine W.widen (k := 0) (n := 0) (Nat.le_of_ble_eq_true rfl) (Nat.le_of_ble_eq_true rfl) ?_
  exact k_iret () hx hb hr hlocks rfl P_nil D_nil (hK.sub (tys' := []) [] rfl) hS rfl dX10_way_12
set_option maxHeartbeats 4000000 in
set_option maxRecDepth 100000 in
theorem x_next (l : Launch) (dC : Nat → ClassId) (dI : Nat → Nat → Nat) (q : Nat → Nat) (k : Nat → ClassId) (sz : Nat) : Ci l (dC, dI) yX10_next cX10_next 1 (some .int) { frames := 1, cells := 0, slots := 0, locals := 20 } [.ref (q 0)] [] [zLF q k, zwl q k] sz 0 0 Unit (fun r _ => r = (-3)) (fun _ => []) (fun _ => []) := by
  refine Ci_of (lv := [(0, .ref (q 0))]) (by decide) rfl rfl ?_
  intro p e s m below meth c A ls hx hb hml hr hown hta hlocks hnm hnw hP hD hK hS hA hl
  have hown : s.vm.findClass RX10 = some m.cls := hown
  refine lv_aload_n hx hb dX10_next_0 rfl (lv_at hl 0 rfl) ?_
  refine va_get (D := (dC, dI)) (ci := 9) (v := .ref (q 8)) (C := RX10) (T := TX10) (N := 15) hx hb hta inlX10 hown hK hP 0 rfl rfl 7 (by decide) (hta _ fl_X10_61) (fun _ h9 => h9) rfl dX10_next_1 ?_
  refine kVNi (b := (q 8)) (n := 0) (As := []) (rest := []) ⟨hx, hb, hml, hown, hta⟩ hnw (c_atHand l dC dI q k  s.heap.size) cd_X8_atHand iz_X8 nm_X10_214 im_X8_atHand se_X8_X8_atHand (by decide +kernel) rfl (Nat.le_of_ble_eq_true rfl) (Nat.le_of_ble_eq_true rfl) rfl rfl (Nat.le_of_ble_eq_true rfl) (Nat.le_of_ble_eq_true rfl) hP hD hK hS hA [1] [0] [] rfl (wr := [zLF q k]) rfl (by decide) (by decide) (by decide) rfl rfl 0 rfl hl.1 rfl (Nat.le_of_ble_eq_true rfl) dX10_next_4 (fun r3 u1 H locs hw2 hP hD hK hS => ?_)
  have hP : va_P (dC, dI) vwCl [zLF q k] H := hP
  have hD : va_D A [zLF q k] := hD
  have hK : va_K (dC, dI) vwCl [] s := hK
  obtain rfl : r3 = 0 := hw2
  refine lv_if_eq (tgt := 22) hx hb dX10_next_7 (by decide) (fun _ => ?_) (fun c => absurd (by decide) c)
  refine lv_bipush (v := (-3)) hx hb dX10_next_22 (by decide) ?_
  refine W.widen (k := 0) (n := 0) (Nat.le_of_ble_eq_true rfl) (Nat.le_of_ble_eq_true rfl) ?_
  exact k_iret () hx hb hr hlocks rfl P_nil D_nil (hK.sub (tys' := []) [] rfl) hS rfl dX10_next_24
set_option maxHeartbeats 4000000 in
set_option maxRecDepth 100000 in
theorem x_at (l : Launch) (dC : Nat → ClassId) (dI : Nat → Nat → Nat) (q : Nat → Nat) (k : Nat → ClassId) (p0 : Int32) (sz : Nat) : Ci l (dC, dI) yX10_at cX10_at 2 (some .int) { frames := 1, cells := 0, slots := 0, locals := 21 } [.ref (q 0), .int p0] [] [zLF q k, zpi q k] sz 0 0 Unit (fun r _ => r = (-1)) (fun _ => []) (fun _ => []) := by
  refine Ci_of (lv := [(0, .ref (q 0)), (1, .int p0)]) (by decide) rfl rfl ?_
  intro p e s m below meth c A ls hx hb hml hr hown hta hlocks hnm hnw hP hD hK hS hA hl
  have hown : s.vm.findClass RX10 = some m.cls := hown
  refine lv_aload_n hx hb dX10_at_0 rfl (lv_at hl 0 rfl) ?_
  refine va_get (D := (dC, dI)) (ci := 9) (v := .ref (q 2)) (C := RX10) (T := TX10) (N := 15) hx hb hta inlX10 hown hK hP 0 rfl rfl 1 (by decide) (hta _ fl_X10_19) (fun _ h9 => h9) rfl dX10_at_1 ?_
  refine lv_iload_n hx hb dX10_at_4 rfl (lv_at hl 1 rfl) ?_
  refine kVNi (b := (q 2)) (n := 1) (As := [.int p0]) (rest := []) ⟨hx, hb, hml, hown, hta⟩ hnw (c_hasTick l dC dI q k p0  s.heap.size) cd_X5_hasTick iz_X5 nm_X10_178 im_X5_hasTick se_X5_X5_hasTick (by decide +kernel) rfl (Nat.le_of_ble_eq_true rfl) (Nat.le_of_ble_eq_true rfl) rfl rfl (Nat.le_of_ble_eq_true rfl) (Nat.le_of_ble_eq_true rfl) hP hD hK hS hA [1] [0] [] rfl (wr := [zLF q k]) rfl (by decide) (by decide) (by decide) rfl rfl 0 rfl hl.1 rfl (Nat.le_of_ble_eq_true rfl) dX10_at_5 (fun r3 u1 H locs hw2 hP hD hK hS => ?_)
  have hP : va_P (dC, dI) vwCl [zLF q k] H := hP
  have hD : va_D A [zLF q k] := hD
  have hK : va_K (dC, dI) vwCl [] s := hK
  obtain rfl : r3 = 0 := hw2
  refine lv_if_eq (tgt := 21) hx hb dX10_at_8 (by decide) (fun _ => ?_) (fun c => absurd (by decide) c)
  refine lv_iconst (v := (-1)) hx hb dX10_at_21 (by decide) ?_
  refine W.widen (k := 0) (n := 0) (Nat.le_of_ble_eq_true rfl) (Nat.le_of_ble_eq_true rfl) ?_
  exact k_iret () hx hb hr hlocks rfl P_nil D_nil (hK.sub (tys' := []) [] rfl) hS rfl dX10_at_22
set_option maxHeartbeats 4000000 in
set_option maxRecDepth 100000 in
theorem x_rank (l : Launch) (dC : Nat → ClassId) (dI : Nat → Nat → Nat) (q : Nat → Nat) (k : Nat → ClassId) (p0 : Int32) (sz : Nat) : Ci l (dC, dI) yX10_rank cX10_rank 4 (some .int) { frames := 1, cells := 0, slots := 0, locals := 20 } [.ref (q 0), .int p0] [] [zLF q k, zwl q k] sz 0 0 Unit (fun r _ => r = (-3)) (fun _ => []) (fun _ => []) := by
  refine Ci_of (lv := [(0, .ref (q 0)), (1, .int p0)]) (by decide) rfl rfl ?_
  intro p e s m below meth c A ls hx hb hml hr hown hta hlocks hnm hnw hP hD hK hS hA hl
  have hown : s.vm.findClass RX10 = some m.cls := hown
  refine lv_aload_n hx hb dX10_rank_0 rfl (lv_at hl 0 rfl) ?_
  refine va_get (D := (dC, dI)) (ci := 9) (v := .ref (q 8)) (C := RX10) (T := TX10) (N := 15) hx hb hta inlX10 hown hK hP 0 rfl rfl 7 (by decide) (hta _ fl_X10_61) (fun _ h9 => h9) rfl dX10_rank_1 ?_
  refine kVNi (b := (q 8)) (n := 0) (As := []) (rest := []) ⟨hx, hb, hml, hown, hta⟩ hnw (c_atHand l dC dI q k  s.heap.size) cd_X8_atHand iz_X8 nm_X10_214 im_X8_atHand se_X8_X8_atHand (by decide +kernel) rfl (Nat.le_of_ble_eq_true rfl) (Nat.le_of_ble_eq_true rfl) rfl rfl (Nat.le_of_ble_eq_true rfl) (Nat.le_of_ble_eq_true rfl) hP hD hK hS hA [1] [0] [] rfl (wr := [zLF q k]) rfl (by decide) (by decide) (by decide) rfl rfl 0 rfl hl.1 rfl (Nat.le_of_ble_eq_true rfl) dX10_rank_4 (fun r3 u1 H locs hw2 hP hD hK hS => ?_)
  have hP : va_P (dC, dI) vwCl [zLF q k] H := hP
  have hD : va_D A [zLF q k] := hD
  have hK : va_K (dC, dI) vwCl [] s := hK
  obtain rfl : r3 = 0 := hw2
  refine lv_if_ne (tgt := 13) hx hb dX10_rank_7 (by decide) (fun c => absurd c (by decide)) (fun _ => ?_)
  refine lv_bipush (v := (-3)) hx hb dX10_rank_10 (by decide) ?_
  refine W.widen (k := 0) (n := 0) (Nat.le_of_ble_eq_true rfl) (Nat.le_of_ble_eq_true rfl) ?_
  exact k_iret () hx hb hr hlocks rfl P_nil D_nil (hK.sub (tys' := []) [] rfl) hS rfl dX10_rank_12
set_option maxHeartbeats 4000000 in
set_option maxRecDepth 100000 in
theorem x_say (l : Launch) (dC : Nat → ClassId) (dI : Nat → Nat → Nat) (q : Nat → Nat) (k : Nat → ClassId) (p0 : Int32) (sz : Nat) : Ci l (dC, dI) yX10_say cX10_say 2 (some .int) { frames := 0, cells := 0, slots := 0, locals := 0 } [.ref (q 0), .int p0] [(k 9, .int)] [zLF q k, zrw q k] sz 0 0 Unit (fun r _ => r = sp_say p0) (fun _ => []) (fun _ => []) := by
  refine Ci_of (lv := [(0, .ref (q 0)), (1, .int p0)]) (by decide) rfl rfl ?_
  intro p e s m below meth c A ls hx hb hml hr hown hta hlocks hnm hnw hP hD hK hS hA hl
  have hown : s.vm.findClass RX10 = some m.cls := hown
  refine lv_iload_n hx hb dX10_say_0 rfl (lv_at hl 1 rfl) ?_
  refine lv_if_ge (tgt := 7) hx hb dX10_say_1 (by decide) (fun c_1 => ?_) (fun c_1 => ?_)
  · refine lv_aload_n hx hb dX10_say_7 rfl (lv_at hl 0 rfl) ?_
    refine va_get (D := (dC, dI)) (ci := 9) (v := .int 0) (C := RX10) (T := TX10) (N := 15) hx hb hta inlX10 hown hK hP 0 rfl rfl 9 (by decide) (hta _ fl_X10_69) (fun _ h9 => h9) rfl dX10_say_8 ?_
    refine lv_bipush (v := 16) hx hb dX10_say_11 (by decide) ?_
    refine lv_icmp_lt (tgt := 19) hx hb dX10_say_13 (by decide) (fun _ => ?_) (fun c => absurd (by decide) c)
    refine lv_aload_n hx hb dX10_say_19 rfl (lv_at hl 0 rfl) ?_
    refine va_get (D := (dC, dI)) (ci := 9) (v := .ref (q 9)) (C := RX10) (T := TX10) (N := 15) hx hb hta inlX10 hown hK hP 0 rfl rfl 8 (by decide) (hta _ fl_X10_65) (fun _ h9 => h9) rfl dX10_say_20 ?_
    refine lv_aload_n hx hb dX10_say_23 rfl (lv_at hl 0 rfl) ?_
    refine va_get (D := (dC, dI)) (ci := 9) (v := .int 0) (C := RX10) (T := TX10) (N := 15) hx hb hta inlX10 hown hK hP 0 rfl rfl 9 (by decide) (hta _ fl_X10_69) (fun _ h9 => h9) rfl dX10_say_24 ?_
    refine lv_iload_n hx hb dX10_say_27 rfl (lv_at hl 1 rfl) ?_
    refine va_iast hx hb hK hP hD hS 1 0 rfl rfl (vin (by decide)) dX10_say_28 (fun H locs hP hD hS => ?_)
    have hP : va_P (dC, dI) vwCl [zLF q k, (q 9, .inl (k 9, 16, .inl (upd (fun _ => 0) 0 p0)))] H := hP
    have hD : va_D A [zLF q k, (q 9, .inl (k 9, 16, .inl (upd (fun _ => 0) 0 p0)))] := hD
    refine lv_aload_n hx hb dX10_say_29 rfl (lv_at hl 0 rfl) ?_
    refine lv_dup hx hb dX10_say_30 rfl ?_
    refine va_get (D := (dC, dI)) (ci := 9) (v := .int 0) (C := RX10) (T := TX10) (N := 15) hx hb hta inlX10 hown hK hP 0 rfl rfl 9 (by decide) (hta _ fl_X10_69) (fun _ h9 => h9) rfl dX10_say_31 ?_
    refine lv_iconst (v := 1) hx hb dX10_say_34 (by decide) ?_
    refine lv_iadd hx hb dX10_say_35 ?_
    refine k_top (y := 1) (by decide) ?_
    refine va_put (D := (dC, dI)) (ci := 9) (v := .int 1) (ty := .int) (C := RX10) (T := TX10) (N := 15) hx hb hta inlX10 tyX10 tyX10_ok nmX10 hown hK hP hD hS 0 rfl rfl 9 (by decide) (hta _ fl_X10_69) (fun _ h9 => h9) rfl (by decide +kernel) rfl rfl (Nat.le_of_ble_eq_true rfl) dX10_say_36 (fun H locs hP hD hS => ?_)
    have hP : va_P (dC, dI) vwCl [(q 0, .inr (9, [.ref (q 1), .ref (q 2), .ref (q 3), .ref (q 4), .ref (q 5), .ref (q 6), .ref (q 7), .ref (q 8), .ref (q 9), .int 1, .null, .null, .int 0, .int 0, .int 0])), (q 9, .inl (k 9, 16, .inl (upd (fun _ => 0) 0 p0)))] H := hP
    have hD : va_D A [(q 0, .inr (9, [.ref (q 1), .ref (q 2), .ref (q 3), .ref (q 4), .ref (q 5), .ref (q 6), .ref (q 7), .ref (q 8), .ref (q 9), .int 1, .null, .null, .int 0, .int 0, .int 0])), (q 9, .inl (k 9, 16, .inl (upd (fun _ => 0) 0 p0)))] := hD
    refine lv_aload_n hx hb dX10_say_39 rfl (lv_at hl 0 rfl) ?_
    refine va_get (D := (dC, dI)) (ci := 9) (v := .int 1) (C := RX10) (T := TX10) (N := 15) hx hb hta inlX10 hown hK hP 0 rfl rfl 9 (by decide) (hta _ fl_X10_69) (fun _ h9 => h9) rfl dX10_say_40 ?_
    refine W.widen (k := 0) (n := 0) (Nat.le_of_ble_eq_true rfl) (Nat.le_of_ble_eq_true rfl) ?_
    exact k_iret () hx hb hr hlocks rfl P_nil D_nil (hK.sub (tys' := []) [] rfl) hS (by first | rfl | (simp [sp_say]; done) | (simp [sp_say, c_1]; done)) dX10_say_43
  · refine lv_bipush (v := (-2)) hx hb dX10_say_4 (by decide) ?_
    refine W.widen (k := 0) (n := 0) (Nat.le_of_ble_eq_true rfl) (Nat.le_of_ble_eq_true rfl) ?_
    exact k_iret () hx hb hr hlocks rfl P_nil D_nil (hK.sub (tys' := []) [] rfl) hS (by first | rfl | (simp [sp_say]; done) | (simp [sp_say, c_1]; done)) dX10_say_6
set_option maxHeartbeats 4000000 in
set_option maxRecDepth 100000 in
theorem x_check (l : Launch) (dC : Nat → ClassId) (dI : Nat → Nat → Nat) (q : Nat → Nat) (k : Nat → ClassId) (sz : Nat) : Ci l (dC, dI) yX10_check cX10_check 3 (some .int) { frames := 0, cells := 0, slots := 0, locals := 0 } [.ref (q 0)] [] [zLF q k, zpi q k] sz 0 0 Unit (fun r _ => r = (-3)) (fun _ => []) (fun _ => []) := by
  refine Ci_of (lv := [(0, .ref (q 0))]) (by decide) rfl rfl ?_
  intro p e s m below meth c A ls hx hb hml hr hown hta hlocks hnm hnw hP hD hK hS hA hl
  have hown : s.vm.findClass RX10 = some m.cls := hown
  refine lv_aload_n hx hb dX10_check_0 rfl (lv_at hl 0 rfl) ?_
  refine va_get (D := (dC, dI)) (ci := 9) (v := .ref (q 2)) (C := RX10) (T := TX10) (N := 15) hx hb hta inlX10 hown hK hP 0 rfl rfl 1 (by decide) (hta _ fl_X10_19) (fun _ h9 => h9) rfl dX10_check_1 ?_
  refine va_getN (D := (dC, dI)) (ci := 4) (v := .int 0) (C := RX5) (T := TX5) (N := 7) hx hb hta inlX5 hown hK hP 1 rfl rfl 0 (by decide) (hnw.f nf_X10_94) (fun _ h9 => h9) rfl dX10_check_4 ?_
  refine lv_if_ne (tgt := 13) hx hb dX10_check_7 (by decide) (fun c => absurd c (by decide)) (fun _ => ?_)
  refine lv_bipush (v := (-3)) hx hb dX10_check_10 (by decide) ?_
  refine W.widen (k := 0) (n := 0) (Nat.le_of_ble_eq_true rfl) (Nat.le_of_ble_eq_true rfl) ?_
  exact k_iret () hx hb hr hlocks rfl P_nil D_nil (hK.sub (tys' := []) [] rfl) hS rfl dX10_check_12
set_option maxHeartbeats 4000000 in
set_option maxRecDepth 100000 in
theorem x_arrange (l : Launch) (dC : Nat → ClassId) (dI : Nat → Nat → Nat) (q : Nat → Nat) (k : Nat → ClassId) (sz : Nat) : Ci l (dC, dI) yX10_arrange cX10_arrange 2 (some .int) { frames := 0, cells := 0, slots := 0, locals := 0 } [.ref (q 0)] [] [zLF q k, zpi q k] sz 0 0 Unit (fun r _ => r = (-3)) (fun _ => []) (fun _ => []) := by
  refine Ci_of (lv := [(0, .ref (q 0))]) (by decide) rfl rfl ?_
  intro p e s m below meth c A ls hx hb hml hr hown hta hlocks hnm hnw hP hD hK hS hA hl
  have hown : s.vm.findClass RX10 = some m.cls := hown
  refine lv_aload_n hx hb dX10_arrange_0 rfl (lv_at hl 0 rfl) ?_
  refine va_get (D := (dC, dI)) (ci := 9) (v := .ref (q 2)) (C := RX10) (T := TX10) (N := 15) hx hb hta inlX10 hown hK hP 0 rfl rfl 1 (by decide) (hta _ fl_X10_19) (fun _ h9 => h9) rfl dX10_arrange_1 ?_
  refine va_getN (D := (dC, dI)) (ci := 4) (v := .int 0) (C := RX5) (T := TX5) (N := 7) hx hb hta inlX5 hown hK hP 1 rfl rfl 0 (by decide) (hnw.f nf_X10_94) (fun _ h9 => h9) rfl dX10_arrange_4 ?_
  refine lv_if_ne (tgt := 13) hx hb dX10_arrange_7 (by decide) (fun c => absurd c (by decide)) (fun _ => ?_)
  refine lv_bipush (v := (-3)) hx hb dX10_arrange_10 (by decide) ?_
  refine W.widen (k := 0) (n := 0) (Nat.le_of_ble_eq_true rfl) (Nat.le_of_ble_eq_true rfl) ?_
  exact k_iret () hx hb hr hlocks rfl P_nil D_nil (hK.sub (tys' := []) [] rfl) hS rfl dX10_arrange_12
set_option maxHeartbeats 4000000 in
set_option maxRecDepth 100000 in
theorem x_left (l : Launch) (dC : Nat → ClassId) (dI : Nat → Nat → Nat) (q : Nat → Nat) (k : Nat → ClassId) (p0 : Int32) (sz : Nat) : Ci l (dC, dI) yX10_left cX10_left 2 (some .int) { frames := 0, cells := 0, slots := 0, locals := 0 } [.ref (q 0), .int p0] [] [zLF q k] sz 0 0 Unit (fun r _ => r = (-1)) (fun _ => []) (fun _ => []) := by
  refine Ci_of (lv := [(0, .ref (q 0)), (1, .int p0)]) (by decide) rfl rfl ?_
  intro p e s m below meth c A ls hx hb hml hr hown hta hlocks hnm hnw hP hD hK hS hA hl
  have hown : s.vm.findClass RX10 = some m.cls := hown
  refine lv_aload_n hx hb dX10_left_0 rfl (lv_at hl 0 rfl) ?_
  refine va_get (D := (dC, dI)) (ci := 9) (v := .int 0) (C := RX10) (T := TX10) (N := 15) hx hb hta inlX10 hown hK hP 0 rfl rfl 12 (by decide) (hta _ fl_X10_80) (fun _ h9 => h9) rfl dX10_left_1 ?_
  refine lv_if_eq (tgt := 25) hx hb dX10_left_4 (by decide) (fun _ => ?_) (fun c => absurd (by decide) c)
  refine lv_iconst (v := (-1)) hx hb dX10_left_25 (by decide) ?_
  refine W.widen (k := 0) (n := 0) (Nat.le_of_ble_eq_true rfl) (Nat.le_of_ble_eq_true rfl) ?_
  exact k_iret () hx hb hr hlocks rfl P_nil D_nil (hK.sub (tys' := []) [] rfl) hS rfl dX10_left_26
set_option maxHeartbeats 4000000 in
set_option maxRecDepth 100000 in
theorem x_rest (l : Launch) (dC : Nat → ClassId) (dI : Nat → Nat → Nat) (q : Nat → Nat) (k : Nat → ClassId) (sz : Nat) : Ci l (dC, dI) yX10_rest cX10_rest 1 (some .int) { frames := 0, cells := 0, slots := 0, locals := 0 } [.ref (q 0)] [] [zLF q k] sz 0 0 Unit (fun r _ => r = (-1)) (fun _ => []) (fun _ => []) := by
  refine Ci_of (lv := [(0, .ref (q 0))]) (by decide) rfl rfl ?_
  intro p e s m below meth c A ls hx hb hml hr hown hta hlocks hnm hnw hP hD hK hS hA hl
  have hown : s.vm.findClass RX10 = some m.cls := hown
  refine lv_aload_n hx hb dX10_rest_0 rfl (lv_at hl 0 rfl) ?_
  refine va_get (D := (dC, dI)) (ci := 9) (v := .int 0) (C := RX10) (T := TX10) (N := 15) hx hb hta inlX10 hown hK hP 0 rfl rfl 12 (by decide) (hta _ fl_X10_80) (fun _ h9 => h9) rfl dX10_rest_1 ?_
  refine lv_if_eq (tgt := 14) hx hb dX10_rest_4 (by decide) (fun _ => ?_) (fun c => absurd (by decide) c)
  refine lv_iconst (v := (-1)) hx hb dX10_rest_14 (by decide) ?_
  refine W.widen (k := 0) (n := 0) (Nat.le_of_ble_eq_true rfl) (Nat.le_of_ble_eq_true rfl) ?_
  exact k_iret () hx hb hr hlocks rfl P_nil D_nil (hK.sub (tys' := []) [] rfl) hS rfl dX10_rest_15
set_option maxHeartbeats 4000000 in
set_option maxRecDepth 100000 in
theorem x_tuning (l : Launch) (dC : Nat → ClassId) (dI : Nat → Nat → Nat) (q : Nat → Nat) (k : Nat → ClassId) (p0 : Int32) (p1 : Int32) (p2 : Int32) (sz : Nat) : Ci l (dC, dI) yX10_tuning cX10_tuning 4 (some .int) { frames := 1, cells := 0, slots := 0, locals := 21 } [.ref (q 0), .int p0, .int p1, .int p2] [] [zLF q k, zlu q k] sz 0 0 Unit (fun r _ => r = (-1)) (fun _ => []) (fun _ => []) := by
  refine Ci_of (lv := [(0, .ref (q 0)), (1, .int p0), (2, .int p1), (3, .int p2)]) (by decide) rfl rfl ?_
  intro p e s m below meth c A ls hx hb hml hr hown hta hlocks hnm hnw hP hD hK hS hA hl
  have hown : s.vm.findClass RX10 = some m.cls := hown
  refine lv_iload_n hx hb dX10_tuning_0 rfl (lv_at hl 1 rfl) ?_
  refine lv_iconst (v := 3) hx hb dX10_tuning_1 (by decide) ?_
  refine kSi (b := 0) (n := 2) (As := [.int p0, .int 3]) (rest := []) ⟨hx, hb, hml, hown, hta⟩ hnw (c_within l dC dI p0 3  s.heap.size) cd_X10_within iz_X10 ml_X10_90 st_X10_within (by decide +kernel) rfl (Nat.le_of_ble_eq_true rfl) (Nat.le_of_ble_eq_true rfl) rfl rfl (Nat.le_of_ble_eq_true rfl) (Nat.le_of_ble_eq_true rfl) hP hD hK hS hA [] [0, 1] [] rfl (wr := [zLF q k, zlu q k]) rfl (by decide) (by decide) (by decide) rfl hl.1 rfl (Nat.le_of_ble_eq_true rfl) dX10_tuning_2 (fun r3 u1 H locs hw2 hP hD hK hS => ?_)
  have hP : va_P (dC, dI) vwCl [zLF q k, zlu q k] H := hP
  have hD : va_D A [zLF q k, zlu q k] := hD
  have hK : va_K (dC, dI) vwCl [] s := hK
  obtain rfl : r3 = if inB p0 0 3 then 1 else 0 := hw2
  refine lv_if_eq (tgt := 19) hx hb dX10_tuning_5 (by decide) (fun c_4 => ?_) (fun c_4 => ?_)
  · have n_5 : (inB p0 0 3) = false := ite0 c_4
    refine lv_iconst (v := (-1)) hx hb dX10_tuning_19 (by decide) ?_
    refine W.widen (k := 0) (n := 0) (Nat.le_of_ble_eq_true rfl) (Nat.le_of_ble_eq_true rfl) ?_
    exact k_iret () hx hb hr hlocks rfl P_nil D_nil (hK.sub (tys' := []) [] rfl) hS rfl dX10_tuning_20
  · have n_6 : (inB p0 0 3) = true := ite1 c_4
    refine lv_aload_n hx hb dX10_tuning_8 rfl (lv_at hl 0 rfl) ?_
    refine va_get (D := (dC, dI)) (ci := 9) (v := .ref (q 1)) (C := RX10) (T := TX10) (N := 15) hx hb hta inlX10 hown hK hP 0 rfl rfl 0 (by decide) (hta _ fl_X10_10) (fun _ h9 => h9) rfl dX10_tuning_9 ?_
    refine lv_iload_n hx hb dX10_tuning_12 rfl (lv_at hl 2 rfl) ?_
    refine kVNi (b := (q 1)) (n := 1) (As := [.int p1]) (rest := []) ⟨hx, hb, hml, hown, hta⟩ hnw (c_hasCourse l dC dI q k p1  H.size) cd_X4_hasCourse iz_X4 nm_X10_107 im_X4_hasCourse se_X4_X4_hasCourse (by decide +kernel) rfl (Nat.le_of_ble_eq_true rfl) (Nat.le_of_ble_eq_true rfl) rfl rfl (Nat.le_of_ble_eq_true rfl) (Nat.le_of_ble_eq_true rfl) hP hD hK hS hA [1] [0] [] rfl (wr := [zLF q k]) rfl (by decide) (by decide) (by decide) rfl rfl 0 rfl hl.1 rfl (Nat.le_of_ble_eq_true rfl) dX10_tuning_13 (fun r9 u7 H locs hw8 hP hD hK hS => ?_)
    have hP : va_P (dC, dI) vwCl [zLF q k] H := hP
    have hD : va_D A [zLF q k] := hD
    have hK : va_K (dC, dI) vwCl [] s := hK
    obtain rfl : r9 = 0 := hw8
    refine lv_if_ne (tgt := 21) hx hb dX10_tuning_16 (by decide) (fun c => absurd c (by decide)) (fun _ => ?_)
    refine lv_iconst (v := (-1)) hx hb dX10_tuning_19 (by decide) ?_
    refine W.widen (k := 0) (n := 0) (Nat.le_of_ble_eq_true rfl) (Nat.le_of_ble_eq_true rfl) ?_
    exact k_iret () hx hb hr hlocks rfl P_nil D_nil (hK.sub (tys' := []) [] rfl) hS rfl dX10_tuning_20
set_option maxHeartbeats 4000000 in
set_option maxRecDepth 100000 in
theorem x_choose (l : Launch) (dC : Nat → ClassId) (dI : Nat → Nat → Nat) (q : Nat → Nat) (k : Nat → ClassId) (sz : Nat) : Ci l (dC, dI) yX10_choose cX10_choose 5 (some .int) { frames := 0, cells := 0, slots := 0, locals := 0 } [.ref (q 0)] [] [zLF q k, zpi q k] sz 0 0 Unit (fun r _ => r = (-3)) (fun _ => []) (fun _ => []) := by
  refine Ci_of (lv := [(0, .ref (q 0))]) (by decide) rfl rfl ?_
  intro p e s m below meth c A ls hx hb hml hr hown hta hlocks hnm hnw hP hD hK hS hA hl
  have hown : s.vm.findClass RX10 = some m.cls := hown
  refine lv_aload_n hx hb dX10_choose_0 rfl (lv_at hl 0 rfl) ?_
  refine va_get (D := (dC, dI)) (ci := 9) (v := .ref (q 2)) (C := RX10) (T := TX10) (N := 15) hx hb hta inlX10 hown hK hP 0 rfl rfl 1 (by decide) (hta _ fl_X10_19) (fun _ h9 => h9) rfl dX10_choose_1 ?_
  refine va_getN (D := (dC, dI)) (ci := 4) (v := .int 0) (C := RX5) (T := TX5) (N := 7) hx hb hta inlX5 hown hK hP 1 rfl rfl 0 (by decide) (hnw.f nf_X10_94) (fun _ h9 => h9) rfl dX10_choose_4 ?_
  refine lv_if_ne (tgt := 13) hx hb dX10_choose_7 (by decide) (fun c => absurd c (by decide)) (fun _ => ?_)
  refine lv_bipush (v := (-3)) hx hb dX10_choose_10 (by decide) ?_
  refine W.widen (k := 0) (n := 0) (Nat.le_of_ble_eq_true rfl) (Nat.le_of_ble_eq_true rfl) ?_
  exact k_iret () hx hb hr hlocks rfl P_nil D_nil (hK.sub (tys' := []) [] rfl) hS rfl dX10_choose_12
set_option maxHeartbeats 4000000 in
set_option maxRecDepth 100000 in
theorem x_feed (l : Launch) (dC : Nat → ClassId) (dI : Nat → Nat → Nat) (q : Nat → Nat) (k : Nat → ClassId) (p0 : Int32) (sz : Nat) : Ci l (dC, dI) yX10_feed cX10_feed 2 (some .int) { frames := 1, cells := 0, slots := 0, locals := 21 } [.ref (q 0), .int p0] [(k 30, .int)] [zLF q k, ztp q k, zby q k] sz 0 0 Unit (fun r _ => r = sp_feed p0) (fun _ => []) (fun _ => []) := by
  refine Ci_of (lv := [(0, .ref (q 0)), (1, .int p0)]) (by decide) rfl rfl ?_
  intro p e s m below meth c A ls hx hb hml hr hown hta hlocks hnm hnw hP hD hK hS hA hl
  have hown : s.vm.findClass RX10 = some m.cls := hown
  refine lv_iload_n hx hb dX10_feed_0 rfl (lv_at hl 1 rfl) ?_
  refine lv_sipush (v := 255) hx hb dX10_feed_1 (by decide) ?_
  refine kSi (b := 0) (n := 2) (As := [.int p0, .int 255]) (rest := []) ⟨hx, hb, hml, hown, hta⟩ hnw (c_within l dC dI p0 255  s.heap.size) cd_X10_within iz_X10 ml_X10_90 st_X10_within (by decide +kernel) rfl (Nat.le_of_ble_eq_true rfl) (Nat.le_of_ble_eq_true rfl) rfl rfl (Nat.le_of_ble_eq_true rfl) (Nat.le_of_ble_eq_true rfl) hP hD hK hS hA [] [0, 1, 2] [] rfl (wr := [zLF q k, ztp q k, zby q k]) rfl (by decide) (by decide) (by decide) rfl hl.1 rfl (Nat.le_of_ble_eq_true rfl) dX10_feed_4 (fun r3 u1 H locs hw2 hP hD hK hS => ?_)
  have hP : va_P (dC, dI) vwCl [zLF q k, ztp q k, zby q k] H := hP
  have hD : va_D A [zLF q k, ztp q k, zby q k] := hD
  have hK : va_K (dC, dI) vwCl [(k 30, .int)] s := hK
  obtain rfl : r3 = if inB p0 0 255 then 1 else 0 := hw2
  refine lv_if_ne (tgt := 13) hx hb dX10_feed_7 (by decide) (fun c_4 => ?_) (fun c_4 => ?_)
  · have n_5 : (inB p0 0 255) = true := ite1 c_4
    refine lv_aload_n hx hb dX10_feed_13 rfl (lv_at hl 0 rfl) ?_
    refine va_get (D := (dC, dI)) (ci := 9) (v := .ref (q 3)) (C := RX10) (T := TX10) (N := 15) hx hb hta inlX10 hown hK hP 0 rfl rfl 2 (by decide) (hta _ fl_X10_26) (fun _ h9 => h9) rfl dX10_feed_14 ?_
    refine va_getN (D := (dC, dI)) (ci := 5) (v := .int 0) (C := RX6) (T := TX6) (N := 2) hx hb hta inlX6 hown hK hP 1 rfl rfl 1 (by decide) (hnw.f nf_X10_283) (fun _ h9 => h9) rfl dX10_feed_17 ?_
    refine lv_sipush (v := 600) hx hb dX10_feed_20 (by decide) ?_
    refine lv_icmp_lt (tgt := 29) hx hb dX10_feed_23 (by decide) (fun _ => ?_) (fun c => absurd (by decide) c)
    refine lv_aload_n hx hb dX10_feed_29 rfl (lv_at hl 0 rfl) ?_
    refine va_get (D := (dC, dI)) (ci := 9) (v := .ref (q 3)) (C := RX10) (T := TX10) (N := 15) hx hb hta inlX10 hown hK hP 0 rfl rfl 2 (by decide) (hta _ fl_X10_26) (fun _ h9 => h9) rfl dX10_feed_30 ?_
    refine lv_iload_n hx hb dX10_feed_33 rfl (lv_at hl 1 rfl) ?_
    refine kVNv (b := (q 3)) (n := 1) (As := [.int p0]) (rest := []) ⟨hx, hb, hml, hown, hta⟩ hnw (c_append l dC dI q k p0  H.size) cd_X6_append iz_X6 nm_X10_286 im_X6_append se_X6_X6_append (by decide +kernel) rfl (Nat.le_of_ble_eq_true rfl) (Nat.le_of_ble_eq_true rfl) rfl rfl (Nat.le_of_ble_eq_true rfl) (Nat.le_of_ble_eq_true rfl) hP hD hK hS hA [1, 2] [0] [0] rfl (wr := [zLF q k]) rfl (by decide) (by decide) (by decide) rfl rfl 0 rfl hl.1 rfl (Nat.le_of_ble_eq_true rfl) dX10_feed_34 (fun u6 H locs hw7 hP hD hK hS => ?_)
    have hP : va_P (dC, dI) vwCl [zLF q k, (q 3, .inr (5, [.ref (q 30), .int 1]))] H := hP
    have hD : va_D A [zLF q k, (q 3, .inr (5, [.ref (q 30), .int 1]))] := hD
    have hK : va_K (dC, dI) vwCl [(k 30, .int)] s := hK
    refine lv_aload_n hx hb dX10_feed_37 rfl (lv_at hl 0 rfl) ?_
    refine va_get (D := (dC, dI)) (ci := 9) (v := .ref (q 3)) (C := RX10) (T := TX10) (N := 15) hx hb hta inlX10 hown hK hP 0 rfl rfl 2 (by decide) (hta _ fl_X10_26) (fun _ h9 => h9) rfl dX10_feed_38 ?_
    refine va_getN (D := (dC, dI)) (ci := 5) (v := .int 1) (C := RX6) (T := TX6) (N := 2) hx hb hta inlX6 hown hK hP 1 rfl rfl 1 (by decide) (hnw.f nf_X10_283) (fun _ h9 => h9) rfl dX10_feed_41 ?_
    refine W.widen (k := 0) (n := 0) (Nat.le_of_ble_eq_true rfl) (Nat.le_of_ble_eq_true rfl) ?_
    exact k_iret () hx hb hr hlocks rfl P_nil D_nil (hK.sub (tys' := []) [] rfl) hS (by first | rfl | (simp [sp_feed, n_5]; done) | (simp [sp_feed, c_4, n_5]; done)) dX10_feed_44
  · have n_9 : (inB p0 0 255) = false := ite0 c_4
    refine lv_bipush (v := (-2)) hx hb dX10_feed_10 (by decide) ?_
    refine W.widen (k := 0) (n := 0) (Nat.le_of_ble_eq_true rfl) (Nat.le_of_ble_eq_true rfl) ?_
    exact k_iret () hx hb hr hlocks rfl P_nil D_nil (hK.sub (tys' := []) [] rfl) hS (by first | rfl | (simp [sp_feed, n_9]; done) | (simp [sp_feed, c_4, n_9]; done)) dX10_feed_12
set_option maxHeartbeats 4000000 in
set_option maxRecDepth 100000 in
theorem x_wipe (l : Launch) (dC : Nat → ClassId) (dI : Nat → Nat → Nat) (q : Nat → Nat) (k : Nat → ClassId) (sz : Nat) : Ci l (dC, dI) yX10_wipe cX10_wipe 2 (some .int) { frames := 0, cells := 0, slots := 0, locals := 0 } [.ref (q 0)] [] [zLF q k, ztp q k] sz 0 0 Unit (fun r _ => r = 0) (fun _ => []) (fun _ => []) := by
  refine Ci_of (lv := [(0, .ref (q 0))]) (by decide) rfl rfl ?_
  intro p e s m below meth c A ls hx hb hml hr hown hta hlocks hnm hnw hP hD hK hS hA hl
  have hown : s.vm.findClass RX10 = some m.cls := hown
  refine lv_aload_n hx hb dX10_wipe_0 rfl (lv_at hl 0 rfl) ?_
  refine va_get (D := (dC, dI)) (ci := 9) (v := .ref (q 3)) (C := RX10) (T := TX10) (N := 15) hx hb hta inlX10 hown hK hP 0 rfl rfl 2 (by decide) (hta _ fl_X10_26) (fun _ h9 => h9) rfl dX10_wipe_1 ?_
  refine va_getN (D := (dC, dI)) (ci := 5) (v := .int 0) (C := RX6) (T := TX6) (N := 2) hx hb hta inlX6 hown hK hP 1 rfl rfl 1 (by decide) (hnw.f nf_X10_283) (fun _ h9 => h9) rfl dX10_wipe_4 ?_
  refine lv_istore_n (lv' := [(1, .int 0), (0, .ref (q 0))]) hx hb dX10_wipe_7 rfl hl (by decide) rfl (fun ls hl => ?_)
  refine lv_aload_n hx hb dX10_wipe_8 rfl (lv_at hl 1 rfl) ?_
  refine va_get (D := (dC, dI)) (ci := 9) (v := .ref (q 3)) (C := RX10) (T := TX10) (N := 15) hx hb hta inlX10 hown hK hP 0 rfl rfl 2 (by decide) (hta _ fl_X10_26) (fun _ h9 => h9) rfl dX10_wipe_9 ?_
  refine lv_iconst (v := 0) hx hb dX10_wipe_12 (by decide) ?_
  refine va_putN (D := (dC, dI)) (ci := 5) (v := .int 0) (ty := .int) (C := RX6) (T := TX6) (N := 2) hx hb hta inlX6 tyX6 tyX6_ok nmX6 hown hK hP hD hS 1 rfl rfl 1 (by decide) (hnw.f nf_X10_283) (fun _ h9 => h9) rfl (by decide +kernel) rfl rfl (Nat.le_of_ble_eq_true rfl) dX10_wipe_13 (fun H locs hP hD hS => ?_)
  have hP : va_P (dC, dI) vwCl [zLF q k, (q 3, .inr (5, [.ref (q 30), .int 0]))] H := hP
  have hD : va_D A [zLF q k, (q 3, .inr (5, [.ref (q 30), .int 0]))] := hD
  refine lv_iload_n hx hb dX10_wipe_16 rfl (lv_at hl 0 rfl) ?_
  refine W.widen (k := 0) (n := 0) (Nat.le_of_ble_eq_true rfl) (Nat.le_of_ble_eq_true rfl) ?_
  exact k_iret () hx hb hr hlocks rfl P_nil D_nil (hK.sub (tys' := []) [] rfl) hS rfl dX10_wipe_17
set_option maxHeartbeats 4000000 in
set_option maxRecDepth 100000 in
theorem x_tape (l : Launch) (dC : Nat → ClassId) (dI : Nat → Nat → Nat) (q : Nat → Nat) (k : Nat → ClassId) (p0 : Int32) (sz : Nat) : Ci l (dC, dI) yX10_tape cX10_tape 2 (some .int) { frames := 0, cells := 0, slots := 0, locals := 0 } [.ref (q 0), .int p0] [] [zLF q k, ztp q k] sz 0 0 Unit (fun r _ => r = (-1)) (fun _ => []) (fun _ => []) := by
  refine Ci_of (lv := [(0, .ref (q 0)), (1, .int p0)]) (by decide) rfl rfl ?_
  intro p e s m below meth c A ls hx hb hml hr hown hta hlocks hnm hnw hP hD hK hS hA hl
  have hown : s.vm.findClass RX10 = some m.cls := hown
  refine lv_iload_n hx hb dX10_tape_0 rfl (lv_at hl 1 rfl) ?_
  refine lv_if_lt (tgt := 27) hx hb dX10_tape_1 (by decide) (fun c_1 => ?_) (fun c_1 => ?_)
  · refine lv_iconst (v := (-1)) hx hb dX10_tape_27 (by decide) ?_
    refine W.widen (k := 0) (n := 0) (Nat.le_of_ble_eq_true rfl) (Nat.le_of_ble_eq_true rfl) ?_
    exact k_iret () hx hb hr hlocks rfl P_nil D_nil (hK.sub (tys' := []) [] rfl) hS rfl dX10_tape_28
  · refine lv_iload_n hx hb dX10_tape_4 rfl (lv_at hl 1 rfl) ?_
    refine lv_aload_n hx hb dX10_tape_5 rfl (lv_at hl 0 rfl) ?_
    refine va_get (D := (dC, dI)) (ci := 9) (v := .ref (q 3)) (C := RX10) (T := TX10) (N := 15) hx hb hta inlX10 hown hK hP 0 rfl rfl 2 (by decide) (hta _ fl_X10_26) (fun _ h9 => h9) rfl dX10_tape_6 ?_
    refine va_getN (D := (dC, dI)) (ci := 5) (v := .int 0) (C := RX6) (T := TX6) (N := 2) hx hb hta inlX6 hown hK hP 1 rfl rfl 1 (by decide) (hnw.f nf_X10_283) (fun _ h9 => h9) rfl dX10_tape_9 ?_
    refine lv_icmp_ge (tgt := 27) hx hb dX10_tape_12 (by decide) (fun c_2 => ?_) (fun c => absurd (Int32.not_lt.mp c_1) c)
    refine lv_iconst (v := (-1)) hx hb dX10_tape_27 (by decide) ?_
    refine W.widen (k := 0) (n := 0) (Nat.le_of_ble_eq_true rfl) (Nat.le_of_ble_eq_true rfl) ?_
    exact k_iret () hx hb hr hlocks rfl P_nil D_nil (hK.sub (tys' := []) [] rfl) hS rfl dX10_tape_28
set_option maxHeartbeats 4000000 in
set_option maxRecDepth 100000 in
theorem x_write (l : Launch) (dC : Nat → ClassId) (dI : Nat → Nat → Nat) (q : Nat → Nat) (k : Nat → ClassId) (sz : Nat) : Ci l (dC, dI) yX10_write cX10_write 2 (some .int) { frames := 1, cells := 0, slots := 0, locals := 20 } [.ref (q 0)] [] [zLF q k, zwl q k] sz 0 0 Unit (fun r _ => r = (-3)) (fun _ => []) (fun _ => []) := by
  refine Ci_of (lv := [(0, .ref (q 0))]) (by decide) rfl rfl ?_
  intro p e s m below meth c A ls hx hb hml hr hown hta hlocks hnm hnw hP hD hK hS hA hl
  have hown : s.vm.findClass RX10 = some m.cls := hown
  refine lv_aload_n hx hb dX10_write_0 rfl (lv_at hl 0 rfl) ?_
  refine va_get (D := (dC, dI)) (ci := 9) (v := .ref (q 8)) (C := RX10) (T := TX10) (N := 15) hx hb hta inlX10 hown hK hP 0 rfl rfl 7 (by decide) (hta _ fl_X10_61) (fun _ h9 => h9) rfl dX10_write_1 ?_
  refine kVNi (b := (q 8)) (n := 0) (As := []) (rest := []) ⟨hx, hb, hml, hown, hta⟩ hnw (c_atHand l dC dI q k  s.heap.size) cd_X8_atHand iz_X8 nm_X10_214 im_X8_atHand se_X8_X8_atHand (by decide +kernel) rfl (Nat.le_of_ble_eq_true rfl) (Nat.le_of_ble_eq_true rfl) rfl rfl (Nat.le_of_ble_eq_true rfl) (Nat.le_of_ble_eq_true rfl) hP hD hK hS hA [1] [0] [] rfl (wr := [zLF q k]) rfl (by decide) (by decide) (by decide) rfl rfl 0 rfl hl.1 rfl (Nat.le_of_ble_eq_true rfl) dX10_write_4 (fun r3 u1 H locs hw2 hP hD hK hS => ?_)
  have hP : va_P (dC, dI) vwCl [zLF q k] H := hP
  have hD : va_D A [zLF q k] := hD
  have hK : va_K (dC, dI) vwCl [] s := hK
  obtain rfl : r3 = 0 := hw2
  refine lv_if_ne (tgt := 13) hx hb dX10_write_7 (by decide) (fun c => absurd c (by decide)) (fun _ => ?_)
  refine lv_bipush (v := (-3)) hx hb dX10_write_10 (by decide) ?_
  refine W.widen (k := 0) (n := 0) (Nat.le_of_ble_eq_true rfl) (Nat.le_of_ble_eq_true rfl) ?_
  exact k_iret () hx hb hr hlocks rfl P_nil D_nil (hK.sub (tys' := []) [] rfl) hS rfl dX10_write_12
set_option maxHeartbeats 4000000 in
set_option maxRecDepth 100000 in
theorem x_read (l : Launch) (dC : Nat → ClassId) (dI : Nat → Nat → Nat) (q : Nat → Nat) (k : Nat → ClassId) (sz : Nat) : Ci l (dC, dI) yX10_read cX10_read 2 (some .int) { frames := 0, cells := 0, slots := 0, locals := 0 } [.ref (q 0)] [] [zLF q k, zlu q k] sz 0 0 Unit (fun r _ => r = (-3)) (fun _ => []) (fun _ => []) := by
  refine Ci_of (lv := [(0, .ref (q 0))]) (by decide) rfl rfl ?_
  intro p e s m below meth c A ls hx hb hml hr hown hta hlocks hnm hnw hP hD hK hS hA hl
  have hown : s.vm.findClass RX10 = some m.cls := hown
  refine lv_aload_n hx hb dX10_read_0 rfl (lv_at hl 0 rfl) ?_
  refine va_get (D := (dC, dI)) (ci := 9) (v := .ref (q 1)) (C := RX10) (T := TX10) (N := 15) hx hb hta inlX10 hown hK hP 0 rfl rfl 0 (by decide) (hta _ fl_X10_10) (fun _ h9 => h9) rfl dX10_read_1 ?_
  refine va_getN (D := (dC, dI)) (ci := 3) (v := .int 0) (C := RX4) (T := TX4) (N := 7) hx hb hta inlX4 hown hK hP 1 rfl rfl 0 (by decide) (hnw.f nf_X10_97) (fun _ h9 => h9) rfl dX10_read_4 ?_
  refine lv_if_ne (tgt := 13) hx hb dX10_read_7 (by decide) (fun c => absurd c (by decide)) (fun _ => ?_)
  refine lv_bipush (v := (-3)) hx hb dX10_read_10 (by decide) ?_
  refine W.widen (k := 0) (n := 0) (Nat.le_of_ble_eq_true rfl) (Nat.le_of_ble_eq_true rfl) ?_
  exact k_iret () hx hb hr hlocks rfl P_nil D_nil (hK.sub (tys' := []) [] rfl) hS rfl dX10_read_12
set_option maxHeartbeats 4000000 in
set_option maxRecDepth 100000 in
theorem x_count (l : Launch) (dC : Nat → ClassId) (dI : Nat → Nat → Nat) (q : Nat → Nat) (k : Nat → ClassId) (p0 : Int32) (sz : Nat) : Ci l (dC, dI) yX10_count cX10_count 2 (some .int) { frames := 1, cells := 0, slots := 0, locals := 22 } [.ref (q 0), .int p0] [(k 20, .int)] [zLF q k, zlu q k, zpi q k, zsz q k, zwl q k] sz 0 0 Unit (fun r _ => r = sp_count p0) (fun _ => []) (fun _ => []) := by
  refine Ci_of (lv := [(0, .ref (q 0)), (1, .int p0)]) (by decide) rfl rfl ?_
  intro p e s m below meth c A ls hx hb hml hr hown hta hlocks hnm hnw hP hD hK hS hA hl
  have hown : s.vm.findClass RX10 = some m.cls := hown
  refine lv_iload_n hx hb dX10_count_0 rfl (lv_at hl 1 rfl) ?_
  rcases cnt_cases p0 with rfl | rfl | rfl | rfl | rfl | rfl | hc1
  · refine lv_tableIn (tgt := 40) hx hb dX10_count_1 (by decide) (by decide) rfl (by decide) ?_
    refine lv_aload_n hx hb dX10_count_40 rfl (lv_at hl 0 rfl) ?_
    refine va_get (D := (dC, dI)) (ci := 9) (v := .ref (q 1)) (C := RX10) (T := TX10) (N := 15) hx hb hta inlX10 hown hK hP 0 rfl rfl 0 (by decide) (hta _ fl_X10_10) (fun _ h9 => h9) rfl dX10_count_41 ?_
    refine va_getN (D := (dC, dI)) (ci := 3) (v := .int 0) (C := RX4) (T := TX4) (N := 7) hx hb hta inlX4 hown hK hP 1 rfl rfl 0 (by decide) (hnw.f nf_X10_97) (fun _ h9 => h9) rfl dX10_count_44 ?_
    refine W.widen (k := 0) (n := 0) (Nat.le_of_ble_eq_true rfl) (Nat.le_of_ble_eq_true rfl) ?_
    exact k_iret () hx hb hr hlocks rfl P_nil D_nil (hK.sub (tys' := []) [] rfl) hS (by decide) dX10_count_47
  · refine lv_tableIn (tgt := 48) hx hb dX10_count_1 (by decide) (by decide) rfl (by decide) ?_
    refine lv_aload_n hx hb dX10_count_48 rfl (lv_at hl 0 rfl) ?_
    refine va_get (D := (dC, dI)) (ci := 9) (v := .ref (q 2)) (C := RX10) (T := TX10) (N := 15) hx hb hta inlX10 hown hK hP 0 rfl rfl 1 (by decide) (hta _ fl_X10_19) (fun _ h9 => h9) rfl dX10_count_49 ?_
    refine va_getN (D := (dC, dI)) (ci := 4) (v := .int 0) (C := RX5) (T := TX5) (N := 7) hx hb hta inlX5 hown hK hP 2 rfl rfl 0 (by decide) (hnw.f nf_X10_94) (fun _ h9 => h9) rfl dX10_count_52 ?_
    refine W.widen (k := 0) (n := 0) (Nat.le_of_ble_eq_true rfl) (Nat.le_of_ble_eq_true rfl) ?_
    exact k_iret () hx hb hr hlocks rfl P_nil D_nil (hK.sub (tys' := []) [] rfl) hS (by decide) dX10_count_55
  · refine lv_tableIn (tgt := 56) hx hb dX10_count_1 (by decide) (by decide) rfl (by decide) ?_
    refine lv_aload_n hx hb dX10_count_56 rfl (lv_at hl 0 rfl) ?_
    refine va_get (D := (dC, dI)) (ci := 9) (v := .ref (q 2)) (C := RX10) (T := TX10) (N := 15) hx hb hta inlX10 hown hK hP 0 rfl rfl 1 (by decide) (hta _ fl_X10_19) (fun _ h9 => h9) rfl dX10_count_57 ?_
    refine kVNi (b := (q 2)) (n := 0) (As := []) (rest := []) ⟨hx, hb, hml, hown, hta⟩ hnw (c_notesOfTicks l dC dI q k  s.heap.size) cd_X5_notesOfTicks iz_X5 nm_X10_308 im_X5_notesOfTicks se_X5_X5_notesOfTicks (by decide +kernel) rfl (Nat.le_of_ble_eq_true rfl) (Nat.le_of_ble_eq_true rfl) rfl rfl (Nat.le_of_ble_eq_true rfl) (Nat.le_of_ble_eq_true rfl) hP hD hK hS hA [2] [0, 1, 3, 4] [] rfl (wr := [zLF q k, zlu q k, zsz q k, zwl q k]) rfl (by decide) (by decide) (by decide) rfl rfl 0 rfl hl.1 rfl (Nat.le_of_ble_eq_true rfl) dX10_count_60 (fun r4 u2 H locs hw3 hP hD hK hS => ?_)
    have hP : va_P (dC, dI) vwCl [zLF q k, zlu q k, zsz q k, zwl q k] H := hP
    have hD : va_D A [zLF q k, zlu q k, zsz q k, zwl q k] := hD
    have hK : va_K (dC, dI) vwCl [(k 20, .int)] s := hK
    obtain rfl : r4 = 0 := hw3
    refine W.widen (k := 0) (n := 0) (Nat.le_of_ble_eq_true rfl) (Nat.le_of_ble_eq_true rfl) ?_
    exact k_iret () hx hb hr hlocks rfl P_nil D_nil (hK.sub (tys' := []) [] rfl) hS (by decide) dX10_count_63
  · refine lv_tableIn (tgt := 64) hx hb dX10_count_1 (by decide) (by decide) rfl (by decide) ?_
    refine lv_aload_n hx hb dX10_count_64 rfl (lv_at hl 0 rfl) ?_
    refine va_get (D := (dC, dI)) (ci := 9) (v := .ref (q 2)) (C := RX10) (T := TX10) (N := 15) hx hb hta inlX10 hown hK hP 0 rfl rfl 1 (by decide) (hta _ fl_X10_19) (fun _ h9 => h9) rfl dX10_count_65 ?_
    refine va_getN (D := (dC, dI)) (ci := 4) (v := .ref (q 20)) (C := RX5) (T := TX5) (N := 7) hx hb hta inlX5 hown hK hP 2 rfl rfl 1 (by decide) (hnw.f nf_X10_136) (fun _ h9 => h9) rfl dX10_count_68 ?_
    refine lv_aload_n hx hb dX10_count_71 rfl (lv_at hl 0 rfl) ?_
    refine va_get (D := (dC, dI)) (ci := 9) (v := .ref (q 2)) (C := RX10) (T := TX10) (N := 15) hx hb hta inlX10 hown hK hP 0 rfl rfl 1 (by decide) (hta _ fl_X10_19) (fun _ h9 => h9) rfl dX10_count_72 ?_
    refine va_getN (D := (dC, dI)) (ci := 4) (v := .int 0) (C := RX5) (T := TX5) (N := 7) hx hb hta inlX5 hown hK hP 2 rfl rfl 0 (by decide) (hnw.f nf_X10_94) (fun _ h9 => h9) rfl dX10_count_75 ?_
    refine va_iald hx hb hK hP 3 0 rfl rfl (vin (by decide)) dX10_count_78 ?_
    refine k_top (y := 0) rfl ?_
    refine W.widen (k := 0) (n := 0) (Nat.le_of_ble_eq_true rfl) (Nat.le_of_ble_eq_true rfl) ?_
    exact k_iret () hx hb hr hlocks rfl P_nil D_nil (hK.sub (tys' := []) [] rfl) hS (by decide) dX10_count_79
  · refine lv_tableIn (tgt := 80) hx hb dX10_count_1 (by decide) (by decide) rfl (by decide) ?_
    refine lv_aload_n hx hb dX10_count_80 rfl (lv_at hl 0 rfl) ?_
    refine va_get (D := (dC, dI)) (ci := 9) (v := .ref (q 8)) (C := RX10) (T := TX10) (N := 15) hx hb hta inlX10 hown hK hP 0 rfl rfl 7 (by decide) (hta _ fl_X10_61) (fun _ h9 => h9) rfl dX10_count_81 ?_
    refine kVNi (b := (q 8)) (n := 0) (As := []) (rest := []) ⟨hx, hb, hml, hown, hta⟩ hnw (c_atHand l dC dI q k  s.heap.size) cd_X8_atHand iz_X8 nm_X10_214 im_X8_atHand se_X8_X8_atHand (by decide +kernel) rfl (Nat.le_of_ble_eq_true rfl) (Nat.le_of_ble_eq_true rfl) rfl rfl (Nat.le_of_ble_eq_true rfl) (Nat.le_of_ble_eq_true rfl) hP hD hK hS hA [4] [0, 1, 2, 3] [] rfl (wr := [zLF q k, zlu q k, zpi q k, zsz q k]) rfl (by decide) (by decide) (by decide) rfl rfl 0 rfl hl.1 rfl (Nat.le_of_ble_eq_true rfl) dX10_count_84 (fun r7 u5 H locs hw6 hP hD hK hS => ?_)
    have hP : va_P (dC, dI) vwCl [zLF q k, zlu q k, zpi q k, zsz q k] H := hP
    have hD : va_D A [zLF q k, zlu q k, zpi q k, zsz q k] := hD
    have hK : va_K (dC, dI) vwCl [(k 20, .int)] s := hK
    obtain rfl : r7 = 0 := hw6
    refine lv_if_eq (tgt := 94) hx hb dX10_count_87 (by decide) (fun _ => ?_) (fun c => absurd (by decide) c)
    refine lv_iconst (v := 0) hx hb dX10_count_94 (by decide) ?_
    refine W.widen (k := 0) (n := 0) (Nat.le_of_ble_eq_true rfl) (Nat.le_of_ble_eq_true rfl) ?_
    exact k_iret () hx hb hr hlocks rfl P_nil D_nil (hK.sub (tys' := []) [] rfl) hS (by decide) dX10_count_95
  · refine lv_tableIn (tgt := 96) hx hb dX10_count_1 (by decide) (by decide) rfl (by decide) ?_
    refine lv_aload_n hx hb dX10_count_96 rfl (lv_at hl 0 rfl) ?_
    refine va_get (D := (dC, dI)) (ci := 9) (v := .ref (q 8)) (C := RX10) (T := TX10) (N := 15) hx hb hta inlX10 hown hK hP 0 rfl rfl 7 (by decide) (hta _ fl_X10_61) (fun _ h9 => h9) rfl dX10_count_97 ?_
    refine va_getN (D := (dC, dI)) (ci := 7) (v := .int (-1)) (C := RX8) (T := TX8) (N := 5) hx hb hta inlX8 hown hK hP 4 rfl rfl 3 (by decide) (hnw.f nf_X10_228) (fun _ h9 => h9) rfl dX10_count_100 ?_
    refine W.widen (k := 0) (n := 0) (Nat.le_of_ble_eq_true rfl) (Nat.le_of_ble_eq_true rfl) ?_
    exact k_iret () hx hb hr hlocks rfl P_nil D_nil (hK.sub (tys' := []) [] rfl) hS (by decide) dX10_count_103
  · refine lv_tableOut (tgt := 104) hx hb dX10_count_1 hc1 (by decide) ?_
    refine lv_iconst (v := (-1)) hx hb dX10_count_104 (by decide) ?_
    refine W.widen (k := 0) (n := 0) (Nat.le_of_ble_eq_true rfl) (Nat.le_of_ble_eq_true rfl) ?_
    exact k_iret () hx hb hr hlocks rfl P_nil D_nil (hK.sub (tys' := []) [] rfl) hS ((sp_count_out hc1).symm) dX10_count_105
end
section
set_option maxHeartbeats 4000000 in
set_option maxRecDepth 100000 in
theorem y_course (l : Launch) (dC : Nat → ClassId) (dI : Nat → Nat → Nat) (g : Nat → Nat) (h : Nat → ClassId) (p0 : Int32) (p1 : Int32) (sz : Nat) : Ci l (dC, dI) yX11_course cX11_course 4 (some .int) { frames := 1, cells := 0, slots := 0, locals := 23 } [.ref (g 47), .int p0, .int p1] [(h 2, .int), (h 3, .int), (h 6, .int)] [zM g h, zMtune g h, zMfrets g h, zMtuning g h] sz 0 0 Unit (fun r _ => r = sp_course p0 p1) (fun _ => []) (fun _ => []) := by
  refine Ci_of (lv := [(0, .ref (g 47)), (1, .int p0), (2, .int p1)]) (by decide) rfl rfl ?_
  intro p e s m below meth c A ls hx hb hml hr hown hta hlocks hnm hnw hP hD hK hS hA hl
  have hown : s.vm.findClass RX11 = some m.cls := hown
  refine lv_aload_n hx hb dX11_course_0 rfl (lv_at hl 0 rfl) ?_
  refine lv_iload_n hx hb dX11_course_1 rfl (lv_at hl 1 rfl) ?_
  refine lv_iconst (v := 0) hx hb dX11_course_2 (by decide) ?_
  refine lv_bipush (v := 99) hx hb dX11_course_3 (by decide) ?_
  refine kVi (b := (g 47)) (n := 3) (As := [.int p0, .int 0, .int 99]) (rest := []) ⟨hx, hb, hml, hown, hta⟩ hnw (m_in l dC dI g h p0 0 99  s.heap.size) cd_X11_in iz_X11 ml_X11_156 im_X11_in se_X11_X11_in (by decide +kernel) rfl (Nat.le_of_ble_eq_true rfl) (Nat.le_of_ble_eq_true rfl) rfl rfl (Nat.le_of_ble_eq_true rfl) (Nat.le_of_ble_eq_true rfl) hP hD hK hS hA [0] [1, 2, 3] [] rfl (wr := [zMtune g h, zMfrets g h, zMtuning g h]) rfl (by decide) (by decide) (by decide) rfl rfl 0 rfl hl.1 rfl (Nat.le_of_ble_eq_true rfl) dX11_course_5 (fun r3 u1 H locs hw2 hP hD hK hS => ?_)
  have hP : va_P (dC, dI) vwCl [zMtune g h, zMfrets g h, zMtuning g h, zM g h] H := hP
  have hD : va_D A [zMtune g h, zMfrets g h, zMtuning g h, zM g h] := hD
  have hK : va_K (dC, dI) vwCl [(h 2, .int), (h 3, .int), (h 6, .int)] s := hK
  obtain rfl : r3 = if inB p0 0 99 then 1 else 0 := hw2
  refine lv_if_eq (tgt := 22) hx hb dX11_course_8 (by decide) (fun c_4 => ?_) (fun c_4 => ?_)
  · have n_5 : (inB p0 0 99) = false := ite0 c_4
    refine lv_bipush (v := (-2)) hx hb dX11_course_22 (by decide) ?_
    refine W.widen (k := 0) (n := 0) (Nat.le_of_ble_eq_true rfl) (Nat.le_of_ble_eq_true rfl) ?_
    exact k_iret () hx hb hr hlocks rfl P_nil D_nil (hK.sub (tys' := []) [] rfl) hS (by first | rfl | (simp [sp_course, n_5]; done) | (simp [sp_course, c_4, n_5]; done)) dX11_course_24
  · have n_6 : (inB p0 0 99) = true := ite1 c_4
    refine lv_aload_n hx hb dX11_course_11 rfl (lv_at hl 0 rfl) ?_
    refine lv_iload_n hx hb dX11_course_12 rfl (lv_at hl 2 rfl) ?_
    refine lv_iconst (v := 0) hx hb dX11_course_13 (by decide) ?_
    refine lv_bipush (v := 12) hx hb dX11_course_14 (by decide) ?_
    refine kVi (b := (g 47)) (n := 3) (As := [.int p1, .int 0, .int 12]) (rest := []) ⟨hx, hb, hml, hown, hta⟩ hnw (m_in l dC dI g h p1 0 12  H.size) cd_X11_in iz_X11 ml_X11_156 im_X11_in se_X11_X11_in (by decide +kernel) rfl (Nat.le_of_ble_eq_true rfl) (Nat.le_of_ble_eq_true rfl) rfl rfl (Nat.le_of_ble_eq_true rfl) (Nat.le_of_ble_eq_true rfl) hP hD hK hS hA [3] [0, 1, 2] [] rfl (wr := [zMtune g h, zMfrets g h, zMtuning g h]) rfl (by decide) (by decide) (by decide) rfl rfl 0 rfl hl.1 rfl (Nat.le_of_ble_eq_true rfl) dX11_course_16 (fun r9 u7 H locs hw8 hP hD hK hS => ?_)
    have hP : va_P (dC, dI) vwCl [zMtune g h, zMfrets g h, zMtuning g h, zM g h] H := hP
    have hD : va_D A [zMtune g h, zMfrets g h, zMtuning g h, zM g h] := hD
    have hK : va_K (dC, dI) vwCl [(h 2, .int), (h 3, .int), (h 6, .int)] s := hK
    obtain rfl : r9 = if inB p1 0 12 then 1 else 0 := hw8
    refine lv_if_ne (tgt := 25) hx hb dX11_course_19 (by decide) (fun c_10 => ?_) (fun c_10 => ?_)
    · have n_11 : (inB p1 0 12) = true := ite1 c_10
      refine lv_aload_n hx hb dX11_course_25 rfl (lv_at hl 0 rfl) ?_
      refine va_get (D := (dC, dI)) (ci := 10) (v := .int 0) (C := RX11) (T := TX11) (N := 47) hx hb hta inlX11 hown hK hP 3 rfl rfl 7 (by decide) (hta _ fl_X11_32) (fun _ h9 => h9) rfl dX11_course_26 ?_
      refine lv_if_le (tgt := 35) hx hb dX11_course_29 (by decide) (fun _ => ?_) (fun c => absurd (by decide) c)
      refine lv_aload_n hx hb dX11_course_35 rfl (lv_at hl 0 rfl) ?_
      refine va_get (D := (dC, dI)) (ci := 10) (v := .int 0) (C := RX11) (T := TX11) (N := 47) hx hb hta inlX11 hown hK hP 3 rfl rfl 0 (by decide) (hta _ fl_X11_7) (fun _ h9 => h9) rfl dX11_course_36 ?_
      refine lv_bipush (v := 6) hx hb dX11_course_39 (by decide) ?_
      refine lv_icmp_ne (tgt := 47) hx hb dX11_course_41 (by decide) (fun _ => ?_) (fun c => absurd c (by decide))
      refine lv_aload_n hx hb dX11_course_47 rfl (lv_at hl 0 rfl) ?_
      refine va_get (D := (dC, dI)) (ci := 10) (v := .ref (g 2)) (C := RX11) (T := TX11) (N := 47) hx hb hta inlX11 hown hK hP 3 rfl rfl 2 (by decide) (hta _ fl_X11_16) (fun _ h9 => h9) rfl dX11_course_48 ?_
      refine lv_aload_n hx hb dX11_course_51 rfl (lv_at hl 0 rfl) ?_
      refine va_get (D := (dC, dI)) (ci := 10) (v := .int 0) (C := RX11) (T := TX11) (N := 47) hx hb hta inlX11 hown hK hP 3 rfl rfl 0 (by decide) (hta _ fl_X11_7) (fun _ h9 => h9) rfl dX11_course_52 ?_
      refine lv_iload_n hx hb dX11_course_55 rfl (lv_at hl 1 rfl) ?_
      refine va_iast hx hb hK hP hD hS 0 0 rfl rfl (vin (by decide)) dX11_course_56 (fun H locs hP hD hS => ?_)
      have hP : va_P (dC, dI) vwCl [(g 2, .inl (h 2, 6, .inl (upd (fun _ => 0) 0 p0))), zMfrets g h, zMtuning g h, zM g h] H := hP
      have hD : va_D A [(g 2, .inl (h 2, 6, .inl (upd (fun _ => 0) 0 p0))), zMfrets g h, zMtuning g h, zM g h] := hD
      refine lv_aload_n hx hb dX11_course_57 rfl (lv_at hl 0 rfl) ?_
      refine va_get (D := (dC, dI)) (ci := 10) (v := .ref (g 3)) (C := RX11) (T := TX11) (N := 47) hx hb hta inlX11 hown hK hP 3 rfl rfl 3 (by decide) (hta _ fl_X11_20) (fun _ h9 => h9) rfl dX11_course_58 ?_
      refine lv_aload_n hx hb dX11_course_61 rfl (lv_at hl 0 rfl) ?_
      refine va_get (D := (dC, dI)) (ci := 10) (v := .int 0) (C := RX11) (T := TX11) (N := 47) hx hb hta inlX11 hown hK hP 3 rfl rfl 0 (by decide) (hta _ fl_X11_7) (fun _ h9 => h9) rfl dX11_course_62 ?_
      refine lv_iload_n hx hb dX11_course_65 rfl (lv_at hl 2 rfl) ?_
      refine va_iast hx hb hK hP hD hS 1 1 rfl rfl (vin (by decide)) dX11_course_66 (fun H locs hP hD hS => ?_)
      have hP : va_P (dC, dI) vwCl [(g 2, .inl (h 2, 6, .inl (upd (fun _ => 0) 0 p0))), (g 3, .inl (h 3, 6, .inl (upd (fun _ => 0) 0 p1))), zMtuning g h, zM g h] H := hP
      have hD : va_D A [(g 2, .inl (h 2, 6, .inl (upd (fun _ => 0) 0 p0))), (g 3, .inl (h 3, 6, .inl (upd (fun _ => 0) 0 p1))), zMtuning g h, zM g h] := hD
      refine lv_iconst (v := 0) hx hb dX11_course_67 (by decide) ?_
      refine lv_istore_n (lv' := [(3, .int 0), (0, .ref (g 47)), (1, .int p0), (2, .int p1)]) hx hb dX11_course_68 rfl hl (by decide) rfl (fun ls hl => ?_)
      refine lv_iload_n hx hb dX11_course_69 rfl (lv_at hl 0 rfl) ?_
      refine lv_iconst (v := 4) hx hb dX11_course_70 (by decide) ?_
      refine lv_icmp_ge (tgt := 95) hx hb dX11_course_71 (by decide) (fun c => absurd c (by decide)) (fun _ => ?_)
      refine lv_aload_n hx hb dX11_course_74 rfl (lv_at hl 1 rfl) ?_
      refine va_get (D := (dC, dI)) (ci := 10) (v := .ref (g 6)) (C := RX11) (T := TX11) (N := 47) hx hb hta inlX11 hown hK hP 3 rfl rfl 6 (by decide) (hta _ fl_X11_29) (fun _ h9 => h9) rfl dX11_course_75 ?_
      refine lv_bipush (v := 6) hx hb dX11_course_78 (by decide) ?_
      refine lv_iload_n hx hb dX11_course_80 rfl (lv_at hl 0 rfl) ?_
      refine lv_imul hx hb dX11_course_81 ?_
      refine k_top (y := 0) (by decide) ?_
      refine lv_aload_n hx hb dX11_course_82 rfl (lv_at hl 1 rfl) ?_
      refine va_get (D := (dC, dI)) (ci := 10) (v := .int 0) (C := RX11) (T := TX11) (N := 47) hx hb hta inlX11 hown hK hP 3 rfl rfl 0 (by decide) (hta _ fl_X11_7) (fun _ h9 => h9) rfl dX11_course_83 ?_
      refine lv_iadd hx hb dX11_course_86 ?_
      refine k_top (y := 0) (by decide) ?_
      refine lv_iload_n hx hb dX11_course_87 rfl (lv_at hl 2 rfl) ?_
      refine va_iast hx hb hK hP hD hS 2 2 rfl rfl (vin (by decide)) dX11_course_88 (fun H locs hP hD hS => ?_)
      have hP : va_P (dC, dI) vwCl [(g 2, .inl (h 2, 6, .inl (upd (fun _ => 0) 0 p0))), (g 3, .inl (h 3, 6, .inl (upd (fun _ => 0) 0 p1))), (g 6, .inl (h 6, 24, .inl (upd (fun _ => 0) 0 p0))), zM g h] H := hP
      have hD : va_D A [(g 2, .inl (h 2, 6, .inl (upd (fun _ => 0) 0 p0))), (g 3, .inl (h 3, 6, .inl (upd (fun _ => 0) 0 p1))), (g 6, .inl (h 6, 24, .inl (upd (fun _ => 0) 0 p0))), zM g h] := hD
      refine lv_iinc (v := 1) (lv' := [(3, .int 1), (0, .ref (g 47)), (1, .int p0), (2, .int p1)]) hx hb dX11_course_89 hl (k := 0) rfl (by decide) (by decide) rfl (fun ls hl => ?_)
      refine lv_goto (tgt := 69) hx hb dX11_course_92 (by decide) ?_
      refine lv_iload_n hx hb dX11_course_69 rfl (lv_at hl 0 rfl) ?_
      refine lv_iconst (v := 4) hx hb dX11_course_70 (by decide) ?_
      refine lv_icmp_ge (tgt := 95) hx hb dX11_course_71 (by decide) (fun c => absurd c (by decide)) (fun _ => ?_)
      refine lv_aload_n hx hb dX11_course_74 rfl (lv_at hl 1 rfl) ?_
      refine va_get (D := (dC, dI)) (ci := 10) (v := .ref (g 6)) (C := RX11) (T := TX11) (N := 47) hx hb hta inlX11 hown hK hP 3 rfl rfl 6 (by decide) (hta _ fl_X11_29) (fun _ h9 => h9) rfl dX11_course_75 ?_
      refine lv_bipush (v := 6) hx hb dX11_course_78 (by decide) ?_
      refine lv_iload_n hx hb dX11_course_80 rfl (lv_at hl 0 rfl) ?_
      refine lv_imul hx hb dX11_course_81 ?_
      refine k_top (y := 6) (by decide) ?_
      refine lv_aload_n hx hb dX11_course_82 rfl (lv_at hl 1 rfl) ?_
      refine va_get (D := (dC, dI)) (ci := 10) (v := .int 0) (C := RX11) (T := TX11) (N := 47) hx hb hta inlX11 hown hK hP 3 rfl rfl 0 (by decide) (hta _ fl_X11_7) (fun _ h9 => h9) rfl dX11_course_83 ?_
      refine lv_iadd hx hb dX11_course_86 ?_
      refine k_top (y := 6) (by decide) ?_
      refine lv_iload_n hx hb dX11_course_87 rfl (lv_at hl 2 rfl) ?_
      refine va_iast hx hb hK hP hD hS 2 2 rfl rfl (vin (by decide)) dX11_course_88 (fun H locs hP hD hS => ?_)
      have hP : va_P (dC, dI) vwCl [(g 2, .inl (h 2, 6, .inl (upd (fun _ => 0) 0 p0))), (g 3, .inl (h 3, 6, .inl (upd (fun _ => 0) 0 p1))), (g 6, .inl (h 6, 24, .inl (upd (upd (fun _ => 0) 0 p0) 6 p0))), zM g h] H := hP
      have hD : va_D A [(g 2, .inl (h 2, 6, .inl (upd (fun _ => 0) 0 p0))), (g 3, .inl (h 3, 6, .inl (upd (fun _ => 0) 0 p1))), (g 6, .inl (h 6, 24, .inl (upd (upd (fun _ => 0) 0 p0) 6 p0))), zM g h] := hD
      refine lv_iinc (v := 2) (lv' := [(3, .int 2), (0, .ref (g 47)), (1, .int p0), (2, .int p1)]) hx hb dX11_course_89 hl (k := 0) rfl (by decide) (by decide) rfl (fun ls hl => ?_)
      refine lv_goto (tgt := 69) hx hb dX11_course_92 (by decide) ?_
      refine lv_iload_n hx hb dX11_course_69 rfl (lv_at hl 0 rfl) ?_
      refine lv_iconst (v := 4) hx hb dX11_course_70 (by decide) ?_
      refine lv_icmp_ge (tgt := 95) hx hb dX11_course_71 (by decide) (fun c => absurd c (by decide)) (fun _ => ?_)
      refine lv_aload_n hx hb dX11_course_74 rfl (lv_at hl 1 rfl) ?_
      refine va_get (D := (dC, dI)) (ci := 10) (v := .ref (g 6)) (C := RX11) (T := TX11) (N := 47) hx hb hta inlX11 hown hK hP 3 rfl rfl 6 (by decide) (hta _ fl_X11_29) (fun _ h9 => h9) rfl dX11_course_75 ?_
      refine lv_bipush (v := 6) hx hb dX11_course_78 (by decide) ?_
      refine lv_iload_n hx hb dX11_course_80 rfl (lv_at hl 0 rfl) ?_
      refine lv_imul hx hb dX11_course_81 ?_
      refine k_top (y := 12) (by decide) ?_
      refine lv_aload_n hx hb dX11_course_82 rfl (lv_at hl 1 rfl) ?_
      refine va_get (D := (dC, dI)) (ci := 10) (v := .int 0) (C := RX11) (T := TX11) (N := 47) hx hb hta inlX11 hown hK hP 3 rfl rfl 0 (by decide) (hta _ fl_X11_7) (fun _ h9 => h9) rfl dX11_course_83 ?_
      refine lv_iadd hx hb dX11_course_86 ?_
      refine k_top (y := 12) (by decide) ?_
      refine lv_iload_n hx hb dX11_course_87 rfl (lv_at hl 2 rfl) ?_
      refine va_iast hx hb hK hP hD hS 2 2 rfl rfl (vin (by decide)) dX11_course_88 (fun H locs hP hD hS => ?_)
      have hP : va_P (dC, dI) vwCl [(g 2, .inl (h 2, 6, .inl (upd (fun _ => 0) 0 p0))), (g 3, .inl (h 3, 6, .inl (upd (fun _ => 0) 0 p1))), (g 6, .inl (h 6, 24, .inl (upd (upd (upd (fun _ => 0) 0 p0) 6 p0) 12 p0))), zM g h] H := hP
      have hD : va_D A [(g 2, .inl (h 2, 6, .inl (upd (fun _ => 0) 0 p0))), (g 3, .inl (h 3, 6, .inl (upd (fun _ => 0) 0 p1))), (g 6, .inl (h 6, 24, .inl (upd (upd (upd (fun _ => 0) 0 p0) 6 p0) 12 p0))), zM g h] := hD
      refine lv_iinc (v := 3) (lv' := [(3, .int 3), (0, .ref (g 47)), (1, .int p0), (2, .int p1)]) hx hb dX11_course_89 hl (k := 0) rfl (by decide) (by decide) rfl (fun ls hl => ?_)
      refine lv_goto (tgt := 69) hx hb dX11_course_92 (by decide) ?_
      refine lv_iload_n hx hb dX11_course_69 rfl (lv_at hl 0 rfl) ?_
      refine lv_iconst (v := 4) hx hb dX11_course_70 (by decide) ?_
      refine lv_icmp_ge (tgt := 95) hx hb dX11_course_71 (by decide) (fun c => absurd c (by decide)) (fun _ => ?_)
      refine lv_aload_n hx hb dX11_course_74 rfl (lv_at hl 1 rfl) ?_
      refine va_get (D := (dC, dI)) (ci := 10) (v := .ref (g 6)) (C := RX11) (T := TX11) (N := 47) hx hb hta inlX11 hown hK hP 3 rfl rfl 6 (by decide) (hta _ fl_X11_29) (fun _ h9 => h9) rfl dX11_course_75 ?_
      refine lv_bipush (v := 6) hx hb dX11_course_78 (by decide) ?_
      refine lv_iload_n hx hb dX11_course_80 rfl (lv_at hl 0 rfl) ?_
      refine lv_imul hx hb dX11_course_81 ?_
      refine k_top (y := 18) (by decide) ?_
      refine lv_aload_n hx hb dX11_course_82 rfl (lv_at hl 1 rfl) ?_
      refine va_get (D := (dC, dI)) (ci := 10) (v := .int 0) (C := RX11) (T := TX11) (N := 47) hx hb hta inlX11 hown hK hP 3 rfl rfl 0 (by decide) (hta _ fl_X11_7) (fun _ h9 => h9) rfl dX11_course_83 ?_
      refine lv_iadd hx hb dX11_course_86 ?_
      refine k_top (y := 18) (by decide) ?_
      refine lv_iload_n hx hb dX11_course_87 rfl (lv_at hl 2 rfl) ?_
      refine va_iast hx hb hK hP hD hS 2 2 rfl rfl (vin (by decide)) dX11_course_88 (fun H locs hP hD hS => ?_)
      have hP : va_P (dC, dI) vwCl [(g 2, .inl (h 2, 6, .inl (upd (fun _ => 0) 0 p0))), (g 3, .inl (h 3, 6, .inl (upd (fun _ => 0) 0 p1))), (g 6, .inl (h 6, 24, .inl (upd (upd (upd (upd (fun _ => 0) 0 p0) 6 p0) 12 p0) 18 p0))), zM g h] H := hP
      have hD : va_D A [(g 2, .inl (h 2, 6, .inl (upd (fun _ => 0) 0 p0))), (g 3, .inl (h 3, 6, .inl (upd (fun _ => 0) 0 p1))), (g 6, .inl (h 6, 24, .inl (upd (upd (upd (upd (fun _ => 0) 0 p0) 6 p0) 12 p0) 18 p0))), zM g h] := hD
      refine lv_iinc (v := 4) (lv' := [(3, .int 4), (0, .ref (g 47)), (1, .int p0), (2, .int p1)]) hx hb dX11_course_89 hl (k := 0) rfl (by decide) (by decide) rfl (fun ls hl => ?_)
      refine lv_goto (tgt := 69) hx hb dX11_course_92 (by decide) ?_
      refine lv_iload_n hx hb dX11_course_69 rfl (lv_at hl 0 rfl) ?_
      refine lv_iconst (v := 4) hx hb dX11_course_70 (by decide) ?_
      refine lv_icmp_ge (tgt := 95) hx hb dX11_course_71 (by decide) (fun _ => ?_) (fun c => absurd (by decide) c)
      refine lv_aload_n hx hb dX11_course_95 rfl (lv_at hl 1 rfl) ?_
      refine lv_dup hx hb dX11_course_96 rfl ?_
      refine va_get (D := (dC, dI)) (ci := 10) (v := .int 0) (C := RX11) (T := TX11) (N := 47) hx hb hta inlX11 hown hK hP 3 rfl rfl 0 (by decide) (hta _ fl_X11_7) (fun _ h9 => h9) rfl dX11_course_97 ?_
      refine lv_iconst (v := 1) hx hb dX11_course_100 (by decide) ?_
      refine lv_iadd hx hb dX11_course_101 ?_
      refine k_top (y := 1) (by decide) ?_
      refine va_put (D := (dC, dI)) (ci := 10) (v := .int 1) (ty := .int) (C := RX11) (T := TX11) (N := 47) hx hb hta inlX11 tyX11 tyX11_ok nmX11 hown hK hP hD hS 3 rfl rfl 0 (by decide) (hta _ fl_X11_7) (fun _ h9 => h9) rfl (by decide +kernel) rfl rfl (Nat.le_of_ble_eq_true rfl) dX11_course_102 (fun H locs hP hD hS => ?_)
      have hP : va_P (dC, dI) vwCl [(g 2, .inl (h 2, 6, .inl (upd (fun _ => 0) 0 p0))), (g 3, .inl (h 3, 6, .inl (upd (fun _ => 0) 0 p1))), (g 6, .inl (h 6, 24, .inl (upd (upd (upd (upd (fun _ => 0) 0 p0) 6 p0) 12 p0) 18 p0))), (g 47, .inr (10, [.int 1, .int 0, .ref (g 2), .ref (g 3), .ref (g 4), .ref (g 5), .ref (g 6), .int 0, .int 0, .ref (g 9), .ref (g 10), .ref (g 11), .ref (g 12), .ref (g 13), .int 0, .int 0, .ref (g 16), .ref (g 17), .ref (g 18), .ref (g 19), .ref (g 20), .ref (g 21), .ref (g 22), .ref (g 23), .ref (g 24), .ref (g 25), .ref (g 26), .ref (g 27), .ref (g 28), .ref (g 29), .int 0, .ref (g 31), .ref (g 32), .int 0, .int 0, .ref (g 35), .int 0, .ref (g 37), .ref (g 38), .int 0, .ref (g 40), .ref (g 41), .int 0, .ref (g 43), .ref (g 44), .ref (g 45), .int 0]))] H := hP
      have hD : va_D A [(g 2, .inl (h 2, 6, .inl (upd (fun _ => 0) 0 p0))), (g 3, .inl (h 3, 6, .inl (upd (fun _ => 0) 0 p1))), (g 6, .inl (h 6, 24, .inl (upd (upd (upd (upd (fun _ => 0) 0 p0) 6 p0) 12 p0) 18 p0))), (g 47, .inr (10, [.int 1, .int 0, .ref (g 2), .ref (g 3), .ref (g 4), .ref (g 5), .ref (g 6), .int 0, .int 0, .ref (g 9), .ref (g 10), .ref (g 11), .ref (g 12), .ref (g 13), .int 0, .int 0, .ref (g 16), .ref (g 17), .ref (g 18), .ref (g 19), .ref (g 20), .ref (g 21), .ref (g 22), .ref (g 23), .ref (g 24), .ref (g 25), .ref (g 26), .ref (g 27), .ref (g 28), .ref (g 29), .int 0, .ref (g 31), .ref (g 32), .int 0, .int 0, .ref (g 35), .int 0, .ref (g 37), .ref (g 38), .int 0, .ref (g 40), .ref (g 41), .int 0, .ref (g 43), .ref (g 44), .ref (g 45), .int 0]))] := hD
      refine lv_aload_n hx hb dX11_course_105 rfl (lv_at hl 1 rfl) ?_
      refine kVv (b := (g 47)) (n := 0) (As := []) (rest := []) ⟨hx, hb, hml, hown, hta⟩ hnw (m_forget l dC dI g h 1 0  H.size) cd_X11_forget iz_X11 ml_X11_164 im_X11_forget se_X11_X11_forget (by decide +kernel) rfl (Nat.le_of_ble_eq_true rfl) (Nat.le_of_ble_eq_true rfl) rfl rfl (Nat.le_of_ble_eq_true rfl) (Nat.le_of_ble_eq_true rfl) hP hD hK hS hA [3] [0, 1, 2] [] rfl (wr := [(g 2, .inl (h 2, 6, .inl (upd (fun _ => 0) 0 p0))), (g 3, .inl (h 3, 6, .inl (upd (fun _ => 0) 0 p1))), (g 6, .inl (h 6, 24, .inl (upd (upd (upd (upd (fun _ => 0) 0 p0) 6 p0) 12 p0) 18 p0)))]) rfl (by decide) (by decide) (by decide) rfl rfl 0 rfl hl.1 rfl (Nat.le_of_ble_eq_true rfl) dX11_course_106 (fun u12 H locs hw13 hP hD hK hS => ?_)
      have hP : va_P (dC, dI) vwCl [(g 2, .inl (h 2, 6, .inl (upd (fun _ => 0) 0 p0))), (g 3, .inl (h 3, 6, .inl (upd (fun _ => 0) 0 p1))), (g 6, .inl (h 6, 24, .inl (upd (upd (upd (upd (fun _ => 0) 0 p0) 6 p0) 12 p0) 18 p0))), (g 47, .inr (10, [.int 1, .int 0, .ref (g 2), .ref (g 3), .ref (g 4), .ref (g 5), .ref (g 6), .int 0, .int 0, .ref (g 9), .ref (g 10), .ref (g 11), .ref (g 12), .ref (g 13), .int 0, .int 0, .ref (g 16), .ref (g 17), .ref (g 18), .ref (g 19), .ref (g 20), .ref (g 21), .ref (g 22), .ref (g 23), .ref (g 24), .ref (g 25), .ref (g 26), .ref (g 27), .ref (g 28), .ref (g 29), .int 0, .ref (g 31), .ref (g 32), .int 0, .int 0, .ref (g 35), .int 0, .ref (g 37), .ref (g 38), .int 0, .ref (g 40), .ref (g 41), .int 0, .ref (g 43), .ref (g 44), .ref (g 45), .int 0]))] H := hP
      have hD : va_D A [(g 2, .inl (h 2, 6, .inl (upd (fun _ => 0) 0 p0))), (g 3, .inl (h 3, 6, .inl (upd (fun _ => 0) 0 p1))), (g 6, .inl (h 6, 24, .inl (upd (upd (upd (upd (fun _ => 0) 0 p0) 6 p0) 12 p0) 18 p0))), (g 47, .inr (10, [.int 1, .int 0, .ref (g 2), .ref (g 3), .ref (g 4), .ref (g 5), .ref (g 6), .int 0, .int 0, .ref (g 9), .ref (g 10), .ref (g 11), .ref (g 12), .ref (g 13), .int 0, .int 0, .ref (g 16), .ref (g 17), .ref (g 18), .ref (g 19), .ref (g 20), .ref (g 21), .ref (g 22), .ref (g 23), .ref (g 24), .ref (g 25), .ref (g 26), .ref (g 27), .ref (g 28), .ref (g 29), .int 0, .ref (g 31), .ref (g 32), .int 0, .int 0, .ref (g 35), .int 0, .ref (g 37), .ref (g 38), .int 0, .ref (g 40), .ref (g 41), .int 0, .ref (g 43), .ref (g 44), .ref (g 45), .int 0]))] := hD
      have hK : va_K (dC, dI) vwCl [(h 2, .int), (h 3, .int), (h 6, .int)] s := hK
      refine lv_aload_n hx hb dX11_course_109 rfl (lv_at hl 1 rfl) ?_
      refine va_get (D := (dC, dI)) (ci := 10) (v := .int 1) (C := RX11) (T := TX11) (N := 47) hx hb hta inlX11 hown hK hP 3 rfl rfl 0 (by decide) (hta _ fl_X11_7) (fun _ h9 => h9) rfl dX11_course_110 ?_
      refine lv_iconst (v := 1) hx hb dX11_course_113 (by decide) ?_
      refine lv_isub hx hb dX11_course_114 ?_
      refine k_top (y := 0) (by decide) ?_
      refine W.widen (k := 0) (n := 0) (Nat.le_of_ble_eq_true rfl) (Nat.le_of_ble_eq_true rfl) ?_
      exact k_iret () hx hb hr hlocks rfl P_nil D_nil (hK.sub (tys' := []) [] rfl) hS (by first | rfl | (simp [sp_course, n_6, n_11]; done) | (simp [sp_course, c_4, n_6, c_10, n_11]; done)) dX11_course_115
    · have n_15 : (inB p1 0 12) = false := ite0 c_10
      refine lv_bipush (v := (-2)) hx hb dX11_course_22 (by decide) ?_
      refine W.widen (k := 0) (n := 0) (Nat.le_of_ble_eq_true rfl) (Nat.le_of_ble_eq_true rfl) ?_
      exact k_iret () hx hb hr hlocks rfl P_nil D_nil (hK.sub (tys' := []) [] rfl) hS (by first | rfl | (simp [sp_course, n_6, n_15]; done) | (simp [sp_course, c_4, n_6, c_10, n_15]; done)) dX11_course_24
set_option maxHeartbeats 4000000 in
set_option maxRecDepth 100000 in
theorem y_tune (l : Launch) (dC : Nat → ClassId) (dI : Nat → Nat → Nat) (g : Nat → Nat) (h : Nat → ClassId) (p0 : Int32) (p1 : Int32) (sz : Nat) : Ci l (dC, dI) yX11_tune cX11_tune 4 (some .int) { frames := 2, cells := 0, slots := 0, locals := 44 } [.ref (g 47), .int p0, .int p1] [] [zM g h] sz 0 0 Unit (fun r _ => r = (-1)) (fun _ => []) (fun _ => []) := by
  refine Ci_of (lv := [(0, .ref (g 47)), (1, .int p0), (2, .int p1)]) (by decide) rfl rfl ?_
  intro p e s m below meth c A ls hx hb hml hr hown hta hlocks hnm hnw hP hD hK hS hA hl
  have hown : s.vm.findClass RX11 = some m.cls := hown
  refine lv_aload_n hx hb dX11_tune_0 rfl (lv_at hl 0 rfl) ?_
  refine lv_iload_n hx hb dX11_tune_1 rfl (lv_at hl 1 rfl) ?_
  refine kVi (b := (g 47)) (n := 1) (As := [.int p0]) (rest := []) ⟨hx, hb, hml, hown, hta⟩ hnw (m_isCourse l dC dI g h p0  s.heap.size) cd_X11_isCourse iz_X11 ml_X11_167 im_X11_isCourse se_X11_X11_isCourse (by decide +kernel) rfl (Nat.le_of_ble_eq_true rfl) (Nat.le_of_ble_eq_true rfl) rfl rfl (Nat.le_of_ble_eq_true rfl) (Nat.le_of_ble_eq_true rfl) hP hD hK hS hA [0] [] [] rfl (wr := []) rfl (by decide) (by decide) (by decide) rfl rfl 0 rfl hl.1 rfl (Nat.le_of_ble_eq_true rfl) dX11_tune_2 (fun r3 u1 H locs hw2 hP hD hK hS => ?_)
  have hP : va_P (dC, dI) vwCl [zM g h] H := hP
  have hD : va_D A [zM g h] := hD
  have hK : va_K (dC, dI) vwCl [] s := hK
  obtain rfl : r3 = 0 := hw2
  refine lv_if_ne (tgt := 10) hx hb dX11_tune_5 (by decide) (fun c => absurd c (by decide)) (fun _ => ?_)
  refine lv_iconst (v := (-1)) hx hb dX11_tune_8 (by decide) ?_
  refine W.widen (k := 0) (n := 0) (Nat.le_of_ble_eq_true rfl) (Nat.le_of_ble_eq_true rfl) ?_
  exact k_iret () hx hb hr hlocks rfl P_nil D_nil (hK.sub (tys' := []) [] rfl) hS rfl dX11_tune_9
set_option maxHeartbeats 4000000 in
set_option maxRecDepth 100000 in
theorem y_slack (l : Launch) (dC : Nat → ClassId) (dI : Nat → Nat → Nat) (g : Nat → Nat) (h : Nat → ClassId) (p0 : Int32) (p1 : Int32) (sz : Nat) : Ci l (dC, dI) yX11_slack cX11_slack 4 (some .int) { frames := 1, cells := 0, slots := 0, locals := 23 } [.ref (g 47), .int p0, .int p1] [(h 4, .int)] [zM g h, zMslack g h] sz 0 0 Unit (fun r _ => r = sp_slack p0 p1) (fun _ => []) (fun _ => []) := by
  refine Ci_of (lv := [(0, .ref (g 47)), (1, .int p0), (2, .int p1)]) (by decide) rfl rfl ?_
  intro p e s m below meth c A ls hx hb hml hr hown hta hlocks hnm hnw hP hD hK hS hA hl
  have hown : s.vm.findClass RX11 = some m.cls := hown
  refine lv_aload_n hx hb dX11_slack_0 rfl (lv_at hl 0 rfl) ?_
  refine lv_iload_n hx hb dX11_slack_1 rfl (lv_at hl 1 rfl) ?_
  refine lv_iconst (v := 1) hx hb dX11_slack_2 (by decide) ?_
  refine lv_iconst (v := 4) hx hb dX11_slack_3 (by decide) ?_
  refine kVi (b := (g 47)) (n := 3) (As := [.int p0, .int 1, .int 4]) (rest := []) ⟨hx, hb, hml, hown, hta⟩ hnw (m_in l dC dI g h p0 1 4  s.heap.size) cd_X11_in iz_X11 ml_X11_156 im_X11_in se_X11_X11_in (by decide +kernel) rfl (Nat.le_of_ble_eq_true rfl) (Nat.le_of_ble_eq_true rfl) rfl rfl (Nat.le_of_ble_eq_true rfl) (Nat.le_of_ble_eq_true rfl) hP hD hK hS hA [0] [1] [] rfl (wr := [zMslack g h]) rfl (by decide) (by decide) (by decide) rfl rfl 0 rfl hl.1 rfl (Nat.le_of_ble_eq_true rfl) dX11_slack_4 (fun r3 u1 H locs hw2 hP hD hK hS => ?_)
  have hP : va_P (dC, dI) vwCl [zMslack g h, zM g h] H := hP
  have hD : va_D A [zMslack g h, zM g h] := hD
  have hK : va_K (dC, dI) vwCl [(h 4, .int)] s := hK
  obtain rfl : r3 = if inB p0 1 4 then 1 else 0 := hw2
  refine lv_if_ne (tgt := 12) hx hb dX11_slack_7 (by decide) (fun c_4 => ?_) (fun c_4 => ?_)
  · have n_5 : (inB p0 1 4) = true := ite1 c_4
    refine lv_aload_n hx hb dX11_slack_12 rfl (lv_at hl 0 rfl) ?_
    refine lv_iload_n hx hb dX11_slack_13 rfl (lv_at hl 2 rfl) ?_
    refine lv_iconst (v := 0) hx hb dX11_slack_14 (by decide) ?_
    refine lv_iconst (v := 2) hx hb dX11_slack_15 (by decide) ?_
    refine kVi (b := (g 47)) (n := 3) (As := [.int p1, .int 0, .int 2]) (rest := []) ⟨hx, hb, hml, hown, hta⟩ hnw (m_in l dC dI g h p1 0 2  H.size) cd_X11_in iz_X11 ml_X11_156 im_X11_in se_X11_X11_in (by decide +kernel) rfl (Nat.le_of_ble_eq_true rfl) (Nat.le_of_ble_eq_true rfl) rfl rfl (Nat.le_of_ble_eq_true rfl) (Nat.le_of_ble_eq_true rfl) hP hD hK hS hA [1] [0] [] rfl (wr := [zMslack g h]) rfl (by decide) (by decide) (by decide) rfl rfl 0 rfl hl.1 rfl (Nat.le_of_ble_eq_true rfl) dX11_slack_16 (fun r8 u6 H locs hw7 hP hD hK hS => ?_)
    have hP : va_P (dC, dI) vwCl [zMslack g h, zM g h] H := hP
    have hD : va_D A [zMslack g h, zM g h] := hD
    have hK : va_K (dC, dI) vwCl [(h 4, .int)] s := hK
    obtain rfl : r8 = if inB p1 0 2 then 1 else 0 := hw7
    refine lv_if_ne (tgt := 25) hx hb dX11_slack_19 (by decide) (fun c_9 => ?_) (fun c_9 => ?_)
    · have n_10 : (inB p1 0 2) = true := ite1 c_9
      refine lv_aload_n hx hb dX11_slack_25 rfl (lv_at hl 0 rfl) ?_
      refine va_get (D := (dC, dI)) (ci := 10) (v := .ref (g 4)) (C := RX11) (T := TX11) (N := 47) hx hb hta inlX11 hown hK hP 1 rfl rfl 4 (by decide) (hta _ fl_X11_23) (fun _ h9 => h9) rfl dX11_slack_26 ?_
      refine lv_iload_n hx hb dX11_slack_29 rfl (lv_at hl 1 rfl) ?_
      refine va_iald hx hb hK hP 0 0 rfl rfl (vinB n_5 (by decide) (by decide)) dX11_slack_30 ?_
      refine k_top (y := 1) (fSl_v n_5) ?_
      refine lv_istore_n (lv' := [(3, .int 1), (0, .ref (g 47)), (1, .int p0), (2, .int p1)]) hx hb dX11_slack_31 rfl hl (by decide) rfl (fun ls hl => ?_)
      refine lv_aload_n hx hb dX11_slack_32 rfl (lv_at hl 1 rfl) ?_
      refine va_get (D := (dC, dI)) (ci := 10) (v := .ref (g 4)) (C := RX11) (T := TX11) (N := 47) hx hb hta inlX11 hown hK hP 1 rfl rfl 4 (by decide) (hta _ fl_X11_23) (fun _ h9 => h9) rfl dX11_slack_33 ?_
      refine lv_iload_n hx hb dX11_slack_36 rfl (lv_at hl 2 rfl) ?_
      refine lv_iload_n hx hb dX11_slack_37 rfl (lv_at hl 3 rfl) ?_
      refine va_iast hx hb hK hP hD hS 0 0 rfl rfl (vinB n_5 (by decide) (by decide)) dX11_slack_38 (fun H locs hP hD hS => ?_)
      have hP : va_P (dC, dI) vwCl [(g 4, .inl (h 4, 5, .inl (upd (upd (upd (upd (upd (upd (fun _ => 0) 0 0) 1 1) 2 1) 3 1) 4 1) ((p0 : Int32).toNatClampNeg) p1))), zM g h] H := hP
      have hD : va_D A [(g 4, .inl (h 4, 5, .inl (upd (upd (upd (upd (upd (upd (fun _ => 0) 0 0) 1 1) 2 1) 3 1) 4 1) ((p0 : Int32).toNatClampNeg) p1))), zM g h] := hD
      refine lv_aload_n hx hb dX11_slack_39 rfl (lv_at hl 1 rfl) ?_
      refine kVv (b := (g 47)) (n := 0) (As := []) (rest := []) ⟨hx, hb, hml, hown, hta⟩ hnw (m_forget l dC dI g h 0 0  H.size) cd_X11_forget iz_X11 ml_X11_164 im_X11_forget se_X11_X11_forget (by decide +kernel) rfl (Nat.le_of_ble_eq_true rfl) (Nat.le_of_ble_eq_true rfl) rfl rfl (Nat.le_of_ble_eq_true rfl) (Nat.le_of_ble_eq_true rfl) hP hD hK hS hA [1] [0] [] rfl (wr := [(g 4, .inl (h 4, 5, .inl (upd (upd (upd (upd (upd (upd (fun _ => 0) 0 0) 1 1) 2 1) 3 1) 4 1) ((p0 : Int32).toNatClampNeg) p1)))]) rfl (by decide) (by decide) (by decide) rfl rfl 0 rfl hl.1 rfl (Nat.le_of_ble_eq_true rfl) dX11_slack_40 (fun u11 H locs hw12 hP hD hK hS => ?_)
      have hP : va_P (dC, dI) vwCl [(g 4, .inl (h 4, 5, .inl (upd (upd (upd (upd (upd (upd (fun _ => 0) 0 0) 1 1) 2 1) 3 1) 4 1) ((p0 : Int32).toNatClampNeg) p1))), (g 47, .inr (10, [.int 0, .int 0, .ref (g 2), .ref (g 3), .ref (g 4), .ref (g 5), .ref (g 6), .int 0, .int 0, .ref (g 9), .ref (g 10), .ref (g 11), .ref (g 12), .ref (g 13), .int 0, .int 0, .ref (g 16), .ref (g 17), .ref (g 18), .ref (g 19), .ref (g 20), .ref (g 21), .ref (g 22), .ref (g 23), .ref (g 24), .ref (g 25), .ref (g 26), .ref (g 27), .ref (g 28), .ref (g 29), .int 0, .ref (g 31), .ref (g 32), .int 0, .int 0, .ref (g 35), .int 0, .ref (g 37), .ref (g 38), .int 0, .ref (g 40), .ref (g 41), .int 0, .ref (g 43), .ref (g 44), .ref (g 45), .int 0]))] H := hP
      have hD : va_D A [(g 4, .inl (h 4, 5, .inl (upd (upd (upd (upd (upd (upd (fun _ => 0) 0 0) 1 1) 2 1) 3 1) 4 1) ((p0 : Int32).toNatClampNeg) p1))), (g 47, .inr (10, [.int 0, .int 0, .ref (g 2), .ref (g 3), .ref (g 4), .ref (g 5), .ref (g 6), .int 0, .int 0, .ref (g 9), .ref (g 10), .ref (g 11), .ref (g 12), .ref (g 13), .int 0, .int 0, .ref (g 16), .ref (g 17), .ref (g 18), .ref (g 19), .ref (g 20), .ref (g 21), .ref (g 22), .ref (g 23), .ref (g 24), .ref (g 25), .ref (g 26), .ref (g 27), .ref (g 28), .ref (g 29), .int 0, .ref (g 31), .ref (g 32), .int 0, .int 0, .ref (g 35), .int 0, .ref (g 37), .ref (g 38), .int 0, .ref (g 40), .ref (g 41), .int 0, .ref (g 43), .ref (g 44), .ref (g 45), .int 0]))] := hD
      have hK : va_K (dC, dI) vwCl [(h 4, .int)] s := hK
      refine lv_iload_n hx hb dX11_slack_43 rfl (lv_at hl 0 rfl) ?_
      refine W.widen (k := 0) (n := 0) (Nat.le_of_ble_eq_true rfl) (Nat.le_of_ble_eq_true rfl) ?_
      exact k_iret () hx hb hr hlocks rfl P_nil D_nil (hK.sub (tys' := []) [] rfl) hS (by first | rfl | (simp [sp_slack, n_5, n_10]; done) | (simp [sp_slack, c_4, n_5, c_9, n_10]; done)) dX11_slack_44
    · have n_14 : (inB p1 0 2) = false := ite0 c_9
      refine lv_bipush (v := (-2)) hx hb dX11_slack_22 (by decide) ?_
      refine W.widen (k := 0) (n := 0) (Nat.le_of_ble_eq_true rfl) (Nat.le_of_ble_eq_true rfl) ?_
      exact k_iret () hx hb hr hlocks rfl P_nil D_nil (hK.sub (tys' := []) [] rfl) hS (by first | rfl | (simp [sp_slack, n_5, n_14]; done) | (simp [sp_slack, c_4, n_5, c_9, n_14]; done)) dX11_slack_24
  · have n_15 : (inB p0 1 4) = false := ite0 c_4
    refine lv_iconst (v := (-1)) hx hb dX11_slack_10 (by decide) ?_
    refine W.widen (k := 0) (n := 0) (Nat.le_of_ble_eq_true rfl) (Nat.le_of_ble_eq_true rfl) ?_
    exact k_iret () hx hb hr hlocks rfl P_nil D_nil (hK.sub (tys' := []) [] rfl) hS (by first | rfl | (simp [sp_slack, n_15]; done) | (simp [sp_slack, c_4, n_15]; done)) dX11_slack_11
set_option maxHeartbeats 4000000 in
set_option maxRecDepth 100000 in
theorem y_bars (l : Launch) (dC : Nat → ClassId) (dI : Nat → Nat → Nat) (g : Nat → Nat) (h : Nat → ClassId) (p0 : Int32) (sz : Nat) : Ci l (dC, dI) yX11_bars cX11_bars 3 (some .int) { frames := 1, cells := 0, slots := 0, locals := 23 } [.ref (g 47), .int p0] [] [zM g h] sz 0 0 Unit (fun r _ => r = sp_bars p0) (fun _ => []) (fun _ => []) := by
  refine Ci_of (lv := [(0, .ref (g 47)), (1, .int p0)]) (by decide) rfl rfl ?_
  intro p e s m below meth c A ls hx hb hml hr hown hta hlocks hnm hnw hP hD hK hS hA hl
  have hown : s.vm.findClass RX11 = some m.cls := hown
  refine lv_aload_n hx hb dX11_bars_0 rfl (lv_at hl 0 rfl) ?_
  refine lv_iload_n hx hb dX11_bars_1 rfl (lv_at hl 1 rfl) ?_
  refine lv_iconst (v := 0) hx hb dX11_bars_2 (by decide) ?_
  refine lv_iconst (v := 1) hx hb dX11_bars_3 (by decide) ?_
  refine kVi (b := (g 47)) (n := 3) (As := [.int p0, .int 0, .int 1]) (rest := []) ⟨hx, hb, hml, hown, hta⟩ hnw (m_in l dC dI g h p0 0 1  s.heap.size) cd_X11_in iz_X11 ml_X11_156 im_X11_in se_X11_X11_in (by decide +kernel) rfl (Nat.le_of_ble_eq_true rfl) (Nat.le_of_ble_eq_true rfl) rfl rfl (Nat.le_of_ble_eq_true rfl) (Nat.le_of_ble_eq_true rfl) hP hD hK hS hA [0] [] [] rfl (wr := []) rfl (by decide) (by decide) (by decide) rfl rfl 0 rfl hl.1 rfl (Nat.le_of_ble_eq_true rfl) dX11_bars_4 (fun r3 u1 H locs hw2 hP hD hK hS => ?_)
  have hP : va_P (dC, dI) vwCl [zM g h] H := hP
  have hD : va_D A [zM g h] := hD
  have hK : va_K (dC, dI) vwCl [] s := hK
  obtain rfl : r3 = if inB p0 0 1 then 1 else 0 := hw2
  refine lv_if_ne (tgt := 13) hx hb dX11_bars_7 (by decide) (fun c_4 => ?_) (fun c_4 => ?_)
  · have n_5 : (inB p0 0 1) = true := ite1 c_4
    refine lv_aload_n hx hb dX11_bars_13 rfl (lv_at hl 0 rfl) ?_
    refine va_get (D := (dC, dI)) (ci := 10) (v := .int 0) (C := RX11) (T := TX11) (N := 47) hx hb hta inlX11 hown hK hP 0 rfl rfl 1 (by decide) (hta _ fl_X11_13) (fun _ h9 => h9) rfl dX11_bars_14 ?_
    refine lv_istore_n (lv' := [(2, .int 0), (0, .ref (g 47)), (1, .int p0)]) hx hb dX11_bars_17 rfl hl (by decide) rfl (fun ls hl => ?_)
    refine lv_aload_n hx hb dX11_bars_18 rfl (lv_at hl 1 rfl) ?_
    refine lv_iload_n hx hb dX11_bars_19 rfl (lv_at hl 2 rfl) ?_
    refine va_put (D := (dC, dI)) (ci := 10) (v := .int p0) (ty := .int) (C := RX11) (T := TX11) (N := 47) hx hb hta inlX11 tyX11 tyX11_ok nmX11 hown hK hP hD hS 0 rfl rfl 1 (by decide) (hta _ fl_X11_13) (fun _ h9 => h9) rfl (by decide +kernel) rfl rfl (Nat.le_of_ble_eq_true rfl) dX11_bars_20 (fun H locs hP hD hS => ?_)
    have hP : va_P (dC, dI) vwCl [(g 47, .inr (10, [.int 0, .int p0, .ref (g 2), .ref (g 3), .ref (g 4), .ref (g 5), .ref (g 6), .int 0, .int 0, .ref (g 9), .ref (g 10), .ref (g 11), .ref (g 12), .ref (g 13), .int 0, .int 0, .ref (g 16), .ref (g 17), .ref (g 18), .ref (g 19), .ref (g 20), .ref (g 21), .ref (g 22), .ref (g 23), .ref (g 24), .ref (g 25), .ref (g 26), .ref (g 27), .ref (g 28), .ref (g 29), .int 0, .ref (g 31), .ref (g 32), .int 0, .int 0, .ref (g 35), .int 0, .ref (g 37), .ref (g 38), .int 0, .ref (g 40), .ref (g 41), .int 0, .ref (g 43), .ref (g 44), .ref (g 45), .int 0]))] H := hP
    have hD : va_D A [(g 47, .inr (10, [.int 0, .int p0, .ref (g 2), .ref (g 3), .ref (g 4), .ref (g 5), .ref (g 6), .int 0, .int 0, .ref (g 9), .ref (g 10), .ref (g 11), .ref (g 12), .ref (g 13), .int 0, .int 0, .ref (g 16), .ref (g 17), .ref (g 18), .ref (g 19), .ref (g 20), .ref (g 21), .ref (g 22), .ref (g 23), .ref (g 24), .ref (g 25), .ref (g 26), .ref (g 27), .ref (g 28), .ref (g 29), .int 0, .ref (g 31), .ref (g 32), .int 0, .int 0, .ref (g 35), .int 0, .ref (g 37), .ref (g 38), .int 0, .ref (g 40), .ref (g 41), .int 0, .ref (g 43), .ref (g 44), .ref (g 45), .int 0]))] := hD
    refine lv_aload_n hx hb dX11_bars_23 rfl (lv_at hl 1 rfl) ?_
    refine kVv (b := (g 47)) (n := 0) (As := []) (rest := []) ⟨hx, hb, hml, hown, hta⟩ hnw (m_forget l dC dI g h 0 p0  H.size) cd_X11_forget iz_X11 ml_X11_164 im_X11_forget se_X11_X11_forget (by decide +kernel) rfl (Nat.le_of_ble_eq_true rfl) (Nat.le_of_ble_eq_true rfl) rfl rfl (Nat.le_of_ble_eq_true rfl) (Nat.le_of_ble_eq_true rfl) hP hD hK hS hA [0] [] [] rfl (wr := []) rfl (by decide) (by decide) (by decide) rfl rfl 0 rfl hl.1 rfl (Nat.le_of_ble_eq_true rfl) dX11_bars_24 (fun u6 H locs hw7 hP hD hK hS => ?_)
    have hP : va_P (dC, dI) vwCl [(g 47, .inr (10, [.int 0, .int p0, .ref (g 2), .ref (g 3), .ref (g 4), .ref (g 5), .ref (g 6), .int 0, .int 0, .ref (g 9), .ref (g 10), .ref (g 11), .ref (g 12), .ref (g 13), .int 0, .int 0, .ref (g 16), .ref (g 17), .ref (g 18), .ref (g 19), .ref (g 20), .ref (g 21), .ref (g 22), .ref (g 23), .ref (g 24), .ref (g 25), .ref (g 26), .ref (g 27), .ref (g 28), .ref (g 29), .int 0, .ref (g 31), .ref (g 32), .int 0, .int 0, .ref (g 35), .int 0, .ref (g 37), .ref (g 38), .int 0, .ref (g 40), .ref (g 41), .int 0, .ref (g 43), .ref (g 44), .ref (g 45), .int 0]))] H := hP
    have hD : va_D A [(g 47, .inr (10, [.int 0, .int p0, .ref (g 2), .ref (g 3), .ref (g 4), .ref (g 5), .ref (g 6), .int 0, .int 0, .ref (g 9), .ref (g 10), .ref (g 11), .ref (g 12), .ref (g 13), .int 0, .int 0, .ref (g 16), .ref (g 17), .ref (g 18), .ref (g 19), .ref (g 20), .ref (g 21), .ref (g 22), .ref (g 23), .ref (g 24), .ref (g 25), .ref (g 26), .ref (g 27), .ref (g 28), .ref (g 29), .int 0, .ref (g 31), .ref (g 32), .int 0, .int 0, .ref (g 35), .int 0, .ref (g 37), .ref (g 38), .int 0, .ref (g 40), .ref (g 41), .int 0, .ref (g 43), .ref (g 44), .ref (g 45), .int 0]))] := hD
    have hK : va_K (dC, dI) vwCl [] s := hK
    refine lv_iload_n hx hb dX11_bars_27 rfl (lv_at hl 0 rfl) ?_
    refine W.widen (k := 0) (n := 0) (Nat.le_of_ble_eq_true rfl) (Nat.le_of_ble_eq_true rfl) ?_
    exact k_iret () hx hb hr hlocks rfl P_nil D_nil (hK.sub (tys' := []) [] rfl) hS (by first | rfl | (simp [sp_bars, n_5]; done) | (simp [sp_bars, c_4, n_5]; done)) dX11_bars_28
  · have n_9 : (inB p0 0 1) = false := ite0 c_4
    refine lv_bipush (v := (-2)) hx hb dX11_bars_10 (by decide) ?_
    refine W.widen (k := 0) (n := 0) (Nat.le_of_ble_eq_true rfl) (Nat.le_of_ble_eq_true rfl) ?_
    exact k_iret () hx hb hr hlocks rfl P_nil D_nil (hK.sub (tys' := []) [] rfl) hS (by first | rfl | (simp [sp_bars, n_9]; done) | (simp [sp_bars, c_4, n_9]; done)) dX11_bars_12
set_option maxHeartbeats 4000000 in
set_option maxRecDepth 100000 in
theorem y_weight (l : Launch) (dC : Nat → ClassId) (dI : Nat → Nat → Nat) (g : Nat → Nat) (h : Nat → ClassId) (p0 : Int32) (p1 : Int32) (sz : Nat) : Ci l (dC, dI) yX11_weight cX11_weight 4 (some .int) { frames := 1, cells := 0, slots := 0, locals := 23 } [.ref (g 47), .int p0, .int p1] [(h 5, .int)] [zM g h, zMweight g h] sz 0 0 Unit (fun r _ => r = sp_weight p0 p1) (fun _ => []) (fun _ => []) := by
  refine Ci_of (lv := [(0, .ref (g 47)), (1, .int p0), (2, .int p1)]) (by decide) rfl rfl ?_
  intro p e s m below meth c A ls hx hb hml hr hown hta hlocks hnm hnw hP hD hK hS hA hl
  have hown : s.vm.findClass RX11 = some m.cls := hown
  refine lv_aload_n hx hb dX11_weight_0 rfl (lv_at hl 0 rfl) ?_
  refine lv_iload_n hx hb dX11_weight_1 rfl (lv_at hl 1 rfl) ?_
  refine lv_iconst (v := 0) hx hb dX11_weight_2 (by decide) ?_
  refine lv_iconst (v := 4) hx hb dX11_weight_3 (by decide) ?_
  refine kVi (b := (g 47)) (n := 3) (As := [.int p0, .int 0, .int 4]) (rest := []) ⟨hx, hb, hml, hown, hta⟩ hnw (m_in l dC dI g h p0 0 4  s.heap.size) cd_X11_in iz_X11 ml_X11_156 im_X11_in se_X11_X11_in (by decide +kernel) rfl (Nat.le_of_ble_eq_true rfl) (Nat.le_of_ble_eq_true rfl) rfl rfl (Nat.le_of_ble_eq_true rfl) (Nat.le_of_ble_eq_true rfl) hP hD hK hS hA [0] [1] [] rfl (wr := [zMweight g h]) rfl (by decide) (by decide) (by decide) rfl rfl 0 rfl hl.1 rfl (Nat.le_of_ble_eq_true rfl) dX11_weight_4 (fun r3 u1 H locs hw2 hP hD hK hS => ?_)
  have hP : va_P (dC, dI) vwCl [zMweight g h, zM g h] H := hP
  have hD : va_D A [zMweight g h, zM g h] := hD
  have hK : va_K (dC, dI) vwCl [(h 5, .int)] s := hK
  obtain rfl : r3 = if inB p0 0 4 then 1 else 0 := hw2
  refine lv_if_ne (tgt := 12) hx hb dX11_weight_7 (by decide) (fun c_4 => ?_) (fun c_4 => ?_)
  · have n_5 : (inB p0 0 4) = true := ite1 c_4
    refine lv_aload_n hx hb dX11_weight_12 rfl (lv_at hl 0 rfl) ?_
    refine lv_iload_n hx hb dX11_weight_13 rfl (lv_at hl 2 rfl) ?_
    refine lv_iconst (v := 0) hx hb dX11_weight_14 (by decide) ?_
    refine lv_bipush (v := 9) hx hb dX11_weight_15 (by decide) ?_
    refine kVi (b := (g 47)) (n := 3) (As := [.int p1, .int 0, .int 9]) (rest := []) ⟨hx, hb, hml, hown, hta⟩ hnw (m_in l dC dI g h p1 0 9  H.size) cd_X11_in iz_X11 ml_X11_156 im_X11_in se_X11_X11_in (by decide +kernel) rfl (Nat.le_of_ble_eq_true rfl) (Nat.le_of_ble_eq_true rfl) rfl rfl (Nat.le_of_ble_eq_true rfl) (Nat.le_of_ble_eq_true rfl) hP hD hK hS hA [1] [0] [] rfl (wr := [zMweight g h]) rfl (by decide) (by decide) (by decide) rfl rfl 0 rfl hl.1 rfl (Nat.le_of_ble_eq_true rfl) dX11_weight_17 (fun r8 u6 H locs hw7 hP hD hK hS => ?_)
    have hP : va_P (dC, dI) vwCl [zMweight g h, zM g h] H := hP
    have hD : va_D A [zMweight g h, zM g h] := hD
    have hK : va_K (dC, dI) vwCl [(h 5, .int)] s := hK
    obtain rfl : r8 = if inB p1 0 9 then 1 else 0 := hw7
    refine lv_if_ne (tgt := 26) hx hb dX11_weight_20 (by decide) (fun c_9 => ?_) (fun c_9 => ?_)
    · have n_10 : (inB p1 0 9) = true := ite1 c_9
      refine lv_aload_n hx hb dX11_weight_26 rfl (lv_at hl 0 rfl) ?_
      refine va_get (D := (dC, dI)) (ci := 10) (v := .ref (g 5)) (C := RX11) (T := TX11) (N := 47) hx hb hta inlX11 hown hK hP 1 rfl rfl 5 (by decide) (hta _ fl_X11_26) (fun _ h9 => h9) rfl dX11_weight_27 ?_
      refine lv_iload_n hx hb dX11_weight_30 rfl (lv_at hl 1 rfl) ?_
      refine va_iald hx hb hK hP 0 0 rfl rfl (vinB n_5 (by decide) (by decide)) dX11_weight_31 ?_
      refine k_top (y := 1) (fWe_v n_5) ?_
      refine lv_istore_n (lv' := [(3, .int 1), (0, .ref (g 47)), (1, .int p0), (2, .int p1)]) hx hb dX11_weight_32 rfl hl (by decide) rfl (fun ls hl => ?_)
      refine lv_aload_n hx hb dX11_weight_33 rfl (lv_at hl 1 rfl) ?_
      refine va_get (D := (dC, dI)) (ci := 10) (v := .ref (g 5)) (C := RX11) (T := TX11) (N := 47) hx hb hta inlX11 hown hK hP 1 rfl rfl 5 (by decide) (hta _ fl_X11_26) (fun _ h9 => h9) rfl dX11_weight_34 ?_
      refine lv_iload_n hx hb dX11_weight_37 rfl (lv_at hl 2 rfl) ?_
      refine lv_iload_n hx hb dX11_weight_38 rfl (lv_at hl 3 rfl) ?_
      refine va_iast hx hb hK hP hD hS 0 0 rfl rfl (vinB n_5 (by decide) (by decide)) dX11_weight_39 (fun H locs hP hD hS => ?_)
      have hP : va_P (dC, dI) vwCl [(g 5, .inl (h 5, 5, .inl (upd (upd (upd (upd (upd (upd (fun _ => 0) 0 1) 1 1) 2 1) 3 1) 4 1) ((p0 : Int32).toNatClampNeg) p1))), zM g h] H := hP
      have hD : va_D A [(g 5, .inl (h 5, 5, .inl (upd (upd (upd (upd (upd (upd (fun _ => 0) 0 1) 1 1) 2 1) 3 1) 4 1) ((p0 : Int32).toNatClampNeg) p1))), zM g h] := hD
      refine lv_aload_n hx hb dX11_weight_40 rfl (lv_at hl 1 rfl) ?_
      refine kVv (b := (g 47)) (n := 0) (As := []) (rest := []) ⟨hx, hb, hml, hown, hta⟩ hnw (m_forget l dC dI g h 0 0  H.size) cd_X11_forget iz_X11 ml_X11_164 im_X11_forget se_X11_X11_forget (by decide +kernel) rfl (Nat.le_of_ble_eq_true rfl) (Nat.le_of_ble_eq_true rfl) rfl rfl (Nat.le_of_ble_eq_true rfl) (Nat.le_of_ble_eq_true rfl) hP hD hK hS hA [1] [0] [] rfl (wr := [(g 5, .inl (h 5, 5, .inl (upd (upd (upd (upd (upd (upd (fun _ => 0) 0 1) 1 1) 2 1) 3 1) 4 1) ((p0 : Int32).toNatClampNeg) p1)))]) rfl (by decide) (by decide) (by decide) rfl rfl 0 rfl hl.1 rfl (Nat.le_of_ble_eq_true rfl) dX11_weight_41 (fun u11 H locs hw12 hP hD hK hS => ?_)
      have hP : va_P (dC, dI) vwCl [(g 5, .inl (h 5, 5, .inl (upd (upd (upd (upd (upd (upd (fun _ => 0) 0 1) 1 1) 2 1) 3 1) 4 1) ((p0 : Int32).toNatClampNeg) p1))), (g 47, .inr (10, [.int 0, .int 0, .ref (g 2), .ref (g 3), .ref (g 4), .ref (g 5), .ref (g 6), .int 0, .int 0, .ref (g 9), .ref (g 10), .ref (g 11), .ref (g 12), .ref (g 13), .int 0, .int 0, .ref (g 16), .ref (g 17), .ref (g 18), .ref (g 19), .ref (g 20), .ref (g 21), .ref (g 22), .ref (g 23), .ref (g 24), .ref (g 25), .ref (g 26), .ref (g 27), .ref (g 28), .ref (g 29), .int 0, .ref (g 31), .ref (g 32), .int 0, .int 0, .ref (g 35), .int 0, .ref (g 37), .ref (g 38), .int 0, .ref (g 40), .ref (g 41), .int 0, .ref (g 43), .ref (g 44), .ref (g 45), .int 0]))] H := hP
      have hD : va_D A [(g 5, .inl (h 5, 5, .inl (upd (upd (upd (upd (upd (upd (fun _ => 0) 0 1) 1 1) 2 1) 3 1) 4 1) ((p0 : Int32).toNatClampNeg) p1))), (g 47, .inr (10, [.int 0, .int 0, .ref (g 2), .ref (g 3), .ref (g 4), .ref (g 5), .ref (g 6), .int 0, .int 0, .ref (g 9), .ref (g 10), .ref (g 11), .ref (g 12), .ref (g 13), .int 0, .int 0, .ref (g 16), .ref (g 17), .ref (g 18), .ref (g 19), .ref (g 20), .ref (g 21), .ref (g 22), .ref (g 23), .ref (g 24), .ref (g 25), .ref (g 26), .ref (g 27), .ref (g 28), .ref (g 29), .int 0, .ref (g 31), .ref (g 32), .int 0, .int 0, .ref (g 35), .int 0, .ref (g 37), .ref (g 38), .int 0, .ref (g 40), .ref (g 41), .int 0, .ref (g 43), .ref (g 44), .ref (g 45), .int 0]))] := hD
      have hK : va_K (dC, dI) vwCl [(h 5, .int)] s := hK
      refine lv_iload_n hx hb dX11_weight_44 rfl (lv_at hl 0 rfl) ?_
      refine W.widen (k := 0) (n := 0) (Nat.le_of_ble_eq_true rfl) (Nat.le_of_ble_eq_true rfl) ?_
      exact k_iret () hx hb hr hlocks rfl P_nil D_nil (hK.sub (tys' := []) [] rfl) hS (by first | rfl | (simp [sp_weight, n_5, n_10]; done) | (simp [sp_weight, c_4, n_5, c_9, n_10]; done)) dX11_weight_45
    · have n_14 : (inB p1 0 9) = false := ite0 c_9
      refine lv_bipush (v := (-2)) hx hb dX11_weight_23 (by decide) ?_
      refine W.widen (k := 0) (n := 0) (Nat.le_of_ble_eq_true rfl) (Nat.le_of_ble_eq_true rfl) ?_
      exact k_iret () hx hb hr hlocks rfl P_nil D_nil (hK.sub (tys' := []) [] rfl) hS (by first | rfl | (simp [sp_weight, n_5, n_14]; done) | (simp [sp_weight, c_4, n_5, c_9, n_14]; done)) dX11_weight_25
  · have n_15 : (inB p0 0 4) = false := ite0 c_4
    refine lv_iconst (v := (-1)) hx hb dX11_weight_10 (by decide) ?_
    refine W.widen (k := 0) (n := 0) (Nat.le_of_ble_eq_true rfl) (Nat.le_of_ble_eq_true rfl) ?_
    exact k_iret () hx hb hr hlocks rfl P_nil D_nil (hK.sub (tys' := []) [] rfl) hS (by first | rfl | (simp [sp_weight, n_15]; done) | (simp [sp_weight, c_4, n_15]; done)) dX11_weight_11
set_option maxHeartbeats 4000000 in
set_option maxRecDepth 100000 in
theorem y_note (l : Launch) (dC : Nat → ClassId) (dI : Nat → Nat → Nat) (g : Nat → Nat) (h : Nat → ClassId) (p0 : Int32) (p1 : Int32) (p2 : Int32) (sz : Nat) : Ci l (dC, dI) yX11_note cX11_note 5 (some .int) { frames := 1, cells := 0, slots := 0, locals := 23 } [.ref (g 47), .int p0, .int p1, .int p2] [(h 10, .int), (h 11, .int), (h 12, .int), (h 13, .int)] [zM g h, zMpitch g h, zMkind g h, zMprice g h, zMfixed g h] sz 0 0 Unit (fun r _ => r = sp_note p0 p1 p2) (fun _ => []) (fun _ => []) := by
  refine Ci_of (lv := [(0, .ref (g 47)), (1, .int p0), (2, .int p1), (3, .int p2)]) (by decide) rfl rfl ?_
  intro p e s m below meth c A ls hx hb hml hr hown hta hlocks hnm hnw hP hD hK hS hA hl
  have hown : s.vm.findClass RX11 = some m.cls := hown
  refine lv_aload_n hx hb dX11_note_0 rfl (lv_at hl 0 rfl) ?_
  refine lv_iload_n hx hb dX11_note_1 rfl (lv_at hl 1 rfl) ?_
  refine lv_iconst (v := 0) hx hb dX11_note_2 (by decide) ?_
  refine lv_bipush (v := 120) hx hb dX11_note_3 (by decide) ?_
  refine kVi (b := (g 47)) (n := 3) (As := [.int p0, .int 0, .int 120]) (rest := []) ⟨hx, hb, hml, hown, hta⟩ hnw (m_in l dC dI g h p0 0 120  s.heap.size) cd_X11_in iz_X11 ml_X11_156 im_X11_in se_X11_X11_in (by decide +kernel) rfl (Nat.le_of_ble_eq_true rfl) (Nat.le_of_ble_eq_true rfl) rfl rfl (Nat.le_of_ble_eq_true rfl) (Nat.le_of_ble_eq_true rfl) hP hD hK hS hA [0] [1, 2, 3, 4] [] rfl (wr := [zMpitch g h, zMkind g h, zMprice g h, zMfixed g h]) rfl (by decide) (by decide) (by decide) rfl rfl 0 rfl hl.1 rfl (Nat.le_of_ble_eq_true rfl) dX11_note_5 (fun r3 u1 H locs hw2 hP hD hK hS => ?_)
  have hP : va_P (dC, dI) vwCl [zMpitch g h, zMkind g h, zMprice g h, zMfixed g h, zM g h] H := hP
  have hD : va_D A [zMpitch g h, zMkind g h, zMprice g h, zMfixed g h, zM g h] := hD
  have hK : va_K (dC, dI) vwCl [(h 10, .int), (h 11, .int), (h 12, .int), (h 13, .int)] s := hK
  obtain rfl : r3 = if inB p0 0 120 then 1 else 0 := hw2
  refine lv_if_eq (tgt := 32) hx hb dX11_note_8 (by decide) (fun c_4 => ?_) (fun c_4 => ?_)
  · have n_5 : (inB p0 0 120) = false := ite0 c_4
    refine lv_bipush (v := (-2)) hx hb dX11_note_32 (by decide) ?_
    refine W.widen (k := 0) (n := 0) (Nat.le_of_ble_eq_true rfl) (Nat.le_of_ble_eq_true rfl) ?_
    exact k_iret () hx hb hr hlocks rfl P_nil D_nil (hK.sub (tys' := []) [] rfl) hS (by simp [sp_note, n_5]) dX11_note_34
  · have n_6 : (inB p0 0 120) = true := ite1 c_4
    refine lv_aload_n hx hb dX11_note_11 rfl (lv_at hl 0 rfl) ?_
    refine lv_iload_n hx hb dX11_note_12 rfl (lv_at hl 2 rfl) ?_
    refine lv_iconst (v := 0) hx hb dX11_note_13 (by decide) ?_
    refine lv_iconst (v := 3) hx hb dX11_note_14 (by decide) ?_
    refine kVi (b := (g 47)) (n := 3) (As := [.int p1, .int 0, .int 3]) (rest := []) ⟨hx, hb, hml, hown, hta⟩ hnw (m_in l dC dI g h p1 0 3  H.size) cd_X11_in iz_X11 ml_X11_156 im_X11_in se_X11_X11_in (by decide +kernel) rfl (Nat.le_of_ble_eq_true rfl) (Nat.le_of_ble_eq_true rfl) rfl rfl (Nat.le_of_ble_eq_true rfl) (Nat.le_of_ble_eq_true rfl) hP hD hK hS hA [4] [0, 1, 2, 3] [] rfl (wr := [zMpitch g h, zMkind g h, zMprice g h, zMfixed g h]) rfl (by decide) (by decide) (by decide) rfl rfl 0 rfl hl.1 rfl (Nat.le_of_ble_eq_true rfl) dX11_note_15 (fun r9 u7 H locs hw8 hP hD hK hS => ?_)
    have hP : va_P (dC, dI) vwCl [zMpitch g h, zMkind g h, zMprice g h, zMfixed g h, zM g h] H := hP
    have hD : va_D A [zMpitch g h, zMkind g h, zMprice g h, zMfixed g h, zM g h] := hD
    have hK : va_K (dC, dI) vwCl [(h 10, .int), (h 11, .int), (h 12, .int), (h 13, .int)] s := hK
    obtain rfl : r9 = if inB p1 0 3 then 1 else 0 := hw8
    refine lv_if_eq (tgt := 32) hx hb dX11_note_18 (by decide) (fun c_10 => ?_) (fun c_10 => ?_)
    · have n_11 : (inB p1 0 3) = false := ite0 c_10
      refine lv_bipush (v := (-2)) hx hb dX11_note_32 (by decide) ?_
      refine W.widen (k := 0) (n := 0) (Nat.le_of_ble_eq_true rfl) (Nat.le_of_ble_eq_true rfl) ?_
      exact k_iret () hx hb hr hlocks rfl P_nil D_nil (hK.sub (tys' := []) [] rfl) hS (by simp [sp_note, n_6, n_11]) dX11_note_34
    · have n_12 : (inB p1 0 3) = true := ite1 c_10
      refine lv_aload_n hx hb dX11_note_21 rfl (lv_at hl 0 rfl) ?_
      refine lv_iload_n hx hb dX11_note_22 rfl (lv_at hl 3 rfl) ?_
      refine lv_iconst (v := 0) hx hb dX11_note_23 (by decide) ?_
      refine lv_bipush (v := 100) hx hb dX11_note_24 (by decide) ?_
      refine kVi (b := (g 47)) (n := 3) (As := [.int p2, .int 0, .int 100]) (rest := []) ⟨hx, hb, hml, hown, hta⟩ hnw (m_in l dC dI g h p2 0 100  H.size) cd_X11_in iz_X11 ml_X11_156 im_X11_in se_X11_X11_in (by decide +kernel) rfl (Nat.le_of_ble_eq_true rfl) (Nat.le_of_ble_eq_true rfl) rfl rfl (Nat.le_of_ble_eq_true rfl) (Nat.le_of_ble_eq_true rfl) hP hD hK hS hA [4] [0, 1, 2, 3] [] rfl (wr := [zMpitch g h, zMkind g h, zMprice g h, zMfixed g h]) rfl (by decide) (by decide) (by decide) rfl rfl 0 rfl hl.1 rfl (Nat.le_of_ble_eq_true rfl) dX11_note_26 (fun r15 u13 H locs hw14 hP hD hK hS => ?_)
      have hP : va_P (dC, dI) vwCl [zMpitch g h, zMkind g h, zMprice g h, zMfixed g h, zM g h] H := hP
      have hD : va_D A [zMpitch g h, zMkind g h, zMprice g h, zMfixed g h, zM g h] := hD
      have hK : va_K (dC, dI) vwCl [(h 10, .int), (h 11, .int), (h 12, .int), (h 13, .int)] s := hK
      obtain rfl : r15 = if inB p2 0 100 then 1 else 0 := hw14
      refine lv_if_ne (tgt := 35) hx hb dX11_note_29 (by decide) (fun c_16 => ?_) (fun c_16 => ?_)
      · have n_17 : (inB p2 0 100) = true := ite1 c_16
        refine lv_iconst (v := 0) hx hb dX11_note_35 (by decide) ?_
        refine lv_istore (lv' := [(4, .int 0), (0, .ref (g 47)), (1, .int p0), (2, .int p1), (3, .int p2)]) hx hb dX11_note_36 hl (by decide) rfl (fun ls hl => ?_)
        refine lv_iload hx hb dX11_note_38 (lv_at hl 0 rfl) ?_
        refine lv_aload_n hx hb dX11_note_40 rfl (lv_at hl 1 rfl) ?_
        refine va_get (D := (dC, dI)) (ci := 10) (v := .int 0) (C := RX11) (T := TX11) (N := 47) hx hb hta inlX11 hown hK hP 4 rfl rfl 8 (by decide) (hta _ fl_X11_35) (fun _ h9 => h9) rfl dX11_note_41 ?_
        refine lv_icmp_ge (tgt := 75) hx hb dX11_note_44 (by decide) (fun _ => ?_) (fun c => absurd (by decide) c)
        refine lv_iload_n hx hb dX11_note_75 rfl (lv_at hl 3 rfl) ?_
        refine lv_iconst (v := 1) hx hb dX11_note_76 (by decide) ?_
        refine lv_icmp_ne (tgt := 101) hx hb dX11_note_77 (by decide) (fun c_18 => ?_) (fun c_18 => ?_)
        · refine lv_iload_n hx hb dX11_note_101 rfl (lv_at hl 3 rfl) ?_
          refine lv_iconst (v := 2) hx hb dX11_note_102 (by decide) ?_
          refine lv_icmp_ne (tgt := 130) hx hb dX11_note_103 (by decide) (fun c_19 => ?_) (fun c_19 => ?_)
          · refine lv_aload_n hx hb dX11_note_130 rfl (lv_at hl 1 rfl) ?_
            refine va_get (D := (dC, dI)) (ci := 10) (v := .int 0) (C := RX11) (T := TX11) (N := 47) hx hb hta inlX11 hown hK hP 4 rfl rfl 8 (by decide) (hta _ fl_X11_35) (fun _ h9 => h9) rfl dX11_note_131 ?_
            refine lv_iconst (v := 4) hx hb dX11_note_134 (by decide) ?_
            refine lv_icmp_ne (tgt := 141) hx hb dX11_note_135 (by decide) (fun _ => ?_) (fun c => absurd c (by decide))
            refine lv_aload_n hx hb dX11_note_141 rfl (lv_at hl 1 rfl) ?_
            refine lv_aload_n hx hb dX11_note_142 rfl (lv_at hl 1 rfl) ?_
            refine va_get (D := (dC, dI)) (ci := 10) (v := .int 0) (C := RX11) (T := TX11) (N := 47) hx hb hta inlX11 hown hK hP 4 rfl rfl 7 (by decide) (hta _ fl_X11_32) (fun _ h9 => h9) rfl dX11_note_143 ?_
            refine lv_aload_n hx hb dX11_note_146 rfl (lv_at hl 1 rfl) ?_
            refine va_get (D := (dC, dI)) (ci := 10) (v := .int 0) (C := RX11) (T := TX11) (N := 47) hx hb hta inlX11 hown hK hP 4 rfl rfl 8 (by decide) (hta _ fl_X11_35) (fun _ h9 => h9) rfl dX11_note_147 ?_
            refine kVi (b := (g 47)) (n := 2) (As := [.int 0, .int 0]) (rest := []) ⟨hx, hb, hml, hown, hta⟩ hnw (m_spot l dC dI g h 0 0  H.size) cd_X11_spot iz_X11 ml_X11_170 im_X11_spot se_X11_X11_spot (by decide +kernel) rfl (Nat.le_of_ble_eq_true rfl) (Nat.le_of_ble_eq_true rfl) rfl rfl (Nat.le_of_ble_eq_true rfl) (Nat.le_of_ble_eq_true rfl) hP hD hK hS hA [4] [0, 1, 2, 3] [] rfl (wr := [zMpitch g h, zMkind g h, zMprice g h, zMfixed g h]) rfl (by decide) (by decide) (by decide) rfl rfl 0 rfl hl.1 rfl (Nat.le_of_ble_eq_true rfl) dX11_note_150 (fun r22 u20 H locs hw21 hP hD hK hS => ?_)
            have hP : va_P (dC, dI) vwCl [zMpitch g h, zMkind g h, zMprice g h, zMfixed g h, zM g h] H := hP
            have hD : va_D A [zMpitch g h, zMkind g h, zMprice g h, zMfixed g h, zM g h] := hD
            have hK : va_K (dC, dI) vwCl [(h 10, .int), (h 11, .int), (h 12, .int), (h 13, .int)] s := hK
            obtain rfl : r22 = 0 := hw21.trans (by decide)
            refine lv_istore (lv' := [(4, .int 0), (0, .ref (g 47)), (1, .int p0), (2, .int p1), (3, .int p2)]) hx hb dX11_note_153 hl (by decide) rfl (fun ls hl => ?_)
            refine lv_aload_n hx hb dX11_note_155 rfl (lv_at hl 1 rfl) ?_
            refine va_get (D := (dC, dI)) (ci := 10) (v := .ref (g 10)) (C := RX11) (T := TX11) (N := 47) hx hb hta inlX11 hown hK hP 4 rfl rfl 10 (by decide) (hta _ fl_X11_41) (fun _ h9 => h9) rfl dX11_note_156 ?_
            refine lv_iload hx hb dX11_note_159 (lv_at hl 0 rfl) ?_
            refine lv_iload_n hx hb dX11_note_161 rfl (lv_at hl 2 rfl) ?_
            refine va_iast hx hb hK hP hD hS 0 0 rfl rfl (vin (by decide)) dX11_note_162 (fun H locs hP hD hS => ?_)
            have hP : va_P (dC, dI) vwCl [(g 10, .inl (h 10, 68, .inl (upd (fun _ => 0) 0 p0))), zMkind g h, zMprice g h, zMfixed g h, zM g h] H := hP
            have hD : va_D A [(g 10, .inl (h 10, 68, .inl (upd (fun _ => 0) 0 p0))), zMkind g h, zMprice g h, zMfixed g h, zM g h] := hD
            refine lv_aload_n hx hb dX11_note_163 rfl (lv_at hl 1 rfl) ?_
            refine va_get (D := (dC, dI)) (ci := 10) (v := .ref (g 11)) (C := RX11) (T := TX11) (N := 47) hx hb hta inlX11 hown hK hP 4 rfl rfl 11 (by decide) (hta _ fl_X11_44) (fun _ h9 => h9) rfl dX11_note_164 ?_
            refine lv_iload hx hb dX11_note_167 (lv_at hl 0 rfl) ?_
            refine lv_iload_n hx hb dX11_note_169 rfl (lv_at hl 3 rfl) ?_
            refine va_iast hx hb hK hP hD hS 1 1 rfl rfl (vin (by decide)) dX11_note_170 (fun H locs hP hD hS => ?_)
            have hP : va_P (dC, dI) vwCl [(g 10, .inl (h 10, 68, .inl (upd (fun _ => 0) 0 p0))), (g 11, .inl (h 11, 68, .inl (upd (fun _ => 0) 0 p1))), zMprice g h, zMfixed g h, zM g h] H := hP
            have hD : va_D A [(g 10, .inl (h 10, 68, .inl (upd (fun _ => 0) 0 p0))), (g 11, .inl (h 11, 68, .inl (upd (fun _ => 0) 0 p1))), zMprice g h, zMfixed g h, zM g h] := hD
            refine lv_aload_n hx hb dX11_note_171 rfl (lv_at hl 1 rfl) ?_
            refine va_get (D := (dC, dI)) (ci := 10) (v := .ref (g 12)) (C := RX11) (T := TX11) (N := 47) hx hb hta inlX11 hown hK hP 4 rfl rfl 12 (by decide) (hta _ fl_X11_47) (fun _ h9 => h9) rfl dX11_note_172 ?_
            refine lv_iload hx hb dX11_note_175 (lv_at hl 0 rfl) ?_
            refine lv_iload_n hx hb dX11_note_177 rfl (lv_at hl 4 rfl) ?_
            refine va_iast hx hb hK hP hD hS 2 2 rfl rfl (vin (by decide)) dX11_note_178 (fun H locs hP hD hS => ?_)
            have hP : va_P (dC, dI) vwCl [(g 10, .inl (h 10, 68, .inl (upd (fun _ => 0) 0 p0))), (g 11, .inl (h 11, 68, .inl (upd (fun _ => 0) 0 p1))), (g 12, .inl (h 12, 68, .inl (upd (fun _ => 0) 0 p2))), zMfixed g h, zM g h] H := hP
            have hD : va_D A [(g 10, .inl (h 10, 68, .inl (upd (fun _ => 0) 0 p0))), (g 11, .inl (h 11, 68, .inl (upd (fun _ => 0) 0 p1))), (g 12, .inl (h 12, 68, .inl (upd (fun _ => 0) 0 p2))), zMfixed g h, zM g h] := hD
            refine lv_aload_n hx hb dX11_note_179 rfl (lv_at hl 1 rfl) ?_
            refine va_get (D := (dC, dI)) (ci := 10) (v := .ref (g 13)) (C := RX11) (T := TX11) (N := 47) hx hb hta inlX11 hown hK hP 4 rfl rfl 13 (by decide) (hta _ fl_X11_50) (fun _ h9 => h9) rfl dX11_note_180 ?_
            refine lv_iload hx hb dX11_note_183 (lv_at hl 0 rfl) ?_
            refine lv_iconst (v := (-1)) hx hb dX11_note_185 (by decide) ?_
            refine va_iast hx hb hK hP hD hS 3 3 rfl rfl (vin (by decide)) dX11_note_186 (fun H locs hP hD hS => ?_)
            have hP : va_P (dC, dI) vwCl [(g 10, .inl (h 10, 68, .inl (upd (fun _ => 0) 0 p0))), (g 11, .inl (h 11, 68, .inl (upd (fun _ => 0) 0 p1))), (g 12, .inl (h 12, 68, .inl (upd (fun _ => 0) 0 p2))), (g 13, .inl (h 13, 68, .inl (upd (fun _ => 0) 0 (-1)))), zM g h] H := hP
            have hD : va_D A [(g 10, .inl (h 10, 68, .inl (upd (fun _ => 0) 0 p0))), (g 11, .inl (h 11, 68, .inl (upd (fun _ => 0) 0 p1))), (g 12, .inl (h 12, 68, .inl (upd (fun _ => 0) 0 p2))), (g 13, .inl (h 13, 68, .inl (upd (fun _ => 0) 0 (-1)))), zM g h] := hD
            refine lv_aload_n hx hb dX11_note_187 rfl (lv_at hl 1 rfl) ?_
            refine lv_dup hx hb dX11_note_188 rfl ?_
            refine va_get (D := (dC, dI)) (ci := 10) (v := .int 0) (C := RX11) (T := TX11) (N := 47) hx hb hta inlX11 hown hK hP 4 rfl rfl 8 (by decide) (hta _ fl_X11_35) (fun _ h9 => h9) rfl dX11_note_189 ?_
            refine lv_iconst (v := 1) hx hb dX11_note_192 (by decide) ?_
            refine lv_iadd hx hb dX11_note_193 ?_
            refine k_top (y := 1) (by decide) ?_
            refine va_put (D := (dC, dI)) (ci := 10) (v := .int 1) (ty := .int) (C := RX11) (T := TX11) (N := 47) hx hb hta inlX11 tyX11 tyX11_ok nmX11 hown hK hP hD hS 4 rfl rfl 8 (by decide) (hta _ fl_X11_35) (fun _ h9 => h9) rfl (by decide +kernel) rfl rfl (Nat.le_of_ble_eq_true rfl) dX11_note_194 (fun H locs hP hD hS => ?_)
            have hP : va_P (dC, dI) vwCl [(g 10, .inl (h 10, 68, .inl (upd (fun _ => 0) 0 p0))), (g 11, .inl (h 11, 68, .inl (upd (fun _ => 0) 0 p1))), (g 12, .inl (h 12, 68, .inl (upd (fun _ => 0) 0 p2))), (g 13, .inl (h 13, 68, .inl (upd (fun _ => 0) 0 (-1)))), (g 47, .inr (10, [.int 0, .int 0, .ref (g 2), .ref (g 3), .ref (g 4), .ref (g 5), .ref (g 6), .int 0, .int 1, .ref (g 9), .ref (g 10), .ref (g 11), .ref (g 12), .ref (g 13), .int 0, .int 0, .ref (g 16), .ref (g 17), .ref (g 18), .ref (g 19), .ref (g 20), .ref (g 21), .ref (g 22), .ref (g 23), .ref (g 24), .ref (g 25), .ref (g 26), .ref (g 27), .ref (g 28), .ref (g 29), .int 0, .ref (g 31), .ref (g 32), .int 0, .int 0, .ref (g 35), .int 0, .ref (g 37), .ref (g 38), .int 0, .ref (g 40), .ref (g 41), .int 0, .ref (g 43), .ref (g 44), .ref (g 45), .int 0]))] H := hP
            have hD : va_D A [(g 10, .inl (h 10, 68, .inl (upd (fun _ => 0) 0 p0))), (g 11, .inl (h 11, 68, .inl (upd (fun _ => 0) 0 p1))), (g 12, .inl (h 12, 68, .inl (upd (fun _ => 0) 0 p2))), (g 13, .inl (h 13, 68, .inl (upd (fun _ => 0) 0 (-1)))), (g 47, .inr (10, [.int 0, .int 0, .ref (g 2), .ref (g 3), .ref (g 4), .ref (g 5), .ref (g 6), .int 0, .int 1, .ref (g 9), .ref (g 10), .ref (g 11), .ref (g 12), .ref (g 13), .int 0, .int 0, .ref (g 16), .ref (g 17), .ref (g 18), .ref (g 19), .ref (g 20), .ref (g 21), .ref (g 22), .ref (g 23), .ref (g 24), .ref (g 25), .ref (g 26), .ref (g 27), .ref (g 28), .ref (g 29), .int 0, .ref (g 31), .ref (g 32), .int 0, .int 0, .ref (g 35), .int 0, .ref (g 37), .ref (g 38), .int 0, .ref (g 40), .ref (g 41), .int 0, .ref (g 43), .ref (g 44), .ref (g 45), .int 0]))] := hD
            refine lv_aload_n hx hb dX11_note_197 rfl (lv_at hl 1 rfl) ?_
            refine va_get (D := (dC, dI)) (ci := 10) (v := .int 1) (C := RX11) (T := TX11) (N := 47) hx hb hta inlX11 hown hK hP 4 rfl rfl 8 (by decide) (hta _ fl_X11_35) (fun _ h9 => h9) rfl dX11_note_198 ?_
            refine W.widen (k := 0) (n := 0) (Nat.le_of_ble_eq_true rfl) (Nat.le_of_ble_eq_true rfl) ?_
            exact k_iret () hx hb hr hlocks rfl P_nil D_nil (hK.sub (tys' := []) [] rfl) hS (by have ht : tiedB p1 = false := (by simp [tiedB, c_18, c_19]); simp [sp_note, ht, n_6, n_12, n_17]) dX11_note_201
          · refine lv_aload_n hx hb dX11_note_106 rfl (lv_at hl 1 rfl) ?_
            refine va_get (D := (dC, dI)) (ci := 10) (v := .int 0) (C := RX11) (T := TX11) (N := 47) hx hb hta inlX11 hown hK hP 4 rfl rfl 7 (by decide) (hta _ fl_X11_32) (fun _ h9 => h9) rfl dX11_note_107 ?_
            refine lv_if_eq (tgt := 127) hx hb dX11_note_110 (by decide) (fun _ => ?_) (fun c => absurd (by decide) c)
            refine lv_bipush (v := (-3)) hx hb dX11_note_127 (by decide) ?_
            refine W.widen (k := 0) (n := 0) (Nat.le_of_ble_eq_true rfl) (Nat.le_of_ble_eq_true rfl) ?_
            exact k_iret () hx hb hr hlocks rfl P_nil D_nil (hK.sub (tys' := []) [] rfl) hS (by have ht : tiedB p1 = true := (by simp [tiedB, c_18, c_19]); simp [sp_note, ht, n_6, n_12, n_17]) dX11_note_129
        · refine lv_aload_n hx hb dX11_note_80 rfl (lv_at hl 1 rfl) ?_
          refine va_get (D := (dC, dI)) (ci := 10) (v := .int 0) (C := RX11) (T := TX11) (N := 47) hx hb hta inlX11 hown hK hP 4 rfl rfl 7 (by decide) (hta _ fl_X11_32) (fun _ h9 => h9) rfl dX11_note_81 ?_
          refine lv_if_eq (tgt := 127) hx hb dX11_note_84 (by decide) (fun _ => ?_) (fun c => absurd (by decide) c)
          refine lv_bipush (v := (-3)) hx hb dX11_note_127 (by decide) ?_
          refine W.widen (k := 0) (n := 0) (Nat.le_of_ble_eq_true rfl) (Nat.le_of_ble_eq_true rfl) ?_
          exact k_iret () hx hb hr hlocks rfl P_nil D_nil (hK.sub (tys' := []) [] rfl) hS (by have ht : tiedB p1 = true := (by simp [tiedB, c_18]); simp [sp_note, ht, n_6, n_12, n_17]) dX11_note_129
      · have n_23 : (inB p2 0 100) = false := ite0 c_16
        refine lv_bipush (v := (-2)) hx hb dX11_note_32 (by decide) ?_
        refine W.widen (k := 0) (n := 0) (Nat.le_of_ble_eq_true rfl) (Nat.le_of_ble_eq_true rfl) ?_
        exact k_iret () hx hb hr hlocks rfl P_nil D_nil (hK.sub (tys' := []) [] rfl) hS (by simp [sp_note, n_6, n_12, n_23]) dX11_note_34
set_option maxHeartbeats 4000000 in
set_option maxRecDepth 100000 in
theorem y_tick (l : Launch) (dC : Nat → ClassId) (dI : Nat → Nat → Nat) (g : Nat → Nat) (h : Nat → ClassId) (sz : Nat) : Ci l (dC, dI) yX11_tick cX11_tick 1 (some .int) { frames := 0, cells := 0, slots := 0, locals := 0 } [.ref (g 47)] [] [zM g h] sz 0 0 Unit (fun r _ => r = (-3)) (fun _ => []) (fun _ => []) := by
  refine Ci_of (lv := [(0, .ref (g 47))]) (by decide) rfl rfl ?_
  intro p e s m below meth c A ls hx hb hml hr hown hta hlocks hnm hnw hP hD hK hS hA hl
  have hown : s.vm.findClass RX11 = some m.cls := hown
  refine lv_aload_n hx hb dX11_tick_0 rfl (lv_at hl 0 rfl) ?_
  refine va_get (D := (dC, dI)) (ci := 10) (v := .int 0) (C := RX11) (T := TX11) (N := 47) hx hb hta inlX11 hown hK hP 0 rfl rfl 0 (by decide) (hta _ fl_X11_7) (fun _ h9 => h9) rfl dX11_tick_1 ?_
  refine lv_if_ne (tgt := 10) hx hb dX11_tick_4 (by decide) (fun c => absurd c (by decide)) (fun _ => ?_)
  refine lv_bipush (v := (-3)) hx hb dX11_tick_7 (by decide) ?_
  refine W.widen (k := 0) (n := 0) (Nat.le_of_ble_eq_true rfl) (Nat.le_of_ble_eq_true rfl) ?_
  exact k_iret () hx hb hr hlocks rfl P_nil D_nil (hK.sub (tys' := []) [] rfl) hS rfl dX11_tick_9
set_option maxHeartbeats 4000000 in
set_option maxRecDepth 100000 in
theorem y_clear (l : Launch) (dC : Nat → ClassId) (dI : Nat → Nat → Nat) (g : Nat → Nat) (h : Nat → ClassId) (sz : Nat) : Ci l (dC, dI) yX11_clear cX11_clear 2 (some .int) { frames := 1, cells := 0, slots := 0, locals := 20 } [.ref (g 47)] [] [zM g h] sz 0 0 Unit (fun r _ => r = 0) (fun _ => []) (fun _ => []) := by
  refine Ci_of (lv := [(0, .ref (g 47))]) (by decide) rfl rfl ?_
  intro p e s m below meth c A ls hx hb hml hr hown hta hlocks hnm hnw hP hD hK hS hA hl
  have hown : s.vm.findClass RX11 = some m.cls := hown
  refine lv_aload_n hx hb dX11_clear_0 rfl (lv_at hl 0 rfl) ?_
  refine va_get (D := (dC, dI)) (ci := 10) (v := .int 0) (C := RX11) (T := TX11) (N := 47) hx hb hta inlX11 hown hK hP 0 rfl rfl 7 (by decide) (hta _ fl_X11_32) (fun _ h9 => h9) rfl dX11_clear_1 ?_
  refine lv_istore_n (lv' := [(1, .int 0), (0, .ref (g 47))]) hx hb dX11_clear_4 rfl hl (by decide) rfl (fun ls hl => ?_)
  refine lv_aload_n hx hb dX11_clear_5 rfl (lv_at hl 1 rfl) ?_
  refine lv_iconst (v := 0) hx hb dX11_clear_6 (by decide) ?_
  refine va_put (D := (dC, dI)) (ci := 10) (v := .int 0) (ty := .int) (C := RX11) (T := TX11) (N := 47) hx hb hta inlX11 tyX11 tyX11_ok nmX11 hown hK hP hD hS 0 rfl rfl 7 (by decide) (hta _ fl_X11_32) (fun _ h9 => h9) rfl (by decide +kernel) rfl rfl (Nat.le_of_ble_eq_true rfl) dX11_clear_7 (fun H locs hP hD hS => ?_)
  have hP : va_P (dC, dI) vwCl [(g 47, .inr (10, [.int 0, .int 0, .ref (g 2), .ref (g 3), .ref (g 4), .ref (g 5), .ref (g 6), .int 0, .int 0, .ref (g 9), .ref (g 10), .ref (g 11), .ref (g 12), .ref (g 13), .int 0, .int 0, .ref (g 16), .ref (g 17), .ref (g 18), .ref (g 19), .ref (g 20), .ref (g 21), .ref (g 22), .ref (g 23), .ref (g 24), .ref (g 25), .ref (g 26), .ref (g 27), .ref (g 28), .ref (g 29), .int 0, .ref (g 31), .ref (g 32), .int 0, .int 0, .ref (g 35), .int 0, .ref (g 37), .ref (g 38), .int 0, .ref (g 40), .ref (g 41), .int 0, .ref (g 43), .ref (g 44), .ref (g 45), .int 0]))] H := hP
  have hD : va_D A [(g 47, .inr (10, [.int 0, .int 0, .ref (g 2), .ref (g 3), .ref (g 4), .ref (g 5), .ref (g 6), .int 0, .int 0, .ref (g 9), .ref (g 10), .ref (g 11), .ref (g 12), .ref (g 13), .int 0, .int 0, .ref (g 16), .ref (g 17), .ref (g 18), .ref (g 19), .ref (g 20), .ref (g 21), .ref (g 22), .ref (g 23), .ref (g 24), .ref (g 25), .ref (g 26), .ref (g 27), .ref (g 28), .ref (g 29), .int 0, .ref (g 31), .ref (g 32), .int 0, .int 0, .ref (g 35), .int 0, .ref (g 37), .ref (g 38), .int 0, .ref (g 40), .ref (g 41), .int 0, .ref (g 43), .ref (g 44), .ref (g 45), .int 0]))] := hD
  refine lv_aload_n hx hb dX11_clear_10 rfl (lv_at hl 1 rfl) ?_
  refine lv_iconst (v := 0) hx hb dX11_clear_11 (by decide) ?_
  refine va_put (D := (dC, dI)) (ci := 10) (v := .int 0) (ty := .int) (C := RX11) (T := TX11) (N := 47) hx hb hta inlX11 tyX11 tyX11_ok nmX11 hown hK hP hD hS 0 rfl rfl 8 (by decide) (hta _ fl_X11_35) (fun _ h9 => h9) rfl (by decide +kernel) rfl rfl (Nat.le_of_ble_eq_true rfl) dX11_clear_12 (fun H locs hP hD hS => ?_)
  have hP : va_P (dC, dI) vwCl [(g 47, .inr (10, [.int 0, .int 0, .ref (g 2), .ref (g 3), .ref (g 4), .ref (g 5), .ref (g 6), .int 0, .int 0, .ref (g 9), .ref (g 10), .ref (g 11), .ref (g 12), .ref (g 13), .int 0, .int 0, .ref (g 16), .ref (g 17), .ref (g 18), .ref (g 19), .ref (g 20), .ref (g 21), .ref (g 22), .ref (g 23), .ref (g 24), .ref (g 25), .ref (g 26), .ref (g 27), .ref (g 28), .ref (g 29), .int 0, .ref (g 31), .ref (g 32), .int 0, .int 0, .ref (g 35), .int 0, .ref (g 37), .ref (g 38), .int 0, .ref (g 40), .ref (g 41), .int 0, .ref (g 43), .ref (g 44), .ref (g 45), .int 0]))] H := hP
  have hD : va_D A [(g 47, .inr (10, [.int 0, .int 0, .ref (g 2), .ref (g 3), .ref (g 4), .ref (g 5), .ref (g 6), .int 0, .int 0, .ref (g 9), .ref (g 10), .ref (g 11), .ref (g 12), .ref (g 13), .int 0, .int 0, .ref (g 16), .ref (g 17), .ref (g 18), .ref (g 19), .ref (g 20), .ref (g 21), .ref (g 22), .ref (g 23), .ref (g 24), .ref (g 25), .ref (g 26), .ref (g 27), .ref (g 28), .ref (g 29), .int 0, .ref (g 31), .ref (g 32), .int 0, .int 0, .ref (g 35), .int 0, .ref (g 37), .ref (g 38), .int 0, .ref (g 40), .ref (g 41), .int 0, .ref (g 43), .ref (g 44), .ref (g 45), .int 0]))] := hD
  refine lv_aload_n hx hb dX11_clear_15 rfl (lv_at hl 1 rfl) ?_
  refine kVv (b := (g 47)) (n := 0) (As := []) (rest := []) ⟨hx, hb, hml, hown, hta⟩ hnw (m_forget l dC dI g h 0 0  H.size) cd_X11_forget iz_X11 ml_X11_164 im_X11_forget se_X11_X11_forget (by decide +kernel) rfl (Nat.le_of_ble_eq_true rfl) (Nat.le_of_ble_eq_true rfl) rfl rfl (Nat.le_of_ble_eq_true rfl) (Nat.le_of_ble_eq_true rfl) hP hD hK hS hA [0] [] [] rfl (wr := []) rfl (by decide) (by decide) (by decide) rfl rfl 0 rfl hl.1 rfl (Nat.le_of_ble_eq_true rfl) dX11_clear_16 (fun u1 H locs hw2 hP hD hK hS => ?_)
  have hP : va_P (dC, dI) vwCl [(g 47, .inr (10, [.int 0, .int 0, .ref (g 2), .ref (g 3), .ref (g 4), .ref (g 5), .ref (g 6), .int 0, .int 0, .ref (g 9), .ref (g 10), .ref (g 11), .ref (g 12), .ref (g 13), .int 0, .int 0, .ref (g 16), .ref (g 17), .ref (g 18), .ref (g 19), .ref (g 20), .ref (g 21), .ref (g 22), .ref (g 23), .ref (g 24), .ref (g 25), .ref (g 26), .ref (g 27), .ref (g 28), .ref (g 29), .int 0, .ref (g 31), .ref (g 32), .int 0, .int 0, .ref (g 35), .int 0, .ref (g 37), .ref (g 38), .int 0, .ref (g 40), .ref (g 41), .int 0, .ref (g 43), .ref (g 44), .ref (g 45), .int 0]))] H := hP
  have hD : va_D A [(g 47, .inr (10, [.int 0, .int 0, .ref (g 2), .ref (g 3), .ref (g 4), .ref (g 5), .ref (g 6), .int 0, .int 0, .ref (g 9), .ref (g 10), .ref (g 11), .ref (g 12), .ref (g 13), .int 0, .int 0, .ref (g 16), .ref (g 17), .ref (g 18), .ref (g 19), .ref (g 20), .ref (g 21), .ref (g 22), .ref (g 23), .ref (g 24), .ref (g 25), .ref (g 26), .ref (g 27), .ref (g 28), .ref (g 29), .int 0, .ref (g 31), .ref (g 32), .int 0, .int 0, .ref (g 35), .int 0, .ref (g 37), .ref (g 38), .int 0, .ref (g 40), .ref (g 41), .int 0, .ref (g 43), .ref (g 44), .ref (g 45), .int 0]))] := hD
  have hK : va_K (dC, dI) vwCl [] s := hK
  refine lv_iload_n hx hb dX11_clear_19 rfl (lv_at hl 0 rfl) ?_
  refine W.widen (k := 0) (n := 0) (Nat.le_of_ble_eq_true rfl) (Nat.le_of_ble_eq_true rfl) ?_
  exact k_iret () hx hb hr hlocks rfl P_nil D_nil (hK.sub (tys' := []) [] rfl) hS rfl dX11_clear_20
set_option maxHeartbeats 4000000 in
set_option maxRecDepth 100000 in
theorem y_fix (l : Launch) (dC : Nat → ClassId) (dI : Nat → Nat → Nat) (g : Nat → Nat) (h : Nat → ClassId) (p0 : Int32) (p1 : Int32) (p2 : Int32) (sz : Nat) : Ci l (dC, dI) yX11_fix cX11_fix 5 (some .int) { frames := 3, cells := 0, slots := 0, locals := 66 } [.ref (g 47), .int p0, .int p1, .int p2] [] [zM g h] sz 0 0 Unit (fun r _ => r = (-1)) (fun _ => []) (fun _ => []) := by
  refine Ci_of (lv := [(0, .ref (g 47)), (1, .int p0), (2, .int p1), (3, .int p2)]) (by decide) rfl rfl ?_
  intro p e s m below meth c A ls hx hb hml hr hown hta hlocks hnm hnw hP hD hK hS hA hl
  have hown : s.vm.findClass RX11 = some m.cls := hown
  refine lv_aload_n hx hb dX11_fix_0 rfl (lv_at hl 0 rfl) ?_
  refine lv_iload_n hx hb dX11_fix_1 rfl (lv_at hl 1 rfl) ?_
  refine lv_iload_n hx hb dX11_fix_2 rfl (lv_at hl 2 rfl) ?_
  refine kVi (b := (g 47)) (n := 2) (As := [.int p0, .int p1]) (rest := []) ⟨hx, hb, hml, hown, hta⟩ hnw (m_isNote l dC dI g h p0 p1  s.heap.size) cd_X11_isNote iz_X11 ml_X11_177 im_X11_isNote se_X11_X11_isNote (by decide +kernel) rfl (Nat.le_of_ble_eq_true rfl) (Nat.le_of_ble_eq_true rfl) rfl rfl (Nat.le_of_ble_eq_true rfl) (Nat.le_of_ble_eq_true rfl) hP hD hK hS hA [0] [] [] rfl (wr := []) rfl (by decide) (by decide) (by decide) rfl rfl 0 rfl hl.1 rfl (Nat.le_of_ble_eq_true rfl) dX11_fix_3 (fun r3 u1 H locs hw2 hP hD hK hS => ?_)
  have hP : va_P (dC, dI) vwCl [zM g h] H := hP
  have hD : va_D A [zM g h] := hD
  have hK : va_K (dC, dI) vwCl [] s := hK
  obtain rfl : r3 = 0 := hw2
  refine lv_if_eq (tgt := 22) hx hb dX11_fix_6 (by decide) (fun _ => ?_) (fun c => absurd (by decide) c)
  refine lv_iconst (v := (-1)) hx hb dX11_fix_22 (by decide) ?_
  refine W.widen (k := 0) (n := 0) (Nat.le_of_ble_eq_true rfl) (Nat.le_of_ble_eq_true rfl) ?_
  exact k_iret () hx hb hr hlocks rfl P_nil D_nil (hK.sub (tys' := []) [] rfl) hS rfl dX11_fix_23
set_option maxHeartbeats 4000000 in
set_option maxRecDepth 100000 in
theorem y_told (l : Launch) (dC : Nat → ClassId) (dI : Nat → Nat → Nat) (g : Nat → Nat) (h : Nat → ClassId) (p0 : Int32) (p1 : Int32) (p2 : Int32) (sz : Nat) : Ci l (dC, dI) yX11_told cX11_told 4 (some .int) { frames := 3, cells := 0, slots := 0, locals := 66 } [.ref (g 47), .int p0, .int p1, .int p2] [] [zM g h] sz 0 0 Unit (fun r _ => r = (-1)) (fun _ => []) (fun _ => []) := by
  refine Ci_of (lv := [(0, .ref (g 47)), (1, .int p0), (2, .int p1), (3, .int p2)]) (by decide) rfl rfl ?_
  intro p e s m below meth c A ls hx hb hml hr hown hta hlocks hnm hnw hP hD hK hS hA hl
  have hown : s.vm.findClass RX11 = some m.cls := hown
  refine lv_aload_n hx hb dX11_told_0 rfl (lv_at hl 0 rfl) ?_
  refine lv_iload_n hx hb dX11_told_1 rfl (lv_at hl 1 rfl) ?_
  refine lv_iload_n hx hb dX11_told_2 rfl (lv_at hl 2 rfl) ?_
  refine kVi (b := (g 47)) (n := 2) (As := [.int p0, .int p1]) (rest := []) ⟨hx, hb, hml, hown, hta⟩ hnw (m_isNote l dC dI g h p0 p1  s.heap.size) cd_X11_isNote iz_X11 ml_X11_177 im_X11_isNote se_X11_X11_isNote (by decide +kernel) rfl (Nat.le_of_ble_eq_true rfl) (Nat.le_of_ble_eq_true rfl) rfl rfl (Nat.le_of_ble_eq_true rfl) (Nat.le_of_ble_eq_true rfl) hP hD hK hS hA [0] [] [] rfl (wr := []) rfl (by decide) (by decide) (by decide) rfl rfl 0 rfl hl.1 rfl (Nat.le_of_ble_eq_true rfl) dX11_told_3 (fun r3 u1 H locs hw2 hP hD hK hS => ?_)
  have hP : va_P (dC, dI) vwCl [zM g h] H := hP
  have hD : va_D A [zM g h] := hD
  have hK : va_K (dC, dI) vwCl [] s := hK
  obtain rfl : r3 = 0 := hw2
  refine lv_if_ne (tgt := 11) hx hb dX11_told_6 (by decide) (fun c => absurd c (by decide)) (fun _ => ?_)
  refine lv_iconst (v := (-1)) hx hb dX11_told_9 (by decide) ?_
  refine W.widen (k := 0) (n := 0) (Nat.le_of_ble_eq_true rfl) (Nat.le_of_ble_eq_true rfl) ?_
  exact k_iret () hx hb hr hlocks rfl P_nil D_nil (hK.sub (tys' := []) [] rfl) hS rfl dX11_told_10
set_option maxHeartbeats 4000000 in
set_option maxRecDepth 100000 in
theorem y_grips (l : Launch) (dC : Nat → ClassId) (dI : Nat → Nat → Nat) (g : Nat → Nat) (h : Nat → ClassId) (p0 : Int32) (sz : Nat) : Ci l (dC, dI) yX11_grips cX11_grips 2 (some .int) { frames := 2, cells := 0, slots := 0, locals := 44 } [.ref (g 47), .int p0] [] [zM g h] sz 0 0 Unit (fun r _ => r = (-1)) (fun _ => []) (fun _ => []) := by
  refine Ci_of (lv := [(0, .ref (g 47)), (1, .int p0)]) (by decide) rfl rfl ?_
  intro p e s m below meth c A ls hx hb hml hr hown hta hlocks hnm hnw hP hD hK hS hA hl
  have hown : s.vm.findClass RX11 = some m.cls := hown
  refine lv_aload_n hx hb dX11_grips_0 rfl (lv_at hl 0 rfl) ?_
  refine lv_iload_n hx hb dX11_grips_1 rfl (lv_at hl 1 rfl) ?_
  refine kVi (b := (g 47)) (n := 1) (As := [.int p0]) (rest := []) ⟨hx, hb, hml, hown, hta⟩ hnw (m_isTick l dC dI g h p0  s.heap.size) cd_X11_isTick iz_X11 ml_X11_160 im_X11_isTick se_X11_X11_isTick (by decide +kernel) rfl (Nat.le_of_ble_eq_true rfl) (Nat.le_of_ble_eq_true rfl) rfl rfl (Nat.le_of_ble_eq_true rfl) (Nat.le_of_ble_eq_true rfl) hP hD hK hS hA [0] [] [] rfl (wr := []) rfl (by decide) (by decide) (by decide) rfl rfl 0 rfl hl.1 rfl (Nat.le_of_ble_eq_true rfl) dX11_grips_2 (fun r3 u1 H locs hw2 hP hD hK hS => ?_)
  have hP : va_P (dC, dI) vwCl [zM g h] H := hP
  have hD : va_D A [zM g h] := hD
  have hK : va_K (dC, dI) vwCl [] s := hK
  obtain rfl : r3 = 0 := hw2
  refine lv_if_ne (tgt := 10) hx hb dX11_grips_5 (by decide) (fun c => absurd c (by decide)) (fun _ => ?_)
  refine lv_iconst (v := (-1)) hx hb dX11_grips_8 (by decide) ?_
  refine W.widen (k := 0) (n := 0) (Nat.le_of_ble_eq_true rfl) (Nat.le_of_ble_eq_true rfl) ?_
  exact k_iret () hx hb hr hlocks rfl P_nil D_nil (hK.sub (tys' := []) [] rfl) hS rfl dX11_grips_9
set_option maxHeartbeats 4000000 in
set_option maxRecDepth 100000 in
theorem y_grip (l : Launch) (dC : Nat → ClassId) (dI : Nat → Nat → Nat) (g : Nat → Nat) (h : Nat → ClassId) (p0 : Int32) (p1 : Int32) (p2 : Int32) (p3 : Int32) (sz : Nat) : Ci l (dC, dI) yX11_grip cX11_grip 7 (some .int) { frames := 2, cells := 0, slots := 0, locals := 44 } [.ref (g 47), .int p0, .int p1, .int p2, .int p3] [] [zM g h] sz 0 0 Unit (fun r _ => r = (-1)) (fun _ => []) (fun _ => []) := by
  refine Ci_of (lv := [(0, .ref (g 47)), (1, .int p0), (2, .int p1), (3, .int p2), (4, .int p3)]) (by decide) rfl rfl ?_
  intro p e s m below meth c A ls hx hb hml hr hown hta hlocks hnm hnw hP hD hK hS hA hl
  have hown : s.vm.findClass RX11 = some m.cls := hown
  refine lv_aload_n hx hb dX11_grip_0 rfl (lv_at hl 0 rfl) ?_
  refine lv_iload_n hx hb dX11_grip_1 rfl (lv_at hl 1 rfl) ?_
  refine kVi (b := (g 47)) (n := 1) (As := [.int p0]) (rest := []) ⟨hx, hb, hml, hown, hta⟩ hnw (m_isTick l dC dI g h p0  s.heap.size) cd_X11_isTick iz_X11 ml_X11_160 im_X11_isTick se_X11_X11_isTick (by decide +kernel) rfl (Nat.le_of_ble_eq_true rfl) (Nat.le_of_ble_eq_true rfl) rfl rfl (Nat.le_of_ble_eq_true rfl) (Nat.le_of_ble_eq_true rfl) hP hD hK hS hA [0] [] [] rfl (wr := []) rfl (by decide) (by decide) (by decide) rfl rfl 0 rfl hl.1 rfl (Nat.le_of_ble_eq_true rfl) dX11_grip_2 (fun r3 u1 H locs hw2 hP hD hK hS => ?_)
  have hP : va_P (dC, dI) vwCl [zM g h] H := hP
  have hD : va_D A [zM g h] := hD
  have hK : va_K (dC, dI) vwCl [] s := hK
  obtain rfl : r3 = 0 := hw2
  refine lv_if_eq (tgt := 36) hx hb dX11_grip_5 (by decide) (fun _ => ?_) (fun c => absurd (by decide) c)
  refine lv_iconst (v := (-1)) hx hb dX11_grip_36 (by decide) ?_
  refine W.widen (k := 0) (n := 0) (Nat.le_of_ble_eq_true rfl) (Nat.le_of_ble_eq_true rfl) ?_
  exact k_iret () hx hb hr hlocks rfl P_nil D_nil (hK.sub (tys' := []) [] rfl) hS rfl dX11_grip_37
set_option maxHeartbeats 4000000 in
set_option maxRecDepth 100000 in
theorem y_why (l : Launch) (dC : Nat → ClassId) (dI : Nat → Nat → Nat) (g : Nat → Nat) (h : Nat → ClassId) (p0 : Int32) (sz : Nat) : Ci l (dC, dI) yX11_why cX11_why 5 (some .int) { frames := 2, cells := 0, slots := 0, locals := 44 } [.ref (g 47), .int p0] [] [zM g h] sz 0 0 Unit (fun r _ => r = (-1)) (fun _ => []) (fun _ => []) := by
  refine Ci_of (lv := [(0, .ref (g 47)), (1, .int p0)]) (by decide) rfl rfl ?_
  intro p e s m below meth c A ls hx hb hml hr hown hta hlocks hnm hnw hP hD hK hS hA hl
  have hown : s.vm.findClass RX11 = some m.cls := hown
  refine lv_aload_n hx hb dX11_why_0 rfl (lv_at hl 0 rfl) ?_
  refine lv_iload_n hx hb dX11_why_1 rfl (lv_at hl 1 rfl) ?_
  refine kVi (b := (g 47)) (n := 1) (As := [.int p0]) (rest := []) ⟨hx, hb, hml, hown, hta⟩ hnw (m_isTick l dC dI g h p0  s.heap.size) cd_X11_isTick iz_X11 ml_X11_160 im_X11_isTick se_X11_X11_isTick (by decide +kernel) rfl (Nat.le_of_ble_eq_true rfl) (Nat.le_of_ble_eq_true rfl) rfl rfl (Nat.le_of_ble_eq_true rfl) (Nat.le_of_ble_eq_true rfl) hP hD hK hS hA [0] [] [] rfl (wr := []) rfl (by decide) (by decide) (by decide) rfl rfl 0 rfl hl.1 rfl (Nat.le_of_ble_eq_true rfl) dX11_why_2 (fun r3 u1 H locs hw2 hP hD hK hS => ?_)
  have hP : va_P (dC, dI) vwCl [zM g h] H := hP
  have hD : va_D A [zM g h] := hD
  have hK : va_K (dC, dI) vwCl [] s := hK
  obtain rfl : r3 = 0 := hw2
  refine lv_if_ne (tgt := 10) hx hb dX11_why_5 (by decide) (fun c => absurd c (by decide)) (fun _ => ?_)
  refine lv_iconst (v := (-1)) hx hb dX11_why_8 (by decide) ?_
  refine W.widen (k := 0) (n := 0) (Nat.le_of_ble_eq_true rfl) (Nat.le_of_ble_eq_true rfl) ?_
  exact k_iret () hx hb hr hlocks rfl P_nil D_nil (hK.sub (tys' := []) [] rfl) hS rfl dX11_why_9
set_option maxHeartbeats 4000000 in
set_option maxRecDepth 100000 in
theorem y_way (l : Launch) (dC : Nat → ClassId) (dI : Nat → Nat → Nat) (g : Nat → Nat) (h : Nat → ClassId) (sz : Nat) : Ci l (dC, dI) yX11_way cX11_way 1 (some .int) { frames := 0, cells := 0, slots := 0, locals := 0 } [.ref (g 47)] [] [zM g h] sz 0 0 Unit (fun r _ => r = (-3)) (fun _ => []) (fun _ => []) := by
  refine Ci_of (lv := [(0, .ref (g 47))]) (by decide) rfl rfl ?_
  intro p e s m below meth c A ls hx hb hml hr hown hta hlocks hnm hnw hP hD hK hS hA hl
  have hown : s.vm.findClass RX11 = some m.cls := hown
  refine lv_aload_n hx hb dX11_way_0 rfl (lv_at hl 0 rfl) ?_
  refine va_get (D := (dC, dI)) (ci := 10) (v := .int 0) (C := RX11) (T := TX11) (N := 47) hx hb hta inlX11 hown hK hP 0 rfl rfl 7 (by decide) (hta _ fl_X11_32) (fun _ h9 => h9) rfl dX11_way_1 ?_
  refine lv_if_ne (tgt := 10) hx hb dX11_way_4 (by decide) (fun c => absurd c (by decide)) (fun _ => ?_)
  refine lv_bipush (v := (-3)) hx hb dX11_way_7 (by decide) ?_
  refine W.widen (k := 0) (n := 0) (Nat.le_of_ble_eq_true rfl) (Nat.le_of_ble_eq_true rfl) ?_
  exact k_iret () hx hb hr hlocks rfl P_nil D_nil (hK.sub (tys' := []) [] rfl) hS rfl dX11_way_9
set_option maxHeartbeats 4000000 in
set_option maxRecDepth 100000 in
theorem y_next (l : Launch) (dC : Nat → ClassId) (dI : Nat → Nat → Nat) (g : Nat → Nat) (h : Nat → ClassId) (sz : Nat) : Ci l (dC, dI) yX11_next cX11_next 1 (some .int) { frames := 0, cells := 0, slots := 0, locals := 0 } [.ref (g 47)] [] [zM g h] sz 0 0 Unit (fun r _ => r = (-3)) (fun _ => []) (fun _ => []) := by
  refine Ci_of (lv := [(0, .ref (g 47))]) (by decide) rfl rfl ?_
  intro p e s m below meth c A ls hx hb hml hr hown hta hlocks hnm hnw hP hD hK hS hA hl
  have hown : s.vm.findClass RX11 = some m.cls := hown
  refine lv_aload_n hx hb dX11_next_0 rfl (lv_at hl 0 rfl) ?_
  refine va_get (D := (dC, dI)) (ci := 10) (v := .int 0) (C := RX11) (T := TX11) (N := 47) hx hb hta inlX11 hown hK hP 0 rfl rfl 14 (by decide) (hta _ fl_X11_53) (fun _ h9 => h9) rfl dX11_next_1 ?_
  refine lv_if_eq (tgt := 16) hx hb dX11_next_4 (by decide) (fun _ => ?_) (fun c => absurd (by decide) c)
  refine lv_bipush (v := (-3)) hx hb dX11_next_16 (by decide) ?_
  refine W.widen (k := 0) (n := 0) (Nat.le_of_ble_eq_true rfl) (Nat.le_of_ble_eq_true rfl) ?_
  exact k_iret () hx hb hr hlocks rfl P_nil D_nil (hK.sub (tys' := []) [] rfl) hS rfl dX11_next_18
set_option maxHeartbeats 4000000 in
set_option maxRecDepth 100000 in
theorem y_at (l : Launch) (dC : Nat → ClassId) (dI : Nat → Nat → Nat) (g : Nat → Nat) (h : Nat → ClassId) (p0 : Int32) (sz : Nat) : Ci l (dC, dI) yX11_at cX11_at 2 (some .int) { frames := 0, cells := 0, slots := 0, locals := 0 } [.ref (g 47), .int p0] [] [zM g h] sz 0 0 Unit (fun r _ => r = (-1)) (fun _ => []) (fun _ => []) := by
  refine Ci_of (lv := [(0, .ref (g 47)), (1, .int p0)]) (by decide) rfl rfl ?_
  intro p e s m below meth c A ls hx hb hml hr hown hta hlocks hnm hnw hP hD hK hS hA hl
  have hown : s.vm.findClass RX11 = some m.cls := hown
  refine lv_aload_n hx hb dX11_at_0 rfl (lv_at hl 0 rfl) ?_
  refine va_get (D := (dC, dI)) (ci := 10) (v := .int 0) (C := RX11) (T := TX11) (N := 47) hx hb hta inlX11 hown hK hP 0 rfl rfl 14 (by decide) (hta _ fl_X11_53) (fun _ h9 => h9) rfl dX11_at_1 ?_
  refine lv_if_eq (tgt := 24) hx hb dX11_at_4 (by decide) (fun _ => ?_) (fun c => absurd (by decide) c)
  refine lv_iconst (v := (-1)) hx hb dX11_at_24 (by decide) ?_
  refine W.widen (k := 0) (n := 0) (Nat.le_of_ble_eq_true rfl) (Nat.le_of_ble_eq_true rfl) ?_
  exact k_iret () hx hb hr hlocks rfl P_nil D_nil (hK.sub (tys' := []) [] rfl) hS rfl dX11_at_25
set_option maxHeartbeats 4000000 in
set_option maxRecDepth 100000 in
theorem y_rank (l : Launch) (dC : Nat → ClassId) (dI : Nat → Nat → Nat) (g : Nat → Nat) (h : Nat → ClassId) (p0 : Int32) (sz : Nat) : Ci l (dC, dI) yX11_rank cX11_rank 5 (some .int) { frames := 0, cells := 0, slots := 0, locals := 0 } [.ref (g 47), .int p0] [] [zM g h] sz 0 0 Unit (fun r _ => r = (-3)) (fun _ => []) (fun _ => []) := by
  refine Ci_of (lv := [(0, .ref (g 47)), (1, .int p0)]) (by decide) rfl rfl ?_
  intro p e s m below meth c A ls hx hb hml hr hown hta hlocks hnm hnw hP hD hK hS hA hl
  have hown : s.vm.findClass RX11 = some m.cls := hown
  refine lv_aload_n hx hb dX11_rank_0 rfl (lv_at hl 0 rfl) ?_
  refine va_get (D := (dC, dI)) (ci := 10) (v := .int 0) (C := RX11) (T := TX11) (N := 47) hx hb hta inlX11 hown hK hP 0 rfl rfl 14 (by decide) (hta _ fl_X11_53) (fun _ h9 => h9) rfl dX11_rank_1 ?_
  refine lv_if_ne (tgt := 10) hx hb dX11_rank_4 (by decide) (fun c => absurd c (by decide)) (fun _ => ?_)
  refine lv_bipush (v := (-3)) hx hb dX11_rank_7 (by decide) ?_
  refine W.widen (k := 0) (n := 0) (Nat.le_of_ble_eq_true rfl) (Nat.le_of_ble_eq_true rfl) ?_
  exact k_iret () hx hb hr hlocks rfl P_nil D_nil (hK.sub (tys' := []) [] rfl) hS rfl dX11_rank_9
set_option maxHeartbeats 4000000 in
set_option maxRecDepth 100000 in
theorem y_say (l : Launch) (dC : Nat → ClassId) (dI : Nat → Nat → Nat) (g : Nat → Nat) (h : Nat → ClassId) (p0 : Int32) (sz : Nat) : Ci l (dC, dI) yX11_say cX11_say 2 (some .int) { frames := 0, cells := 0, slots := 0, locals := 0 } [.ref (g 47), .int p0] [(h 35, .int)] [zM g h, zMrow g h] sz 0 0 Unit (fun r _ => r = sp_say p0) (fun _ => []) (fun _ => []) := by
  refine Ci_of (lv := [(0, .ref (g 47)), (1, .int p0)]) (by decide) rfl rfl ?_
  intro p e s m below meth c A ls hx hb hml hr hown hta hlocks hnm hnw hP hD hK hS hA hl
  have hown : s.vm.findClass RX11 = some m.cls := hown
  refine lv_iload_n hx hb dX11_say_0 rfl (lv_at hl 1 rfl) ?_
  refine lv_if_ge (tgt := 7) hx hb dX11_say_1 (by decide) (fun c_1 => ?_) (fun c_1 => ?_)
  · refine lv_aload_n hx hb dX11_say_7 rfl (lv_at hl 0 rfl) ?_
    refine va_get (D := (dC, dI)) (ci := 10) (v := .int 0) (C := RX11) (T := TX11) (N := 47) hx hb hta inlX11 hown hK hP 0 rfl rfl 36 (by decide) (hta _ fl_X11_123) (fun _ h9 => h9) rfl dX11_say_8 ?_
    refine lv_bipush (v := 16) hx hb dX11_say_11 (by decide) ?_
    refine lv_icmp_ne (tgt := 19) hx hb dX11_say_13 (by decide) (fun _ => ?_) (fun c => absurd c (by decide))
    refine lv_aload_n hx hb dX11_say_19 rfl (lv_at hl 0 rfl) ?_
    refine va_get (D := (dC, dI)) (ci := 10) (v := .ref (g 35)) (C := RX11) (T := TX11) (N := 47) hx hb hta inlX11 hown hK hP 0 rfl rfl 35 (by decide) (hta _ fl_X11_120) (fun _ h9 => h9) rfl dX11_say_20 ?_
    refine lv_aload_n hx hb dX11_say_23 rfl (lv_at hl 0 rfl) ?_
    refine va_get (D := (dC, dI)) (ci := 10) (v := .int 0) (C := RX11) (T := TX11) (N := 47) hx hb hta inlX11 hown hK hP 0 rfl rfl 36 (by decide) (hta _ fl_X11_123) (fun _ h9 => h9) rfl dX11_say_24 ?_
    refine lv_iload_n hx hb dX11_say_27 rfl (lv_at hl 1 rfl) ?_
    refine va_iast hx hb hK hP hD hS 1 0 rfl rfl (vin (by decide)) dX11_say_28 (fun H locs hP hD hS => ?_)
    have hP : va_P (dC, dI) vwCl [zM g h, (g 35, .inl (h 35, 16, .inl (upd (fun _ => 0) 0 p0)))] H := hP
    have hD : va_D A [zM g h, (g 35, .inl (h 35, 16, .inl (upd (fun _ => 0) 0 p0)))] := hD
    refine lv_aload_n hx hb dX11_say_29 rfl (lv_at hl 0 rfl) ?_
    refine lv_dup hx hb dX11_say_30 rfl ?_
    refine va_get (D := (dC, dI)) (ci := 10) (v := .int 0) (C := RX11) (T := TX11) (N := 47) hx hb hta inlX11 hown hK hP 0 rfl rfl 36 (by decide) (hta _ fl_X11_123) (fun _ h9 => h9) rfl dX11_say_31 ?_
    refine lv_iconst (v := 1) hx hb dX11_say_34 (by decide) ?_
    refine lv_iadd hx hb dX11_say_35 ?_
    refine k_top (y := 1) (by decide) ?_
    refine va_put (D := (dC, dI)) (ci := 10) (v := .int 1) (ty := .int) (C := RX11) (T := TX11) (N := 47) hx hb hta inlX11 tyX11 tyX11_ok nmX11 hown hK hP hD hS 0 rfl rfl 36 (by decide) (hta _ fl_X11_123) (fun _ h9 => h9) rfl (by decide +kernel) rfl rfl (Nat.le_of_ble_eq_true rfl) dX11_say_36 (fun H locs hP hD hS => ?_)
    have hP : va_P (dC, dI) vwCl [(g 47, .inr (10, [.int 0, .int 0, .ref (g 2), .ref (g 3), .ref (g 4), .ref (g 5), .ref (g 6), .int 0, .int 0, .ref (g 9), .ref (g 10), .ref (g 11), .ref (g 12), .ref (g 13), .int 0, .int 0, .ref (g 16), .ref (g 17), .ref (g 18), .ref (g 19), .ref (g 20), .ref (g 21), .ref (g 22), .ref (g 23), .ref (g 24), .ref (g 25), .ref (g 26), .ref (g 27), .ref (g 28), .ref (g 29), .int 0, .ref (g 31), .ref (g 32), .int 0, .int 0, .ref (g 35), .int 1, .ref (g 37), .ref (g 38), .int 0, .ref (g 40), .ref (g 41), .int 0, .ref (g 43), .ref (g 44), .ref (g 45), .int 0])), (g 35, .inl (h 35, 16, .inl (upd (fun _ => 0) 0 p0)))] H := hP
    have hD : va_D A [(g 47, .inr (10, [.int 0, .int 0, .ref (g 2), .ref (g 3), .ref (g 4), .ref (g 5), .ref (g 6), .int 0, .int 0, .ref (g 9), .ref (g 10), .ref (g 11), .ref (g 12), .ref (g 13), .int 0, .int 0, .ref (g 16), .ref (g 17), .ref (g 18), .ref (g 19), .ref (g 20), .ref (g 21), .ref (g 22), .ref (g 23), .ref (g 24), .ref (g 25), .ref (g 26), .ref (g 27), .ref (g 28), .ref (g 29), .int 0, .ref (g 31), .ref (g 32), .int 0, .int 0, .ref (g 35), .int 1, .ref (g 37), .ref (g 38), .int 0, .ref (g 40), .ref (g 41), .int 0, .ref (g 43), .ref (g 44), .ref (g 45), .int 0])), (g 35, .inl (h 35, 16, .inl (upd (fun _ => 0) 0 p0)))] := hD
    refine lv_aload_n hx hb dX11_say_39 rfl (lv_at hl 0 rfl) ?_
    refine va_get (D := (dC, dI)) (ci := 10) (v := .int 1) (C := RX11) (T := TX11) (N := 47) hx hb hta inlX11 hown hK hP 0 rfl rfl 36 (by decide) (hta _ fl_X11_123) (fun _ h9 => h9) rfl dX11_say_40 ?_
    refine W.widen (k := 0) (n := 0) (Nat.le_of_ble_eq_true rfl) (Nat.le_of_ble_eq_true rfl) ?_
    exact k_iret () hx hb hr hlocks rfl P_nil D_nil (hK.sub (tys' := []) [] rfl) hS (by first | rfl | (simp [sp_say]; done) | (simp [sp_say, c_1]; done)) dX11_say_43
  · refine lv_bipush (v := (-2)) hx hb dX11_say_4 (by decide) ?_
    refine W.widen (k := 0) (n := 0) (Nat.le_of_ble_eq_true rfl) (Nat.le_of_ble_eq_true rfl) ?_
    exact k_iret () hx hb hr hlocks rfl P_nil D_nil (hK.sub (tys' := []) [] rfl) hS (by first | rfl | (simp [sp_say]; done) | (simp [sp_say, c_1]; done)) dX11_say_6
set_option maxHeartbeats 4000000 in
set_option maxRecDepth 100000 in
theorem y_check (l : Launch) (dC : Nat → ClassId) (dI : Nat → Nat → Nat) (g : Nat → Nat) (h : Nat → ClassId) (sz : Nat) : Ci l (dC, dI) yX11_check cX11_check 3 (some .int) { frames := 0, cells := 0, slots := 0, locals := 0 } [.ref (g 47)] [] [zM g h] sz 0 0 Unit (fun r _ => r = (-3)) (fun _ => []) (fun _ => []) := by
  refine Ci_of (lv := [(0, .ref (g 47))]) (by decide) rfl rfl ?_
  intro p e s m below meth c A ls hx hb hml hr hown hta hlocks hnm hnw hP hD hK hS hA hl
  have hown : s.vm.findClass RX11 = some m.cls := hown
  refine lv_aload_n hx hb dX11_check_0 rfl (lv_at hl 0 rfl) ?_
  refine va_get (D := (dC, dI)) (ci := 10) (v := .int 0) (C := RX11) (T := TX11) (N := 47) hx hb hta inlX11 hown hK hP 0 rfl rfl 7 (by decide) (hta _ fl_X11_32) (fun _ h9 => h9) rfl dX11_check_1 ?_
  refine lv_if_ne (tgt := 10) hx hb dX11_check_4 (by decide) (fun c => absurd c (by decide)) (fun _ => ?_)
  refine lv_bipush (v := (-3)) hx hb dX11_check_7 (by decide) ?_
  refine W.widen (k := 0) (n := 0) (Nat.le_of_ble_eq_true rfl) (Nat.le_of_ble_eq_true rfl) ?_
  exact k_iret () hx hb hr hlocks rfl P_nil D_nil (hK.sub (tys' := []) [] rfl) hS rfl dX11_check_9
set_option maxHeartbeats 4000000 in
set_option maxRecDepth 100000 in
theorem y_arrange (l : Launch) (dC : Nat → ClassId) (dI : Nat → Nat → Nat) (g : Nat → Nat) (h : Nat → ClassId) (sz : Nat) : Ci l (dC, dI) yX11_arrange cX11_arrange 6 (some .int) { frames := 0, cells := 0, slots := 0, locals := 0 } [.ref (g 47)] [] [zM g h] sz 0 0 Unit (fun r _ => r = (-3)) (fun _ => []) (fun _ => []) := by
  refine Ci_of (lv := [(0, .ref (g 47))]) (by decide) rfl rfl ?_
  intro p e s m below meth c A ls hx hb hml hr hown hta hlocks hnm hnw hP hD hK hS hA hl
  have hown : s.vm.findClass RX11 = some m.cls := hown
  refine lv_aload_n hx hb dX11_arrange_0 rfl (lv_at hl 0 rfl) ?_
  refine va_get (D := (dC, dI)) (ci := 10) (v := .int 0) (C := RX11) (T := TX11) (N := 47) hx hb hta inlX11 hown hK hP 0 rfl rfl 7 (by decide) (hta _ fl_X11_32) (fun _ h9 => h9) rfl dX11_arrange_1 ?_
  refine lv_if_ne (tgt := 10) hx hb dX11_arrange_4 (by decide) (fun c => absurd c (by decide)) (fun _ => ?_)
  refine lv_bipush (v := (-3)) hx hb dX11_arrange_7 (by decide) ?_
  refine W.widen (k := 0) (n := 0) (Nat.le_of_ble_eq_true rfl) (Nat.le_of_ble_eq_true rfl) ?_
  exact k_iret () hx hb hr hlocks rfl P_nil D_nil (hK.sub (tys' := []) [] rfl) hS rfl dX11_arrange_9
set_option maxHeartbeats 4000000 in
set_option maxRecDepth 100000 in
theorem y_left (l : Launch) (dC : Nat → ClassId) (dI : Nat → Nat → Nat) (g : Nat → Nat) (h : Nat → ClassId) (p0 : Int32) (sz : Nat) : Ci l (dC, dI) yX11_left cX11_left 2 (some .int) { frames := 0, cells := 0, slots := 0, locals := 0 } [.ref (g 47), .int p0] [] [zM g h] sz 0 0 Unit (fun r _ => r = (-1)) (fun _ => []) (fun _ => []) := by
  refine Ci_of (lv := [(0, .ref (g 47)), (1, .int p0)]) (by decide) rfl rfl ?_
  intro p e s m below meth c A ls hx hb hml hr hown hta hlocks hnm hnw hP hD hK hS hA hl
  have hown : s.vm.findClass RX11 = some m.cls := hown
  refine lv_aload_n hx hb dX11_left_0 rfl (lv_at hl 0 rfl) ?_
  refine va_get (D := (dC, dI)) (ci := 10) (v := .int 0) (C := RX11) (T := TX11) (N := 47) hx hb hta inlX11 hown hK hP 0 rfl rfl 15 (by decide) (hta _ fl_X11_57) (fun _ h9 => h9) rfl dX11_left_1 ?_
  refine lv_if_eq (tgt := 24) hx hb dX11_left_4 (by decide) (fun _ => ?_) (fun c => absurd (by decide) c)
  refine lv_iconst (v := (-1)) hx hb dX11_left_24 (by decide) ?_
  refine W.widen (k := 0) (n := 0) (Nat.le_of_ble_eq_true rfl) (Nat.le_of_ble_eq_true rfl) ?_
  exact k_iret () hx hb hr hlocks rfl P_nil D_nil (hK.sub (tys' := []) [] rfl) hS rfl dX11_left_25
set_option maxHeartbeats 4000000 in
set_option maxRecDepth 100000 in
theorem y_rest (l : Launch) (dC : Nat → ClassId) (dI : Nat → Nat → Nat) (g : Nat → Nat) (h : Nat → ClassId) (sz : Nat) : Ci l (dC, dI) yX11_rest cX11_rest 1 (some .int) { frames := 0, cells := 0, slots := 0, locals := 0 } [.ref (g 47)] [] [zM g h] sz 0 0 Unit (fun r _ => r = (-1)) (fun _ => []) (fun _ => []) := by
  refine Ci_of (lv := [(0, .ref (g 47))]) (by decide) rfl rfl ?_
  intro p e s m below meth c A ls hx hb hml hr hown hta hlocks hnm hnw hP hD hK hS hA hl
  have hown : s.vm.findClass RX11 = some m.cls := hown
  refine lv_aload_n hx hb dX11_rest_0 rfl (lv_at hl 0 rfl) ?_
  refine va_get (D := (dC, dI)) (ci := 10) (v := .int 0) (C := RX11) (T := TX11) (N := 47) hx hb hta inlX11 hown hK hP 0 rfl rfl 15 (by decide) (hta _ fl_X11_57) (fun _ h9 => h9) rfl dX11_rest_1 ?_
  refine lv_if_eq (tgt := 14) hx hb dX11_rest_4 (by decide) (fun _ => ?_) (fun c => absurd (by decide) c)
  refine lv_iconst (v := (-1)) hx hb dX11_rest_14 (by decide) ?_
  refine W.widen (k := 0) (n := 0) (Nat.le_of_ble_eq_true rfl) (Nat.le_of_ble_eq_true rfl) ?_
  exact k_iret () hx hb hr hlocks rfl P_nil D_nil (hK.sub (tys' := []) [] rfl) hS rfl dX11_rest_15
set_option maxHeartbeats 4000000 in
set_option maxRecDepth 100000 in
theorem y_tuning (l : Launch) (dC : Nat → ClassId) (dI : Nat → Nat → Nat) (g : Nat → Nat) (h : Nat → ClassId) (p0 : Int32) (p1 : Int32) (p2 : Int32) (sz : Nat) : Ci l (dC, dI) yX11_tuning cX11_tuning 5 (some .int) { frames := 2, cells := 0, slots := 0, locals := 44 } [.ref (g 47), .int p0, .int p1, .int p2] [] [zM g h] sz 0 0 Unit (fun r _ => r = (-1)) (fun _ => []) (fun _ => []) := by
  refine Ci_of (lv := [(0, .ref (g 47)), (1, .int p0), (2, .int p1), (3, .int p2)]) (by decide) rfl rfl ?_
  intro p e s m below meth c A ls hx hb hml hr hown hta hlocks hnm hnw hP hD hK hS hA hl
  have hown : s.vm.findClass RX11 = some m.cls := hown
  refine lv_aload_n hx hb dX11_tuning_0 rfl (lv_at hl 0 rfl) ?_
  refine lv_iload_n hx hb dX11_tuning_1 rfl (lv_at hl 1 rfl) ?_
  refine lv_iconst (v := 0) hx hb dX11_tuning_2 (by decide) ?_
  refine lv_iconst (v := 3) hx hb dX11_tuning_3 (by decide) ?_
  refine kVi (b := (g 47)) (n := 3) (As := [.int p0, .int 0, .int 3]) (rest := []) ⟨hx, hb, hml, hown, hta⟩ hnw (m_in l dC dI g h p0 0 3  s.heap.size) cd_X11_in iz_X11 ml_X11_156 im_X11_in se_X11_X11_in (by decide +kernel) rfl (Nat.le_of_ble_eq_true rfl) (Nat.le_of_ble_eq_true rfl) rfl rfl (Nat.le_of_ble_eq_true rfl) (Nat.le_of_ble_eq_true rfl) hP hD hK hS hA [0] [] [] rfl (wr := []) rfl (by decide) (by decide) (by decide) rfl rfl 0 rfl hl.1 rfl (Nat.le_of_ble_eq_true rfl) dX11_tuning_4 (fun r3 u1 H locs hw2 hP hD hK hS => ?_)
  have hP : va_P (dC, dI) vwCl [zM g h] H := hP
  have hD : va_D A [zM g h] := hD
  have hK : va_K (dC, dI) vwCl [] s := hK
  obtain rfl : r3 = if inB p0 0 3 then 1 else 0 := hw2
  refine lv_if_eq (tgt := 18) hx hb dX11_tuning_7 (by decide) (fun c_4 => ?_) (fun c_4 => ?_)
  · have n_5 : (inB p0 0 3) = false := ite0 c_4
    refine lv_iconst (v := (-1)) hx hb dX11_tuning_18 (by decide) ?_
    refine W.widen (k := 0) (n := 0) (Nat.le_of_ble_eq_true rfl) (Nat.le_of_ble_eq_true rfl) ?_
    exact k_iret () hx hb hr hlocks rfl P_nil D_nil (hK.sub (tys' := []) [] rfl) hS rfl dX11_tuning_19
  · have n_6 : (inB p0 0 3) = true := ite1 c_4
    refine lv_aload_n hx hb dX11_tuning_10 rfl (lv_at hl 0 rfl) ?_
    refine lv_iload_n hx hb dX11_tuning_11 rfl (lv_at hl 2 rfl) ?_
    refine kVi (b := (g 47)) (n := 1) (As := [.int p1]) (rest := []) ⟨hx, hb, hml, hown, hta⟩ hnw (m_isCourse l dC dI g h p1  H.size) cd_X11_isCourse iz_X11 ml_X11_167 im_X11_isCourse se_X11_X11_isCourse (by decide +kernel) rfl (Nat.le_of_ble_eq_true rfl) (Nat.le_of_ble_eq_true rfl) rfl rfl (Nat.le_of_ble_eq_true rfl) (Nat.le_of_ble_eq_true rfl) hP hD hK hS hA [0] [] [] rfl (wr := []) rfl (by decide) (by decide) (by decide) rfl rfl 0 rfl hl.1 rfl (Nat.le_of_ble_eq_true rfl) dX11_tuning_12 (fun r9 u7 H locs hw8 hP hD hK hS => ?_)
    have hP : va_P (dC, dI) vwCl [zM g h] H := hP
    have hD : va_D A [zM g h] := hD
    have hK : va_K (dC, dI) vwCl [] s := hK
    obtain rfl : r9 = 0 := hw8
    refine lv_if_ne (tgt := 20) hx hb dX11_tuning_15 (by decide) (fun c => absurd c (by decide)) (fun _ => ?_)
    refine lv_iconst (v := (-1)) hx hb dX11_tuning_18 (by decide) ?_
    refine W.widen (k := 0) (n := 0) (Nat.le_of_ble_eq_true rfl) (Nat.le_of_ble_eq_true rfl) ?_
    exact k_iret () hx hb hr hlocks rfl P_nil D_nil (hK.sub (tys' := []) [] rfl) hS rfl dX11_tuning_19
set_option maxHeartbeats 4000000 in
set_option maxRecDepth 100000 in
theorem y_choose (l : Launch) (dC : Nat → ClassId) (dI : Nat → Nat → Nat) (g : Nat → Nat) (h : Nat → ClassId) (sz : Nat) : Ci l (dC, dI) yX11_choose cX11_choose 5 (some .int) { frames := 0, cells := 0, slots := 0, locals := 0 } [.ref (g 47)] [] [zM g h] sz 0 0 Unit (fun r _ => r = (-3)) (fun _ => []) (fun _ => []) := by
  refine Ci_of (lv := [(0, .ref (g 47))]) (by decide) rfl rfl ?_
  intro p e s m below meth c A ls hx hb hml hr hown hta hlocks hnm hnw hP hD hK hS hA hl
  have hown : s.vm.findClass RX11 = some m.cls := hown
  refine lv_aload_n hx hb dX11_choose_0 rfl (lv_at hl 0 rfl) ?_
  refine va_get (D := (dC, dI)) (ci := 10) (v := .int 0) (C := RX11) (T := TX11) (N := 47) hx hb hta inlX11 hown hK hP 0 rfl rfl 7 (by decide) (hta _ fl_X11_32) (fun _ h9 => h9) rfl dX11_choose_1 ?_
  refine lv_if_ne (tgt := 10) hx hb dX11_choose_4 (by decide) (fun c => absurd c (by decide)) (fun _ => ?_)
  refine lv_bipush (v := (-3)) hx hb dX11_choose_7 (by decide) ?_
  refine W.widen (k := 0) (n := 0) (Nat.le_of_ble_eq_true rfl) (Nat.le_of_ble_eq_true rfl) ?_
  exact k_iret () hx hb hr hlocks rfl P_nil D_nil (hK.sub (tys' := []) [] rfl) hS rfl dX11_choose_9
set_option maxHeartbeats 4000000 in
set_option maxRecDepth 100000 in
theorem y_feed (l : Launch) (dC : Nat → ClassId) (dI : Nat → Nat → Nat) (g : Nat → Nat) (h : Nat → ClassId) (p0 : Int32) (sz : Nat) : Ci l (dC, dI) yX11_feed cX11_feed 2 (some .int) { frames := 1, cells := 0, slots := 0, locals := 23 } [.ref (g 47), .int p0] [(h 41, .int)] [zM g h, zMtape g h] sz 0 0 Unit (fun r _ => r = sp_feed p0) (fun _ => []) (fun _ => []) := by
  refine Ci_of (lv := [(0, .ref (g 47)), (1, .int p0)]) (by decide) rfl rfl ?_
  intro p e s m below meth c A ls hx hb hml hr hown hta hlocks hnm hnw hP hD hK hS hA hl
  have hown : s.vm.findClass RX11 = some m.cls := hown
  refine lv_aload_n hx hb dX11_feed_0 rfl (lv_at hl 0 rfl) ?_
  refine lv_iload_n hx hb dX11_feed_1 rfl (lv_at hl 1 rfl) ?_
  refine lv_iconst (v := 0) hx hb dX11_feed_2 (by decide) ?_
  refine lv_sipush (v := 255) hx hb dX11_feed_3 (by decide) ?_
  refine kVi (b := (g 47)) (n := 3) (As := [.int p0, .int 0, .int 255]) (rest := []) ⟨hx, hb, hml, hown, hta⟩ hnw (m_in l dC dI g h p0 0 255  s.heap.size) cd_X11_in iz_X11 ml_X11_156 im_X11_in se_X11_X11_in (by decide +kernel) rfl (Nat.le_of_ble_eq_true rfl) (Nat.le_of_ble_eq_true rfl) rfl rfl (Nat.le_of_ble_eq_true rfl) (Nat.le_of_ble_eq_true rfl) hP hD hK hS hA [0] [1] [] rfl (wr := [zMtape g h]) rfl (by decide) (by decide) (by decide) rfl rfl 0 rfl hl.1 rfl (Nat.le_of_ble_eq_true rfl) dX11_feed_6 (fun r3 u1 H locs hw2 hP hD hK hS => ?_)
  have hP : va_P (dC, dI) vwCl [zMtape g h, zM g h] H := hP
  have hD : va_D A [zMtape g h, zM g h] := hD
  have hK : va_K (dC, dI) vwCl [(h 41, .int)] s := hK
  obtain rfl : r3 = if inB p0 0 255 then 1 else 0 := hw2
  refine lv_if_ne (tgt := 15) hx hb dX11_feed_9 (by decide) (fun c_4 => ?_) (fun c_4 => ?_)
  · have n_5 : (inB p0 0 255) = true := ite1 c_4
    refine lv_aload_n hx hb dX11_feed_15 rfl (lv_at hl 0 rfl) ?_
    refine va_get (D := (dC, dI)) (ci := 10) (v := .int 0) (C := RX11) (T := TX11) (N := 47) hx hb hta inlX11 hown hK hP 1 rfl rfl 42 (by decide) (hta _ fl_X11_141) (fun _ h9 => h9) rfl dX11_feed_16 ?_
    refine lv_sipush (v := 600) hx hb dX11_feed_19 (by decide) ?_
    refine lv_icmp_ne (tgt := 28) hx hb dX11_feed_22 (by decide) (fun _ => ?_) (fun c => absurd c (by decide))
    refine lv_aload_n hx hb dX11_feed_28 rfl (lv_at hl 0 rfl) ?_
    refine va_get (D := (dC, dI)) (ci := 10) (v := .ref (g 41)) (C := RX11) (T := TX11) (N := 47) hx hb hta inlX11 hown hK hP 1 rfl rfl 41 (by decide) (hta _ fl_X11_138) (fun _ h9 => h9) rfl dX11_feed_29 ?_
    refine lv_aload_n hx hb dX11_feed_32 rfl (lv_at hl 0 rfl) ?_
    refine va_get (D := (dC, dI)) (ci := 10) (v := .int 0) (C := RX11) (T := TX11) (N := 47) hx hb hta inlX11 hown hK hP 1 rfl rfl 42 (by decide) (hta _ fl_X11_141) (fun _ h9 => h9) rfl dX11_feed_33 ?_
    refine lv_iload_n hx hb dX11_feed_36 rfl (lv_at hl 1 rfl) ?_
    refine va_iast hx hb hK hP hD hS 0 0 rfl rfl (vin (by decide)) dX11_feed_37 (fun H locs hP hD hS => ?_)
    have hP : va_P (dC, dI) vwCl [(g 41, .inl (h 41, 600, .inl (upd (fun _ => 0) 0 p0))), zM g h] H := hP
    have hD : va_D A [(g 41, .inl (h 41, 600, .inl (upd (fun _ => 0) 0 p0))), zM g h] := hD
    refine lv_aload_n hx hb dX11_feed_38 rfl (lv_at hl 0 rfl) ?_
    refine lv_dup hx hb dX11_feed_39 rfl ?_
    refine va_get (D := (dC, dI)) (ci := 10) (v := .int 0) (C := RX11) (T := TX11) (N := 47) hx hb hta inlX11 hown hK hP 1 rfl rfl 42 (by decide) (hta _ fl_X11_141) (fun _ h9 => h9) rfl dX11_feed_40 ?_
    refine lv_iconst (v := 1) hx hb dX11_feed_43 (by decide) ?_
    refine lv_iadd hx hb dX11_feed_44 ?_
    refine k_top (y := 1) (by decide) ?_
    refine va_put (D := (dC, dI)) (ci := 10) (v := .int 1) (ty := .int) (C := RX11) (T := TX11) (N := 47) hx hb hta inlX11 tyX11 tyX11_ok nmX11 hown hK hP hD hS 1 rfl rfl 42 (by decide) (hta _ fl_X11_141) (fun _ h9 => h9) rfl (by decide +kernel) rfl rfl (Nat.le_of_ble_eq_true rfl) dX11_feed_45 (fun H locs hP hD hS => ?_)
    have hP : va_P (dC, dI) vwCl [(g 41, .inl (h 41, 600, .inl (upd (fun _ => 0) 0 p0))), (g 47, .inr (10, [.int 0, .int 0, .ref (g 2), .ref (g 3), .ref (g 4), .ref (g 5), .ref (g 6), .int 0, .int 0, .ref (g 9), .ref (g 10), .ref (g 11), .ref (g 12), .ref (g 13), .int 0, .int 0, .ref (g 16), .ref (g 17), .ref (g 18), .ref (g 19), .ref (g 20), .ref (g 21), .ref (g 22), .ref (g 23), .ref (g 24), .ref (g 25), .ref (g 26), .ref (g 27), .ref (g 28), .ref (g 29), .int 0, .ref (g 31), .ref (g 32), .int 0, .int 0, .ref (g 35), .int 0, .ref (g 37), .ref (g 38), .int 0, .ref (g 40), .ref (g 41), .int 1, .ref (g 43), .ref (g 44), .ref (g 45), .int 0]))] H := hP
    have hD : va_D A [(g 41, .inl (h 41, 600, .inl (upd (fun _ => 0) 0 p0))), (g 47, .inr (10, [.int 0, .int 0, .ref (g 2), .ref (g 3), .ref (g 4), .ref (g 5), .ref (g 6), .int 0, .int 0, .ref (g 9), .ref (g 10), .ref (g 11), .ref (g 12), .ref (g 13), .int 0, .int 0, .ref (g 16), .ref (g 17), .ref (g 18), .ref (g 19), .ref (g 20), .ref (g 21), .ref (g 22), .ref (g 23), .ref (g 24), .ref (g 25), .ref (g 26), .ref (g 27), .ref (g 28), .ref (g 29), .int 0, .ref (g 31), .ref (g 32), .int 0, .int 0, .ref (g 35), .int 0, .ref (g 37), .ref (g 38), .int 0, .ref (g 40), .ref (g 41), .int 1, .ref (g 43), .ref (g 44), .ref (g 45), .int 0]))] := hD
    refine lv_aload_n hx hb dX11_feed_48 rfl (lv_at hl 0 rfl) ?_
    refine va_get (D := (dC, dI)) (ci := 10) (v := .int 1) (C := RX11) (T := TX11) (N := 47) hx hb hta inlX11 hown hK hP 1 rfl rfl 42 (by decide) (hta _ fl_X11_141) (fun _ h9 => h9) rfl dX11_feed_49 ?_
    refine W.widen (k := 0) (n := 0) (Nat.le_of_ble_eq_true rfl) (Nat.le_of_ble_eq_true rfl) ?_
    exact k_iret () hx hb hr hlocks rfl P_nil D_nil (hK.sub (tys' := []) [] rfl) hS (by first | rfl | (simp [sp_feed, n_5]; done) | (simp [sp_feed, c_4, n_5]; done)) dX11_feed_52
  · have n_6 : (inB p0 0 255) = false := ite0 c_4
    refine lv_bipush (v := (-2)) hx hb dX11_feed_12 (by decide) ?_
    refine W.widen (k := 0) (n := 0) (Nat.le_of_ble_eq_true rfl) (Nat.le_of_ble_eq_true rfl) ?_
    exact k_iret () hx hb hr hlocks rfl P_nil D_nil (hK.sub (tys' := []) [] rfl) hS (by first | rfl | (simp [sp_feed, n_6]; done) | (simp [sp_feed, c_4, n_6]; done)) dX11_feed_14
set_option maxHeartbeats 4000000 in
set_option maxRecDepth 100000 in
theorem y_wipe (l : Launch) (dC : Nat → ClassId) (dI : Nat → Nat → Nat) (g : Nat → Nat) (h : Nat → ClassId) (sz : Nat) : Ci l (dC, dI) yX11_wipe cX11_wipe 2 (some .int) { frames := 0, cells := 0, slots := 0, locals := 0 } [.ref (g 47)] [] [zM g h] sz 0 0 Unit (fun r _ => r = 0) (fun _ => []) (fun _ => []) := by
  refine Ci_of (lv := [(0, .ref (g 47))]) (by decide) rfl rfl ?_
  intro p e s m below meth c A ls hx hb hml hr hown hta hlocks hnm hnw hP hD hK hS hA hl
  have hown : s.vm.findClass RX11 = some m.cls := hown
  refine lv_aload_n hx hb dX11_wipe_0 rfl (lv_at hl 0 rfl) ?_
  refine va_get (D := (dC, dI)) (ci := 10) (v := .int 0) (C := RX11) (T := TX11) (N := 47) hx hb hta inlX11 hown hK hP 0 rfl rfl 42 (by decide) (hta _ fl_X11_141) (fun _ h9 => h9) rfl dX11_wipe_1 ?_
  refine lv_istore_n (lv' := [(1, .int 0), (0, .ref (g 47))]) hx hb dX11_wipe_4 rfl hl (by decide) rfl (fun ls hl => ?_)
  refine lv_aload_n hx hb dX11_wipe_5 rfl (lv_at hl 1 rfl) ?_
  refine lv_iconst (v := 0) hx hb dX11_wipe_6 (by decide) ?_
  refine va_put (D := (dC, dI)) (ci := 10) (v := .int 0) (ty := .int) (C := RX11) (T := TX11) (N := 47) hx hb hta inlX11 tyX11 tyX11_ok nmX11 hown hK hP hD hS 0 rfl rfl 42 (by decide) (hta _ fl_X11_141) (fun _ h9 => h9) rfl (by decide +kernel) rfl rfl (Nat.le_of_ble_eq_true rfl) dX11_wipe_7 (fun H locs hP hD hS => ?_)
  have hP : va_P (dC, dI) vwCl [(g 47, .inr (10, [.int 0, .int 0, .ref (g 2), .ref (g 3), .ref (g 4), .ref (g 5), .ref (g 6), .int 0, .int 0, .ref (g 9), .ref (g 10), .ref (g 11), .ref (g 12), .ref (g 13), .int 0, .int 0, .ref (g 16), .ref (g 17), .ref (g 18), .ref (g 19), .ref (g 20), .ref (g 21), .ref (g 22), .ref (g 23), .ref (g 24), .ref (g 25), .ref (g 26), .ref (g 27), .ref (g 28), .ref (g 29), .int 0, .ref (g 31), .ref (g 32), .int 0, .int 0, .ref (g 35), .int 0, .ref (g 37), .ref (g 38), .int 0, .ref (g 40), .ref (g 41), .int 0, .ref (g 43), .ref (g 44), .ref (g 45), .int 0]))] H := hP
  have hD : va_D A [(g 47, .inr (10, [.int 0, .int 0, .ref (g 2), .ref (g 3), .ref (g 4), .ref (g 5), .ref (g 6), .int 0, .int 0, .ref (g 9), .ref (g 10), .ref (g 11), .ref (g 12), .ref (g 13), .int 0, .int 0, .ref (g 16), .ref (g 17), .ref (g 18), .ref (g 19), .ref (g 20), .ref (g 21), .ref (g 22), .ref (g 23), .ref (g 24), .ref (g 25), .ref (g 26), .ref (g 27), .ref (g 28), .ref (g 29), .int 0, .ref (g 31), .ref (g 32), .int 0, .int 0, .ref (g 35), .int 0, .ref (g 37), .ref (g 38), .int 0, .ref (g 40), .ref (g 41), .int 0, .ref (g 43), .ref (g 44), .ref (g 45), .int 0]))] := hD
  refine lv_iload_n hx hb dX11_wipe_10 rfl (lv_at hl 0 rfl) ?_
  refine W.widen (k := 0) (n := 0) (Nat.le_of_ble_eq_true rfl) (Nat.le_of_ble_eq_true rfl) ?_
  exact k_iret () hx hb hr hlocks rfl P_nil D_nil (hK.sub (tys' := []) [] rfl) hS rfl dX11_wipe_11
set_option maxHeartbeats 4000000 in
set_option maxRecDepth 100000 in
theorem y_tape (l : Launch) (dC : Nat → ClassId) (dI : Nat → Nat → Nat) (g : Nat → Nat) (h : Nat → ClassId) (p0 : Int32) (sz : Nat) : Ci l (dC, dI) yX11_tape cX11_tape 2 (some .int) { frames := 1, cells := 0, slots := 0, locals := 23 } [.ref (g 47), .int p0] [] [zM g h] sz 0 0 Unit (fun r _ => r = (-1)) (fun _ => []) (fun _ => []) := by
  refine Ci_of (lv := [(0, .ref (g 47)), (1, .int p0)]) (by decide) rfl rfl ?_
  intro p e s m below meth c A ls hx hb hml hr hown hta hlocks hnm hnw hP hD hK hS hA hl
  have hown : s.vm.findClass RX11 = some m.cls := hown
  refine lv_aload_n hx hb dX11_tape_0 rfl (lv_at hl 0 rfl) ?_
  refine lv_iload_n hx hb dX11_tape_1 rfl (lv_at hl 1 rfl) ?_
  refine lv_iconst (v := 0) hx hb dX11_tape_2 (by decide) ?_
  refine lv_aload_n hx hb dX11_tape_3 rfl (lv_at hl 0 rfl) ?_
  refine va_get (D := (dC, dI)) (ci := 10) (v := .int 0) (C := RX11) (T := TX11) (N := 47) hx hb hta inlX11 hown hK hP 0 rfl rfl 42 (by decide) (hta _ fl_X11_141) (fun _ h9 => h9) rfl dX11_tape_4 ?_
  refine lv_iconst (v := 1) hx hb dX11_tape_7 (by decide) ?_
  refine lv_isub hx hb dX11_tape_8 ?_
  refine k_top (y := (-1)) (by decide) ?_
  refine kVi (b := (g 47)) (n := 3) (As := [.int p0, .int 0, .int (-1)]) (rest := []) ⟨hx, hb, hml, hown, hta⟩ hnw (m_in l dC dI g h p0 0 (-1)  s.heap.size) cd_X11_in iz_X11 ml_X11_156 im_X11_in se_X11_X11_in (by decide +kernel) rfl (Nat.le_of_ble_eq_true rfl) (Nat.le_of_ble_eq_true rfl) rfl rfl (Nat.le_of_ble_eq_true rfl) (Nat.le_of_ble_eq_true rfl) hP hD hK hS hA [0] [] [] rfl (wr := []) rfl (by decide) (by decide) (by decide) rfl rfl 0 rfl hl.1 rfl (Nat.le_of_ble_eq_true rfl) dX11_tape_9 (fun r3 u1 H locs hw2 hP hD hK hS => ?_)
  have hP : va_P (dC, dI) vwCl [zM g h] H := hP
  have hD : va_D A [zM g h] := hD
  have hK : va_K (dC, dI) vwCl [] s := hK
  obtain rfl : r3 = 0 := hw2.trans (by rw [inB_neg]; rfl)
  refine lv_if_eq (tgt := 24) hx hb dX11_tape_12 (by decide) (fun _ => ?_) (fun c => absurd (by decide) c)
  refine lv_iconst (v := (-1)) hx hb dX11_tape_24 (by decide) ?_
  refine W.widen (k := 0) (n := 0) (Nat.le_of_ble_eq_true rfl) (Nat.le_of_ble_eq_true rfl) ?_
  exact k_iret () hx hb hr hlocks rfl P_nil D_nil (hK.sub (tys' := []) [] rfl) hS rfl dX11_tape_25
set_option maxHeartbeats 4000000 in
set_option maxRecDepth 100000 in
theorem y_write (l : Launch) (dC : Nat → ClassId) (dI : Nat → Nat → Nat) (g : Nat → Nat) (h : Nat → ClassId) (sz : Nat) : Ci l (dC, dI) yX11_write cX11_write 5 (some .int) { frames := 0, cells := 0, slots := 0, locals := 0 } [.ref (g 47)] [] [zM g h] sz 0 0 Unit (fun r _ => r = (-3)) (fun _ => []) (fun _ => []) := by
  refine Ci_of (lv := [(0, .ref (g 47))]) (by decide) rfl rfl ?_
  intro p e s m below meth c A ls hx hb hml hr hown hta hlocks hnm hnw hP hD hK hS hA hl
  have hown : s.vm.findClass RX11 = some m.cls := hown
  refine lv_aload_n hx hb dX11_write_0 rfl (lv_at hl 0 rfl) ?_
  refine va_get (D := (dC, dI)) (ci := 10) (v := .int 0) (C := RX11) (T := TX11) (N := 47) hx hb hta inlX11 hown hK hP 0 rfl rfl 14 (by decide) (hta _ fl_X11_53) (fun _ h9 => h9) rfl dX11_write_1 ?_
  refine lv_if_ne (tgt := 10) hx hb dX11_write_4 (by decide) (fun c => absurd c (by decide)) (fun _ => ?_)
  refine lv_bipush (v := (-3)) hx hb dX11_write_7 (by decide) ?_
  refine W.widen (k := 0) (n := 0) (Nat.le_of_ble_eq_true rfl) (Nat.le_of_ble_eq_true rfl) ?_
  exact k_iret () hx hb hr hlocks rfl P_nil D_nil (hK.sub (tys' := []) [] rfl) hS rfl dX11_write_9
set_option maxHeartbeats 4000000 in
set_option maxRecDepth 100000 in
theorem y_read (l : Launch) (dC : Nat → ClassId) (dI : Nat → Nat → Nat) (g : Nat → Nat) (h : Nat → ClassId) (sz : Nat) : Ci l (dC, dI) yX11_read cX11_read 6 (some .int) { frames := 0, cells := 0, slots := 0, locals := 0 } [.ref (g 47)] [] [zM g h] sz 0 0 Unit (fun r _ => r = (-3)) (fun _ => []) (fun _ => []) := by
  refine Ci_of (lv := [(0, .ref (g 47))]) (by decide) rfl rfl ?_
  intro p e s m below meth c A ls hx hb hml hr hown hta hlocks hnm hnw hP hD hK hS hA hl
  have hown : s.vm.findClass RX11 = some m.cls := hown
  refine lv_aload_n hx hb dX11_read_0 rfl (lv_at hl 0 rfl) ?_
  refine va_get (D := (dC, dI)) (ci := 10) (v := .int 0) (C := RX11) (T := TX11) (N := 47) hx hb hta inlX11 hown hK hP 0 rfl rfl 0 (by decide) (hta _ fl_X11_7) (fun _ h9 => h9) rfl dX11_read_1 ?_
  refine lv_if_ne (tgt := 10) hx hb dX11_read_4 (by decide) (fun c => absurd c (by decide)) (fun _ => ?_)
  refine lv_bipush (v := (-3)) hx hb dX11_read_7 (by decide) ?_
  refine W.widen (k := 0) (n := 0) (Nat.le_of_ble_eq_true rfl) (Nat.le_of_ble_eq_true rfl) ?_
  exact k_iret () hx hb hr hlocks rfl P_nil D_nil (hK.sub (tys' := []) [] rfl) hS rfl dX11_read_9
set_option maxHeartbeats 4000000 in
set_option maxRecDepth 100000 in
theorem y_count (l : Launch) (dC : Nat → ClassId) (dI : Nat → Nat → Nat) (g : Nat → Nat) (h : Nat → ClassId) (p0 : Int32) (sz : Nat) : Ci l (dC, dI) yX11_count_ cX11_count_ 4 (some .int) { frames := 0, cells := 0, slots := 0, locals := 0 } [.ref (g 47), .int p0] [] [zM g h] sz 0 0 Unit (fun r _ => r = sp_count p0) (fun _ => []) (fun _ => []) := by
  refine Ci_of (lv := [(0, .ref (g 47)), (1, .int p0)]) (by decide) rfl rfl ?_
  intro p e s m below meth c A ls hx hb hml hr hown hta hlocks hnm hnw hP hD hK hS hA hl
  have hown : s.vm.findClass RX11 = some m.cls := hown
  refine lv_iconst (v := 0) hx hb dX11_count__0 (by decide) ?_
  refine lv_istore_n (lv' := [(2, .int 0), (0, .ref (g 47)), (1, .int p0)]) hx hb dX11_count__1 rfl hl (by decide) rfl (fun ls hl => ?_)
  refine lv_iload_n hx hb dX11_count__2 rfl (lv_at hl 2 rfl) ?_
  rcases cnt_cases p0 with rfl | rfl | rfl | rfl | rfl | rfl | hc1
  · refine lv_tableIn (tgt := 40) hx hb dX11_count__3 (by decide) (by decide) rfl (by decide) ?_
    refine lv_aload_n hx hb dX11_count__40 rfl (lv_at hl 1 rfl) ?_
    refine va_get (D := (dC, dI)) (ci := 10) (v := .int 0) (C := RX11) (T := TX11) (N := 47) hx hb hta inlX11 hown hK hP 0 rfl rfl 0 (by decide) (hta _ fl_X11_7) (fun _ h9 => h9) rfl dX11_count__41 ?_
    refine W.widen (k := 0) (n := 0) (Nat.le_of_ble_eq_true rfl) (Nat.le_of_ble_eq_true rfl) ?_
    exact k_iret () hx hb hr hlocks rfl P_nil D_nil (hK.sub (tys' := []) [] rfl) hS (by decide) dX11_count__44
  · refine lv_tableIn (tgt := 45) hx hb dX11_count__3 (by decide) (by decide) rfl (by decide) ?_
    refine lv_aload_n hx hb dX11_count__45 rfl (lv_at hl 1 rfl) ?_
    refine va_get (D := (dC, dI)) (ci := 10) (v := .int 0) (C := RX11) (T := TX11) (N := 47) hx hb hta inlX11 hown hK hP 0 rfl rfl 7 (by decide) (hta _ fl_X11_32) (fun _ h9 => h9) rfl dX11_count__46 ?_
    refine W.widen (k := 0) (n := 0) (Nat.le_of_ble_eq_true rfl) (Nat.le_of_ble_eq_true rfl) ?_
    exact k_iret () hx hb hr hlocks rfl P_nil D_nil (hK.sub (tys' := []) [] rfl) hS (by decide) dX11_count__49
  · refine lv_tableIn (tgt := 50) hx hb dX11_count__3 (by decide) (by decide) rfl (by decide) ?_
    refine lv_iconst (v := 0) hx hb dX11_count__50 (by decide) ?_
    refine lv_istore_n (lv' := [(3, .int 0), (2, .int 0), (0, .ref (g 47)), (1, .int 2)]) hx hb dX11_count__51 rfl hl (by decide) rfl (fun ls hl => ?_)
    refine lv_iload_n hx hb dX11_count__52 rfl (lv_at hl 0 rfl) ?_
    refine lv_aload_n hx hb dX11_count__53 rfl (lv_at hl 2 rfl) ?_
    refine va_get (D := (dC, dI)) (ci := 10) (v := .int 0) (C := RX11) (T := TX11) (N := 47) hx hb hta inlX11 hown hK hP 0 rfl rfl 7 (by decide) (hta _ fl_X11_32) (fun _ h9 => h9) rfl dX11_count__54 ?_
    refine lv_icmp_ge (tgt := 75) hx hb dX11_count__57 (by decide) (fun _ => ?_) (fun c => absurd (by decide) c)
    refine lv_iload_n hx hb dX11_count__75 rfl (lv_at hl 1 rfl) ?_
    refine W.widen (k := 0) (n := 0) (Nat.le_of_ble_eq_true rfl) (Nat.le_of_ble_eq_true rfl) ?_
    exact k_iret () hx hb hr hlocks rfl P_nil D_nil (hK.sub (tys' := []) [] rfl) hS (by decide) dX11_count__76
  · refine lv_tableIn (tgt := 77) hx hb dX11_count__3 (by decide) (by decide) rfl (by decide) ?_
    refine lv_aload_n hx hb dX11_count__77 rfl (lv_at hl 1 rfl) ?_
    refine va_get (D := (dC, dI)) (ci := 10) (v := .int 0) (C := RX11) (T := TX11) (N := 47) hx hb hta inlX11 hown hK hP 0 rfl rfl 8 (by decide) (hta _ fl_X11_35) (fun _ h9 => h9) rfl dX11_count__78 ?_
    refine W.widen (k := 0) (n := 0) (Nat.le_of_ble_eq_true rfl) (Nat.le_of_ble_eq_true rfl) ?_
    exact k_iret () hx hb hr hlocks rfl P_nil D_nil (hK.sub (tys' := []) [] rfl) hS (by decide) dX11_count__81
  · refine lv_tableIn (tgt := 82) hx hb dX11_count__3 (by decide) (by decide) rfl (by decide) ?_
    refine lv_aload_n hx hb dX11_count__82 rfl (lv_at hl 1 rfl) ?_
    refine va_get (D := (dC, dI)) (ci := 10) (v := .int 0) (C := RX11) (T := TX11) (N := 47) hx hb hta inlX11 hown hK hP 0 rfl rfl 14 (by decide) (hta _ fl_X11_53) (fun _ h9 => h9) rfl dX11_count__83 ?_
    refine lv_if_eq (tgt := 93) hx hb dX11_count__86 (by decide) (fun _ => ?_) (fun c => absurd (by decide) c)
    refine lv_iconst (v := 0) hx hb dX11_count__93 (by decide) ?_
    refine W.widen (k := 0) (n := 0) (Nat.le_of_ble_eq_true rfl) (Nat.le_of_ble_eq_true rfl) ?_
    exact k_iret () hx hb hr hlocks rfl P_nil D_nil (hK.sub (tys' := []) [] rfl) hS (by decide) dX11_count__94
  · refine lv_tableIn (tgt := 95) hx hb dX11_count__3 (by decide) (by decide) rfl (by decide) ?_
    refine lv_aload_n hx hb dX11_count__95 rfl (lv_at hl 1 rfl) ?_
    refine va_get (D := (dC, dI)) (ci := 10) (v := .int 0) (C := RX11) (T := TX11) (N := 47) hx hb hta inlX11 hown hK hP 0 rfl rfl 14 (by decide) (hta _ fl_X11_53) (fun _ h9 => h9) rfl dX11_count__96 ?_
    refine lv_if_eq (tgt := 109) hx hb dX11_count__99 (by decide) (fun _ => ?_) (fun c => absurd (by decide) c)
    refine lv_iconst (v := (-1)) hx hb dX11_count__109 (by decide) ?_
    refine W.widen (k := 0) (n := 0) (Nat.le_of_ble_eq_true rfl) (Nat.le_of_ble_eq_true rfl) ?_
    exact k_iret () hx hb hr hlocks rfl P_nil D_nil (hK.sub (tys' := []) [] rfl) hS (by decide) dX11_count__110
  · refine lv_tableOut (tgt := 111) hx hb dX11_count__3 hc1 (by decide) ?_
    refine lv_iconst (v := (-1)) hx hb dX11_count__111 (by decide) ?_
    refine W.widen (k := 0) (n := 0) (Nat.le_of_ble_eq_true rfl) (Nat.le_of_ble_eq_true rfl) ?_
    exact k_iret () hx hb hr hlocks rfl P_nil D_nil (hK.sub (tys' := []) [] rfl) hS ((sp_count_out hc1).symm) dX11_count__112
end
