section
-- ===== PART A: goes FIRST, ahead of the names: the tables' words, and 'selects' of the private methods out of them =====
/-- a private method of a class that the tables say can be made, by its rows of tables_1 -/
def lw_okq (q : MethodName × Nat) : Prop := (q.1.cls ≠ "java/lang/invoke/MethodHandle" ∧ q.1.cls ≠ "java/lang/invoke/VarHandle") ∧ Cond.instantiable q.1.cls q.2 ∈ tables_1 ∧ Cond.privateMethod q.1 ∈ tables_1 ∧ Cond.instanceMethod q.1 ∈ tables_1
theorem lw_p0 : lw_okq (⟨"RubbedWelds", "stuffAt", "(I)LRubbedWelds$Stuff;"⟩, 13) := ⟨⟨by decide +kernel, by decide +kernel⟩, List.mem_of_getElem? (i := 20) (by decide +kernel), List.mem_of_getElem? (i := 253) (by decide +kernel), List.mem_of_getElem? (i := 254) (by decide +kernel)⟩
theorem lw_p1 : lw_okq (⟨"RubbedWelds$Stuff", "isBarred", "(I)Z"⟩, 2) := ⟨⟨by decide +kernel, by decide +kernel⟩, List.mem_of_getElem? (i := 235) (by decide +kernel), List.mem_of_getElem? (i := 257) (by decide +kernel), List.mem_of_getElem? (i := 258) (by decide +kernel)⟩
theorem lw_p2 : lw_okq (⟨"RubbedWelds$Stuff", "barFrom", "(I)V"⟩, 2) := ⟨⟨by decide +kernel, by decide +kernel⟩, List.mem_of_getElem? (i := 235) (by decide +kernel), List.mem_of_getElem? (i := 261) (by decide +kernel), List.mem_of_getElem? (i := 262) (by decide +kernel)⟩
theorem lw_p3 : lw_okq (⟨"RubbedWelds$Job", "join", "(LRubbedWelds$Stuff;LRubbedWelds$Stuff;I)V"⟩, 5) := ⟨⟨by decide +kernel, by decide +kernel⟩, List.mem_of_getElem? (i := 268) (by decide +kernel), List.mem_of_getElem? (i := 293) (by decide +kernel), List.mem_of_getElem? (i := 294) (by decide +kernel)⟩
theorem lw_p4 : lw_okq (⟨"RubbedWelds", "weldOf", "(II)Z"⟩, 13) := ⟨⟨by decide +kernel, by decide +kernel⟩, List.mem_of_getElem? (i := 20) (by decide +kernel), List.mem_of_getElem? (i := 319) (by decide +kernel), List.mem_of_getElem? (i := 320) (by decide +kernel)⟩
theorem lw_p5 : lw_okq (⟨"RubbedWelds", "jobAt", "(I)LRubbedWelds$Job;"⟩, 13) := ⟨⟨by decide +kernel, by decide +kernel⟩, List.mem_of_getElem? (i := 20) (by decide +kernel), List.mem_of_getElem? (i := 323) (by decide +kernel), List.mem_of_getElem? (i := 324) (by decide +kernel)⟩
theorem lw_p6 : lw_okq (⟨"RubbedWelds$Bench", "weld", "(LRubbedWelds$Job;I)V"⟩, 9) := ⟨⟨by decide +kernel, by decide +kernel⟩, List.mem_of_getElem? (i := 34) (by decide +kernel), List.mem_of_getElem? (i := 330) (by decide +kernel), List.mem_of_getElem? (i := 331) (by decide +kernel)⟩
theorem lw_p7 : lw_okq (⟨"RubbedWelds$Bench", "layCold", "()V"⟩, 9) := ⟨⟨by decide +kernel, by decide +kernel⟩, List.mem_of_getElem? (i := 34) (by decide +kernel), List.mem_of_getElem? (i := 334) (by decide +kernel), List.mem_of_getElem? (i := 335) (by decide +kernel)⟩
theorem lw_p8 : lw_okq (⟨"RubbedWelds$Bench", "rub", "(LRubbedWelds$Job;I)Z"⟩, 9) := ⟨⟨by decide +kernel, by decide +kernel⟩, List.mem_of_getElem? (i := 34) (by decide +kernel), List.mem_of_getElem? (i := 338) (by decide +kernel), List.mem_of_getElem? (i := 339) (by decide +kernel)⟩
theorem lw_p9 : lw_okq (⟨"RubbedWelds$Bench", "tick", "(LRubbedWelds$Job;II)Z"⟩, 9) := ⟨⟨by decide +kernel, by decide +kernel⟩, List.mem_of_getElem? (i := 34) (by decide +kernel), List.mem_of_getElem? (i := 345) (by decide +kernel), List.mem_of_getElem? (i := 346) (by decide +kernel)⟩
theorem lw_p10 : lw_okq (⟨"RubbedWelds$Bench", "outOfAll", "()I"⟩, 9) := ⟨⟨by decide +kernel, by decide +kernel⟩, List.mem_of_getElem? (i := 34) (by decide +kernel), List.mem_of_getElem? (i := 350) (by decide +kernel), List.mem_of_getElem? (i := 351) (by decide +kernel)⟩
theorem lw_p11 : lw_okq (⟨"RubbedWelds$Bench", "press", "(LRubbedWelds$Job;I)V"⟩, 9) := ⟨⟨by decide +kernel, by decide +kernel⟩, List.mem_of_getElem? (i := 34) (by decide +kernel), List.mem_of_getElem? (i := 354) (by decide +kernel), List.mem_of_getElem? (i := 355) (by decide +kernel)⟩
theorem lw_p12 : lw_okq (⟨"RubbedWelds$Bench", "cool", "(LRubbedWelds$Job;)V"⟩, 9) := ⟨⟨by decide +kernel, by decide +kernel⟩, List.mem_of_getElem? (i := 34) (by decide +kernel), List.mem_of_getElem? (i := 358) (by decide +kernel), List.mem_of_getElem? (i := 359) (by decide +kernel)⟩
theorem lw_p13 : lw_okq (⟨"RubbedWelds$Bench", "firstFault", "(LRubbedWelds$Job;)I"⟩, 9) := ⟨⟨by decide +kernel, by decide +kernel⟩, List.mem_of_getElem? (i := 34) (by decide +kernel), List.mem_of_getElem? (i := 362) (by decide +kernel), List.mem_of_getElem? (i := 363) (by decide +kernel)⟩
theorem lw_p14 : lw_okq (⟨"RubbedWelds$Bench", "faultOf", "(LRubbedWelds$Job;I)I"⟩, 9) := ⟨⟨by decide +kernel, by decide +kernel⟩, List.mem_of_getElem? (i := 34) (by decide +kernel), List.mem_of_getElem? (i := 366) (by decide +kernel), List.mem_of_getElem? (i := 367) (by decide +kernel)⟩
theorem lw_p15 : lw_okq (⟨"RubbedWelds$Job", "judge", "(IZ)V"⟩, 5) := ⟨⟨by decide +kernel, by decide +kernel⟩, List.mem_of_getElem? (i := 268) (by decide +kernel), List.mem_of_getElem? (i := 370) (by decide +kernel), List.mem_of_getElem? (i := 371) (by decide +kernel)⟩
def lw_privs_1 : List (MethodName × Nat) := [(⟨"RubbedWelds", "stuffAt", "(I)LRubbedWelds$Stuff;"⟩, 13), (⟨"RubbedWelds$Stuff", "isBarred", "(I)Z"⟩, 2), (⟨"RubbedWelds$Stuff", "barFrom", "(I)V"⟩, 2), (⟨"RubbedWelds$Job", "join", "(LRubbedWelds$Stuff;LRubbedWelds$Stuff;I)V"⟩, 5), (⟨"RubbedWelds", "weldOf", "(II)Z"⟩, 13), (⟨"RubbedWelds", "jobAt", "(I)LRubbedWelds$Job;"⟩, 13), (⟨"RubbedWelds$Bench", "weld", "(LRubbedWelds$Job;I)V"⟩, 9), (⟨"RubbedWelds$Bench", "layCold", "()V"⟩, 9), (⟨"RubbedWelds$Bench", "rub", "(LRubbedWelds$Job;I)Z"⟩, 9), (⟨"RubbedWelds$Bench", "tick", "(LRubbedWelds$Job;II)Z"⟩, 9), (⟨"RubbedWelds$Bench", "outOfAll", "()I"⟩, 9), (⟨"RubbedWelds$Bench", "press", "(LRubbedWelds$Job;I)V"⟩, 9), (⟨"RubbedWelds$Bench", "cool", "(LRubbedWelds$Job;)V"⟩, 9), (⟨"RubbedWelds$Bench", "firstFault", "(LRubbedWelds$Job;)I"⟩, 9), (⟨"RubbedWelds$Bench", "faultOf", "(LRubbedWelds$Job;I)I"⟩, 9), (⟨"RubbedWelds$Job", "judge", "(IZ)V"⟩, 5)]
theorem lw_r1 : ∀ q ∈ lw_privs_1, lw_okq q := List.forall_mem_cons.mpr ⟨lw_p0, List.forall_mem_cons.mpr ⟨lw_p1, List.forall_mem_cons.mpr ⟨lw_p2, List.forall_mem_cons.mpr ⟨lw_p3, List.forall_mem_cons.mpr ⟨lw_p4, List.forall_mem_cons.mpr ⟨lw_p5, List.forall_mem_cons.mpr ⟨lw_p6, List.forall_mem_cons.mpr ⟨lw_p7, List.forall_mem_cons.mpr ⟨lw_p8, List.forall_mem_cons.mpr ⟨lw_p9, List.forall_mem_cons.mpr ⟨lw_p10, List.forall_mem_cons.mpr ⟨lw_p11, List.forall_mem_cons.mpr ⟨lw_p12, List.forall_mem_cons.mpr ⟨lw_p13, List.forall_mem_cons.mpr ⟨lw_p14, List.forall_mem_cons.mpr ⟨lw_p15, fun _ h => absurd h List.not_mem_nil⟩⟩⟩⟩⟩⟩⟩⟩⟩⟩⟩⟩⟩⟩⟩⟩
theorem lw_p16 : lw_okq (⟨"RubbedWelds", "windowAt", "(I)LRubbedWelds$Window;"⟩, 13) := ⟨⟨by decide +kernel, by decide +kernel⟩, List.mem_of_getElem? (i := 20) (by decide +kernel), List.mem_of_getElem? (i := 432) (by decide +kernel), List.mem_of_getElem? (i := 433) (by decide +kernel)⟩
theorem lw_p17 : lw_okq (⟨"RubbedWelds$Bench", "makesGood", "(LRubbedWelds$Job;I)Z"⟩, 9) := ⟨⟨by decide +kernel, by decide +kernel⟩, List.mem_of_getElem? (i := 34) (by decide +kernel), List.mem_of_getElem? (i := 439) (by decide +kernel), List.mem_of_getElem? (i := 440) (by decide +kernel)⟩
theorem lw_p18 : lw_okq (⟨"RubbedWelds$Job", "isJudged", "(I)Z"⟩, 5) := ⟨⟨by decide +kernel, by decide +kernel⟩, List.mem_of_getElem? (i := 268) (by decide +kernel), List.mem_of_getElem? (i := 443) (by decide +kernel), List.mem_of_getElem? (i := 444) (by decide +kernel)⟩
theorem lw_p19 : lw_okq (⟨"RubbedWelds$Job", "isFoundGood", "(I)Z"⟩, 5) := ⟨⟨by decide +kernel, by decide +kernel⟩, List.mem_of_getElem? (i := 268) (by decide +kernel), List.mem_of_getElem? (i := 448) (by decide +kernel), List.mem_of_getElem? (i := 449) (by decide +kernel)⟩
theorem lw_p20 : lw_okq (⟨"RubbedWelds", "leastRow", "(LRubbedWelds$Window;)[I"⟩, 13) := ⟨⟨by decide +kernel, by decide +kernel⟩, List.mem_of_getElem? (i := 20) (by decide +kernel), List.mem_of_getElem? (i := 456) (by decide +kernel), List.mem_of_getElem? (i := 457) (by decide +kernel)⟩
theorem lw_p21 : lw_okq (⟨"RubbedWelds$Prover", "fill", "(LRubbedWelds$Bench;LRubbedWelds$Window;)V"⟩, 1) := ⟨⟨by decide +kernel, by decide +kernel⟩, List.mem_of_getElem? (i := 460) (by decide +kernel), List.mem_of_getElem? (i := 470) (by decide +kernel), List.mem_of_getElem? (i := 471) (by decide +kernel)⟩
theorem lw_p22 : lw_okq (⟨"RubbedWelds$Prover", "leastCut", "(IIII)I"⟩, 1) := ⟨⟨by decide +kernel, by decide +kernel⟩, List.mem_of_getElem? (i := 460) (by decide +kernel), List.mem_of_getElem? (i := 485) (by decide +kernel), List.mem_of_getElem? (i := 486) (by decide +kernel)⟩
theorem lw_p23 : lw_okq (⟨"RubbedWelds$Prover", "leastOn", "(IIII)I"⟩, 1) := ⟨⟨by decide +kernel, by decide +kernel⟩, List.mem_of_getElem? (i := 460) (by decide +kernel), List.mem_of_getElem? (i := 489) (by decide +kernel), List.mem_of_getElem? (i := 490) (by decide +kernel)⟩
theorem lw_p24 : lw_okq (⟨"RubbedWelds$Prover", "findGreatest", "(LRubbedWelds$Window;)V"⟩, 1) := ⟨⟨by decide +kernel, by decide +kernel⟩, List.mem_of_getElem? (i := 460) (by decide +kernel), List.mem_of_getElem? (i := 502) (by decide +kernel), List.mem_of_getElem? (i := 503) (by decide +kernel)⟩
theorem lw_p25 : lw_okq (⟨"RubbedWelds$Prover", "rowOf", "(LRubbedWelds$Walk;LRubbedWelds$Window;)[I"⟩, 1) := ⟨⟨by decide +kernel, by decide +kernel⟩, List.mem_of_getElem? (i := 460) (by decide +kernel), List.mem_of_getElem? (i := 509) (by decide +kernel), List.mem_of_getElem? (i := 510) (by decide +kernel)⟩
theorem lw_p26 : lw_okq (⟨"RubbedWelds$Walk", "begin", "(II)V"⟩, 5) := ⟨⟨by decide +kernel, by decide +kernel⟩, List.mem_of_getElem? (i := 76) (by decide +kernel), List.mem_of_getElem? (i := 520) (by decide +kernel), List.mem_of_getElem? (i := 521) (by decide +kernel)⟩
theorem lw_p27 : lw_okq (⟨"RubbedWelds$Walk", "lay", "(II)V"⟩, 5) := ⟨⟨by decide +kernel, by decide +kernel⟩, List.mem_of_getElem? (i := 76) (by decide +kernel), List.mem_of_getElem? (i := 524) (by decide +kernel), List.mem_of_getElem? (i := 525) (by decide +kernel)⟩
theorem lw_p28 : lw_okq (⟨"RubbedWelds$Walk", "advance", "()Z"⟩, 5) := ⟨⟨by decide +kernel, by decide +kernel⟩, List.mem_of_getElem? (i := 76) (by decide +kernel), List.mem_of_getElem? (i := 528) (by decide +kernel), List.mem_of_getElem? (i := 529) (by decide +kernel)⟩
theorem lw_p29 : lw_okq (⟨"RubbedWelds$Walk", "follow", "(I)V"⟩, 5) := ⟨⟨by decide +kernel, by decide +kernel⟩, List.mem_of_getElem? (i := 76) (by decide +kernel), List.mem_of_getElem? (i := 532) (by decide +kernel), List.mem_of_getElem? (i := 533) (by decide +kernel)⟩
theorem lw_p30 : lw_okq (⟨"RubbedWelds$Walk", "mayCut", "(I)Z"⟩, 5) := ⟨⟨by decide +kernel, by decide +kernel⟩, List.mem_of_getElem? (i := 76) (by decide +kernel), List.mem_of_getElem? (i := 536) (by decide +kernel), List.mem_of_getElem? (i := 537) (by decide +kernel)⟩
theorem lw_p31 : lw_okq (⟨"RubbedWelds$Tape", "append", "(I)Z"⟩, 2) := ⟨⟨by decide +kernel, by decide +kernel⟩, List.mem_of_getElem? (i := 103) (by decide +kernel), List.mem_of_getElem? (i := 556) (by decide +kernel), List.mem_of_getElem? (i := 557) (by decide +kernel)⟩
def lw_privs_2 : List (MethodName × Nat) := [(⟨"RubbedWelds", "windowAt", "(I)LRubbedWelds$Window;"⟩, 13), (⟨"RubbedWelds$Bench", "makesGood", "(LRubbedWelds$Job;I)Z"⟩, 9), (⟨"RubbedWelds$Job", "isJudged", "(I)Z"⟩, 5), (⟨"RubbedWelds$Job", "isFoundGood", "(I)Z"⟩, 5), (⟨"RubbedWelds", "leastRow", "(LRubbedWelds$Window;)[I"⟩, 13), (⟨"RubbedWelds$Prover", "fill", "(LRubbedWelds$Bench;LRubbedWelds$Window;)V"⟩, 1), (⟨"RubbedWelds$Prover", "leastCut", "(IIII)I"⟩, 1), (⟨"RubbedWelds$Prover", "leastOn", "(IIII)I"⟩, 1), (⟨"RubbedWelds$Prover", "findGreatest", "(LRubbedWelds$Window;)V"⟩, 1), (⟨"RubbedWelds$Prover", "rowOf", "(LRubbedWelds$Walk;LRubbedWelds$Window;)[I"⟩, 1), (⟨"RubbedWelds$Walk", "begin", "(II)V"⟩, 5), (⟨"RubbedWelds$Walk", "lay", "(II)V"⟩, 5), (⟨"RubbedWelds$Walk", "advance", "()Z"⟩, 5), (⟨"RubbedWelds$Walk", "follow", "(I)V"⟩, 5), (⟨"RubbedWelds$Walk", "mayCut", "(I)Z"⟩, 5), (⟨"RubbedWelds$Tape", "append", "(I)Z"⟩, 2)]
theorem lw_r2 : ∀ q ∈ lw_privs_2, lw_okq q := List.forall_mem_cons.mpr ⟨lw_p16, List.forall_mem_cons.mpr ⟨lw_p17, List.forall_mem_cons.mpr ⟨lw_p18, List.forall_mem_cons.mpr ⟨lw_p19, List.forall_mem_cons.mpr ⟨lw_p20, List.forall_mem_cons.mpr ⟨lw_p21, List.forall_mem_cons.mpr ⟨lw_p22, List.forall_mem_cons.mpr ⟨lw_p23, List.forall_mem_cons.mpr ⟨lw_p24, List.forall_mem_cons.mpr ⟨lw_p25, List.forall_mem_cons.mpr ⟨lw_p26, List.forall_mem_cons.mpr ⟨lw_p27, List.forall_mem_cons.mpr ⟨lw_p28, List.forall_mem_cons.mpr ⟨lw_p29, List.forall_mem_cons.mpr ⟨lw_p30, List.forall_mem_cons.mpr ⟨lw_p31, fun _ h => absurd h List.not_mem_nil⟩⟩⟩⟩⟩⟩⟩⟩⟩⟩⟩⟩⟩⟩⟩⟩
theorem lw_p32 : lw_okq (⟨"RubbedWelds$Tape", "become", "([I)V"⟩, 2) := ⟨⟨by decide +kernel, by decide +kernel⟩, List.mem_of_getElem? (i := 103) (by decide +kernel), List.mem_of_getElem? (i := 567) (by decide +kernel), List.mem_of_getElem? (i := 568) (by decide +kernel)⟩
theorem lw_p33 : lw_okq (⟨"RubbedWelds$Tape", "replace", "(II)Z"⟩, 2) := ⟨⟨by decide +kernel, by decide +kernel⟩, List.mem_of_getElem? (i := 103) (by decide +kernel), List.mem_of_getElem? (i := 579) (by decide +kernel), List.mem_of_getElem? (i := 580) (by decide +kernel)⟩
theorem lw_p34 : lw_okq (⟨"RubbedWelds$Tape", "shorten", "(I)Z"⟩, 2) := ⟨⟨by decide +kernel, by decide +kernel⟩, List.mem_of_getElem? (i := 103) (by decide +kernel), List.mem_of_getElem? (i := 587) (by decide +kernel), List.mem_of_getElem? (i := 588) (by decide +kernel)⟩
theorem lw_p35 : lw_okq (⟨"RubbedWelds", "mayStand", "(LRubbedWelds$Job;I)Z"⟩, 13) := ⟨⟨by decide +kernel, by decide +kernel⟩, List.mem_of_getElem? (i := 20) (by decide +kernel), List.mem_of_getElem? (i := 597) (by decide +kernel), List.mem_of_getElem? (i := 598) (by decide +kernel)⟩
theorem lw_p36 : lw_okq (⟨"RubbedWelds$Book", "enter", "(LRubbedWelds$Job;II)I"⟩, 7) := ⟨⟨by decide +kernel, by decide +kernel⟩, List.mem_of_getElem? (i := 118) (by decide +kernel), List.mem_of_getElem? (i := 628) (by decide +kernel), List.mem_of_getElem? (i := 629) (by decide +kernel)⟩
theorem lw_p37 : lw_okq (⟨"RubbedWelds$Book", "note", "(IZI)Z"⟩, 7) := ⟨⟨by decide +kernel, by decide +kernel⟩, List.mem_of_getElem? (i := 118) (by decide +kernel), List.mem_of_getElem? (i := 654) (by decide +kernel), List.mem_of_getElem? (i := 655) (by decide +kernel)⟩
theorem lw_p38 : lw_okq (⟨"RubbedWelds$Book", "jointAt", "(I)LRubbedWelds$Joint;"⟩, 7) := ⟨⟨by decide +kernel, by decide +kernel⟩, List.mem_of_getElem? (i := 118) (by decide +kernel), List.mem_of_getElem? (i := 658) (by decide +kernel), List.mem_of_getElem? (i := 659) (by decide +kernel)⟩
theorem lw_p39 : lw_okq (⟨"RubbedWelds", "isKnownDay", "(I)Z"⟩, 13) := ⟨⟨by decide +kernel, by decide +kernel⟩, List.mem_of_getElem? (i := 20) (by decide +kernel), List.mem_of_getElem? (i := 667) (by decide +kernel), List.mem_of_getElem? (i := 668) (by decide +kernel)⟩
theorem lw_p40 : lw_okq (⟨"RubbedWelds$Book", "recall", "(I)V"⟩, 7) := ⟨⟨by decide +kernel, by decide +kernel⟩, List.mem_of_getElem? (i := 118) (by decide +kernel), List.mem_of_getElem? (i := 671) (by decide +kernel), List.mem_of_getElem? (i := 672) (by decide +kernel)⟩
theorem lw_p41 : lw_okq (⟨"RubbedWelds$Book", "countOdd", "(LRubbedWelds$Bench;)I"⟩, 7) := ⟨⟨by decide +kernel, by decide +kernel⟩, List.mem_of_getElem? (i := 118) (by decide +kernel), List.mem_of_getElem? (i := 679) (by decide +kernel), List.mem_of_getElem? (i := 680) (by decide +kernel)⟩
theorem lw_p42 : lw_okq (⟨"RubbedWelds$Book", "worstStuff", "(I)I"⟩, 7) := ⟨⟨by decide +kernel, by decide +kernel⟩, List.mem_of_getElem? (i := 118) (by decide +kernel), List.mem_of_getElem? (i := 688) (by decide +kernel), List.mem_of_getElem? (i := 689) (by decide +kernel)⟩
theorem lw_p43 : lw_okq (⟨"RubbedWelds$Book", "countWith", "(II)I"⟩, 7) := ⟨⟨by decide +kernel, by decide +kernel⟩, List.mem_of_getElem? (i := 118) (by decide +kernel), List.mem_of_getElem? (i := 692) (by decide +kernel), List.mem_of_getElem? (i := 693) (by decide +kernel)⟩
theorem lw_p44 : lw_okq (⟨"RubbedWelds$Job", "has", "(I)Z"⟩, 5) := ⟨⟨by decide +kernel, by decide +kernel⟩, List.mem_of_getElem? (i := 268) (by decide +kernel), List.mem_of_getElem? (i := 696) (by decide +kernel), List.mem_of_getElem? (i := 697) (by decide +kernel)⟩
theorem lw_p45 : lw_okq (⟨"RubbedWelds$DayList", "enter", "(II)I"⟩, 8) := ⟨⟨by decide +kernel, by decide +kernel⟩, List.mem_of_getElem? (i := 150) (by decide +kernel), List.mem_of_getElem? (i := 704) (by decide +kernel), List.mem_of_getElem? (i := 705) (by decide +kernel)⟩
theorem lw_p46 : lw_okq (⟨"RubbedWelds$DayList", "empty", "()V"⟩, 8) := ⟨⟨by decide +kernel, by decide +kernel⟩, List.mem_of_getElem? (i := 150) (by decide +kernel), List.mem_of_getElem? (i := 712) (by decide +kernel), List.mem_of_getElem? (i := 713) (by decide +kernel)⟩
theorem lw_p47 : lw_okq (⟨"RubbedWelds$DayList", "plan", "()V"⟩, 8) := ⟨⟨by decide +kernel, by decide +kernel⟩, List.mem_of_getElem? (i := 150) (by decide +kernel), List.mem_of_getElem? (i := 720) (by decide +kernel), List.mem_of_getElem? (i := 721) (by decide +kernel)⟩
def lw_privs_3 : List (MethodName × Nat) := [(⟨"RubbedWelds$Tape", "become", "([I)V"⟩, 2), (⟨"RubbedWelds$Tape", "replace", "(II)Z"⟩, 2), (⟨"RubbedWelds$Tape", "shorten", "(I)Z"⟩, 2), (⟨"RubbedWelds", "mayStand", "(LRubbedWelds$Job;I)Z"⟩, 13), (⟨"RubbedWelds$Book", "enter", "(LRubbedWelds$Job;II)I"⟩, 7), (⟨"RubbedWelds$Book", "note", "(IZI)Z"⟩, 7), (⟨"RubbedWelds$Book", "jointAt", "(I)LRubbedWelds$Joint;"⟩, 7), (⟨"RubbedWelds", "isKnownDay", "(I)Z"⟩, 13), (⟨"RubbedWelds$Book", "recall", "(I)V"⟩, 7), (⟨"RubbedWelds$Book", "countOdd", "(LRubbedWelds$Bench;)I"⟩, 7), (⟨"RubbedWelds$Book", "worstStuff", "(I)I"⟩, 7), (⟨"RubbedWelds$Book", "countWith", "(II)I"⟩, 7), (⟨"RubbedWelds$Job", "has", "(I)Z"⟩, 5), (⟨"RubbedWelds$DayList", "enter", "(II)I"⟩, 8), (⟨"RubbedWelds$DayList", "empty", "()V"⟩, 8), (⟨"RubbedWelds$DayList", "plan", "()V"⟩, 8)]
theorem lw_r3 : ∀ q ∈ lw_privs_3, lw_okq q := List.forall_mem_cons.mpr ⟨lw_p32, List.forall_mem_cons.mpr ⟨lw_p33, List.forall_mem_cons.mpr ⟨lw_p34, List.forall_mem_cons.mpr ⟨lw_p35, List.forall_mem_cons.mpr ⟨lw_p36, List.forall_mem_cons.mpr ⟨lw_p37, List.forall_mem_cons.mpr ⟨lw_p38, List.forall_mem_cons.mpr ⟨lw_p39, List.forall_mem_cons.mpr ⟨lw_p40, List.forall_mem_cons.mpr ⟨lw_p41, List.forall_mem_cons.mpr ⟨lw_p42, List.forall_mem_cons.mpr ⟨lw_p43, List.forall_mem_cons.mpr ⟨lw_p44, List.forall_mem_cons.mpr ⟨lw_p45, List.forall_mem_cons.mpr ⟨lw_p46, List.forall_mem_cons.mpr ⟨lw_p47, fun _ h => absurd h List.not_mem_nil⟩⟩⟩⟩⟩⟩⟩⟩⟩⟩⟩⟩⟩⟩⟩⟩
theorem lw_p48 : lw_okq (⟨"RubbedWelds$DayList", "fillChanges", "()V"⟩, 8) := ⟨⟨by decide +kernel, by decide +kernel⟩, List.mem_of_getElem? (i := 150) (by decide +kernel), List.mem_of_getElem? (i := 724) (by decide +kernel), List.mem_of_getElem? (i := 725) (by decide +kernel)⟩
theorem lw_p49 : lw_okq (⟨"RubbedWelds$DayList", "change", "(II)I"⟩, 8) := ⟨⟨by decide +kernel, by decide +kernel⟩, List.mem_of_getElem? (i := 150) (by decide +kernel), List.mem_of_getElem? (i := 728) (by decide +kernel), List.mem_of_getElem? (i := 729) (by decide +kernel)⟩
theorem lw_p50 : lw_okq (⟨"RubbedWelds$DayList", "fillRest", "([I)V"⟩, 8) := ⟨⟨by decide +kernel, by decide +kernel⟩, List.mem_of_getElem? (i := 150) (by decide +kernel), List.mem_of_getElem? (i := 733) (by decide +kernel), List.mem_of_getElem? (i := 734) (by decide +kernel)⟩
theorem lw_p51 : lw_okq (⟨"RubbedWelds$DayList", "bestNext", "([III)I"⟩, 8) := ⟨⟨by decide +kernel, by decide +kernel⟩, List.mem_of_getElem? (i := 150) (by decide +kernel), List.mem_of_getElem? (i := 737) (by decide +kernel), List.mem_of_getElem? (i := 738) (by decide +kernel)⟩
theorem lw_p52 : lw_okq (⟨"RubbedWelds$DayList", "sumBy", "([IIII)I"⟩, 8) := ⟨⟨by decide +kernel, by decide +kernel⟩, List.mem_of_getElem? (i := 150) (by decide +kernel), List.mem_of_getElem? (i := 741) (by decide +kernel), List.mem_of_getElem? (i := 742) (by decide +kernel)⟩
theorem lw_p53 : lw_okq (⟨"RubbedWelds$DayList", "changeTo", "(II)I"⟩, 8) := ⟨⟨by decide +kernel, by decide +kernel⟩, List.mem_of_getElem? (i := 150) (by decide +kernel), List.mem_of_getElem? (i := 745) (by decide +kernel), List.mem_of_getElem? (i := 746) (by decide +kernel)⟩
theorem lw_p54 : lw_okq (⟨"java/lang/Throwable", "fillInStackTrace", "(I)Ljava/lang/Throwable;"⟩, 6) := ⟨⟨by decide +kernel, by decide +kernel⟩, List.mem_of_getElem? (i := 797) (by decide +kernel), List.mem_of_getElem? (i := 795) (by decide +kernel), List.mem_of_getElem? (i := 796) (by decide +kernel)⟩
theorem lw_p55 : lw_okq (⟨"RubbedWeldsModel", "isStuff", "(I)Z"⟩, 48) := ⟨⟨by decide +kernel, by decide +kernel⟩, List.mem_of_getElem? (i := 822) (by decide +kernel), List.mem_of_getElem? (i := 994) (by decide +kernel), List.mem_of_getElem? (i := 995) (by decide +kernel)⟩
theorem lw_p56 : lw_okq (⟨"RubbedWeldsModel", "isJob", "(I)Z"⟩, 48) := ⟨⟨by decide +kernel, by decide +kernel⟩, List.mem_of_getElem? (i := 822) (by decide +kernel), List.mem_of_getElem? (i := 1008) (by decide +kernel), List.mem_of_getElem? (i := 1009) (by decide +kernel)⟩
theorem lw_p57 : lw_okq (⟨"RubbedWeldsModel", "isAsked", "(II)Z"⟩, 48) := ⟨⟨by decide +kernel, by decide +kernel⟩, List.mem_of_getElem? (i := 822) (by decide +kernel), List.mem_of_getElem? (i := 1023) (by decide +kernel), List.mem_of_getElem? (i := 1024) (by decide +kernel)⟩
theorem lw_p58 : lw_okq (⟨"RubbedWeldsModel", "verdictOf", "(II)I"⟩, 48) := ⟨⟨by decide +kernel, by decide +kernel⟩, List.mem_of_getElem? (i := 822) (by decide +kernel), List.mem_of_getElem? (i := 1030) (by decide +kernel), List.mem_of_getElem? (i := 1031) (by decide +kernel)⟩
theorem lw_p59 : lw_okq (⟨"RubbedWeldsModel", "judge", "(II)I"⟩, 48) := ⟨⟨by decide +kernel, by decide +kernel⟩, List.mem_of_getElem? (i := 822) (by decide +kernel), List.mem_of_getElem? (i := 1034) (by decide +kernel), List.mem_of_getElem? (i := 1035) (by decide +kernel)⟩
theorem lw_p60 : lw_okq (⟨"RubbedWeldsModel", "weld", "(II)V"⟩, 48) := ⟨⟨by decide +kernel, by decide +kernel⟩, List.mem_of_getElem? (i := 822) (by decide +kernel), List.mem_of_getElem? (i := 1038) (by decide +kernel), List.mem_of_getElem? (i := 1039) (by decide +kernel)⟩
theorem lw_p61 : lw_okq (⟨"RubbedWeldsModel", "outAll", "(I)I"⟩, 48) := ⟨⟨by decide +kernel, by decide +kernel⟩, List.mem_of_getElem? (i := 822) (by decide +kernel), List.mem_of_getElem? (i := 1045) (by decide +kernel), List.mem_of_getElem? (i := 1046) (by decide +kernel)⟩
theorem lw_p62 : lw_okq (⟨"RubbedWeldsModel", "tick", "(IIIZ)V"⟩, 48) := ⟨⟨by decide +kernel, by decide +kernel⟩, List.mem_of_getElem? (i := 822) (by decide +kernel), List.mem_of_getElem? (i := 1049) (by decide +kernel), List.mem_of_getElem? (i := 1050) (by decide +kernel)⟩
theorem lw_p63 : lw_okq (⟨"RubbedWeldsModel", "led", "(III)I"⟩, 48) := ⟨⟨by decide +kernel, by decide +kernel⟩, List.mem_of_getElem? (i := 822) (by decide +kernel), List.mem_of_getElem? (i := 1053) (by decide +kernel), List.mem_of_getElem? (i := 1054) (by decide +kernel)⟩
def lw_privs_4 : List (MethodName × Nat) := [(⟨"RubbedWelds$DayList", "fillChanges", "()V"⟩, 8), (⟨"RubbedWelds$DayList", "change", "(II)I"⟩, 8), (⟨"RubbedWelds$DayList", "fillRest", "([I)V"⟩, 8), (⟨"RubbedWelds$DayList", "bestNext", "([III)I"⟩, 8), (⟨"RubbedWelds$DayList", "sumBy", "([IIII)I"⟩, 8), (⟨"RubbedWelds$DayList", "changeTo", "(II)I"⟩, 8), (⟨"java/lang/Throwable", "fillInStackTrace", "(I)Ljava/lang/Throwable;"⟩, 6), (⟨"RubbedWeldsModel", "isStuff", "(I)Z"⟩, 48), (⟨"RubbedWeldsModel", "isJob", "(I)Z"⟩, 48), (⟨"RubbedWeldsModel", "isAsked", "(II)Z"⟩, 48), (⟨"RubbedWeldsModel", "verdictOf", "(II)I"⟩, 48), (⟨"RubbedWeldsModel", "judge", "(II)I"⟩, 48), (⟨"RubbedWeldsModel", "weld", "(II)V"⟩, 48), (⟨"RubbedWeldsModel", "outAll", "(I)I"⟩, 48), (⟨"RubbedWeldsModel", "tick", "(IIIZ)V"⟩, 48), (⟨"RubbedWeldsModel", "led", "(III)I"⟩, 48)]
theorem lw_r4 : ∀ q ∈ lw_privs_4, lw_okq q := List.forall_mem_cons.mpr ⟨lw_p48, List.forall_mem_cons.mpr ⟨lw_p49, List.forall_mem_cons.mpr ⟨lw_p50, List.forall_mem_cons.mpr ⟨lw_p51, List.forall_mem_cons.mpr ⟨lw_p52, List.forall_mem_cons.mpr ⟨lw_p53, List.forall_mem_cons.mpr ⟨lw_p54, List.forall_mem_cons.mpr ⟨lw_p55, List.forall_mem_cons.mpr ⟨lw_p56, List.forall_mem_cons.mpr ⟨lw_p57, List.forall_mem_cons.mpr ⟨lw_p58, List.forall_mem_cons.mpr ⟨lw_p59, List.forall_mem_cons.mpr ⟨lw_p60, List.forall_mem_cons.mpr ⟨lw_p61, List.forall_mem_cons.mpr ⟨lw_p62, List.forall_mem_cons.mpr ⟨lw_p63, fun _ h => absurd h List.not_mem_nil⟩⟩⟩⟩⟩⟩⟩⟩⟩⟩⟩⟩⟩⟩⟩⟩
theorem lw_p64 : lw_okq (⟨"RubbedWeldsModel", "isWindow", "(I)Z"⟩, 48) := ⟨⟨by decide +kernel, by decide +kernel⟩, List.mem_of_getElem? (i := 822) (by decide +kernel), List.mem_of_getElem? (i := 1079) (by decide +kernel), List.mem_of_getElem? (i := 1080) (by decide +kernel)⟩
theorem lw_p65 : lw_okq (⟨"RubbedWeldsModel", "wide", "(I)I"⟩, 48) := ⟨⟨by decide +kernel, by decide +kernel⟩, List.mem_of_getElem? (i := 822) (by decide +kernel), List.mem_of_getElem? (i := 1083) (by decide +kernel), List.mem_of_getElem? (i := 1084) (by decide +kernel)⟩
theorem lw_p66 : lw_okq (⟨"RubbedWeldsModel", "goodIn", "(IIIIII)I"⟩, 48) := ⟨⟨by decide +kernel, by decide +kernel⟩, List.mem_of_getElem? (i := 822) (by decide +kernel), List.mem_of_getElem? (i := 1087) (by decide +kernel), List.mem_of_getElem? (i := 1088) (by decide +kernel)⟩
theorem lw_p67 : lw_okq (⟨"RubbedWeldsModel", "isGood", "(III)Z"⟩, 48) := ⟨⟨by decide +kernel, by decide +kernel⟩, List.mem_of_getElem? (i := 822) (by decide +kernel), List.mem_of_getElem? (i := 1091) (by decide +kernel), List.mem_of_getElem? (i := 1092) (by decide +kernel)⟩
theorem lw_p68 : lw_okq (⟨"RubbedWeldsModel", "prove", "(I)I"⟩, 48) := ⟨⟨by decide +kernel, by decide +kernel⟩, List.mem_of_getElem? (i := 822) (by decide +kernel), List.mem_of_getElem? (i := 1099) (by decide +kernel), List.mem_of_getElem? (i := 1100) (by decide +kernel)⟩
theorem lw_p69 : lw_okq (⟨"RubbedWeldsModel", "leavesOf", "(IIIIII)I"⟩, 48) := ⟨⟨by decide +kernel, by decide +kernel⟩, List.mem_of_getElem? (i := 822) (by decide +kernel), List.mem_of_getElem? (i := 1103) (by decide +kernel), List.mem_of_getElem? (i := 1104) (by decide +kernel)⟩
theorem lw_p70 : lw_okq (⟨"RubbedWeldsModel", "better", "(IIII)I"⟩, 48) := ⟨⟨by decide +kernel, by decide +kernel⟩, List.mem_of_getElem? (i := 822) (by decide +kernel), List.mem_of_getElem? (i := 1113) (by decide +kernel), List.mem_of_getElem? (i := 1114) (by decide +kernel)⟩
theorem lw_p71 : lw_okq (⟨"RubbedWeldsModel", "writeOut", "(I)V"⟩, 48) := ⟨⟨by decide +kernel, by decide +kernel⟩, List.mem_of_getElem? (i := 822) (by decide +kernel), List.mem_of_getElem? (i := 1121) (by decide +kernel), List.mem_of_getElem? (i := 1122) (by decide +kernel)⟩
theorem lw_p72 : lw_okq (⟨"RubbedWeldsModel", "write", "(IIIIII)V"⟩, 48) := ⟨⟨by decide +kernel, by decide +kernel⟩, List.mem_of_getElem? (i := 822) (by decide +kernel), List.mem_of_getElem? (i := 1125) (by decide +kernel), List.mem_of_getElem? (i := 1126) (by decide +kernel)⟩
theorem lw_p73 : lw_okq (⟨"RubbedWeldsModel", "follow", "(IIIIII)V"⟩, 48) := ⟨⟨by decide +kernel, by decide +kernel⟩, List.mem_of_getElem? (i := 822) (by decide +kernel), List.mem_of_getElem? (i := 1149) (by decide +kernel), List.mem_of_getElem? (i := 1150) (by decide +kernel)⟩
theorem lw_p74 : lw_okq (⟨"RubbedWeldsModel", "offer", "(IIIIII)V"⟩, 48) := ⟨⟨by decide +kernel, by decide +kernel⟩, List.mem_of_getElem? (i := 822) (by decide +kernel), List.mem_of_getElem? (i := 1157) (by decide +kernel), List.mem_of_getElem? (i := 1158) (by decide +kernel)⟩
theorem lw_p75 : lw_okq (⟨"RubbedWeldsModel", "triedAt", "(II)I"⟩, 48) := ⟨⟨by decide +kernel, by decide +kernel⟩, List.mem_of_getElem? (i := 822) (by decide +kernel), List.mem_of_getElem? (i := 1185) (by decide +kernel), List.mem_of_getElem? (i := 1186) (by decide +kernel)⟩
theorem lw_p76 : lw_okq (⟨"RubbedWeldsModel", "arrange", "(III)V"⟩, 48) := ⟨⟨by decide +kernel, by decide +kernel⟩, List.mem_of_getElem? (i := 822) (by decide +kernel), List.mem_of_getElem? (i := 1209) (by decide +kernel), List.mem_of_getElem? (i := 1210) (by decide +kernel)⟩
theorem lw_p77 : lw_okq (⟨"RubbedWeldsModel", "change", "(II)I"⟩, 48) := ⟨⟨by decide +kernel, by decide +kernel⟩, List.mem_of_getElem? (i := 822) (by decide +kernel), List.mem_of_getElem? (i := 1213) (by decide +kernel), List.mem_of_getElem? (i := 1214) (by decide +kernel)⟩
def lw_privs_5 : List (MethodName × Nat) := [(⟨"RubbedWeldsModel", "isWindow", "(I)Z"⟩, 48), (⟨"RubbedWeldsModel", "wide", "(I)I"⟩, 48), (⟨"RubbedWeldsModel", "goodIn", "(IIIIII)I"⟩, 48), (⟨"RubbedWeldsModel", "isGood", "(III)Z"⟩, 48), (⟨"RubbedWeldsModel", "prove", "(I)I"⟩, 48), (⟨"RubbedWeldsModel", "leavesOf", "(IIIIII)I"⟩, 48), (⟨"RubbedWeldsModel", "better", "(IIII)I"⟩, 48), (⟨"RubbedWeldsModel", "writeOut", "(I)V"⟩, 48), (⟨"RubbedWeldsModel", "write", "(IIIIII)V"⟩, 48), (⟨"RubbedWeldsModel", "follow", "(IIIIII)V"⟩, 48), (⟨"RubbedWeldsModel", "offer", "(IIIIII)V"⟩, 48), (⟨"RubbedWeldsModel", "triedAt", "(II)I"⟩, 48), (⟨"RubbedWeldsModel", "arrange", "(III)V"⟩, 48), (⟨"RubbedWeldsModel", "change", "(II)I"⟩, 48)]
theorem lw_r5 : ∀ q ∈ lw_privs_5, lw_okq q := List.forall_mem_cons.mpr ⟨lw_p64, List.forall_mem_cons.mpr ⟨lw_p65, List.forall_mem_cons.mpr ⟨lw_p66, List.forall_mem_cons.mpr ⟨lw_p67, List.forall_mem_cons.mpr ⟨lw_p68, List.forall_mem_cons.mpr ⟨lw_p69, List.forall_mem_cons.mpr ⟨lw_p70, List.forall_mem_cons.mpr ⟨lw_p71, List.forall_mem_cons.mpr ⟨lw_p72, List.forall_mem_cons.mpr ⟨lw_p73, List.forall_mem_cons.mpr ⟨lw_p74, List.forall_mem_cons.mpr ⟨lw_p75, List.forall_mem_cons.mpr ⟨lw_p76, List.forall_mem_cons.mpr ⟨lw_p77, fun _ h => absurd h List.not_mem_nil⟩⟩⟩⟩⟩⟩⟩⟩⟩⟩⟩⟩⟩⟩
def lw_privs : List (MethodName × Nat) := lw_privs_1 ++ (lw_privs_2 ++ (lw_privs_3 ++ (lw_privs_4 ++ (lw_privs_5))))
def lw_tbl : List Cond := k2_sels lw_privs ++ tables_1
theorem lw_privs_ok : ∀ q ∈ lw_privs, lw_okq q := by
  show ∀ q ∈ lw_privs_1 ++ (lw_privs_2 ++ (lw_privs_3 ++ (lw_privs_4 ++ (lw_privs_5)))), lw_okq q
  exact List.forall_mem_append.mpr ⟨lw_r1, List.forall_mem_append.mpr ⟨lw_r2, List.forall_mem_append.mpr ⟨lw_r3, List.forall_mem_append.mpr ⟨lw_r4, lw_r5⟩⟩⟩⟩
def RX0 : String := "RubbedWelds$Bench"
def TX0 : u_T := fun k => match k with
  | 0 => ("RubbedWelds$Bench", "warm", "[I", true)
  | 1 => ("RubbedWelds$Bench", "peak", "[I", true)
  | 2 => ("RubbedWelds$Bench", "out", "[I", true)
  | 3 => ("RubbedWelds$Bench", "fall", "[I", true)
  | 4 => ("RubbedWelds$Bench", "job", "LRubbedWelds$Job;", false)
  | 5 => ("RubbedWelds$Bench", "setting", "I", false)
  | 6 => ("RubbedWelds$Bench", "rubbed", "I", false)
  | 7 => ("RubbedWelds$Bench", "verdict", "I", false)
  | _ => ("RubbedWelds$Bench", "faultRing", "I", false)
def tyX0 : Nat → FieldType := fun k => match k with
  | 0 => .array .int
  | 1 => .array .int
  | 2 => .array .int
  | 3 => .array .int
  | 4 => .object "RubbedWelds$Job"
  | 5 => .int
  | 6 => .int
  | 7 => .int
  | _ => .int
abbrev wsX00 : List Cond := u_ws RX0 TX0 9
theorem nmX0 : ∀ a, a < 9 → ∀ b, b < 9 → a ≠ b → (TX0 a).2.1 ≠ (TX0 b).2.1 := by decide +kernel
theorem tyX0_ok : ∀ k, k < 9 → parseFieldDescriptor (TX0 k).2.2.1 = some (tyX0 k) := by decide +kernel
abbrev cX0_init : ByteArray := prog_2_method_1_code
def yX0_init : MethodName := ⟨RX0, "<init>", "()V"⟩
abbrev cX0_makesGood : ByteArray := prog_2_method_2_code
def yX0_makesGood : MethodName := ⟨RX0, "makesGood", "(LRubbedWelds$Job;I)Z"⟩
abbrev cX0_weld : ByteArray := prog_2_method_3_code
def yX0_weld : MethodName := ⟨RX0, "weld", "(LRubbedWelds$Job;I)V"⟩
abbrev cX0_layCold : ByteArray := prog_2_method_4_code
def yX0_layCold : MethodName := ⟨RX0, "layCold", "()V"⟩
abbrev cX0_rub : ByteArray := prog_2_method_5_code
def yX0_rub : MethodName := ⟨RX0, "rub", "(LRubbedWelds$Job;I)Z"⟩
abbrev cX0_press : ByteArray := prog_2_method_6_code
def yX0_press : MethodName := ⟨RX0, "press", "(LRubbedWelds$Job;I)V"⟩
abbrev cX0_cool : ByteArray := prog_2_method_7_code
def yX0_cool : MethodName := ⟨RX0, "cool", "(LRubbedWelds$Job;)V"⟩
abbrev cX0_tick : ByteArray := prog_2_method_8_code
def yX0_tick : MethodName := ⟨RX0, "tick", "(LRubbedWelds$Job;II)Z"⟩
abbrev cX0_outOfAll : ByteArray := prog_2_method_9_code
def yX0_outOfAll : MethodName := ⟨RX0, "outOfAll", "()I"⟩
abbrev cX0_firstFault : ByteArray := prog_2_method_10_code
def yX0_firstFault : MethodName := ⟨RX0, "firstFault", "(LRubbedWelds$Job;)I"⟩
abbrev cX0_faultOf : ByteArray := prog_2_method_11_code
def yX0_faultOf : MethodName := ⟨RX0, "faultOf", "(LRubbedWelds$Job;I)I"⟩
def RX1 : String := "RubbedWelds$Book"
def TX1 : u_T := fun k => match k with
  | 0 => ("RubbedWelds$Book", "jointRow", "[LRubbedWelds$Joint;", true)
  | 1 => ("RubbedWelds$Book", "words", "[I", true)
  | 2 => ("RubbedWelds$Book", "triedJoint", "[I", true)
  | 3 => ("RubbedWelds$Book", "triedWord", "[I", true)
  | 4 => ("RubbedWelds$Book", "triedDay", "[I", true)
  | 5 => ("RubbedWelds$Book", "joints", "I", false)
  | _ => ("RubbedWelds$Book", "trials", "I", false)
def tyX1 : Nat → FieldType := fun k => match k with
  | 0 => .array (.object "RubbedWelds$Joint")
  | 1 => .array .int
  | 2 => .array .int
  | 3 => .array .int
  | 4 => .array .int
  | 5 => .int
  | _ => .int
abbrev wsX10 : List Cond := u_ws RX1 TX1 7
theorem nmX1 : ∀ a, a < 7 → ∀ b, b < 7 → a ≠ b → (TX1 a).2.1 ≠ (TX1 b).2.1 := by decide +kernel
theorem tyX1_ok : ∀ k, k < 7 → parseFieldDescriptor (TX1 k).2.2.1 = some (tyX1 k) := by decide +kernel
abbrev cX1_init : ByteArray := prog_3_method_1_code
def yX1_init : MethodName := ⟨RX1, "<init>", "()V"⟩
abbrev cX1_enter : ByteArray := prog_3_method_2_code
def yX1_enter : MethodName := ⟨RX1, "enter", "(LRubbedWelds$Job;II)I"⟩
abbrev cX1_jointAt : ByteArray := prog_3_method_3_code
def yX1_jointAt : MethodName := ⟨RX1, "jointAt", "(I)LRubbedWelds$Joint;"⟩
abbrev cX1_note : ByteArray := prog_3_method_4_code
def yX1_note : MethodName := ⟨RX1, "note", "(IZI)Z"⟩
abbrev cX1_recall : ByteArray := prog_3_method_5_code
def yX1_recall : MethodName := ⟨RX1, "recall", "(I)V"⟩
abbrev cX1_countOdd : ByteArray := prog_3_method_6_code
def yX1_countOdd : MethodName := ⟨RX1, "countOdd", "(LRubbedWelds$Bench;)I"⟩
abbrev cX1_worstStuff : ByteArray := prog_3_method_7_code
def yX1_worstStuff : MethodName := ⟨RX1, "worstStuff", "(I)I"⟩
abbrev cX1_countWith : ByteArray := prog_3_method_8_code
def yX1_countWith : MethodName := ⟨RX1, "countWith", "(II)I"⟩
def RX2 : String := "RubbedWelds$DayList"
def TX2 : u_T := fun k => match k with
  | 0 => ("RubbedWelds$DayList", "jobNumbers", "[I", true)
  | 1 => ("RubbedWelds$DayList", "settings", "[I", true)
  | 2 => ("RubbedWelds$DayList", "cheapest", "[I", true)
  | 3 => ("RubbedWelds$DayList", "changes", "[I", true)
  | 4 => ("RubbedWelds$DayList", "rest", "[I", false)
  | 5 => ("RubbedWelds$DayList", "size", "I", false)
  | 6 => ("RubbedWelds$DayList", "sum", "I", false)
  | _ => ("RubbedWelds$DayList", "isPlanned", "Z", false)
def tyX2 : Nat → FieldType := fun k => match k with
  | 0 => .array .int
  | 1 => .array .int
  | 2 => .array .int
  | 3 => .array .int
  | 4 => .array .int
  | 5 => .int
  | 6 => .int
  | _ => .boolean
abbrev wsX20 : List Cond := u_ws RX2 TX2 8
theorem nmX2 : ∀ a, a < 8 → ∀ b, b < 8 → a ≠ b → (TX2 a).2.1 ≠ (TX2 b).2.1 := by decide +kernel
theorem tyX2_ok : ∀ k, k < 8 → parseFieldDescriptor (TX2 k).2.2.1 = some (tyX2 k) := by decide +kernel
abbrev cX2_init : ByteArray := prog_4_method_1_code
def yX2_init : MethodName := ⟨RX2, "<init>", "()V"⟩
abbrev cX2_enter : ByteArray := prog_4_method_2_code
def yX2_enter : MethodName := ⟨RX2, "enter", "(II)I"⟩
abbrev cX2_empty : ByteArray := prog_4_method_3_code
def yX2_empty : MethodName := ⟨RX2, "empty", "()V"⟩
abbrev cX2_plan : ByteArray := prog_4_method_4_code
def yX2_plan : MethodName := ⟨RX2, "plan", "()V"⟩
abbrev cX2_fillChanges : ByteArray := prog_4_method_5_code
def yX2_fillChanges : MethodName := ⟨RX2, "fillChanges", "()V"⟩
abbrev cX2_change : ByteArray := prog_4_method_6_code
def yX2_change : MethodName := ⟨RX2, "change", "(II)I"⟩
abbrev cX2_fillRest : ByteArray := prog_4_method_7_code
def yX2_fillRest : MethodName := ⟨RX2, "fillRest", "([I)V"⟩
abbrev cX2_bestNext : ByteArray := prog_4_method_8_code
def yX2_bestNext : MethodName := ⟨RX2, "bestNext", "([III)I"⟩
abbrev cX2_sumBy : ByteArray := prog_4_method_9_code
def yX2_sumBy : MethodName := ⟨RX2, "sumBy", "([IIII)I"⟩
abbrev cX2_changeTo : ByteArray := prog_4_method_10_code
def yX2_changeTo : MethodName := ⟨RX2, "changeTo", "(II)I"⟩
def RX3 : String := "RubbedWelds$Job"
def TX3 : u_T := fun k => match k with
  | 0 => ("RubbedWelds$Job", "one", "I", true)
  | 1 => ("RubbedWelds$Job", "other", "I", true)
  | 2 => ("RubbedWelds$Job", "marks", "[I", true)
  | 3 => ("RubbedWelds$Job", "judged", "[J", true)
  | _ => ("RubbedWelds$Job", "found", "[J", true)
def tyX3 : Nat → FieldType := fun k => match k with
  | 0 => .int
  | 1 => .int
  | 2 => .array .int
  | 3 => .array .long
  | _ => .array .long
abbrev wsX30 : List Cond := u_ws RX3 TX3 5
theorem nmX3 : ∀ a, a < 5 → ∀ b, b < 5 → a ≠ b → (TX3 a).2.1 ≠ (TX3 b).2.1 := by decide +kernel
theorem tyX3_ok : ∀ k, k < 5 → parseFieldDescriptor (TX3 k).2.2.1 = some (tyX3 k) := by decide +kernel
abbrev cX3_init : ByteArray := prog_5_method_1_code
def yX3_init : MethodName := ⟨RX3, "<init>", "(II)V"⟩
abbrev cX3_join : ByteArray := prog_5_method_2_code
def yX3_join : MethodName := ⟨RX3, "join", "(LRubbedWelds$Stuff;LRubbedWelds$Stuff;I)V"⟩
abbrev cX3_joined : ByteArray := prog_5_method_3_code
def yX3_joined : MethodName := ⟨RX3, "joined", "(III)I"⟩
abbrev cX3_has : ByteArray := prog_5_method_4_code
def yX3_has : MethodName := ⟨RX3, "has", "(I)Z"⟩
abbrev cX3_isJudged : ByteArray := prog_5_method_5_code
def yX3_isJudged : MethodName := ⟨RX3, "isJudged", "(I)Z"⟩
abbrev cX3_isFoundGood : ByteArray := prog_5_method_6_code
def yX3_isFoundGood : MethodName := ⟨RX3, "isFoundGood", "(I)Z"⟩
abbrev cX3_judge : ByteArray := prog_5_method_7_code
def yX3_judge : MethodName := ⟨RX3, "judge", "(IZ)V"⟩
def RX4 : String := "RubbedWelds$Joint"
def TX4 : u_T := fun k => match k with
  | 0 => ("RubbedWelds$Joint", "job", "LRubbedWelds$Job;", true)
  | 1 => ("RubbedWelds$Joint", "setting", "I", true)
  | _ => ("RubbedWelds$Joint", "day", "I", true)
def tyX4 : Nat → FieldType := fun k => match k with
  | 0 => .object "RubbedWelds$Job"
  | 1 => .int
  | _ => .int
abbrev wsX40 : List Cond := u_ws RX4 TX4 3
theorem nmX4 : ∀ a, a < 3 → ∀ b, b < 3 → a ≠ b → (TX4 a).2.1 ≠ (TX4 b).2.1 := by decide +kernel
theorem tyX4_ok : ∀ k, k < 3 → parseFieldDescriptor (TX4 k).2.2.1 = some (tyX4 k) := by decide +kernel
abbrev cX4_init : ByteArray := prog_6_method_1_code
def yX4_init : MethodName := ⟨RX4, "<init>", "(LRubbedWelds$Job;II)V"⟩
def RX5 : String := "RubbedWelds$Prover"
def TX5 : u_T := fun k => match k with
  | _ => ("RubbedWelds$Prover", "cells", "[I", true)
def tyX5 : Nat → FieldType := fun k => match k with
  | _ => .array .int
abbrev wsX50 : List Cond := u_ws RX5 TX5 1
theorem nmX5 : ∀ a, a < 1 → ∀ b, b < 1 → a ≠ b → (TX5 a).2.1 ≠ (TX5 b).2.1 := by decide +kernel
theorem tyX5_ok : ∀ k, k < 1 → parseFieldDescriptor (TX5 k).2.2.1 = some (tyX5 k) := by decide +kernel
abbrev cX5_init : ByteArray := prog_7_method_1_code
def yX5_init : MethodName := ⟨RX5, "<init>", "()V"⟩
abbrev cX5_fill : ByteArray := prog_7_method_2_code
def yX5_fill : MethodName := ⟨RX5, "fill", "(LRubbedWelds$Bench;LRubbedWelds$Window;)V"⟩
abbrev cX5_leastCut : ByteArray := prog_7_method_3_code
def yX5_leastCut : MethodName := ⟨RX5, "leastCut", "(IIII)I"⟩
abbrev cX5_leastOn : ByteArray := prog_7_method_4_code
def yX5_leastOn : MethodName := ⟨RX5, "leastOn", "(IIII)I"⟩
abbrev cX5_rowOf : ByteArray := prog_7_method_5_code
def yX5_rowOf : MethodName := ⟨RX5, "rowOf", "(LRubbedWelds$Walk;LRubbedWelds$Window;)[I"⟩
abbrev cX5_findGreatest : ByteArray := prog_7_method_6_code
def yX5_findGreatest : MethodName := ⟨RX5, "findGreatest", "(LRubbedWelds$Window;)V"⟩
abbrev cX5_weigh : ByteArray := prog_7_method_7_code
def yX5_weigh : MethodName := ⟨RX5, "weigh", "(LRubbedWelds$Window;III)V"⟩
abbrev cX5_stretchesOn : ByteArray := prog_7_method_8_code
def yX5_stretchesOn : MethodName := ⟨RX5, "stretchesOn", "(LRubbedWelds$Window;I)I"⟩
abbrev cX5_stretchAt : ByteArray := prog_7_method_9_code
def yX5_stretchAt : MethodName := ⟨RX5, "stretchAt", "(LRubbedWelds$Window;III)I"⟩
abbrev cX5_cellAt : ByteArray := prog_7_method_10_code
def yX5_cellAt : MethodName := ⟨RX5, "cellAt", "(LRubbedWelds$Window;II)I"⟩
abbrev cX5_cellOf : ByteArray := prog_7_method_11_code
def yX5_cellOf : MethodName := ⟨RX5, "cellOf", "(III)I"⟩
abbrev cX5_settingOf : ByteArray := prog_7_method_12_code
def yX5_settingOf : MethodName := ⟨RX5, "settingOf", "(III)I"⟩
def RX6 : String := "RubbedWelds$Stuff"
def TX6 : u_T := fun k => match k with
  | 0 => ("RubbedWelds$Stuff", "marks", "[I", true)
  | _ => ("RubbedWelds$Stuff", "barred", "I", false)
def tyX6 : Nat → FieldType := fun k => match k with
  | 0 => .array .int
  | _ => .int
abbrev wsX60 : List Cond := u_ws RX6 TX6 2
theorem nmX6 : ∀ a, a < 2 → ∀ b, b < 2 → a ≠ b → (TX6 a).2.1 ≠ (TX6 b).2.1 := by decide +kernel
theorem tyX6_ok : ∀ k, k < 2 → parseFieldDescriptor (TX6 k).2.2.1 = some (tyX6 k) := by decide +kernel
abbrev cX6_init : ByteArray := prog_8_method_1_code
def yX6_init : MethodName := ⟨RX6, "<init>", "([I)V"⟩
abbrev cX6_isBarred : ByteArray := prog_8_method_2_code
def yX6_isBarred : MethodName := ⟨RX6, "isBarred", "(I)Z"⟩
abbrev cX6_barFrom : ByteArray := prog_8_method_3_code
def yX6_barFrom : MethodName := ⟨RX6, "barFrom", "(I)V"⟩
def RX7 : String := "RubbedWelds$Tape"
def TX7 : u_T := fun k => match k with
  | 0 => ("RubbedWelds$Tape", "numbers", "[I", true)
  | _ => ("RubbedWelds$Tape", "size", "I", false)
def tyX7 : Nat → FieldType := fun k => match k with
  | 0 => .array .int
  | _ => .int
abbrev wsX70 : List Cond := u_ws RX7 TX7 2
theorem nmX7 : ∀ a, a < 2 → ∀ b, b < 2 → a ≠ b → (TX7 a).2.1 ≠ (TX7 b).2.1 := by decide +kernel
theorem tyX7_ok : ∀ k, k < 2 → parseFieldDescriptor (TX7 k).2.2.1 = some (tyX7 k) := by decide +kernel
abbrev cX7_init : ByteArray := prog_9_method_1_code
def yX7_init : MethodName := ⟨RX7, "<init>", "()V"⟩
abbrev cX7_append : ByteArray := prog_9_method_2_code
def yX7_append : MethodName := ⟨RX7, "append", "(I)Z"⟩
abbrev cX7_replace : ByteArray := prog_9_method_3_code
def yX7_replace : MethodName := ⟨RX7, "replace", "(II)Z"⟩
abbrev cX7_shorten : ByteArray := prog_9_method_4_code
def yX7_shorten : MethodName := ⟨RX7, "shorten", "(I)Z"⟩
abbrev cX7_become : ByteArray := prog_9_method_5_code
def yX7_become : MethodName := ⟨RX7, "become", "([I)V"⟩
abbrev cX7_isNumber : ByteArray := prog_9_method_6_code
def yX7_isNumber : MethodName := ⟨RX7, "isNumber", "(I)Z"⟩
def RX8 : String := "RubbedWelds$Walk"
def TX8 : u_T := fun k => match k with
  | 0 => ("RubbedWelds$Walk", "lows", "[I", true)
  | 1 => ("RubbedWelds$Walk", "highs", "[I", true)
  | 2 => ("RubbedWelds$Walk", "waiting", "I", false)
  | 3 => ("RubbedWelds$Walk", "from", "I", false)
  | _ => ("RubbedWelds$Walk", "to", "I", false)
def tyX8 : Nat → FieldType := fun k => match k with
  | 0 => .array .int
  | 1 => .array .int
  | 2 => .int
  | 3 => .int
  | _ => .int
abbrev wsX80 : List Cond := u_ws RX8 TX8 5
theorem nmX8 : ∀ a, a < 5 → ∀ b, b < 5 → a ≠ b → (TX8 a).2.1 ≠ (TX8 b).2.1 := by decide +kernel
theorem tyX8_ok : ∀ k, k < 5 → parseFieldDescriptor (TX8 k).2.2.1 = some (tyX8 k) := by decide +kernel
abbrev cX8_init : ByteArray := prog_10_method_1_code
def yX8_init : MethodName := ⟨RX8, "<init>", "()V"⟩
abbrev cX8_begin : ByteArray := prog_10_method_2_code
def yX8_begin : MethodName := ⟨RX8, "begin", "(II)V"⟩
abbrev cX8_lay : ByteArray := prog_10_method_3_code
def yX8_lay : MethodName := ⟨RX8, "lay", "(II)V"⟩
abbrev cX8_advance : ByteArray := prog_10_method_4_code
def yX8_advance : MethodName := ⟨RX8, "advance", "()Z"⟩
abbrev cX8_mayCut : ByteArray := prog_10_method_5_code
def yX8_mayCut : MethodName := ⟨RX8, "mayCut", "(I)Z"⟩
abbrev cX8_follow : ByteArray := prog_10_method_6_code
def yX8_follow : MethodName := ⟨RX8, "follow", "(I)V"⟩
abbrev cX8_axisOf : ByteArray := prog_10_method_7_code
def yX8_axisOf : MethodName := ⟨RX8, "axisOf", "(I)I"⟩
abbrev cX8_lowerOf : ByteArray := prog_10_method_8_code
def yX8_lowerOf : MethodName := ⟨RX8, "lowerOf", "(I)I"⟩
def RX9 : String := "RubbedWelds$Window"
def TX9 : u_T := fun k => match k with
  | 0 => ("RubbedWelds$Window", "job", "LRubbedWelds$Job;", true)
  | 1 => ("RubbedWelds$Window", "from", "I", true)
  | 2 => ("RubbedWelds$Window", "to", "I", true)
  | 3 => ("RubbedWelds$Window", "row", "[I", false)
  | 4 => ("RubbedWelds$Window", "mostFrom", "I", false)
  | 5 => ("RubbedWelds$Window", "mostTo", "I", false)
  | _ => ("RubbedWelds$Window", "most", "I", false)
def tyX9 : Nat → FieldType := fun k => match k with
  | 0 => .object "RubbedWelds$Job"
  | 1 => .int
  | 2 => .int
  | 3 => .array .int
  | 4 => .int
  | 5 => .int
  | _ => .int
abbrev wsX90 : List Cond := u_ws RX9 TX9 7
theorem nmX9 : ∀ a, a < 7 → ∀ b, b < 7 → a ≠ b → (TX9 a).2.1 ≠ (TX9 b).2.1 := by decide +kernel
theorem tyX9_ok : ∀ k, k < 7 → parseFieldDescriptor (TX9 k).2.2.1 = some (tyX9 k) := by decide +kernel
abbrev cX9_init : ByteArray := prog_11_method_1_code
def yX9_init : MethodName := ⟨RX9, "<init>", "(LRubbedWelds$Job;II)V"⟩
def RX10 : String := "RubbedWelds"
def TX10 : u_T := fun k => match k with
  | 0 => ("RubbedWelds", "stuffRow", "[LRubbedWelds$Stuff;", true)
  | 1 => ("RubbedWelds", "jobRow", "[LRubbedWelds$Job;", true)
  | 2 => ("RubbedWelds", "windowRow", "[LRubbedWelds$Window;", true)
  | 3 => ("RubbedWelds", "bench", "LRubbedWelds$Bench;", true)
  | 4 => ("RubbedWelds", "walk", "LRubbedWelds$Walk;", true)
  | 5 => ("RubbedWelds", "tape", "LRubbedWelds$Tape;", true)
  | 6 => ("RubbedWelds", "book", "LRubbedWelds$Book;", true)
  | 7 => ("RubbedWelds", "dayList", "LRubbedWelds$DayList;", true)
  | 8 => ("RubbedWelds", "prover", "LRubbedWelds$Prover;", false)
  | 9 => ("RubbedWelds", "now", "I", false)
  | 10 => ("RubbedWelds", "stuffs", "I", false)
  | 11 => ("RubbedWelds", "jobs", "I", false)
  | _ => ("RubbedWelds", "windows", "I", false)
def tyX10 : Nat → FieldType := fun k => match k with
  | 0 => .array (.object "RubbedWelds$Stuff")
  | 1 => .array (.object "RubbedWelds$Job")
  | 2 => .array (.object "RubbedWelds$Window")
  | 3 => .object "RubbedWelds$Bench"
  | 4 => .object "RubbedWelds$Walk"
  | 5 => .object "RubbedWelds$Tape"
  | 6 => .object "RubbedWelds$Book"
  | 7 => .object "RubbedWelds$DayList"
  | 8 => .object "RubbedWelds$Prover"
  | 9 => .int
  | 10 => .int
  | 11 => .int
  | _ => .int
abbrev wsX100 : List Cond := u_ws RX10 TX10 13
theorem nmX10 : ∀ a, a < 13 → ∀ b, b < 13 → a ≠ b → (TX10 a).2.1 ≠ (TX10 b).2.1 := by decide +kernel
theorem tyX10_ok : ∀ k, k < 13 → parseFieldDescriptor (TX10 k).2.2.1 = some (tyX10 k) := by decide +kernel
abbrev cX10_init : ByteArray := prog_1_method_1_code
def yX10_init : MethodName := ⟨RX10, "<init>", "()V"⟩
abbrev cX10_days : ByteArray := prog_1_method_2_code
def yX10_days : MethodName := ⟨RX10, "days", "(I)I"⟩
abbrev cX10_stuff : ByteArray := prog_1_method_3_code
def yX10_stuff : MethodName := ⟨RX10, "stuff", "(IIIIIIII)I"⟩
abbrev cX10_bar : ByteArray := prog_1_method_4_code
def yX10_bar : MethodName := ⟨RX10, "bar", "(II)Z"⟩
abbrev cX10_job : ByteArray := prog_1_method_5_code
def yX10_job : MethodName := ⟨RX10, "job", "(III)I"⟩
abbrev cX10_told : ByteArray := prog_1_method_6_code
def yX10_told : MethodName := ⟨RX10, "told", "(II)I"⟩
abbrev cX10_setting : ByteArray := prog_1_method_7_code
def yX10_setting : MethodName := ⟨RX10, "setting", "(III)I"⟩
abbrev cX10_verdict : ByteArray := prog_1_method_8_code
def yX10_verdict : MethodName := ⟨RX10, "verdict", "(II)I"⟩
abbrev cX10_ring : ByteArray := prog_1_method_9_code
def yX10_ring : MethodName := ⟨RX10, "ring", "(IIII)I"⟩
abbrev cX10_by : ByteArray := prog_1_method_10_code
def yX10_by : MethodName := ⟨RX10, "by", "(II)I"⟩
abbrev cX10_ticks : ByteArray := prog_1_method_11_code
def yX10_ticks : MethodName := ⟨RX10, "ticks", "(II)I"⟩
abbrev cX10_window : ByteArray := prog_1_method_12_code
def yX10_window : MethodName := ⟨RX10, "window", "(III)I"⟩
abbrev cX10_good : ByteArray := prog_1_method_13_code
def yX10_good : MethodName := ⟨RX10, "good", "(I)I"⟩
abbrev cX10_leaves : ByteArray := prog_1_method_14_code
def yX10_leaves : MethodName := ⟨RX10, "leaves", "(I)I"⟩
abbrev cX10_proof : ByteArray := prog_1_method_15_code
def yX10_proof : MethodName := ⟨RX10, "proof", "(II)I"⟩
abbrev cX10_tell : ByteArray := prog_1_method_16_code
def yX10_tell : MethodName := ⟨RX10, "tell", "(I)I"⟩
abbrev cX10_copy : ByteArray := prog_1_method_17_code
def yX10_copy : MethodName := ⟨RX10, "copy", "(I)I"⟩
abbrev cX10_alter : ByteArray := prog_1_method_18_code
def yX10_alter : MethodName := ⟨RX10, "alter", "(II)Z"⟩
abbrev cX10_end : ByteArray := prog_1_method_19_code
def yX10_end : MethodName := ⟨RX10, "end", "(I)Z"⟩
abbrev cX10_check : ByteArray := prog_1_method_20_code
def yX10_check : MethodName := ⟨RX10, "check", "(I)I"⟩
abbrev cX10_greatest : ByteArray := prog_1_method_21_code
def yX10_greatest : MethodName := ⟨RX10, "greatest", "(II)I"⟩
abbrev cX10_edge : ByteArray := prog_1_method_22_code
def yX10_edge : MethodName := ⟨RX10, "edge", "(II)I"⟩
abbrev cX10_mended : ByteArray := prog_1_method_23_code
def yX10_mended : MethodName := ⟨RX10, "mended", "(II)I"⟩
abbrev cX10_joint : ByteArray := prog_1_method_24_code
def yX10_joint : MethodName := ⟨RX10, "joint", "(II)I"⟩
abbrev cX10_attempt : ByteArray := prog_1_method_25_code
def yX10_attempt : MethodName := ⟨RX10, "attempt", "(IZ)Z"⟩
abbrev cX10_tried : ByteArray := prog_1_method_26_code
def yX10_tried : MethodName := ⟨RX10, "tried", "(II)I"⟩
abbrev cX10_odd : ByteArray := prog_1_method_27_code
def yX10_odd : MethodName := ⟨RX10, "odd", "(I)I"⟩
abbrev cX10_led : ByteArray := prog_1_method_28_code
def yX10_led : MethodName := ⟨RX10, "led", "(I)I"⟩
abbrev cX10_work : ByteArray := prog_1_method_29_code
def yX10_work : MethodName := ⟨RX10, "work", "(II)I"⟩
abbrev cX10_clear : ByteArray := prog_1_method_30_code
def yX10_clear : MethodName := ⟨RX10, "clear", "()V"⟩
abbrev cX10_order : ByteArray := prog_1_method_31_code
def yX10_order : MethodName := ⟨RX10, "order", "(I)I"⟩
abbrev cX10_count : ByteArray := prog_1_method_32_code
def yX10_count : MethodName := ⟨RX10, "count", "(I)I"⟩
abbrev cX10_stuffAt : ByteArray := prog_1_method_33_code
def yX10_stuffAt : MethodName := ⟨RX10, "stuffAt", "(I)LRubbedWelds$Stuff;"⟩
abbrev cX10_jobAt : ByteArray := prog_1_method_34_code
def yX10_jobAt : MethodName := ⟨RX10, "jobAt", "(I)LRubbedWelds$Job;"⟩
abbrev cX10_windowAt : ByteArray := prog_1_method_35_code
def yX10_windowAt : MethodName := ⟨RX10, "windowAt", "(I)LRubbedWelds$Window;"⟩
abbrev cX10_isKnownDay : ByteArray := prog_1_method_36_code
def yX10_isKnownDay : MethodName := ⟨RX10, "isKnownDay", "(I)Z"⟩
abbrev cX10_weldOf : ByteArray := prog_1_method_37_code
def yX10_weldOf : MethodName := ⟨RX10, "weldOf", "(II)Z"⟩
abbrev cX10_leastRow : ByteArray := prog_1_method_38_code
def yX10_leastRow : MethodName := ⟨RX10, "leastRow", "(LRubbedWelds$Window;)[I"⟩
abbrev cX10_mayStand : ByteArray := prog_1_method_39_code
def yX10_mayStand : MethodName := ⟨RX10, "mayStand", "(LRubbedWelds$Job;I)Z"⟩
abbrev cX10_isOnAxis : ByteArray := prog_1_method_40_code
def yX10_isOnAxis : MethodName := ⟨RX10, "isOnAxis", "(I)Z"⟩
abbrev cX10_isSetting : ByteArray := prog_1_method_41_code
def yX10_isSetting : MethodName := ⟨RX10, "isSetting", "(I)Z"⟩
abbrev cX10_along : ByteArray := prog_1_method_42_code
def yX10_along : MethodName := ⟨RX10, "along", "(II)I"⟩
abbrev cX10_isInside : ByteArray := prog_1_method_43_code
def yX10_isInside : MethodName := ⟨RX10, "isInside", "(III)Z"⟩
abbrev cX10_stepsOn : ByteArray := prog_1_method_44_code
def yX10_stepsOn : MethodName := ⟨RX10, "stepsOn", "(III)I"⟩
abbrev cX10_stepsBetween : ByteArray := prog_1_method_45_code
def yX10_stepsBetween : MethodName := ⟨RX10, "stepsBetween", "(II)I"⟩
def RX11 : String := "RubbedWeldsModel"
def TX11 : u_T := fun k => match k with
  | 0 => ("RubbedWeldsModel", "now", "I", false)
  | 1 => ("RubbedWeldsModel", "thrown", "I", false)
  | 2 => ("RubbedWeldsModel", "stuffs", "[I", true)
  | 3 => ("RubbedWeldsModel", "bars", "[Z", true)
  | 4 => ("RubbedWeldsModel", "jobs", "[I", true)
  | 5 => ("RubbedWeldsModel", "jobOne", "[I", true)
  | 6 => ("RubbedWeldsModel", "jobOther", "[I", true)
  | 7 => ("RubbedWeldsModel", "stuffMany", "I", false)
  | 8 => ("RubbedWeldsModel", "jobMany", "I", false)
  | 9 => ("RubbedWeldsModel", "warm", "[I", true)
  | 10 => ("RubbedWeldsModel", "next", "[I", true)
  | 11 => ("RubbedWeldsModel", "peak", "[I", true)
  | 12 => ("RubbedWeldsModel", "out", "[I", true)
  | 13 => ("RubbedWeldsModel", "fall", "[I", true)
  | 14 => ("RubbedWeldsModel", "rubbed", "I", false)
  | 15 => ("RubbedWeldsModel", "isStuck", "Z", false)
  | 16 => ("RubbedWeldsModel", "verdicts", "[I", true)
  | 17 => ("RubbedWeldsModel", "byRing", "I", false)
  | 18 => ("RubbedWeldsModel", "windowJob", "[I", true)
  | 19 => ("RubbedWeldsModel", "low", "[I", true)
  | 20 => ("RubbedWeldsModel", "high", "[I", true)
  | 21 => ("RubbedWeldsModel", "windows", "I", false)
  | 22 => ("RubbedWeldsModel", "at", "I", false)
  | 23 => ("RubbedWeldsModel", "least", "[I", true)
  | 24 => ("RubbedWeldsModel", "begins", "[I", true)
  | 25 => ("RubbedWeldsModel", "row", "[I", true)
  | 26 => ("RubbedWeldsModel", "rowMany", "I", false)
  | 27 => ("RubbedWeldsModel", "tape", "[I", true)
  | 28 => ("RubbedWeldsModel", "taped", "I", false)
  | 29 => ("RubbedWeldsModel", "place", "I", false)
  | 30 => ("RubbedWeldsModel", "wrong", "I", false)
  | 31 => ("RubbedWeldsModel", "bestLow", "I", false)
  | 32 => ("RubbedWeldsModel", "bestHigh", "I", false)
  | 33 => ("RubbedWeldsModel", "bestMany", "I", false)
  | 34 => ("RubbedWeldsModel", "jointJob", "[I", true)
  | 35 => ("RubbedWeldsModel", "jointSetting", "[I", true)
  | 36 => ("RubbedWeldsModel", "jointTold", "[I", true)
  | 37 => ("RubbedWeldsModel", "trialOf", "[I", true)
  | 38 => ("RubbedWeldsModel", "trialGood", "[Z", true)
  | 39 => ("RubbedWeldsModel", "trialTold", "[I", true)
  | 40 => ("RubbedWeldsModel", "joints", "I", false)
  | 41 => ("RubbedWeldsModel", "trials", "I", false)
  | 42 => ("RubbedWeldsModel", "entryJob", "[I", true)
  | 43 => ("RubbedWeldsModel", "entrySetting", "[I", true)
  | 44 => ("RubbedWeldsModel", "trying", "[I", true)
  | 45 => ("RubbedWeldsModel", "found", "[I", true)
  | 46 => ("RubbedWeldsModel", "entries", "I", false)
  | _ => ("RubbedWeldsModel", "foundSum", "I", false)
def tyX11 : Nat → FieldType := fun k => match k with
  | 0 => .int
  | 1 => .int
  | 2 => .array .int
  | 3 => .array .boolean
  | 4 => .array .int
  | 5 => .array .int
  | 6 => .array .int
  | 7 => .int
  | 8 => .int
  | 9 => .array .int
  | 10 => .array .int
  | 11 => .array .int
  | 12 => .array .int
  | 13 => .array .int
  | 14 => .int
  | 15 => .boolean
  | 16 => .array .int
  | 17 => .int
  | 18 => .array .int
  | 19 => .array .int
  | 20 => .array .int
  | 21 => .int
  | 22 => .int
  | 23 => .array .int
  | 24 => .array .int
  | 25 => .array .int
  | 26 => .int
  | 27 => .array .int
  | 28 => .int
  | 29 => .int
  | 30 => .int
  | 31 => .int
  | 32 => .int
  | 33 => .int
  | 34 => .array .int
  | 35 => .array .int
  | 36 => .array .int
  | 37 => .array .int
  | 38 => .array .boolean
  | 39 => .array .int
  | 40 => .int
  | 41 => .int
  | 42 => .array .int
  | 43 => .array .int
  | 44 => .array .int
  | 45 => .array .int
  | 46 => .int
  | _ => .int
abbrev wsX110 : List Cond := u_ws RX11 TX11 48
theorem nmX11 : ∀ a, a < 48 → ∀ b, b < 48 → a ≠ b → (TX11 a).2.1 ≠ (TX11 b).2.1 := by decide +kernel
theorem tyX11_ok : ∀ k, k < 48 → parseFieldDescriptor (TX11 k).2.2.1 = some (tyX11 k) := by decide +kernel
abbrev cX11_in : ByteArray := prog_13_method_1_code
def yX11_in : MethodName := ⟨RX11, "in", "(III)Z"⟩
abbrev cX11_init : ByteArray := prog_13_method_2_code
def yX11_init : MethodName := ⟨RX11, "<init>", "()V"⟩
abbrev cX11_thrown : ByteArray := prog_13_method_3_code
def yX11_thrown : MethodName := ⟨RX11, "thrown", "()I"⟩
abbrev cX11_days : ByteArray := prog_13_method_4_code
def yX11_days : MethodName := ⟨RX11, "days", "(I)I"⟩
abbrev cX11_isStuff : ByteArray := prog_13_method_5_code
def yX11_isStuff : MethodName := ⟨RX11, "isStuff", "(I)Z"⟩
abbrev cX11_isJob : ByteArray := prog_13_method_6_code
def yX11_isJob : MethodName := ⟨RX11, "isJob", "(I)Z"⟩
abbrev cX11_isSetting : ByteArray := prog_13_method_7_code
def yX11_isSetting : MethodName := ⟨RX11, "isSetting", "(I)Z"⟩
abbrev cX11_stuff : ByteArray := prog_13_method_8_code
def yX11_stuff : MethodName := ⟨RX11, "stuff", "(IIIIIIII)I"⟩
abbrev cX11_bar : ByteArray := prog_13_method_9_code
def yX11_bar : MethodName := ⟨RX11, "bar", "(II)Z"⟩
abbrev cX11_job : ByteArray := prog_13_method_10_code
def yX11_job : MethodName := ⟨RX11, "job", "(III)I"⟩
abbrev cX11_told : ByteArray := prog_13_method_11_code
def yX11_told : MethodName := ⟨RX11, "told", "(II)I"⟩
abbrev cX11_setting : ByteArray := prog_13_method_12_code
def yX11_setting : MethodName := ⟨RX11, "setting", "(III)I"⟩
abbrev cX11_settingOf : ByteArray := prog_13_method_13_code
def yX11_settingOf : MethodName := ⟨RX11, "settingOf", "(III)I"⟩
abbrev cX11_part : ByteArray := prog_13_method_14_code
def yX11_part : MethodName := ⟨RX11, "part", "(II)I"⟩
abbrev cX11_led : ByteArray := prog_13_method_15_code
def yX11_led : MethodName := ⟨RX11, "led", "(III)I"⟩
abbrev cX11_tick : ByteArray := prog_13_method_16_code
def yX11_tick : MethodName := ⟨RX11, "tick", "(IIIZ)V"⟩
abbrev cX11_outAll : ByteArray := prog_13_method_17_code
def yX11_outAll : MethodName := ⟨RX11, "outAll", "(I)I"⟩
abbrev cX11_weld : ByteArray := prog_13_method_18_code
def yX11_weld : MethodName := ⟨RX11, "weld", "(II)V"⟩
abbrev cX11_judge : ByteArray := prog_13_method_19_code
def yX11_judge : MethodName := ⟨RX11, "judge", "(II)I"⟩
abbrev cX11_verdictOf : ByteArray := prog_13_method_20_code
def yX11_verdictOf : MethodName := ⟨RX11, "verdictOf", "(II)I"⟩
abbrev cX11_isAsked : ByteArray := prog_13_method_21_code
def yX11_isAsked : MethodName := ⟨RX11, "isAsked", "(II)Z"⟩
abbrev cX11_verdict : ByteArray := prog_13_method_22_code
def yX11_verdict : MethodName := ⟨RX11, "verdict", "(II)I"⟩
abbrev cX11_ring : ByteArray := prog_13_method_23_code
def yX11_ring : MethodName := ⟨RX11, "ring", "(IIII)I"⟩
abbrev cX11_by : ByteArray := prog_13_method_24_code
def yX11_by : MethodName := ⟨RX11, "by", "(II)I"⟩
abbrev cX11_ticks : ByteArray := prog_13_method_25_code
def yX11_ticks : MethodName := ⟨RX11, "ticks", "(II)I"⟩
abbrev cX11_isWindow : ByteArray := prog_13_method_26_code
def yX11_isWindow : MethodName := ⟨RX11, "isWindow", "(I)Z"⟩
abbrev cX11_window : ByteArray := prog_13_method_27_code
def yX11_window : MethodName := ⟨RX11, "window", "(III)I"⟩
abbrev cX11_boxOf : ByteArray := prog_13_method_28_code
def yX11_boxOf : MethodName := ⟨RX11, "boxOf", "(IIIIII)I"⟩
abbrev cX11_isGood : ByteArray := prog_13_method_29_code
def yX11_isGood : MethodName := ⟨RX11, "isGood", "(III)Z"⟩
abbrev cX11_goodIn : ByteArray := prog_13_method_30_code
def yX11_goodIn : MethodName := ⟨RX11, "goodIn", "(IIIIII)I"⟩
abbrev cX11_sizeOf : ByteArray := prog_13_method_31_code
def yX11_sizeOf : MethodName := ⟨RX11, "sizeOf", "(IIIIII)I"⟩
abbrev cX11_wide : ByteArray := prog_13_method_32_code
def yX11_wide : MethodName := ⟨RX11, "wide", "(I)I"⟩
abbrev cX11_good : ByteArray := prog_13_method_33_code
def yX11_good : MethodName := ⟨RX11, "good", "(I)I"⟩
abbrev cX11_leavesOf : ByteArray := prog_13_method_34_code
def yX11_leavesOf : MethodName := ⟨RX11, "leavesOf", "(IIIIII)I"⟩
abbrev cX11_better : ByteArray := prog_13_method_35_code
def yX11_better : MethodName := ⟨RX11, "better", "(IIII)I"⟩
abbrev cX11_prove : ByteArray := prog_13_method_36_code
def yX11_prove : MethodName := ⟨RX11, "prove", "(I)I"⟩
abbrev cX11_leaves : ByteArray := prog_13_method_37_code
def yX11_leaves : MethodName := ⟨RX11, "leaves", "(I)I"⟩
abbrev cX11_write : ByteArray := prog_13_method_38_code
def yX11_write : MethodName := ⟨RX11, "write", "(IIIIII)V"⟩
abbrev cX11_writeOut : ByteArray := prog_13_method_39_code
def yX11_writeOut : MethodName := ⟨RX11, "writeOut", "(I)V"⟩
abbrev cX11_proof : ByteArray := prog_13_method_40_code
def yX11_proof : MethodName := ⟨RX11, "proof", "(II)I"⟩
abbrev cX11_tell : ByteArray := prog_13_method_41_code
def yX11_tell : MethodName := ⟨RX11, "tell", "(I)I"⟩
abbrev cX11_copy : ByteArray := prog_13_method_42_code
def yX11_copy : MethodName := ⟨RX11, "copy", "(I)I"⟩
abbrev cX11_alter : ByteArray := prog_13_method_43_code
def yX11_alter : MethodName := ⟨RX11, "alter", "(II)Z"⟩
abbrev cX11_end : ByteArray := prog_13_method_44_code
def yX11_end : MethodName := ⟨RX11, "end", "(I)Z"⟩
abbrev cX11_follow : ByteArray := prog_13_method_45_code
def yX11_follow : MethodName := ⟨RX11, "follow", "(IIIIII)V"⟩
abbrev cX11_check : ByteArray := prog_13_method_46_code
def yX11_check : MethodName := ⟨RX11, "check", "(I)I"⟩
abbrev cX11_offer : ByteArray := prog_13_method_47_code
def yX11_offer : MethodName := ⟨RX11, "offer", "(IIIIII)V"⟩
abbrev cX11_greatest : ByteArray := prog_13_method_48_code
def yX11_greatest : MethodName := ⟨RX11, "greatest", "(II)I"⟩
abbrev cX11_steps : ByteArray := prog_13_method_49_code
def yX11_steps : MethodName := ⟨RX11, "steps", "(II)I"⟩
abbrev cX11_edge : ByteArray := prog_13_method_50_code
def yX11_edge : MethodName := ⟨RX11, "edge", "(II)I"⟩
abbrev cX11_mended : ByteArray := prog_13_method_51_code
def yX11_mended : MethodName := ⟨RX11, "mended", "(II)I"⟩
abbrev cX11_joint : ByteArray := prog_13_method_52_code
def yX11_joint : MethodName := ⟨RX11, "joint", "(II)I"⟩
abbrev cX11_attempt : ByteArray := prog_13_method_53_code
def yX11_attempt : MethodName := ⟨RX11, "attempt", "(IZ)Z"⟩
abbrev cX11_triedAt : ByteArray := prog_13_method_54_code
def yX11_triedAt : MethodName := ⟨RX11, "triedAt", "(II)I"⟩
abbrev cX11_tried : ByteArray := prog_13_method_55_code
def yX11_tried : MethodName := ⟨RX11, "tried", "(II)I"⟩
abbrev cX11_odd : ByteArray := prog_13_method_56_code
def yX11_odd : MethodName := ⟨RX11, "odd", "(I)I"⟩
abbrev cX11_led_ : ByteArray := prog_13_method_57_code
def yX11_led_ : MethodName := ⟨RX11, "led", "(I)I"⟩
abbrev cX11_work : ByteArray := prog_13_method_58_code
def yX11_work : MethodName := ⟨RX11, "work", "(II)I"⟩
abbrev cX11_clear : ByteArray := prog_13_method_59_code
def yX11_clear : MethodName := ⟨RX11, "clear", "()V"⟩
abbrev cX11_change : ByteArray := prog_13_method_60_code
def yX11_change : MethodName := ⟨RX11, "change", "(II)I"⟩
abbrev cX11_arrange : ByteArray := prog_13_method_61_code
def yX11_arrange : MethodName := ⟨RX11, "arrange", "(III)V"⟩
abbrev cX11_order : ByteArray := prog_13_method_62_code
def yX11_order : MethodName := ⟨RX11, "order", "(I)I"⟩
abbrev cX11_count : ByteArray := prog_13_method_63_code
def yX11_count : MethodName := ⟨RX11, "count", "(I)I"⟩
def RJ9 : String := "java/lang/Math"
def TJ9 : u_T := fun k => match k with
  | _ => ("", "", "", false)
def tyJ9 : Nat → FieldType := fun k => match k with
  | _ => .int
abbrev wsJ90 : List Cond := u_ws RJ9 TJ9 0
theorem nmJ9 : ∀ a, a < 0 → ∀ b, b < 0 → a ≠ b → (TJ9 a).2.1 ≠ (TJ9 b).2.1 := by decide +kernel
theorem tyJ9_ok : ∀ k, k < 0 → parseFieldDescriptor (TJ9 k).2.2.1 = some (tyJ9 k) := by decide +kernel
abbrev cJ9_abs_0f7a4 : ByteArray := prog_15_method_59_code
def yJ9_abs_0f7a4 : MethodName := ⟨RJ9, "abs", "(I)I"⟩
abbrev cJ9_max_7cf53 : ByteArray := prog_15_method_65_code
def yJ9_max_7cf53 : MethodName := ⟨RJ9, "max", "(II)I"⟩
abbrev cJ9_min_7cf53 : ByteArray := prog_15_method_69_code
def yJ9_min_7cf53 : MethodName := ⟨RJ9, "min", "(II)I"⟩
def RJ10 : String := "java/lang/System"
def TJ10 : u_T := fun k => match k with
  | _ => ("", "", "", false)
def tyJ10 : Nat → FieldType := fun k => match k with
  | _ => .int
abbrev wsJ100 : List Cond := u_ws RJ10 TJ10 0
theorem nmJ10 : ∀ a, a < 0 → ∀ b, b < 0 → a ≠ b → (TJ10 a).2.1 ≠ (TJ10 b).2.1 := by decide +kernel
theorem tyJ10_ok : ∀ k, k < 0 → parseFieldDescriptor (TJ10 k).2.2.1 = some (tyJ10 k) := by decide +kernel
def RL : String := "RubbedWeldsLaw"
abbrev cL_told : ByteArray := method_3_code
def yL_told : MethodName := ⟨RL, "told", "(LRubbedWelds;II[J)I"⟩
abbrev cL_law : ByteArray := code
def yL_law : MethodName := ⟨RL, "law", "([I)Z"⟩
abbrev vwCl : List vw_C := [(RX0, TX0, 9), (RX1, TX1, 7), (RX2, TX2, 8), (RX3, TX3, 5), (RX4, TX4, 3), (RX5, TX5, 1), (RX6, TX6, 2), (RX7, TX7, 2), (RX8, TX8, 5), (RX9, TX9, 7), (RX10, TX10, 13), (RX11, TX11, 48)]
end
section
/-! tables of the program, written by wip/tools/gen2.py: methods by number, their instructions with what each names -/
def mj_ownL : List Nat := [0, 0, 0, 0, 0, 0, 0, 0, 0, 0, 0, 1, 1, 1, 1, 1, 1, 1, 1, 2, 2, 2, 2, 2, 2, 2, 2, 2, 2, 3, 3, 3, 3, 3, 3, 3, 4, 5, 5, 5, 5, 5, 5, 5, 5, 5, 5, 5, 5, 6, 6, 6, 7, 7, 7, 7, 7, 7, 8, 8, 8, 8, 8, 8, 8, 8, 9, 10, 10, 10, 10, 10, 10, 10, 10, 10, 10, 10, 10, 10, 10, 10, 10, 10, 10, 10, 10, 10, 10, 10, 10, 10, 10, 10, 10, 10, 10, 10, 10, 10, 10, 10, 10, 10, 10, 10, 10, 10, 10, 10, 10, 10, 11, 11, 11, 11, 11, 11, 11, 11, 11, 11, 11, 11, 11, 11, 11, 11, 11, 11, 11, 11, 11, 11, 11, 11, 11, 11, 11, 11, 11, 11, 11, 11, 11, 11, 11, 11, 11, 11, 11, 11, 11, 11, 11, 11, 11, 11, 11, 11, 11, 11, 11, 11, 11, 11, 11, 11, 11, 11, 11, 11, 11, 11, 11, 12, 12]
def mj_maxLL : List Nat := [1, 3, 4, 2, 8, 5, 4, 17, 3, 4, 3, 1, 4, 2, 4, 3, 5, 8, 6, 1, 3, 1, 5, 3, 6, 5, 8, 5, 3, 3, 5, 3, 2, 2, 2, 3, 4, 1, 11, 6, 13, 6, 8, 8, 2, 5, 3, 3, 3, 2, 2, 2, 1, 2, 3, 2, 2, 1, 1, 3, 3, 1, 3, 5, 1, 1, 4, 1, 2, 11, 5, 7, 4, 4, 3, 6, 3, 3, 7, 5, 3, 5, 2, 3, 3, 2, 4, 4, 10, 7, 4, 3, 4, 2, 2, 3, 1, 2, 2, 2, 2, 2, 2, 4, 3, 4, 1, 1, 2, 5, 3, 2, 3, 2, 1, 2, 2, 2, 1, 10, 3, 9, 3, 4, 3, 2, 4, 13, 4, 7, 5, 4, 3, 3, 5, 3, 3, 2, 5, 6, 4, 11, 6, 2, 2, 11, 5, 3, 2, 9, 2, 3, 2, 3, 3, 2, 11, 2, 11, 9, 4, 10, 8, 3, 3, 5, 3, 5, 11, 3, 1, 5, 5, 2, 2, 5, 7]
def mj_npL : List Nat := [0, 2, 2, 0, 2, 2, 1, 3, 0, 1, 2, 0, 3, 1, 3, 1, 1, 1, 2, 0, 2, 0, 0, 0, 2, 1, 3, 4, 2, 2, 3, 3, 1, 1, 1, 2, 3, 0, 2, 4, 4, 2, 1, 4, 2, 4, 3, 3, 3, 1, 1, 1, 0, 1, 2, 1, 1, 1, 0, 2, 2, 0, 1, 1, 1, 1, 3, 0, 1, 8, 2, 3, 2, 3, 2, 4, 2, 2, 3, 1, 1, 2, 1, 1, 2, 1, 1, 2, 2, 2, 2, 2, 2, 1, 1, 2, 0, 1, 1, 1, 1, 1, 1, 2, 1, 2, 1, 1, 2, 3, 3, 2, 3, 0, 0, 1, 1, 1, 1, 8, 2, 3, 2, 3, 3, 2, 3, 4, 1, 2, 2, 2, 2, 2, 4, 2, 2, 1, 3, 6, 3, 6, 6, 1, 1, 6, 4, 1, 1, 6, 1, 2, 1, 1, 2, 1, 6, 1, 6, 2, 2, 2, 2, 2, 2, 2, 2, 1, 1, 2, 0, 2, 3, 1, 1, 4, 1]
def mj_stL : List Bool := [false, false, false, false, false, false, false, false, false, false, false, false, false, false, false, false, false, false, false, false, false, false, false, false, false, false, false, false, false, false, false, true, false, false, false, false, false, false, false, false, false, false, false, true, true, true, true, true, true, false, false, false, false, false, false, false, false, true, false, false, false, false, false, false, true, true, false, false, false, false, false, false, false, false, false, false, false, false, false, false, false, false, false, false, false, false, false, false, false, false, false, false, false, false, false, false, false, false, false, false, false, false, false, false, false, false, true, true, true, true, true, true, true, false, false, false, false, false, true, false, false, false, false, false, true, true, false, false, false, false, false, false, false, false, false, false, false, false, false, true, false, false, true, false, false, false, false, false, false, false, false, false, false, false, false, false, false, false, false, false, true, false, false, false, false, false, false, false, false, false, false, false, false, false, false, true, true]
def mj_yL : List MethodName := [yX0_init, yX0_makesGood, yX0_weld, yX0_layCold, yX0_rub, yX0_press, yX0_cool, yX0_tick, yX0_outOfAll, yX0_firstFault, yX0_faultOf, yX1_init, yX1_enter, yX1_jointAt, yX1_note, yX1_recall, yX1_countOdd, yX1_worstStuff, yX1_countWith, yX2_init, yX2_enter, yX2_empty, yX2_plan, yX2_fillChanges, yX2_change, yX2_fillRest, yX2_bestNext, yX2_sumBy, yX2_changeTo, yX3_init, yX3_join, yX3_joined, yX3_has, yX3_isJudged, yX3_isFoundGood, yX3_judge, yX4_init, yX5_init, yX5_fill, yX5_leastCut, yX5_leastOn, yX5_rowOf, yX5_findGreatest, yX5_weigh, yX5_stretchesOn, yX5_stretchAt, yX5_cellAt, yX5_cellOf, yX5_settingOf, yX6_init, yX6_isBarred, yX6_barFrom, yX7_init, yX7_append, yX7_replace, yX7_shorten, yX7_become, yX7_isNumber, yX8_init, yX8_begin, yX8_lay, yX8_advance, yX8_mayCut, yX8_follow, yX8_axisOf, yX8_lowerOf, yX9_init, yX10_init, yX10_days, yX10_stuff, yX10_bar, yX10_job, yX10_told, yX10_setting, yX10_verdict, yX10_ring, yX10_by, yX10_ticks, yX10_window, yX10_good, yX10_leaves, yX10_proof, yX10_tell, yX10_copy, yX10_alter, yX10_end, yX10_check, yX10_greatest, yX10_edge, yX10_mended, yX10_joint, yX10_attempt, yX10_tried, yX10_odd, yX10_led, yX10_work, yX10_clear, yX10_order, yX10_count, yX10_stuffAt, yX10_jobAt, yX10_windowAt, yX10_isKnownDay, yX10_weldOf, yX10_leastRow, yX10_mayStand, yX10_isOnAxis, yX10_isSetting, yX10_along, yX10_isInside, yX10_stepsOn, yX10_stepsBetween, yX11_in, yX11_init, yX11_thrown, yX11_days, yX11_isStuff, yX11_isJob, yX11_isSetting, yX11_stuff, yX11_bar, yX11_job, yX11_told, yX11_setting, yX11_settingOf, yX11_part, yX11_led, yX11_tick, yX11_outAll, yX11_weld, yX11_judge, yX11_verdictOf, yX11_isAsked, yX11_verdict, yX11_ring, yX11_by, yX11_ticks, yX11_isWindow, yX11_window, yX11_boxOf, yX11_isGood, yX11_goodIn, yX11_sizeOf, yX11_wide, yX11_good, yX11_leavesOf, yX11_better, yX11_prove, yX11_leaves, yX11_write, yX11_writeOut, yX11_proof, yX11_tell, yX11_copy, yX11_alter, yX11_end, yX11_follow, yX11_check, yX11_offer, yX11_greatest, yX11_steps, yX11_edge, yX11_mended, yX11_joint, yX11_attempt, yX11_triedAt, yX11_tried, yX11_odd, yX11_led_, yX11_work, yX11_clear, yX11_change, yX11_arrange, yX11_order, yX11_count, yL_told, yL_law]
/-- where a method's code stands among the words of the tables -/
def mj_bP : List Nat := [115, 519, 410, 414, 418, 434, 438, 425, 430, 442, 446, 199, 708, 738, 734, 751, 759, 768, 772, 231, 784, 792, 800, 804, 808, 813, 817, 821, 825, 349, 373, 376, 776, 523, 528, 450, 712, 541, 550, 565, 569, 589, 582, 585, 553, 595, 592, 559, 576, 316, 337, 341, 184, 636, 659, 667, 647, 639, 157, 600, 604, 608, 616, 612, 619, 622, 472, 101, 304, 308, 329, 345, 9999, 386, 395, 454, 459, 463, 467, 508, 532, 628, 632, 643, 655, 663, 671, 683, 687, 700, 704, 730, 742, 755, 764, 780, 788, 796, 829, 333, 403, 512, 747, 399, 536, 677, 389, 406, 421, 515, 693, 690, 1062, 903, 1055, 1059, 1074, 1088, 1106, 1066, 1070, 1078, 1084, 1092, 1095, 1121, 1133, 1129, 1125, 1118, 1114, 1110, 1103, 1099, 1138, 1143, 1147, 1159, 1151, 1186, 1171, 1167, 1189, 1163, 1155, 1183, 1193, 1179, 1175, 1205, 1201, 1197, 1209, 1213, 1217, 1221, 1229, 1225, 1237, 1233, 1244, 1241, 1249, 1253, 1257, 1265, 1261, 1269, 1273, 1277, 1281, 1293, 1289, 1285, 1297, 9999, 9999]
def mj_rL : List (Option FieldType) := [none, (some .boolean), none, none, (some .boolean), none, none, (some .boolean), (some .int), (some .int), (some .int), none, (some .int), (some (.object "RubbedWelds$Joint")), (some .boolean), none, (some .int), (some .int), (some .int), none, (some .int), none, none, none, (some .int), none, (some .int), (some .int), (some .int), none, none, (some .int), (some .boolean), (some .boolean), (some .boolean), none, none, none, none, (some .int), (some .int), (some (.array .int)), none, none, (some .int), (some .int), (some .int), (some .int), (some .int), none, (some .boolean), none, none, (some .boolean), (some .boolean), (some .boolean), none, (some .boolean), none, none, none, (some .boolean), (some .boolean), none, (some .int), (some .int), none, none, (some .int), (some .int), (some .boolean), (some .int), (some .int), (some .int), (some .int), (some .int), (some .int), (some .int), (some .int), (some .int), (some .int), (some .int), (some .int), (some .int), (some .boolean), (some .boolean), (some .int), (some .int), (some .int), (some .int), (some .int), (some .boolean), (some .int), (some .int), (some .int), (some .int), none, (some .int), (some .int), (some (.object "RubbedWelds$Stuff")), (some (.object "RubbedWelds$Job")), (some (.object "RubbedWelds$Window")), (some .boolean), (some .boolean), (some (.array .int)), (some .boolean), (some .boolean), (some .boolean), (some .int), (some .boolean), (some .int), (some .int), (some .boolean), none, (some .int), (some .int), (some .boolean), (some .boolean), (some .boolean), (some .int), (some .boolean), (some .int), (some .int), (some .int), (some .int), (some .int), (some .int), none, (some .int), none, (some .int), (some .int), (some .boolean), (some .int), (some .int), (some .int), (some .int), (some .boolean), (some .int), (some .int), (some .boolean), (some .int), (some .int), (some .int), (some .int), (some .int), (some .int), (some .int), (some .int), none, none, (some .int), (some .int), (some .int), (some .boolean), (some .boolean), none, (some .int), none, (some .int), (some .int), (some .int), (some .int), (some .int), (some .boolean), (some .int), (some .int), (some .int), (some .int), (some .int), none, (some .int), none, (some .int), (some .int), (some .int), (some .boolean)]
def mj_cnL : List String := [RX0, RX1, RX2, RX3, RX4, RX5, RX6, RX7, RX8, RX9, RX10, RX11, RL]
def mj_cd0 : List (Nat × Instr × Nat × Nat) := [(0, .aload_n 0, 0, 0), (1, .invokespecial 3, 0, 1), (4, .aload_n 0, 0, 0), (5, .bipush 6, 0, 0), (7, .newarray .int, 12, 0), (9, .putfield 9, 0, 0), (12, .aload_n 0, 0, 0), (13, .bipush 6, 0, 0), (15, .newarray .int, 12, 0), (17, .putfield 15, 0, 1), (20, .aload_n 0, 0, 0), (21, .bipush 6, 0, 0), (23, .newarray .int, 12, 0), (25, .putfield 18, 0, 2), (28, .aload_n 0, 0, 0), (29, .bipush 6, 0, 0), (31, .newarray .int, 12, 0), (33, .putfield 21, 0, 3), (36, .return_, 0, 0)]
def mj_cd1 : List (Nat × Instr × Nat × Nat) := [(0, .aload_n 1, 0, 0), (1, .iload_n 2, 0, 0), (2, .invokevirtual 24, 33, 0), (5, .ifCond .ne 9, 0, 0), (8, .aload_n 0, 0, 0), (9, .aload_n 1, 0, 0), (10, .iload_n 2, 0, 0), (11, .invokevirtual 30, 2, 0), (14, .aload_n 1, 0, 0), (15, .iload_n 2, 0, 0), (16, .invokevirtual 34, 34, 0), (19, .ireturn, 0, 0)]
def mj_cd2 : List (Nat × Instr × Nat × Nat) := [(0, .aload_n 0, 0, 0), (1, .getfield 37, 0, 4), (4, .aload_n 1, 0, 0), (5, .if_acmp .ne 12, 0, 0), (8, .aload_n 0, 0, 0), (9, .getfield 41, 0, 5), (12, .iload_n 2, 0, 0), (13, .if_icmp .ne 4, 0, 0), (16, .return_, 0, 0), (17, .aload_n 0, 0, 0), (18, .aload_n 1, 0, 0), (19, .putfield 37, 0, 4), (22, .aload_n 0, 0, 0), (23, .iload_n 2, 0, 0), (24, .putfield 41, 0, 5), (27, .aload_n 0, 0, 0), (28, .invokevirtual 45, 3, 0), (31, .aload_n 0, 0, 0), (32, .aload_n 1, 0, 0), (33, .iload_n 2, 0, 0), (34, .invokevirtual 48, 4, 0), (37, .ifCond .ne 7, 0, 0), (40, .iconst 1, 0, 0), (41, .goto 4, 0, 0), (44, .iconst 0, 0, 0), (45, .istore_n 3, 0, 0), (46, .aload_n 0, 0, 0), (47, .aload_n 1, 0, 0), (48, .iload_n 2, 0, 0), (49, .invokevirtual 52, 5, 0), (52, .aload_n 0, 0, 0), (53, .aload_n 1, 0, 0), (54, .invokevirtual 55, 6, 0), (57, .aload_n 0, 0, 0), (58, .iload_n 3, 0, 0), (59, .ifCond .eq 7, 0, 0), (62, .iconst 1, 0, 0), (63, .goto 8, 0, 0), (66, .aload_n 0, 0, 0), (67, .aload_n 1, 0, 0), (68, .invokevirtual 59, 9, 0), (71, .putfield 63, 0, 7), (74, .aload_n 1, 0, 0), (75, .iload_n 2, 0, 0), (76, .aload_n 0, 0, 0), (77, .getfield 63, 0, 7), (80, .ifCond .ne 7, 0, 0), (83, .iconst 1, 0, 0), (84, .goto 4, 0, 0), (87, .iconst 0, 0, 0), (88, .invokevirtual 66, 35, 0), (91, .return_, 0, 0)]
def mj_cd3 : List (Nat × Instr × Nat × Nat) := [(0, .iconst 0, 0, 0), (1, .istore_n 1, 0, 0), (2, .iload_n 1, 0, 0), (3, .bipush 6, 0, 0), (5, .if_icmp .ge 39, 0, 0), (8, .aload_n 0, 0, 0), (9, .getfield 9, 0, 0), (12, .iload_n 1, 0, 0), (13, .bipush 20, 0, 0), (15, .iastore, 0, 0), (16, .aload_n 0, 0, 0), (17, .getfield 15, 0, 1), (20, .iload_n 1, 0, 0), (21, .bipush 20, 0, 0), (23, .iastore, 0, 0), (24, .aload_n 0, 0, 0), (25, .getfield 18, 0, 2), (28, .iload_n 1, 0, 0), (29, .iconst 0, 0, 0), (30, .iastore, 0, 0), (31, .aload_n 0, 0, 0), (32, .getfield 21, 0, 3), (35, .iload_n 1, 0, 0), (36, .iconst 0, 0, 0), (37, .iastore, 0, 0), (38, .iinc 1 1, 0, 0), (41, .goto (-39), 0, 0), (44, .aload_n 0, 0, 0), (45, .iconst 0, 0, 0), (46, .putfield 70, 0, 6), (49, .aload_n 0, 0, 0), (50, .iconst (-1), 0, 0), (51, .putfield 73, 0, 8), (54, .return_, 0, 0)]
def mj_cd4 : List (Nat × Instr × Nat × Nat) := [(0, .iload_n 2, 0, 0), (1, .iconst 1, 0, 0), (2, .invokestatic 76, 108, 0), (5, .iconst 1, 0, 0), (6, .iadd, 0, 0), (7, .istore_n 3, 0, 0), (8, .iload_n 2, 0, 0), (9, .iconst 0, 0, 0), (10, .invokestatic 76, 108, 0), (13, .iconst 1, 0, 0), (14, .iadd, 0, 0), (15, .iload_n 3, 0, 0), (16, .imul, 0, 0), (17, .aload_n 1, 0, 0), (18, .getfield 80, 3, 2), (21, .iconst 0, 0, 0), (22, .iaload, 0, 0), (23, .imul, 0, 0), (24, .istore 4, 0, 0), (26, .iload_n 2, 0, 0), (27, .iconst 2, 0, 0), (28, .invokestatic 76, 108, 0), (31, .iconst 1, 0, 0), (32, .iadd, 0, 0), (33, .bipush 20, 0, 0), (35, .imul, 0, 0), (36, .istore 5, 0, 0), (38, .iconst 1, 0, 0), (39, .istore 6, 0, 0), (41, .iconst 0, 0, 0), (42, .istore 7, 0, 0), (44, .aload_n 0, 0, 0), (45, .getfield 70, 0, 6), (48, .bipush 60, 0, 0), (50, .if_icmp .ge 44, 0, 0), (53, .iload 7, 0, 0), (55, .iload 5, 0, 0), (57, .if_icmp .ge 37, 0, 0), (60, .iload 6, 0, 0), (62, .ifCond .eq 19, 0, 0), (65, .aload_n 0, 0, 0), (66, .aload_n 1, 0, 0), (67, .iload 4, 0, 0), (69, .iload_n 3, 0, 0), (70, .invokevirtual 83, 7, 0), (73, .istore 6, 0, 0), (75, .aload_n 0, 0, 0), (76, .invokevirtual 87, 8, 0), (79, .istore 7, 0, 0), (81, .aload_n 0, 0, 0), (82, .dup, 0, 0), (83, .getfield 70, 0, 6), (86, .iconst 1, 0, 0), (87, .iadd, 0, 0), (88, .putfield 70, 0, 6), (91, .goto (-47), 0, 0), (94, .iload 7, 0, 0), (96, .iload 5, 0, 0), (98, .if_icmp .lt 7, 0, 0), (101, .iconst 1, 0, 0), (102, .goto 4, 0, 0), (105, .iconst 0, 0, 0), (106, .ireturn, 0, 0)]
def mj_cd5 : List (Nat × Instr × Nat × Nat) := [(0, .iload_n 2, 0, 0), (1, .iconst 1, 0, 0), (2, .invokestatic 76, 108, 0), (5, .iconst 1, 0, 0), (6, .iadd, 0, 0), (7, .istore_n 3, 0, 0), (8, .iconst 0, 0, 0), (9, .istore 4, 0, 0), (11, .iload 4, 0, 0), (13, .iconst 5, 0, 0), (14, .if_icmp .ge 19, 0, 0), (17, .aload_n 0, 0, 0), (18, .aload_n 1, 0, 0), (19, .iconst 0, 0, 0), (20, .iload_n 3, 0, 0), (21, .iconst 2, 0, 0), (22, .imul, 0, 0), (23, .invokevirtual 83, 7, 0), (26, .pop, 0, 0), (27, .iinc 4 1, 0, 0), (30, .goto (-19), 0, 0), (33, .return_, 0, 0)]
def mj_cd6 : List (Nat × Instr × Nat × Nat) := [(0, .iconst 0, 0, 0), (1, .istore_n 2, 0, 0), (2, .iload_n 2, 0, 0), (3, .bipush 6, 0, 0), (5, .if_icmp .ge 16, 0, 0), (8, .aload_n 0, 0, 0), (9, .getfield 21, 0, 3), (12, .iload_n 2, 0, 0), (13, .iconst 0, 0, 0), (14, .iastore, 0, 0), (15, .iinc 2 1, 0, 0), (18, .goto (-16), 0, 0), (21, .iconst 1, 0, 0), (22, .istore_n 2, 0, 0), (23, .iconst 0, 0, 0), (24, .istore_n 3, 0, 0), (25, .iload_n 3, 0, 0), (26, .bipush 30, 0, 0), (28, .if_icmp .ge 21, 0, 0), (31, .iload_n 2, 0, 0), (32, .ifCond .eq 17, 0, 0), (35, .aload_n 0, 0, 0), (36, .aload_n 1, 0, 0), (37, .iconst 0, 0, 0), (38, .iconst 0, 0, 0), (39, .invokevirtual 83, 7, 0), (42, .istore_n 2, 0, 0), (43, .iinc 3 1, 0, 0), (46, .goto (-21), 0, 0), (49, .return_, 0, 0)]
def mj_cd7 : List (Nat × Instr × Nat × Nat) := [(0, .aload_n 1, 0, 0), (1, .getfield 80, 3, 2), (4, .bipush 8, 0, 0), (6, .iaload, 0, 0), (7, .istore 4, 0, 0), (9, .aload_n 1, 0, 0), (10, .getfield 80, 3, 2), (13, .iconst 2, 0, 0), (14, .iaload, 0, 0), (15, .istore 5, 0, 0), (17, .aload_n 1, 0, 0), (18, .getfield 80, 3, 2), (21, .iconst 3, 0, 0), (22, .iaload, 0, 0), (23, .istore 6, 0, 0), (25, .aload_n 1, 0, 0), (26, .getfield 80, 3, 2), (29, .iconst 1, 0, 0), (30, .iaload, 0, 0), (31, .istore 7, 0, 0), (33, .aload_n 1, 0, 0), (34, .getfield 80, 3, 2), (37, .iconst 4, 0, 0), (38, .iaload, 0, 0), (39, .istore 8, 0, 0), (41, .iload 7, 0, 0), (43, .iconst 1, 0, 0), (44, .if_icmp .lt 9, 0, 0), (47, .iload 8, 0, 0), (49, .iconst 1, 0, 0), (50, .if_icmp .ge 5, 0, 0), (53, .iconst 0, 0, 0), (54, .ireturn, 0, 0), (55, .iconst 0, 0, 0), (56, .istore 9, 0, 0), (58, .iconst 0, 0, 0), (59, .istore 10, 0, 0), (61, .iconst 0, 0, 0), (62, .istore 11, 0, 0), (64, .iload 11, 0, 0), (66, .iload 4, 0, 0), (68, .if_icmp .ge 274, 0, 0), (71, .aload_n 0, 0, 0), (72, .getfield 9, 0, 0), (75, .iload 11, 0, 0), (77, .iaload, 0, 0), (78, .istore 12, 0, 0), (80, .iload 11, 0, 0), (82, .iconst 1, 0, 0), (83, .iadd, 0, 0), (84, .iload 4, 0, 0), (86, .if_icmp .ge 15, 0, 0), (89, .aload_n 0, 0, 0), (90, .getfield 9, 0, 0), (93, .iload 11, 0, 0), (95, .iconst 1, 0, 0), (96, .iadd, 0, 0), (97, .iaload, 0, 0), (98, .goto 5, 0, 0), (101, .bipush 20, 0, 0), (103, .istore 13, 0, 0), (105, .iload 12, 0, 0), (107, .iload 13, 0, 0), (109, .isub, 0, 0), (110, .iload 5, 0, 0), (112, .imul, 0, 0), (113, .sipush 1000, 0, 0), (116, .idiv, 0, 0), (117, .istore 14, 0, 0), (119, .iload_n 2, 0, 0), (120, .iload 11, 0, 0), (122, .iconst 1, 0, 0), (123, .iadd, 0, 0), (124, .imul, 0, 0), (125, .iload 7, 0, 0), (127, .idiv, 0, 0), (128, .istore 15, 0, 0), (130, .iload 12, 0, 0), (132, .iload 6, 0, 0), (134, .if_icmp .lt 80, 0, 0), (137, .iload 15, 0, 0), (139, .iconst 2, 0, 0), (140, .idiv, 0, 0), (141, .istore 15, 0, 0), (143, .aload_n 0, 0, 0), (144, .getfield 18, 0, 2), (147, .iload 11, 0, 0), (149, .iaload, 0, 0), (150, .iload_n 3, 0, 0), (151, .iload 12, 0, 0), (153, .iload 6, 0, 0), (155, .isub, 0, 0), (156, .iconst 1, 0, 0), (157, .iadd, 0, 0), (158, .imul, 0, 0), (159, .iload 8, 0, 0), (161, .idiv, 0, 0), (162, .iadd, 0, 0), (163, .istore 16, 0, 0), (165, .iload 16, 0, 0), (167, .ldc 91, 100000, 0), (169, .if_icmp .le 8, 0, 0), (172, .ldc 91, 100000, 0), (174, .goto 5, 0, 0), (177, .iload 16, 0, 0), (179, .istore 16, 0, 0), (181, .iload 10, 0, 0), (183, .ifCond .ne 15, 0, 0), (186, .iload 16, 0, 0), (188, .aload_n 0, 0, 0), (189, .getfield 18, 0, 2), (192, .iload 11, 0, 0), (194, .iaload, 0, 0), (195, .if_icmp .eq 7, 0, 0), (198, .iconst 1, 0, 0), (199, .goto 4, 0, 0), (202, .iconst 0, 0, 0), (203, .istore 10, 0, 0), (205, .aload_n 0, 0, 0), (206, .getfield 18, 0, 2), (209, .iload 11, 0, 0), (211, .iload 16, 0, 0), (213, .iastore, 0, 0), (214, .iload 12, 0, 0), (216, .iload 9, 0, 0), (218, .iadd, 0, 0), (219, .iload 14, 0, 0), (221, .isub, 0, 0), (222, .iload 15, 0, 0), (224, .iadd, 0, 0), (225, .istore 16, 0, 0), (227, .iload 16, 0, 0), (229, .sipush 5000, 0, 0), (232, .if_icmp .le 9, 0, 0), (235, .sipush 5000, 0, 0), (238, .goto 5, 0, 0), (241, .iload 16, 0, 0), (243, .istore 16, 0, 0), (245, .iload 16, 0, 0), (247, .iload 12, 0, 0), (249, .if_icmp .eq 83, 0, 0), (252, .iconst 1, 0, 0), (253, .istore 10, 0, 0), (255, .aload_n 0, 0, 0), (256, .getfield 9, 0, 0), (259, .iload 11, 0, 0), (261, .iload 16, 0, 0), (263, .iastore, 0, 0), (264, .aload_n 0, 0, 0), (265, .getfield 15, 0, 1), (268, .iload 11, 0, 0), (270, .iload 16, 0, 0), (272, .aload_n 0, 0, 0), (273, .getfield 15, 0, 1), (276, .iload 11, 0, 0), (278, .iaload, 0, 0), (279, .if_icmp .le 8, 0, 0), (282, .iload 16, 0, 0), (284, .goto 10, 0, 0), (287, .aload_n 0, 0, 0), (288, .getfield 15, 0, 1), (291, .iload 11, 0, 0), (293, .iaload, 0, 0), (294, .iastore, 0, 0), (295, .aload_n 0, 0, 0), (296, .getfield 21, 0, 3), (299, .iload 11, 0, 0), (301, .iload 12, 0, 0), (303, .iload 16, 0, 0), (305, .isub, 0, 0), (306, .aload_n 0, 0, 0), (307, .getfield 21, 0, 3), (310, .iload 11, 0, 0), (312, .iaload, 0, 0), (313, .if_icmp .le 11, 0, 0), (316, .iload 12, 0, 0), (318, .iload 16, 0, 0), (320, .isub, 0, 0), (321, .goto 10, 0, 0), (324, .aload_n 0, 0, 0), (325, .getfield 21, 0, 3), (328, .iload 11, 0, 0), (330, .iaload, 0, 0), (331, .iastore, 0, 0), (332, .iload 14, 0, 0), (334, .istore 9, 0, 0), (336, .iinc 11 1, 0, 0), (339, .goto (-275), 0, 0), (342, .iload 10, 0, 0), (344, .ireturn, 0, 0)]
def mj_cd8 : List (Nat × Instr × Nat × Nat) := [(0, .iconst 0, 0, 0), (1, .istore_n 1, 0, 0), (2, .iconst 0, 0, 0), (3, .istore_n 2, 0, 0), (4, .iload_n 2, 0, 0), (5, .bipush 6, 0, 0), (7, .if_icmp .ge 18, 0, 0), (10, .iload_n 1, 0, 0), (11, .aload_n 0, 0, 0), (12, .getfield 18, 0, 2), (15, .iload_n 2, 0, 0), (16, .iaload, 0, 0), (17, .iadd, 0, 0), (18, .istore_n 1, 0, 0), (19, .iinc 2 1, 0, 0), (22, .goto (-18), 0, 0), (25, .iload_n 1, 0, 0), (26, .ireturn, 0, 0)]
def mj_cd9 : List (Nat × Instr × Nat × Nat) := [(0, .iconst 0, 0, 0), (1, .istore_n 2, 0, 0), (2, .iload_n 2, 0, 0), (3, .aload_n 1, 0, 0), (4, .getfield 80, 3, 2), (7, .bipush 8, 0, 0), (9, .iaload, 0, 0), (10, .if_icmp .ge 27, 0, 0), (13, .aload_n 0, 0, 0), (14, .aload_n 1, 0, 0), (15, .iload_n 2, 0, 0), (16, .invokevirtual 92, 10, 0), (19, .istore_n 3, 0, 0), (20, .iload_n 3, 0, 0), (21, .ifCond .eq 10, 0, 0), (24, .aload_n 0, 0, 0), (25, .iload_n 2, 0, 0), (26, .putfield 73, 0, 8), (29, .iload_n 3, 0, 0), (30, .ireturn, 0, 0), (31, .iinc 2 1, 0, 0), (34, .goto (-32), 0, 0), (37, .iconst 0, 0, 0), (38, .ireturn, 0, 0)]
def mj_cd10 : List (Nat × Instr × Nat × Nat) := [(0, .aload_n 0, 0, 0), (1, .getfield 15, 0, 1), (4, .iload_n 2, 0, 0), (5, .iaload, 0, 0), (6, .aload_n 1, 0, 0), (7, .getfield 80, 3, 2), (10, .iconst 5, 0, 0), (11, .iaload, 0, 0), (12, .if_icmp .ge 5, 0, 0), (15, .iconst 2, 0, 0), (16, .ireturn, 0, 0), (17, .aload_n 0, 0, 0), (18, .getfield 18, 0, 2), (21, .iload_n 2, 0, 0), (22, .iaload, 0, 0), (23, .aload_n 1, 0, 0), (24, .getfield 80, 3, 2), (27, .bipush 6, 0, 0), (29, .iaload, 0, 0), (30, .if_icmp .ge 5, 0, 0), (33, .iconst 3, 0, 0), (34, .ireturn, 0, 0), (35, .aload_n 0, 0, 0), (36, .getfield 21, 0, 3), (39, .iload_n 2, 0, 0), (40, .iaload, 0, 0), (41, .aload_n 1, 0, 0), (42, .getfield 80, 3, 2), (45, .bipush 7, 0, 0), (47, .iaload, 0, 0), (48, .if_icmp .le 7, 0, 0), (51, .iconst 4, 0, 0), (52, .goto 4, 0, 0), (55, .iconst 0, 0, 0), (56, .ireturn, 0, 0)]
def mj_cd11 : List (Nat × Instr × Nat × Nat) := [(0, .aload_n 0, 0, 0), (1, .invokespecial 3, 0, 1), (4, .aload_n 0, 0, 0), (5, .bipush 60, 0, 0), (7, .anewarray 11, 16, 0), (10, .putfield 13, 1, 0), (13, .aload_n 0, 0, 0), (14, .bipush 60, 0, 0), (16, .newarray .int, 12, 0), (18, .putfield 17, 1, 1), (21, .aload_n 0, 0, 0), (22, .bipush 100, 0, 0), (24, .newarray .int, 12, 0), (26, .putfield 21, 1, 2), (29, .aload_n 0, 0, 0), (30, .bipush 100, 0, 0), (32, .newarray .int, 12, 0), (34, .putfield 24, 1, 3), (37, .aload_n 0, 0, 0), (38, .bipush 100, 0, 0), (40, .newarray .int, 12, 0), (42, .putfield 27, 1, 4), (45, .return_, 0, 0)]
def mj_cd12 : List (Nat × Instr × Nat × Nat) := [(0, .aload_n 0, 0, 0), (1, .getfield 30, 1, 5), (4, .bipush 60, 0, 0), (6, .if_icmp .ne 5, 0, 0), (9, .iconst (-1), 0, 0), (10, .ireturn, 0, 0), (11, .aload_n 0, 0, 0), (12, .getfield 13, 1, 0), (15, .aload_n 0, 0, 0), (16, .getfield 30, 1, 5), (19, .new 11, 4, 0), (22, .dup, 0, 0), (23, .aload_n 1, 0, 0), (24, .iload_n 2, 0, 0), (25, .iload_n 3, 0, 0), (26, .invokespecial 34, 36, 0), (29, .aastore, 0, 0), (30, .aload_n 0, 0, 0), (31, .dup, 0, 0), (32, .getfield 30, 1, 5), (35, .iconst 1, 0, 0), (36, .iadd, 0, 0), (37, .putfield 30, 1, 5), (40, .aload_n 0, 0, 0), (41, .getfield 30, 1, 5), (44, .iconst 1, 0, 0), (45, .isub, 0, 0), (46, .ireturn, 0, 0)]
def mj_cd13 : List (Nat × Instr × Nat × Nat) := [(0, .iload_n 1, 0, 0), (1, .ifCond .lt 20, 0, 0), (4, .iload_n 1, 0, 0), (5, .aload_n 0, 0, 0), (6, .getfield 30, 1, 5), (9, .if_icmp .ge 12, 0, 0), (12, .aload_n 0, 0, 0), (13, .getfield 13, 1, 0), (16, .iload_n 1, 0, 0), (17, .aaload, 0, 0), (18, .goto 4, 0, 0), (21, .aconst_null, 0, 0), (22, .areturn, 0, 0)]
def mj_cd14 : List (Nat × Instr × Nat × Nat) := [(0, .aload_n 0, 0, 0), (1, .iload_n 1, 0, 0), (2, .invokevirtual 37, 13, 0), (5, .ifnull 12, 0, 0), (8, .aload_n 0, 0, 0), (9, .getfield 41, 1, 6), (12, .bipush 100, 0, 0), (14, .if_icmp .ne 5, 0, 0), (17, .iconst 0, 0, 0), (18, .ireturn, 0, 0), (19, .aload_n 0, 0, 0), (20, .getfield 21, 1, 2), (23, .aload_n 0, 0, 0), (24, .getfield 41, 1, 6), (27, .iload_n 1, 0, 0), (28, .iastore, 0, 0), (29, .aload_n 0, 0, 0), (30, .getfield 24, 1, 3), (33, .aload_n 0, 0, 0), (34, .getfield 41, 1, 6), (37, .iload_n 2, 0, 0), (38, .ifCond .eq 7, 0, 0), (41, .iconst 1, 0, 0), (42, .goto 4, 0, 0), (45, .iconst 2, 0, 0), (46, .iastore, 0, 0), (47, .aload_n 0, 0, 0), (48, .getfield 27, 1, 4), (51, .aload_n 0, 0, 0), (52, .getfield 41, 1, 6), (55, .iload_n 3, 0, 0), (56, .iastore, 0, 0), (57, .aload_n 0, 0, 0), (58, .dup, 0, 0), (59, .getfield 41, 1, 6), (62, .iconst 1, 0, 0), (63, .iadd, 0, 0), (64, .putfield 41, 1, 6), (67, .iconst 1, 0, 0), (68, .ireturn, 0, 0)]
def mj_cd15 : List (Nat × Instr × Nat × Nat) := [(0, .iconst 0, 0, 0), (1, .istore_n 2, 0, 0), (2, .iload_n 2, 0, 0), (3, .aload_n 0, 0, 0), (4, .getfield 30, 1, 5), (7, .if_icmp .ge 16, 0, 0), (10, .aload_n 0, 0, 0), (11, .getfield 17, 1, 1), (14, .iload_n 2, 0, 0), (15, .iconst 0, 0, 0), (16, .iastore, 0, 0), (17, .iinc 2 1, 0, 0), (20, .goto (-18), 0, 0), (23, .iconst 0, 0, 0), (24, .istore_n 2, 0, 0), (25, .iload_n 2, 0, 0), (26, .aload_n 0, 0, 0), (27, .getfield 41, 1, 6), (30, .if_icmp .ge 36, 0, 0), (33, .aload_n 0, 0, 0), (34, .getfield 27, 1, 4), (37, .iload_n 2, 0, 0), (38, .iaload, 0, 0), (39, .iload_n 1, 0, 0), (40, .if_icmp .gt 26, 0, 0), (43, .aload_n 0, 0, 0), (44, .getfield 17, 1, 1), (47, .aload_n 0, 0, 0), (48, .getfield 21, 1, 2), (51, .iload_n 2, 0, 0), (52, .iaload, 0, 0), (53, .aload_n 0, 0, 0), (54, .getfield 24, 1, 3), (57, .iload_n 2, 0, 0), (58, .iaload, 0, 0), (59, .iastore, 0, 0), (60, .iinc 2 1, 0, 0), (63, .goto (-38), 0, 0), (66, .return_, 0, 0)]
def mj_cd16 : List (Nat × Instr × Nat × Nat) := [(0, .iconst 0, 0, 0), (1, .istore_n 2, 0, 0), (2, .iconst 0, 0, 0), (3, .istore_n 3, 0, 0), (4, .iload_n 3, 0, 0), (5, .aload_n 0, 0, 0), (6, .getfield 30, 1, 5), (9, .if_icmp .ge 65, 0, 0), (12, .aload_n 0, 0, 0), (13, .iload_n 3, 0, 0), (14, .invokevirtual 37, 13, 0), (17, .astore 4, 0, 0), (19, .aload 4, 0, 0), (21, .ifnull 47, 0, 0), (24, .aload_n 0, 0, 0), (25, .getfield 17, 1, 1), (28, .iload_n 3, 0, 0), (29, .iaload, 0, 0), (30, .ifCond .eq 38, 0, 0), (33, .aload_n 1, 0, 0), (34, .aload 4, 0, 0), (36, .getfield 44, 4, 0), (39, .aload 4, 0, 0), (41, .getfield 48, 4, 1), (44, .invokevirtual 51, 1, 0), (47, .aload_n 0, 0, 0), (48, .getfield 17, 1, 1), (51, .iload_n 3, 0, 0), (52, .iaload, 0, 0), (53, .iconst 1, 0, 0), (54, .if_icmp .ne 7, 0, 0), (57, .iconst 1, 0, 0), (58, .goto 4, 0, 0), (61, .iconst 0, 0, 0), (62, .if_icmp .eq 6, 0, 0), (65, .iinc 2 1, 0, 0), (68, .iinc 3 1, 0, 0), (71, .goto (-67), 0, 0), (74, .iload_n 2, 0, 0), (75, .ireturn, 0, 0)]
def mj_cd17 : List (Nat × Instr × Nat × Nat) := [(0, .iconst (-1), 0, 0), (1, .istore_n 2, 0, 0), (2, .iconst 0, 0, 0), (3, .istore_n 3, 0, 0), (4, .iconst 1, 0, 0), (5, .istore 4, 0, 0), (7, .iconst 0, 0, 0), (8, .istore 5, 0, 0), (10, .iload 5, 0, 0), (12, .iload_n 1, 0, 0), (13, .if_icmp .ge 52, 0, 0), (16, .aload_n 0, 0, 0), (17, .iload 5, 0, 0), (19, .iconst 2, 0, 0), (20, .invokevirtual 57, 18, 0), (23, .istore 6, 0, 0), (25, .iload 6, 0, 0), (27, .aload_n 0, 0, 0), (28, .iload 5, 0, 0), (30, .iconst 1, 0, 0), (31, .invokevirtual 57, 18, 0), (34, .iadd, 0, 0), (35, .istore 7, 0, 0), (37, .iload 6, 0, 0), (39, .iload 4, 0, 0), (41, .imul, 0, 0), (42, .iload_n 3, 0, 0), (43, .iload 7, 0, 0), (45, .imul, 0, 0), (46, .if_icmp .le 13, 0, 0), (49, .iload 5, 0, 0), (51, .istore_n 2, 0, 0), (52, .iload 6, 0, 0), (54, .istore_n 3, 0, 0), (55, .iload 7, 0, 0), (57, .istore 4, 0, 0), (59, .iinc 5 1, 0, 0), (62, .goto (-52), 0, 0), (65, .iload_n 2, 0, 0), (66, .ireturn, 0, 0)]
def mj_cd18 : List (Nat × Instr × Nat × Nat) := [(0, .iconst 0, 0, 0), (1, .istore_n 3, 0, 0), (2, .iconst 0, 0, 0), (3, .istore 4, 0, 0), (5, .iload 4, 0, 0), (7, .aload_n 0, 0, 0), (8, .getfield 30, 1, 5), (11, .if_icmp .ge 48, 0, 0), (14, .aload_n 0, 0, 0), (15, .iload 4, 0, 0), (17, .invokevirtual 37, 13, 0), (20, .astore 5, 0, 0), (22, .aload 5, 0, 0), (24, .ifnull 29, 0, 0), (27, .aload_n 0, 0, 0), (28, .getfield 17, 1, 1), (31, .iload 4, 0, 0), (33, .iaload, 0, 0), (34, .iload_n 2, 0, 0), (35, .if_icmp .ne 18, 0, 0), (38, .aload 5, 0, 0), (40, .getfield 44, 4, 0), (43, .iload_n 1, 0, 0), (44, .invokevirtual 61, 32, 0), (47, .ifCond .eq 6, 0, 0), (50, .iinc 3 1, 0, 0), (53, .iinc 4 1, 0, 0), (56, .goto (-51), 0, 0), (59, .iload_n 3, 0, 0), (60, .ireturn, 0, 0)]
def mj_cd19 : List (Nat × Instr × Nat × Nat) := [(0, .aload_n 0, 0, 0), (1, .invokespecial 3, 0, 1), (4, .aload_n 0, 0, 0), (5, .bipush 8, 0, 0), (7, .newarray .int, 12, 0), (9, .putfield 11, 2, 0), (12, .aload_n 0, 0, 0), (13, .bipush 8, 0, 0), (15, .newarray .int, 12, 0), (17, .putfield 15, 2, 1), (20, .aload_n 0, 0, 0), (21, .bipush 8, 0, 0), (23, .newarray .int, 12, 0), (25, .putfield 18, 2, 2), (28, .aload_n 0, 0, 0), (29, .bipush 64, 0, 0), (31, .newarray .int, 12, 0), (33, .putfield 21, 2, 3), (36, .return_, 0, 0)]
def mj_cd20 : List (Nat × Instr × Nat × Nat) := [(0, .aload_n 0, 0, 0), (1, .getfield 24, 2, 5), (4, .bipush 8, 0, 0), (6, .if_icmp .ne 5, 0, 0), (9, .iconst (-1), 0, 0), (10, .ireturn, 0, 0), (11, .aload_n 0, 0, 0), (12, .getfield 11, 2, 0), (15, .aload_n 0, 0, 0), (16, .getfield 24, 2, 5), (19, .iload_n 1, 0, 0), (20, .iastore, 0, 0), (21, .aload_n 0, 0, 0), (22, .getfield 15, 2, 1), (25, .aload_n 0, 0, 0), (26, .getfield 24, 2, 5), (29, .iload_n 2, 0, 0), (30, .iastore, 0, 0), (31, .aload_n 0, 0, 0), (32, .dup, 0, 0), (33, .getfield 24, 2, 5), (36, .iconst 1, 0, 0), (37, .iadd, 0, 0), (38, .putfield 24, 2, 5), (41, .aload_n 0, 0, 0), (42, .iconst 0, 0, 0), (43, .putfield 28, 2, 7), (46, .aload_n 0, 0, 0), (47, .getfield 24, 2, 5), (50, .iconst 1, 0, 0), (51, .isub, 0, 0), (52, .ireturn, 0, 0)]
def mj_cd21 : List (Nat × Instr × Nat × Nat) := [(0, .aload_n 0, 0, 0), (1, .iconst 0, 0, 0), (2, .putfield 24, 2, 5), (5, .aload_n 0, 0, 0), (6, .iconst 0, 0, 0), (7, .putfield 28, 2, 7), (10, .return_, 0, 0)]
def mj_cd22 : List (Nat × Instr × Nat × Nat) := [(0, .aload_n 0, 0, 0), (1, .getfield 28, 2, 7), (4, .ifCond .eq 4, 0, 0), (7, .return_, 0, 0), (8, .aload_n 0, 0, 0), (9, .getfield 32, 2, 4), (12, .ifnonnull 12, 0, 0), (15, .aload_n 0, 0, 0), (16, .sipush 2048, 0, 0), (19, .newarray .int, 12, 0), (21, .putfield 32, 2, 4), (24, .aload_n 0, 0, 0), (25, .invokevirtual 35, 23, 0), (28, .aload_n 0, 0, 0), (29, .aload_n 0, 0, 0), (30, .getfield 32, 2, 4), (33, .invokevirtual 38, 25, 0), (36, .iconst 0, 0, 0), (37, .istore_n 1, 0, 0), (38, .iconst (-1), 0, 0), (39, .istore_n 2, 0, 0), (40, .aload_n 0, 0, 0), (41, .iconst 0, 0, 0), (42, .putfield 42, 2, 6), (45, .iconst 0, 0, 0), (46, .istore_n 3, 0, 0), (47, .iload_n 3, 0, 0), (48, .aload_n 0, 0, 0), (49, .getfield 24, 2, 5), (52, .if_icmp .ge 62, 0, 0), (55, .aload_n 0, 0, 0), (56, .aload_n 0, 0, 0), (57, .getfield 32, 2, 4), (60, .iload_n 1, 0, 0), (61, .iload_n 2, 0, 0), (62, .invokevirtual 45, 26, 0), (65, .istore 4, 0, 0), (67, .iload 4, 0, 0), (69, .iconst (-1), 0, 0), (70, .if_icmp .ne 4, 0, 0), (73, .return_, 0, 0), (74, .aload_n 0, 0, 0), (75, .dup, 0, 0), (76, .getfield 42, 2, 6), (79, .aload_n 0, 0, 0), (80, .iload_n 2, 0, 0), (81, .iload 4, 0, 0), (83, .invokevirtual 49, 28, 0), (86, .iadd, 0, 0), (87, .putfield 42, 2, 6), (90, .iload_n 1, 0, 0), (91, .iconst 1, 0, 0), (92, .iload 4, 0, 0), (94, .ishl, 0, 0), (95, .ior, 0, 0), (96, .istore_n 1, 0, 0), (97, .iload 4, 0, 0), (99, .istore_n 2, 0, 0), (100, .aload_n 0, 0, 0), (101, .getfield 18, 2, 2), (104, .iload_n 3, 0, 0), (105, .iload 4, 0, 0), (107, .iastore, 0, 0), (108, .iinc 3 1, 0, 0), (111, .goto (-64), 0, 0), (114, .aload_n 0, 0, 0), (115, .iconst 1, 0, 0), (116, .putfield 28, 2, 7), (119, .return_, 0, 0)]
def mj_cd23 : List (Nat × Instr × Nat × Nat) := [(0, .iconst 0, 0, 0), (1, .istore_n 1, 0, 0), (2, .iload_n 1, 0, 0), (3, .aload_n 0, 0, 0), (4, .getfield 24, 2, 5), (7, .if_icmp .ge 42, 0, 0), (10, .iconst 0, 0, 0), (11, .istore_n 2, 0, 0), (12, .iload_n 2, 0, 0), (13, .aload_n 0, 0, 0), (14, .getfield 24, 2, 5), (17, .if_icmp .ge 26, 0, 0), (20, .aload_n 0, 0, 0), (21, .getfield 21, 2, 3), (24, .iload_n 1, 0, 0), (25, .bipush 8, 0, 0), (27, .imul, 0, 0), (28, .iload_n 2, 0, 0), (29, .iadd, 0, 0), (30, .aload_n 0, 0, 0), (31, .iload_n 1, 0, 0), (32, .iload_n 2, 0, 0), (33, .invokevirtual 53, 24, 0), (36, .iastore, 0, 0), (37, .iinc 2 1, 0, 0), (40, .goto (-28), 0, 0), (43, .iinc 1 1, 0, 0), (46, .goto (-44), 0, 0), (49, .return_, 0, 0)]
def mj_cd24 : List (Nat × Instr × Nat × Nat) := [(0, .aload_n 0, 0, 0), (1, .getfield 15, 2, 1), (4, .iload_n 1, 0, 0), (5, .iaload, 0, 0), (6, .istore_n 3, 0, 0), (7, .aload_n 0, 0, 0), (8, .getfield 15, 2, 1), (11, .iload_n 2, 0, 0), (12, .iaload, 0, 0), (13, .istore 4, 0, 0), (15, .iconst 3, 0, 0), (16, .iconst 0, 0, 0), (17, .iload_n 3, 0, 0), (18, .iload 4, 0, 0), (20, .invokestatic 56, 110, 0), (23, .imul, 0, 0), (24, .iconst 2, 0, 0), (25, .iconst 1, 0, 0), (26, .iload_n 3, 0, 0), (27, .iload 4, 0, 0), (29, .invokestatic 56, 110, 0), (32, .imul, 0, 0), (33, .iadd, 0, 0), (34, .iconst 2, 0, 0), (35, .iload_n 3, 0, 0), (36, .iload 4, 0, 0), (38, .invokestatic 56, 110, 0), (41, .iadd, 0, 0), (42, .istore 5, 0, 0), (44, .aload_n 0, 0, 0), (45, .getfield 11, 2, 0), (48, .iload_n 1, 0, 0), (49, .iaload, 0, 0), (50, .aload_n 0, 0, 0), (51, .getfield 11, 2, 0), (54, .iload_n 2, 0, 0), (55, .iaload, 0, 0), (56, .if_icmp .ne 8, 0, 0), (59, .iload 5, 0, 0), (61, .goto 8, 0, 0), (64, .iload 5, 0, 0), (66, .bipush 10, 0, 0), (68, .iadd, 0, 0), (69, .ireturn, 0, 0)]
def mj_cd25 : List (Nat × Instr × Nat × Nat) := [(0, .iconst 1, 0, 0), (1, .aload_n 0, 0, 0), (2, .getfield 24, 2, 5), (5, .ishl, 0, 0), (6, .iconst 1, 0, 0), (7, .isub, 0, 0), (8, .istore_n 2, 0, 0), (9, .iload_n 2, 0, 0), (10, .ifCond .le 70, 0, 0), (13, .iconst 0, 0, 0), (14, .istore_n 3, 0, 0), (15, .iload_n 3, 0, 0), (16, .aload_n 0, 0, 0), (17, .getfield 24, 2, 5), (20, .if_icmp .ge 54, 0, 0), (23, .iload_n 2, 0, 0), (24, .iload_n 3, 0, 0), (25, .ishr, 0, 0), (26, .iconst 1, 0, 0), (27, .iand, 0, 0), (28, .iconst 1, 0, 0), (29, .if_icmp .ne 39, 0, 0), (32, .aload_n 0, 0, 0), (33, .aload_n 1, 0, 0), (34, .iload_n 2, 0, 0), (35, .iload_n 3, 0, 0), (36, .invokevirtual 45, 26, 0), (39, .istore 4, 0, 0), (41, .aload_n 1, 0, 0), (42, .iload_n 2, 0, 0), (43, .bipush 8, 0, 0), (45, .imul, 0, 0), (46, .iload_n 3, 0, 0), (47, .iadd, 0, 0), (48, .iload 4, 0, 0), (50, .iconst (-1), 0, 0), (51, .if_icmp .ne 7, 0, 0), (54, .iconst 0, 0, 0), (55, .goto 12, 0, 0), (58, .aload_n 0, 0, 0), (59, .aload_n 1, 0, 0), (60, .iload_n 2, 0, 0), (61, .iload_n 3, 0, 0), (62, .iload 4, 0, 0), (64, .invokevirtual 60, 27, 0), (67, .iastore, 0, 0), (68, .iinc 3 1, 0, 0), (71, .goto (-56), 0, 0), (74, .iinc 2 (-1), 0, 0), (77, .goto (-68), 0, 0), (80, .return_, 0, 0)]
def mj_cd26 : List (Nat × Instr × Nat × Nat) := [(0, .iconst (-1), 0, 0), (1, .istore 4, 0, 0), (3, .iconst 0, 0, 0), (4, .istore 5, 0, 0), (6, .iconst 0, 0, 0), (7, .istore 6, 0, 0), (9, .iload 6, 0, 0), (11, .aload_n 0, 0, 0), (12, .getfield 24, 2, 5), (15, .if_icmp .ge 54, 0, 0), (18, .iload_n 2, 0, 0), (19, .iload 6, 0, 0), (21, .ishr, 0, 0), (22, .iconst 1, 0, 0), (23, .iand, 0, 0), (24, .iconst 1, 0, 0), (25, .if_icmp .ne 6, 0, 0), (28, .goto 35, 0, 0), (31, .aload_n 0, 0, 0), (32, .aload_n 1, 0, 0), (33, .iload_n 2, 0, 0), (34, .iload_n 3, 0, 0), (35, .iload 6, 0, 0), (37, .invokevirtual 60, 27, 0), (40, .istore 7, 0, 0), (42, .iload 4, 0, 0), (44, .iconst (-1), 0, 0), (45, .if_icmp .eq 10, 0, 0), (48, .iload 7, 0, 0), (50, .iload 5, 0, 0), (52, .if_icmp .ge 11, 0, 0), (55, .iload 6, 0, 0), (57, .istore 4, 0, 0), (59, .iload 7, 0, 0), (61, .istore 5, 0, 0), (63, .iinc 6 1, 0, 0), (66, .goto (-57), 0, 0), (69, .iload 4, 0, 0), (71, .ireturn, 0, 0)]
def mj_cd27 : List (Nat × Instr × Nat × Nat) := [(0, .aload_n 0, 0, 0), (1, .iload_n 3, 0, 0), (2, .iload 4, 0, 0), (4, .invokevirtual 49, 28, 0), (7, .aload_n 1, 0, 0), (8, .iload_n 2, 0, 0), (9, .iconst 1, 0, 0), (10, .iload 4, 0, 0), (12, .ishl, 0, 0), (13, .ior, 0, 0), (14, .bipush 8, 0, 0), (16, .imul, 0, 0), (17, .iload 4, 0, 0), (19, .iadd, 0, 0), (20, .iaload, 0, 0), (21, .iadd, 0, 0), (22, .ireturn, 0, 0)]
def mj_cd28 : List (Nat × Instr × Nat × Nat) := [(0, .iload_n 1, 0, 0), (1, .iconst (-1), 0, 0), (2, .if_icmp .ne 7, 0, 0), (5, .iconst 0, 0, 0), (6, .goto 14, 0, 0), (9, .aload_n 0, 0, 0), (10, .getfield 21, 2, 3), (13, .iload_n 1, 0, 0), (14, .bipush 8, 0, 0), (16, .imul, 0, 0), (17, .iload_n 2, 0, 0), (18, .iadd, 0, 0), (19, .iaload, 0, 0), (20, .ireturn, 0, 0)]
def mj_cd29 : List (Nat × Instr × Nat × Nat) := [(0, .aload_n 0, 0, 0), (1, .invokespecial 3, 0, 1), (4, .aload_n 0, 0, 0), (5, .bipush 9, 0, 0), (7, .newarray .int, 12, 0), (9, .putfield 9, 3, 2), (12, .aload_n 0, 0, 0), (13, .bipush 12, 0, 0), (15, .newarray .long, 13, 0), (17, .putfield 15, 3, 3), (20, .aload_n 0, 0, 0), (21, .bipush 12, 0, 0), (23, .newarray .long, 13, 0), (25, .putfield 19, 3, 4), (28, .aload_n 0, 0, 0), (29, .iload_n 1, 0, 0), (30, .putfield 22, 3, 0), (33, .aload_n 0, 0, 0), (34, .iload_n 2, 0, 0), (35, .putfield 26, 3, 1), (38, .return_, 0, 0)]
def mj_cd30 : List (Nat × Instr × Nat × Nat) := [(0, .iconst 0, 0, 0), (1, .istore 4, 0, 0), (3, .iload 4, 0, 0), (5, .bipush 8, 0, 0), (7, .if_icmp .ge 35, 0, 0), (10, .aload_n 0, 0, 0), (11, .getfield 9, 3, 2), (14, .iload 4, 0, 0), (16, .iload 4, 0, 0), (18, .aload_n 1, 0, 0), (19, .getfield 29, 6, 0), (22, .iload 4, 0, 0), (24, .iaload, 0, 0), (25, .aload_n 2, 0, 0), (26, .getfield 29, 6, 0), (29, .iload 4, 0, 0), (31, .iaload, 0, 0), (32, .invokestatic 32, 31, 0), (35, .iastore, 0, 0), (36, .iinc 4 1, 0, 0), (39, .goto (-36), 0, 0), (42, .aload_n 0, 0, 0), (43, .getfield 9, 3, 2), (46, .bipush 8, 0, 0), (48, .iload_n 3, 0, 0), (49, .iastore, 0, 0), (50, .return_, 0, 0)]
def mj_cd31 : List (Nat × Instr × Nat × Nat) := [(0, .iload_n 0, 0, 0), (1, .tableswitch 47 3 7 #[35, 47, 41, 41, 35], 0, 0), (36, .iload_n 1, 0, 0), (37, .iload_n 2, 0, 0), (38, .invokestatic 36, 0, 2), (41, .ireturn, 0, 0), (42, .iload_n 1, 0, 0), (43, .iload_n 2, 0, 0), (44, .invokestatic 42, 0, 3), (47, .ireturn, 0, 0), (48, .iload_n 1, 0, 0), (49, .iload_n 2, 0, 0), (50, .iadd, 0, 0), (51, .iconst 2, 0, 0), (52, .idiv, 0, 0), (53, .ireturn, 0, 0)]
def mj_cd32 : List (Nat × Instr × Nat × Nat) := [(0, .aload_n 0, 0, 0), (1, .getfield 22, 3, 0), (4, .iload_n 1, 0, 0), (5, .if_icmp .eq 11, 0, 0), (8, .aload_n 0, 0, 0), (9, .getfield 26, 3, 1), (12, .iload_n 1, 0, 0), (13, .if_icmp .ne 7, 0, 0), (16, .iconst 1, 0, 0), (17, .goto 4, 0, 0), (20, .iconst 0, 0, 0), (21, .ireturn, 0, 0)]
def mj_cd33 : List (Nat × Instr × Nat × Nat) := [(0, .aload_n 0, 0, 0), (1, .getfield 15, 3, 3), (4, .iload_n 1, 0, 0), (5, .bipush 64, 0, 0), (7, .idiv, 0, 0), (8, .laload, 0, 0), (9, .iload_n 1, 0, 0), (10, .bipush 64, 0, 0), (12, .irem, 0, 0), (13, .lshr, 0, 0), (14, .lconst 1, 0, 0), (15, .land, 0, 0), (16, .lconst 1, 0, 0), (17, .lcmp, 0, 0), (18, .ifCond .ne 7, 0, 0), (21, .iconst 1, 0, 0), (22, .goto 4, 0, 0), (25, .iconst 0, 0, 0), (26, .ireturn, 0, 0)]
def mj_cd34 : List (Nat × Instr × Nat × Nat) := [(0, .aload_n 0, 0, 0), (1, .getfield 19, 3, 4), (4, .iload_n 1, 0, 0), (5, .bipush 64, 0, 0), (7, .idiv, 0, 0), (8, .laload, 0, 0), (9, .iload_n 1, 0, 0), (10, .bipush 64, 0, 0), (12, .irem, 0, 0), (13, .lshr, 0, 0), (14, .lconst 1, 0, 0), (15, .land, 0, 0), (16, .lconst 1, 0, 0), (17, .lcmp, 0, 0), (18, .ifCond .ne 7, 0, 0), (21, .iconst 1, 0, 0), (22, .goto 4, 0, 0), (25, .iconst 0, 0, 0), (26, .ireturn, 0, 0)]
def mj_cd35 : List (Nat × Instr × Nat × Nat) := [(0, .aload_n 0, 0, 0), (1, .getfield 15, 3, 3), (4, .iload_n 1, 0, 0), (5, .bipush 64, 0, 0), (7, .idiv, 0, 0), (8, .dup2, 0, 0), (9, .laload, 0, 0), (10, .lconst 1, 0, 0), (11, .iload_n 1, 0, 0), (12, .bipush 64, 0, 0), (14, .irem, 0, 0), (15, .lshl, 0, 0), (16, .lor, 0, 0), (17, .lastore, 0, 0), (18, .iload_n 2, 0, 0), (19, .ifCond .eq 21, 0, 0), (22, .aload_n 0, 0, 0), (23, .getfield 19, 3, 4), (26, .iload_n 1, 0, 0), (27, .bipush 64, 0, 0), (29, .idiv, 0, 0), (30, .dup2, 0, 0), (31, .laload, 0, 0), (32, .lconst 1, 0, 0), (33, .iload_n 1, 0, 0), (34, .bipush 64, 0, 0), (36, .irem, 0, 0), (37, .lshl, 0, 0), (38, .lor, 0, 0), (39, .lastore, 0, 0), (40, .return_, 0, 0)]
def mj_cd36 : List (Nat × Instr × Nat × Nat) := [(0, .aload_n 0, 0, 0), (1, .invokespecial 1, 0, 1), (4, .aload_n 0, 0, 0), (5, .aload_n 1, 0, 0), (6, .putfield 7, 4, 0), (9, .aload_n 0, 0, 0), (10, .iload_n 2, 0, 0), (11, .putfield 13, 4, 1), (14, .aload_n 0, 0, 0), (15, .iload_n 3, 0, 0), (16, .putfield 17, 4, 2), (19, .return_, 0, 0)]
def mj_cd37 : List (Nat × Instr × Nat × Nat) := [(0, .aload_n 0, 0, 0), (1, .invokespecial 1, 0, 1), (4, .aload_n 0, 0, 0), (5, .sipush 9261, 0, 0), (8, .newarray .int, 12, 0), (10, .putfield 9, 5, 0), (13, .return_, 0, 0)]
def mj_cd38 : List (Nat × Instr × Nat × Nat) := [(0, .aload_n 2, 0, 0), (1, .iconst 0, 0, 0), (2, .invokestatic 13, 44, 0), (5, .istore_n 3, 0, 0), (6, .aload_n 2, 0, 0), (7, .iconst 1, 0, 0), (8, .invokestatic 13, 44, 0), (11, .istore 4, 0, 0), (13, .aload_n 2, 0, 0), (14, .iconst 2, 0, 0), (15, .invokestatic 13, 44, 0), (18, .istore 5, 0, 0), (20, .iconst 0, 0, 0), (21, .istore 6, 0, 0), (23, .iload 6, 0, 0), (25, .iload_n 3, 0, 0), (26, .if_icmp .ge 152, 0, 0), (29, .iconst 0, 0, 0), (30, .istore 7, 0, 0), (32, .iload 7, 0, 0), (34, .iload 4, 0, 0), (36, .if_icmp .ge 136, 0, 0), (39, .iconst 0, 0, 0), (40, .istore 8, 0, 0), (42, .iload 8, 0, 0), (44, .iload 5, 0, 0), (46, .if_icmp .ge 120, 0, 0), (49, .iload 6, 0, 0), (51, .iload 7, 0, 0), (53, .iload 8, 0, 0), (55, .invokestatic 17, 47, 0), (58, .istore 9, 0, 0), (60, .getstatic 21, 6, 0), (63, .iload 6, 0, 0), (65, .iaload, 0, 0), (66, .getstatic 21, 6, 0), (69, .iload 7, 0, 0), (71, .iaload, 0, 0), (72, .iadd, 0, 0), (73, .getstatic 21, 6, 0), (76, .iload 8, 0, 0), (78, .iaload, 0, 0), (79, .iadd, 0, 0), (80, .ifCond .le 25, 0, 0), (83, .aload_n 0, 0, 0), (84, .getfield 9, 5, 0), (87, .iload 9, 0, 0), (89, .aload_n 0, 0, 0), (90, .iload 9, 0, 0), (92, .iload 6, 0, 0), (94, .iload 7, 0, 0), (96, .iload 8, 0, 0), (98, .invokevirtual 24, 39, 0), (101, .iastore, 0, 0), (102, .goto 58, 0, 0), (105, .aload_n 2, 0, 0), (106, .getfield 28, 9, 1), (109, .getstatic 34, 5, 0), (112, .iload 6, 0, 0), (114, .iaload, 0, 0), (115, .getstatic 34, 5, 0), (118, .iload 7, 0, 0), (120, .iaload, 0, 0), (121, .getstatic 34, 5, 0), (124, .iload 8, 0, 0), (126, .iaload, 0, 0), (127, .invokestatic 37, 48, 0), (130, .iadd, 0, 0), (131, .istore 10, 0, 0), (133, .aload_n 0, 0, 0), (134, .getfield 9, 5, 0), (137, .iload 9, 0, 0), (139, .aload_n 1, 0, 0), (140, .aload_n 2, 0, 0), (141, .getfield 40, 9, 0), (144, .iload 10, 0, 0), (146, .invokevirtual 44, 1, 0), (149, .ifCond .eq 8, 0, 0), (152, .bipush 32, 0, 0), (154, .goto 5, 0, 0), (157, .bipush 33, 0, 0), (159, .iastore, 0, 0), (160, .iinc 8 1, 0, 0), (163, .goto (-121), 0, 0), (166, .iinc 7 1, 0, 0), (169, .goto (-137), 0, 0), (172, .iinc 6 1, 0, 0), (175, .goto (-152), 0, 0), (178, .return_, 0, 0)]
def mj_cd39 : List (Nat × Instr × Nat × Nat) := [(0, .aload_n 0, 0, 0), (1, .iconst 0, 0, 0), (2, .iload_n 1, 0, 0), (3, .iload_n 2, 0, 0), (4, .sipush 32000, 0, 0), (7, .invokevirtual 50, 40, 0), (10, .istore 5, 0, 0), (12, .aload_n 0, 0, 0), (13, .iconst 1, 0, 0), (14, .iload_n 1, 0, 0), (15, .iload_n 3, 0, 0), (16, .iload 5, 0, 0), (18, .invokevirtual 50, 40, 0), (21, .istore 5, 0, 0), (23, .aload_n 0, 0, 0), (24, .iconst 2, 0, 0), (25, .iload_n 1, 0, 0), (26, .iload 4, 0, 0), (28, .iload 5, 0, 0), (30, .invokevirtual 50, 40, 0), (33, .ireturn, 0, 0)]
def mj_cd40 : List (Nat × Instr × Nat × Nat) := [(0, .iload 4, 0, 0), (2, .istore 5, 0, 0), (4, .getstatic 53, 3, 0), (7, .iload_n 1, 0, 0), (8, .iaload, 0, 0), (9, .istore 6, 0, 0), (11, .getstatic 34, 5, 0), (14, .iload_n 3, 0, 0), (15, .iaload, 0, 0), (16, .getstatic 21, 6, 0), (19, .iload_n 3, 0, 0), (20, .iaload, 0, 0), (21, .isub, 0, 0), (22, .istore 7, 0, 0), (24, .iconst 1, 0, 0), (25, .istore 8, 0, 0), (27, .iload 8, 0, 0), (29, .getstatic 21, 6, 0), (32, .iload_n 3, 0, 0), (33, .iaload, 0, 0), (34, .if_icmp .gt 123, 0, 0), (37, .iload 5, 0, 0), (39, .bipush 96, 0, 0), (41, .if_icmp .lt 116, 0, 0), (44, .getstatic 56, 4, 0), (47, .iload 7, 0, 0), (49, .iload 8, 0, 0), (51, .iadd, 0, 0), (52, .iconst 1, 0, 0), (53, .isub, 0, 0), (54, .iaload, 0, 0), (55, .iload 8, 0, 0), (57, .iadd, 0, 0), (58, .iconst 1, 0, 0), (59, .isub, 0, 0), (60, .istore 9, 0, 0), (62, .aload_n 0, 0, 0), (63, .getfield 9, 5, 0), (66, .iload_n 2, 0, 0), (67, .iload_n 3, 0, 0), (68, .iload 9, 0, 0), (70, .isub, 0, 0), (71, .iload 6, 0, 0), (73, .imul, 0, 0), (74, .isub, 0, 0), (75, .iaload, 0, 0), (76, .istore 10, 0, 0), (78, .aload_n 0, 0, 0), (79, .getfield 9, 5, 0), (82, .iload_n 2, 0, 0), (83, .iload 8, 0, 0), (85, .iload 6, 0, 0), (87, .imul, 0, 0), (88, .isub, 0, 0), (89, .iaload, 0, 0), (90, .istore 11, 0, 0), (92, .iload 10, 0, 0), (94, .iload 11, 0, 0), (96, .if_icmp .ne 13, 0, 0), (99, .iload 10, 0, 0), (101, .bipush 64, 0, 0), (103, .if_icmp .ge 6, 0, 0), (106, .iload 10, 0, 0), (108, .ireturn, 0, 0), (109, .iload 10, 0, 0), (111, .bipush 32, 0, 0), (113, .idiv, 0, 0), (114, .iload 11, 0, 0), (116, .bipush 32, 0, 0), (118, .idiv, 0, 0), (119, .iadd, 0, 0), (120, .istore 12, 0, 0), (122, .iload 12, 0, 0), (124, .iload 5, 0, 0), (126, .bipush 32, 0, 0), (128, .idiv, 0, 0), (129, .if_icmp .ge 22, 0, 0), (132, .iload 12, 0, 0), (134, .bipush 32, 0, 0), (136, .imul, 0, 0), (137, .iconst 2, 0, 0), (138, .iadd, 0, 0), (139, .bipush 8, 0, 0), (141, .iload_n 1, 0, 0), (142, .imul, 0, 0), (143, .iadd, 0, 0), (144, .iload 8, 0, 0), (146, .iadd, 0, 0), (147, .iconst 1, 0, 0), (148, .isub, 0, 0), (149, .istore 5, 0, 0), (151, .iinc 8 1, 0, 0), (154, .goto (-127), 0, 0), (157, .iload 5, 0, 0), (159, .ireturn, 0, 0)]
def mj_cd41 : List (Nat × Instr × Nat × Nat) := [(0, .aload_n 0, 0, 0), (1, .getfield 9, 5, 0), (4, .aload_n 2, 0, 0), (5, .aload_n 2, 0, 0), (6, .getfield 28, 9, 1), (9, .aload_n 2, 0, 0), (10, .getfield 61, 9, 2), (13, .invokestatic 64, 46, 0), (16, .iaload, 0, 0), (17, .bipush 32, 0, 0), (19, .idiv, 0, 0), (20, .istore_n 3, 0, 0), (21, .iconst 2, 0, 0), (22, .iload_n 3, 0, 0), (23, .imul, 0, 0), (24, .iconst 1, 0, 0), (25, .isub, 0, 0), (26, .iconst 0, 0, 0), (27, .invokestatic 68, 0, 3), (30, .newarray .int, 12, 0), (32, .astore 4, 0, 0), (34, .aload_n 1, 0, 0), (35, .aload_n 2, 0, 0), (36, .getfield 28, 9, 1), (39, .aload_n 2, 0, 0), (40, .getfield 61, 9, 2), (43, .invokevirtual 74, 59, 0), (46, .iconst 0, 0, 0), (47, .istore 5, 0, 0), (49, .iload 5, 0, 0), (51, .aload 4, 0, 0), (53, .arraylength, 0, 0), (54, .if_icmp .ge 50, 0, 0), (57, .aload_n 1, 0, 0), (58, .invokevirtual 78, 61, 0), (61, .ifCond .eq 43, 0, 0), (64, .aload 4, 0, 0), (66, .iload 5, 0, 0), (68, .aload_n 0, 0, 0), (69, .getfield 9, 5, 0), (72, .aload_n 2, 0, 0), (73, .aload_n 1, 0, 0), (74, .getfield 82, 8, 3), (77, .aload_n 1, 0, 0), (78, .getfield 83, 8, 4), (81, .invokestatic 64, 46, 0), (84, .iaload, 0, 0), (85, .bipush 32, 0, 0), (87, .irem, 0, 0), (88, .iastore, 0, 0), (89, .aload_n 1, 0, 0), (90, .aload 4, 0, 0), (92, .iload 5, 0, 0), (94, .iaload, 0, 0), (95, .invokevirtual 84, 63, 0), (98, .iinc 5 1, 0, 0), (101, .goto (-52), 0, 0), (104, .aload 4, 0, 0), (106, .areturn, 0, 0)]
def mj_cd42 : List (Nat × Instr × Nat × Nat) := [(0, .aload_n 1, 0, 0), (1, .iconst 0, 0, 0), (2, .invokestatic 13, 44, 0), (5, .istore_n 2, 0, 0), (6, .aload_n 1, 0, 0), (7, .iconst 1, 0, 0), (8, .invokestatic 13, 44, 0), (11, .istore_n 3, 0, 0), (12, .aload_n 1, 0, 0), (13, .iconst 2, 0, 0), (14, .invokestatic 13, 44, 0), (17, .istore 4, 0, 0), (19, .iconst 0, 0, 0), (20, .istore 5, 0, 0), (22, .iload 5, 0, 0), (24, .iload_n 2, 0, 0), (25, .if_icmp .ge 69, 0, 0), (28, .iconst 0, 0, 0), (29, .istore 6, 0, 0), (31, .iload 6, 0, 0), (33, .iload_n 3, 0, 0), (34, .if_icmp .ge 54, 0, 0), (37, .iconst 0, 0, 0), (38, .istore 7, 0, 0), (40, .iload 7, 0, 0), (42, .iload 4, 0, 0), (44, .if_icmp .ge 38, 0, 0), (47, .aload_n 0, 0, 0), (48, .getfield 9, 5, 0), (51, .iload 5, 0, 0), (53, .iload 6, 0, 0), (55, .iload 7, 0, 0), (57, .invokestatic 17, 47, 0), (60, .iaload, 0, 0), (61, .bipush 32, 0, 0), (63, .if_icmp .ne 13, 0, 0), (66, .aload_n 1, 0, 0), (67, .iload 5, 0, 0), (69, .iload 6, 0, 0), (71, .iload 7, 0, 0), (73, .invokestatic 88, 43, 0), (76, .iinc 7 1, 0, 0), (79, .goto (-39), 0, 0), (82, .iinc 6 1, 0, 0), (85, .goto (-54), 0, 0), (88, .iinc 5 1, 0, 0), (91, .goto (-69), 0, 0), (94, .return_, 0, 0)]
def mj_cd43 : List (Nat × Instr × Nat × Nat) := [(0, .getstatic 21, 6, 0), (3, .iload_n 1, 0, 0), (4, .iaload, 0, 0), (5, .iconst 1, 0, 0), (6, .iadd, 0, 0), (7, .getstatic 21, 6, 0), (10, .iload_n 2, 0, 0), (11, .iaload, 0, 0), (12, .iconst 1, 0, 0), (13, .iadd, 0, 0), (14, .imul, 0, 0), (15, .getstatic 21, 6, 0), (18, .iload_n 3, 0, 0), (19, .iaload, 0, 0), (20, .iconst 1, 0, 0), (21, .iadd, 0, 0), (22, .imul, 0, 0), (23, .istore 4, 0, 0), (25, .iload 4, 0, 0), (27, .aload_n 0, 0, 0), (28, .getfield 92, 9, 6), (31, .if_icmp .ge 4, 0, 0), (34, .return_, 0, 0), (35, .aload_n 0, 0, 0), (36, .getfield 28, 9, 1), (39, .getstatic 34, 5, 0), (42, .iload_n 1, 0, 0), (43, .iaload, 0, 0), (44, .getstatic 34, 5, 0), (47, .iload_n 2, 0, 0), (48, .iaload, 0, 0), (49, .getstatic 34, 5, 0), (52, .iload_n 3, 0, 0), (53, .iaload, 0, 0), (54, .invokestatic 37, 48, 0), (57, .iadd, 0, 0), (58, .istore 5, 0, 0), (60, .iload 5, 0, 0), (62, .getstatic 21, 6, 0), (65, .iload_n 1, 0, 0), (66, .iaload, 0, 0), (67, .getstatic 21, 6, 0), (70, .iload_n 2, 0, 0), (71, .iaload, 0, 0), (72, .getstatic 21, 6, 0), (75, .iload_n 3, 0, 0), (76, .iaload, 0, 0), (77, .invokestatic 37, 48, 0), (80, .isub, 0, 0), (81, .istore 6, 0, 0), (83, .iload 6, 0, 0), (85, .aload_n 0, 0, 0), (86, .getfield 95, 9, 4), (89, .if_icmp .lt 21, 0, 0), (92, .iload 6, 0, 0), (94, .aload_n 0, 0, 0), (95, .getfield 95, 9, 4), (98, .if_icmp .ne 16, 0, 0), (101, .iload 5, 0, 0), (103, .aload_n 0, 0, 0), (104, .getfield 98, 9, 5), (107, .if_icmp .ge 7, 0, 0), (110, .iconst 1, 0, 0), (111, .goto 4, 0, 0), (114, .iconst 0, 0, 0), (115, .istore 7, 0, 0), (117, .iload 4, 0, 0), (119, .aload_n 0, 0, 0), (120, .getfield 92, 9, 6), (123, .if_icmp .gt 8, 0, 0), (126, .iload 7, 0, 0), (128, .ifCond .eq 21, 0, 0), (131, .aload_n 0, 0, 0), (132, .iload 4, 0, 0), (134, .putfield 92, 9, 6), (137, .aload_n 0, 0, 0), (138, .iload 6, 0, 0), (140, .putfield 95, 9, 4), (143, .aload_n 0, 0, 0), (144, .iload 5, 0, 0), (146, .putfield 98, 9, 5), (149, .return_, 0, 0)]
def mj_cd44 : List (Nat × Instr × Nat × Nat) := [(0, .getstatic 56, 4, 0), (3, .aload_n 0, 0, 0), (4, .getfield 61, 9, 2), (7, .iload_n 1, 0, 0), (8, .invokestatic 101, 108, 0), (11, .aload_n 0, 0, 0), (12, .getfield 28, 9, 1), (15, .iload_n 1, 0, 0), (16, .invokestatic 101, 108, 0), (19, .isub, 0, 0), (20, .iconst 1, 0, 0), (21, .iadd, 0, 0), (22, .iaload, 0, 0), (23, .ireturn, 0, 0)]
def mj_cd45 : List (Nat × Instr × Nat × Nat) := [(0, .iload_n 2, 0, 0), (1, .iload_n 3, 0, 0), (2, .invokestatic 101, 108, 0), (5, .aload_n 0, 0, 0), (6, .getfield 28, 9, 1), (9, .iload_n 3, 0, 0), (10, .invokestatic 101, 108, 0), (13, .isub, 0, 0), (14, .istore 4, 0, 0), (16, .getstatic 56, 4, 0), (19, .iload 4, 0, 0), (21, .iaload, 0, 0), (22, .iload_n 2, 0, 0), (23, .iload_n 3, 0, 0), (24, .invokestatic 101, 108, 0), (27, .iadd, 0, 0), (28, .iload_n 1, 0, 0), (29, .iload_n 3, 0, 0), (30, .invokestatic 101, 108, 0), (33, .isub, 0, 0), (34, .ireturn, 0, 0)]
def mj_cd46 : List (Nat × Instr × Nat × Nat) := [(0, .aload_n 0, 0, 0), (1, .iload_n 1, 0, 0), (2, .iload_n 2, 0, 0), (3, .iconst 0, 0, 0), (4, .invokestatic 106, 45, 0), (7, .aload_n 0, 0, 0), (8, .iload_n 1, 0, 0), (9, .iload_n 2, 0, 0), (10, .iconst 1, 0, 0), (11, .invokestatic 106, 45, 0), (14, .aload_n 0, 0, 0), (15, .iload_n 1, 0, 0), (16, .iload_n 2, 0, 0), (17, .iconst 2, 0, 0), (18, .invokestatic 106, 45, 0), (21, .invokestatic 17, 47, 0), (24, .ireturn, 0, 0)]
def mj_cd47 : List (Nat × Instr × Nat × Nat) := [(0, .iload_n 0, 0, 0), (1, .bipush 21, 0, 0), (3, .imul, 0, 0), (4, .iload_n 1, 0, 0), (5, .iadd, 0, 0), (6, .bipush 21, 0, 0), (8, .imul, 0, 0), (9, .iload_n 2, 0, 0), (10, .iadd, 0, 0), (11, .ireturn, 0, 0)]
def mj_cd48 : List (Nat × Instr × Nat × Nat) := [(0, .iload_n 0, 0, 0), (1, .getstatic 110, 2, 0), (4, .iconst 0, 0, 0), (5, .iaload, 0, 0), (6, .imul, 0, 0), (7, .iload_n 1, 0, 0), (8, .getstatic 110, 2, 0), (11, .iconst 1, 0, 0), (12, .iaload, 0, 0), (13, .imul, 0, 0), (14, .iadd, 0, 0), (15, .iload_n 2, 0, 0), (16, .getstatic 110, 2, 0), (19, .iconst 2, 0, 0), (20, .iaload, 0, 0), (21, .imul, 0, 0), (22, .iadd, 0, 0), (23, .ireturn, 0, 0)]
def mj_cd49 : List (Nat × Instr × Nat × Nat) := [(0, .aload_n 0, 0, 0), (1, .invokespecial 1, 0, 1), (4, .aload_n 0, 0, 0), (5, .aload_n 1, 0, 0), (6, .putfield 7, 6, 0), (9, .return_, 0, 0)]
def mj_cd50 : List (Nat × Instr × Nat × Nat) := [(0, .aload_n 0, 0, 0), (1, .getfield 13, 6, 1), (4, .iload_n 1, 0, 0), (5, .ishr, 0, 0), (6, .iconst 1, 0, 0), (7, .iand, 0, 0), (8, .iconst 1, 0, 0), (9, .if_icmp .ne 7, 0, 0), (12, .iconst 1, 0, 0), (13, .goto 4, 0, 0), (16, .iconst 0, 0, 0), (17, .ireturn, 0, 0)]
def mj_cd51 : List (Nat × Instr × Nat × Nat) := [(0, .aload_n 0, 0, 0), (1, .dup, 0, 0), (2, .getfield 13, 6, 1), (5, .iconst 1, 0, 0), (6, .iload_n 1, 0, 0), (7, .ishl, 0, 0), (8, .ior, 0, 0), (9, .putfield 13, 6, 1), (12, .return_, 0, 0)]
def mj_cd52 : List (Nat × Instr × Nat × Nat) := [(0, .aload_n 0, 0, 0), (1, .invokespecial 1, 0, 1), (4, .aload_n 0, 0, 0), (5, .sipush 500, 0, 0), (8, .newarray .int, 12, 0), (10, .putfield 9, 7, 0), (13, .return_, 0, 0)]
def mj_cd53 : List (Nat × Instr × Nat × Nat) := [(0, .iload_n 1, 0, 0), (1, .invokestatic 13, 57, 0), (4, .ifCond .eq 13, 0, 0), (7, .aload_n 0, 0, 0), (8, .getfield 17, 7, 1), (11, .sipush 500, 0, 0), (14, .if_icmp .ne 5, 0, 0), (17, .iconst 0, 0, 0), (18, .ireturn, 0, 0), (19, .aload_n 0, 0, 0), (20, .getfield 9, 7, 0), (23, .aload_n 0, 0, 0), (24, .getfield 17, 7, 1), (27, .iload_n 1, 0, 0), (28, .iastore, 0, 0), (29, .aload_n 0, 0, 0), (30, .dup, 0, 0), (31, .getfield 17, 7, 1), (34, .iconst 1, 0, 0), (35, .iadd, 0, 0), (36, .putfield 17, 7, 1), (39, .iconst 1, 0, 0), (40, .ireturn, 0, 0)]
def mj_cd54 : List (Nat × Instr × Nat × Nat) := [(0, .iload_n 1, 0, 0), (1, .ifCond .lt 18, 0, 0), (4, .iload_n 1, 0, 0), (5, .aload_n 0, 0, 0), (6, .getfield 17, 7, 1), (9, .if_icmp .ge 10, 0, 0), (12, .iload_n 2, 0, 0), (13, .invokestatic 13, 57, 0), (16, .ifCond .ne 5, 0, 0), (19, .iconst 0, 0, 0), (20, .ireturn, 0, 0), (21, .aload_n 0, 0, 0), (22, .getfield 9, 7, 0), (25, .iload_n 1, 0, 0), (26, .iload_n 2, 0, 0), (27, .iastore, 0, 0), (28, .iconst 1, 0, 0), (29, .ireturn, 0, 0)]
def mj_cd55 : List (Nat × Instr × Nat × Nat) := [(0, .iload_n 1, 0, 0), (1, .ifCond .lt 11, 0, 0), (4, .iload_n 1, 0, 0), (5, .aload_n 0, 0, 0), (6, .getfield 17, 7, 1), (9, .if_icmp .le 5, 0, 0), (12, .iconst 0, 0, 0), (13, .ireturn, 0, 0), (14, .aload_n 0, 0, 0), (15, .iload_n 1, 0, 0), (16, .putfield 17, 7, 1), (19, .iconst 1, 0, 0), (20, .ireturn, 0, 0)]
def mj_cd56 : List (Nat × Instr × Nat × Nat) := [(0, .aload_n 0, 0, 0), (1, .aload_n 1, 0, 0), (2, .arraylength, 0, 0), (3, .sipush 500, 0, 0), (6, .invokestatic 21, 0, 2), (9, .putfield 17, 7, 1), (12, .aload_n 1, 0, 0), (13, .iconst 0, 0, 0), (14, .aload_n 0, 0, 0), (15, .getfield 9, 7, 0), (18, .iconst 0, 0, 0), (19, .aload_n 0, 0, 0), (20, .getfield 17, 7, 1), (23, .invokestatic 27, 0, 5), (26, .return_, 0, 0)]
def mj_cd57 : List (Nat × Instr × Nat × Nat) := [(0, .iload_n 0, 0, 0), (1, .ifCond .lt 13, 0, 0), (4, .iload_n 0, 0, 0), (5, .bipush 31, 0, 0), (7, .if_icmp .gt 7, 0, 0), (10, .iconst 1, 0, 0), (11, .goto 4, 0, 0), (14, .iconst 0, 0, 0), (15, .ireturn, 0, 0)]
def mj_cd58 : List (Nat × Instr × Nat × Nat) := [(0, .aload_n 0, 0, 0), (1, .invokespecial 3, 0, 1), (4, .aload_n 0, 0, 0), (5, .bipush 16, 0, 0), (7, .newarray .int, 12, 0), (9, .putfield 11, 8, 0), (12, .aload_n 0, 0, 0), (13, .bipush 16, 0, 0), (15, .newarray .int, 12, 0), (17, .putfield 15, 8, 1), (20, .return_, 0, 0)]
def mj_cd59 : List (Nat × Instr × Nat × Nat) := [(0, .aload_n 0, 0, 0), (1, .iconst 0, 0, 0), (2, .putfield 18, 8, 2), (5, .aload_n 0, 0, 0), (6, .iload_n 1, 0, 0), (7, .iload_n 2, 0, 0), (8, .invokevirtual 22, 60, 0), (11, .return_, 0, 0)]
def mj_cd60 : List (Nat × Instr × Nat × Nat) := [(0, .aload_n 0, 0, 0), (1, .getfield 18, 8, 2), (4, .bipush 16, 0, 0), (6, .if_icmp .ge 33, 0, 0), (9, .aload_n 0, 0, 0), (10, .getfield 11, 8, 0), (13, .aload_n 0, 0, 0), (14, .getfield 18, 8, 2), (17, .iload_n 1, 0, 0), (18, .iastore, 0, 0), (19, .aload_n 0, 0, 0), (20, .getfield 15, 8, 1), (23, .aload_n 0, 0, 0), (24, .getfield 18, 8, 2), (27, .iload_n 2, 0, 0), (28, .iastore, 0, 0), (29, .aload_n 0, 0, 0), (30, .dup, 0, 0), (31, .getfield 18, 8, 2), (34, .iconst 1, 0, 0), (35, .iadd, 0, 0), (36, .putfield 18, 8, 2), (39, .return_, 0, 0)]
def mj_cd61 : List (Nat × Instr × Nat × Nat) := [(0, .aload_n 0, 0, 0), (1, .getfield 18, 8, 2), (4, .ifCond .ne 5, 0, 0), (7, .iconst 0, 0, 0), (8, .ireturn, 0, 0), (9, .aload_n 0, 0, 0), (10, .dup, 0, 0), (11, .getfield 18, 8, 2), (14, .iconst 1, 0, 0), (15, .isub, 0, 0), (16, .putfield 18, 8, 2), (19, .aload_n 0, 0, 0), (20, .aload_n 0, 0, 0), (21, .getfield 11, 8, 0), (24, .aload_n 0, 0, 0), (25, .getfield 18, 8, 2), (28, .iaload, 0, 0), (29, .putfield 26, 8, 3), (32, .aload_n 0, 0, 0), (33, .aload_n 0, 0, 0), (34, .getfield 15, 8, 1), (37, .aload_n 0, 0, 0), (38, .getfield 18, 8, 2), (41, .iaload, 0, 0), (42, .putfield 29, 8, 4), (45, .iconst 1, 0, 0), (46, .ireturn, 0, 0)]
def mj_cd62 : List (Nat × Instr × Nat × Nat) := [(0, .iload_n 1, 0, 0), (1, .invokestatic 32, 64, 0), (4, .istore_n 2, 0, 0), (5, .iload_n 2, 0, 0), (6, .iconst 3, 0, 0), (7, .if_icmp .ge 31, 0, 0), (10, .iload_n 1, 0, 0), (11, .invokestatic 36, 65, 0), (14, .aload_n 0, 0, 0), (15, .getfield 29, 8, 4), (18, .iload_n 2, 0, 0), (19, .invokestatic 39, 108, 0), (22, .aload_n 0, 0, 0), (23, .getfield 26, 8, 3), (26, .iload_n 2, 0, 0), (27, .invokestatic 39, 108, 0), (30, .isub, 0, 0), (31, .if_icmp .gt 7, 0, 0), (34, .iconst 1, 0, 0), (35, .goto 4, 0, 0), (38, .iconst 0, 0, 0), (39, .ireturn, 0, 0)]
def mj_cd63 : List (Nat × Instr × Nat × Nat) := [(0, .iload_n 1, 0, 0), (1, .iconst 2, 0, 0), (2, .if_icmp .lt 11, 0, 0), (5, .aload_n 0, 0, 0), (6, .iload_n 1, 0, 0), (7, .invokevirtual 43, 62, 0), (10, .ifCond .ne 4, 0, 0), (13, .return_, 0, 0), (14, .iload_n 1, 0, 0), (15, .invokestatic 32, 64, 0), (18, .istore_n 2, 0, 0), (19, .aload_n 0, 0, 0), (20, .getfield 26, 8, 3), (23, .iload_n 1, 0, 0), (24, .invokestatic 36, 65, 0), (27, .getstatic 47, 2, 0), (30, .iload_n 2, 0, 0), (31, .iaload, 0, 0), (32, .imul, 0, 0), (33, .iadd, 0, 0), (34, .istore_n 3, 0, 0), (35, .aload_n 0, 0, 0), (36, .getfield 29, 8, 4), (39, .iload_n 2, 0, 0), (40, .invokestatic 39, 108, 0), (43, .iload_n 3, 0, 0), (44, .iload_n 2, 0, 0), (45, .invokestatic 39, 108, 0), (48, .isub, 0, 0), (49, .iconst 1, 0, 0), (50, .iadd, 0, 0), (51, .istore 4, 0, 0), (53, .aload_n 0, 0, 0), (54, .iload_n 3, 0, 0), (55, .aload_n 0, 0, 0), (56, .getfield 29, 8, 4), (59, .invokevirtual 22, 60, 0), (62, .aload_n 0, 0, 0), (63, .aload_n 0, 0, 0), (64, .getfield 26, 8, 3), (67, .aload_n 0, 0, 0), (68, .getfield 29, 8, 4), (71, .iload 4, 0, 0), (73, .getstatic 47, 2, 0), (76, .iload_n 2, 0, 0), (77, .iaload, 0, 0), (78, .imul, 0, 0), (79, .isub, 0, 0), (80, .invokevirtual 22, 60, 0), (83, .return_, 0, 0)]
def mj_cd64 : List (Nat × Instr × Nat × Nat) := [(0, .iload_n 0, 0, 0), (1, .iconst 2, 0, 0), (2, .isub, 0, 0), (3, .bipush 8, 0, 0), (5, .idiv, 0, 0), (6, .ireturn, 0, 0)]
def mj_cd65 : List (Nat × Instr × Nat × Nat) := [(0, .iload_n 0, 0, 0), (1, .iconst 2, 0, 0), (2, .isub, 0, 0), (3, .bipush 8, 0, 0), (5, .irem, 0, 0), (6, .iconst 1, 0, 0), (7, .iadd, 0, 0), (8, .ireturn, 0, 0)]
def mj_cd66 : List (Nat × Instr × Nat × Nat) := [(0, .aload_n 0, 0, 0), (1, .invokespecial 1, 0, 1), (4, .aload_n 0, 0, 0), (5, .aload_n 1, 0, 0), (6, .putfield 7, 9, 0), (9, .aload_n 0, 0, 0), (10, .iload_n 2, 0, 0), (11, .putfield 13, 9, 1), (14, .aload_n 0, 0, 0), (15, .iload_n 3, 0, 0), (16, .putfield 17, 9, 2), (19, .return_, 0, 0)]
def mj_cd67 : List (Nat × Instr × Nat × Nat) := [(0, .aload_n 0, 0, 0), (1, .invokespecial 1, 0, 1), (4, .aload_n 0, 0, 0), (5, .bipush 6, 0, 0), (7, .anewarray 9, 17, 0), (10, .putfield 11, 10, 0), (13, .aload_n 0, 0, 0), (14, .bipush 20, 0, 0), (16, .anewarray 15, 15, 0), (19, .putfield 17, 10, 1), (22, .aload_n 0, 0, 0), (23, .bipush 10, 0, 0), (25, .anewarray 21, 18, 0), (28, .putfield 23, 10, 2), (31, .aload_n 0, 0, 0), (32, .new 27, 0, 0), (35, .dup, 0, 0), (36, .invokespecial 29, 0, 0), (39, .putfield 30, 10, 3), (42, .aload_n 0, 0, 0), (43, .new 34, 8, 0), (46, .dup, 0, 0), (47, .invokespecial 36, 58, 0), (50, .putfield 37, 10, 4), (53, .aload_n 0, 0, 0), (54, .new 41, 7, 0), (57, .dup, 0, 0), (58, .invokespecial 43, 52, 0), (61, .putfield 44, 10, 5), (64, .aload_n 0, 0, 0), (65, .new 48, 1, 0), (68, .dup, 0, 0), (69, .invokespecial 50, 11, 0), (72, .putfield 51, 10, 6), (75, .aload_n 0, 0, 0), (76, .new 55, 2, 0), (79, .dup, 0, 0), (80, .invokespecial 57, 19, 0), (83, .putfield 58, 10, 7), (86, .return_, 0, 0)]
def mj_cd68 : List (Nat × Instr × Nat × Nat) := [(0, .iload_n 1, 0, 0), (1, .ifCond .lt 22, 0, 0), (4, .iload_n 1, 0, 0), (5, .sipush 500, 0, 0), (8, .if_icmp .gt 15, 0, 0), (11, .aload_n 0, 0, 0), (12, .getfield 62, 10, 9), (15, .iload_n 1, 0, 0), (16, .iadd, 0, 0), (17, .sipush 1000, 0, 0), (20, .if_icmp .le 5, 0, 0), (23, .iconst (-1), 0, 0), (24, .ireturn, 0, 0), (25, .aload_n 0, 0, 0), (26, .dup, 0, 0), (27, .getfield 62, 10, 9), (30, .iload_n 1, 0, 0), (31, .iadd, 0, 0), (32, .putfield 62, 10, 9), (35, .aload_n 0, 0, 0), (36, .getfield 62, 10, 9), (39, .ireturn, 0, 0)]
def mj_cd69 : List (Nat × Instr × Nat × Nat) := [(0, .aload_n 0, 0, 0), (1, .getfield 66, 10, 10), (4, .bipush 6, 0, 0), (6, .if_icmp .ne 5, 0, 0), (9, .iconst (-1), 0, 0), (10, .ireturn, 0, 0), (11, .bipush 8, 0, 0), (13, .newarray .int, 12, 0), (15, .dup, 0, 0), (16, .iconst 0, 0, 0), (17, .iload_n 1, 0, 0), (18, .iastore, 0, 0), (19, .dup, 0, 0), (20, .iconst 1, 0, 0), (21, .iload_n 2, 0, 0), (22, .iastore, 0, 0), (23, .dup, 0, 0), (24, .iconst 2, 0, 0), (25, .iload_n 3, 0, 0), (26, .iastore, 0, 0), (27, .dup, 0, 0), (28, .iconst 3, 0, 0), (29, .iload 4, 0, 0), (31, .iastore, 0, 0), (32, .dup, 0, 0), (33, .iconst 4, 0, 0), (34, .iload 5, 0, 0), (36, .iastore, 0, 0), (37, .dup, 0, 0), (38, .iconst 5, 0, 0), (39, .iload 6, 0, 0), (41, .iastore, 0, 0), (42, .dup, 0, 0), (43, .bipush 6, 0, 0), (45, .iload 7, 0, 0), (47, .iastore, 0, 0), (48, .dup, 0, 0), (49, .bipush 7, 0, 0), (51, .iload 8, 0, 0), (53, .iastore, 0, 0), (54, .astore 9, 0, 0), (56, .iconst 0, 0, 0), (57, .istore 10, 0, 0), (59, .iload 10, 0, 0), (61, .bipush 8, 0, 0), (63, .if_icmp .ge 39, 0, 0), (66, .aload 9, 0, 0), (68, .iload 10, 0, 0), (70, .iaload, 0, 0), (71, .getstatic 69, 0, 0), (74, .iload 10, 0, 0), (76, .iaload, 0, 0), (77, .if_icmp .lt 17, 0, 0), (80, .aload 9, 0, 0), (82, .iload 10, 0, 0), (84, .iaload, 0, 0), (85, .getstatic 73, 1, 0), (88, .iload 10, 0, 0), (90, .iaload, 0, 0), (91, .if_icmp .le 5, 0, 0), (94, .iconst (-1), 0, 0), (95, .ireturn, 0, 0), (96, .iinc 10 1, 0, 0), (99, .goto (-40), 0, 0), (102, .aload_n 0, 0, 0), (103, .getfield 11, 10, 0), (106, .aload_n 0, 0, 0), (107, .getfield 66, 10, 10), (110, .new 9, 6, 0), (113, .dup, 0, 0), (114, .aload 9, 0, 0), (116, .invokespecial 76, 49, 0), (119, .aastore, 0, 0), (120, .aload_n 0, 0, 0), (121, .dup, 0, 0), (122, .getfield 66, 10, 10), (125, .iconst 1, 0, 0), (126, .iadd, 0, 0), (127, .putfield 66, 10, 10), (130, .aload_n 0, 0, 0), (131, .getfield 66, 10, 10), (134, .iconst 1, 0, 0), (135, .isub, 0, 0), (136, .ireturn, 0, 0)]
def mj_cd70 : List (Nat × Instr × Nat × Nat) := [(0, .aload_n 0, 0, 0), (1, .iload_n 1, 0, 0), (2, .invokevirtual 79, 99, 0), (5, .astore_n 3, 0, 0), (6, .aload_n 0, 0, 0), (7, .iload_n 2, 0, 0), (8, .invokevirtual 79, 99, 0), (11, .astore 4, 0, 0), (13, .aload_n 3, 0, 0), (14, .ifnull 16, 0, 0), (17, .aload 4, 0, 0), (19, .ifnull 11, 0, 0), (22, .aload_n 3, 0, 0), (23, .iload_n 2, 0, 0), (24, .invokevirtual 83, 50, 0), (27, .ifCond .eq 5, 0, 0), (30, .iconst 0, 0, 0), (31, .ireturn, 0, 0), (32, .aload_n 3, 0, 0), (33, .iload_n 2, 0, 0), (34, .invokevirtual 87, 51, 0), (37, .aload 4, 0, 0), (39, .iload_n 1, 0, 0), (40, .invokevirtual 87, 51, 0), (43, .iconst 1, 0, 0), (44, .ireturn, 0, 0)]
def mj_cd71 : List (Nat × Instr × Nat × Nat) := [(0, .aload_n 0, 0, 0), (1, .iload_n 1, 0, 0), (2, .invokevirtual 79, 99, 0), (5, .astore 4, 0, 0), (7, .aload_n 0, 0, 0), (8, .iload_n 2, 0, 0), (9, .invokevirtual 79, 99, 0), (12, .astore 5, 0, 0), (14, .aload 4, 0, 0), (16, .ifnull 17, 0, 0), (19, .aload 5, 0, 0), (21, .ifnull 12, 0, 0), (24, .aload 4, 0, 0), (26, .iload_n 2, 0, 0), (27, .invokevirtual 83, 50, 0), (30, .ifCond .eq 5, 0, 0), (33, .iconst (-1), 0, 0), (34, .ireturn, 0, 0), (35, .iload_n 3, 0, 0), (36, .iconst 2, 0, 0), (37, .if_icmp .lt 18, 0, 0), (40, .iload_n 3, 0, 0), (41, .bipush 6, 0, 0), (43, .if_icmp .gt 12, 0, 0), (46, .aload_n 0, 0, 0), (47, .getfield 91, 10, 11), (50, .bipush 20, 0, 0), (52, .if_icmp .ne 5, 0, 0), (55, .iconst (-1), 0, 0), (56, .ireturn, 0, 0), (57, .new 15, 3, 0), (60, .dup, 0, 0), (61, .iload_n 1, 0, 0), (62, .iload_n 2, 0, 0), (63, .invokespecial 94, 29, 0), (66, .astore 6, 0, 0), (68, .aload 6, 0, 0), (70, .aload 4, 0, 0), (72, .aload 5, 0, 0), (74, .iload_n 3, 0, 0), (75, .invokevirtual 97, 30, 0), (78, .aload_n 0, 0, 0), (79, .getfield 17, 10, 1), (82, .aload_n 0, 0, 0), (83, .getfield 91, 10, 11), (86, .aload 6, 0, 0), (88, .aastore, 0, 0), (89, .aload_n 0, 0, 0), (90, .dup, 0, 0), (91, .getfield 91, 10, 11), (94, .iconst 1, 0, 0), (95, .iadd, 0, 0), (96, .putfield 91, 10, 11), (99, .aload_n 0, 0, 0), (100, .getfield 91, 10, 11), (103, .iconst 1, 0, 0), (104, .isub, 0, 0), (105, .ireturn, 0, 0)]
def mj_cd72 : List (Nat × Instr × Nat × Nat) := []
def mj_cd73 : List (Nat × Instr × Nat × Nat) := [(0, .iload_n 1, 0, 0), (1, .invokestatic 111, 106, 0), (4, .ifCond .eq 17, 0, 0), (7, .iload_n 2, 0, 0), (8, .invokestatic 111, 106, 0), (11, .ifCond .eq 10, 0, 0), (14, .iload_n 3, 0, 0), (15, .invokestatic 111, 106, 0), (18, .ifCond .ne 5, 0, 0), (21, .iconst (-1), 0, 0), (22, .ireturn, 0, 0), (23, .getstatic 114, 2, 0), (26, .iconst 0, 0, 0), (27, .iaload, 0, 0), (28, .iload_n 1, 0, 0), (29, .iconst 1, 0, 0), (30, .isub, 0, 0), (31, .imul, 0, 0), (32, .getstatic 114, 2, 0), (35, .iconst 1, 0, 0), (36, .iaload, 0, 0), (37, .iload_n 2, 0, 0), (38, .iconst 1, 0, 0), (39, .isub, 0, 0), (40, .imul, 0, 0), (41, .iadd, 0, 0), (42, .getstatic 114, 2, 0), (45, .iconst 2, 0, 0), (46, .iaload, 0, 0), (47, .iload_n 3, 0, 0), (48, .iconst 1, 0, 0), (49, .isub, 0, 0), (50, .imul, 0, 0), (51, .iadd, 0, 0), (52, .ireturn, 0, 0)]
def mj_cd74 : List (Nat × Instr × Nat × Nat) := [(0, .aload_n 0, 0, 0), (1, .iload_n 1, 0, 0), (2, .iload_n 2, 0, 0), (3, .invokevirtual 117, 103, 0), (6, .ifCond .eq 13, 0, 0), (9, .aload_n 0, 0, 0), (10, .getfield 30, 10, 3), (13, .getfield 121, 0, 7), (16, .goto 4, 0, 0), (19, .iconst (-1), 0, 0), (20, .ireturn, 0, 0)]
def mj_cd75 : List (Nat × Instr × Nat × Nat) := [(0, .aload_n 0, 0, 0), (1, .iload_n 1, 0, 0), (2, .invokevirtual 101, 100, 0), (5, .astore 5, 0, 0), (7, .aload 5, 0, 0), (9, .ifnull 28, 0, 0), (12, .iload_n 3, 0, 0), (13, .ifCond .lt 24, 0, 0), (16, .iload_n 3, 0, 0), (17, .aload 5, 0, 0), (19, .getfield 108, 3, 2), (22, .bipush 8, 0, 0), (24, .iaload, 0, 0), (25, .if_icmp .ge 12, 0, 0), (28, .aload_n 0, 0, 0), (29, .iload_n 1, 0, 0), (30, .iload_n 2, 0, 0), (31, .invokevirtual 117, 103, 0), (34, .ifCond .ne 6, 0, 0), (37, .ldc 124, 4293967296, 0), (39, .ireturn, 0, 0), (40, .iload 4, 0, 0), (42, .tableswitch 70 0 3 #[30, 40, 50, 60], 0, 0), (72, .aload_n 0, 0, 0), (73, .getfield 30, 10, 3), (76, .getfield 125, 0, 0), (79, .iload_n 3, 0, 0), (80, .iaload, 0, 0), (81, .ireturn, 0, 0), (82, .aload_n 0, 0, 0), (83, .getfield 30, 10, 3), (86, .getfield 128, 0, 1), (89, .iload_n 3, 0, 0), (90, .iaload, 0, 0), (91, .ireturn, 0, 0), (92, .aload_n 0, 0, 0), (93, .getfield 30, 10, 3), (96, .getfield 131, 0, 2), (99, .iload_n 3, 0, 0), (100, .iaload, 0, 0), (101, .ireturn, 0, 0), (102, .aload_n 0, 0, 0), (103, .getfield 30, 10, 3), (106, .getfield 134, 0, 3), (109, .iload_n 3, 0, 0), (110, .iaload, 0, 0), (111, .ireturn, 0, 0), (112, .ldc 124, 4293967296, 0), (114, .ireturn, 0, 0)]
def mj_cd76 : List (Nat × Instr × Nat × Nat) := [(0, .aload_n 0, 0, 0), (1, .iload_n 1, 0, 0), (2, .iload_n 2, 0, 0), (3, .invokevirtual 117, 103, 0), (6, .ifCond .eq 13, 0, 0), (9, .aload_n 0, 0, 0), (10, .getfield 30, 10, 3), (13, .getfield 137, 0, 8), (16, .goto 4, 0, 0), (19, .iconst (-1), 0, 0), (20, .ireturn, 0, 0)]
def mj_cd77 : List (Nat × Instr × Nat × Nat) := [(0, .aload_n 0, 0, 0), (1, .iload_n 1, 0, 0), (2, .iload_n 2, 0, 0), (3, .invokevirtual 117, 103, 0), (6, .ifCond .eq 13, 0, 0), (9, .aload_n 0, 0, 0), (10, .getfield 30, 10, 3), (13, .getfield 140, 0, 6), (16, .goto 4, 0, 0), (19, .iconst (-1), 0, 0), (20, .ireturn, 0, 0)]
def mj_cd78 : List (Nat × Instr × Nat × Nat) := [(0, .aload_n 0, 0, 0), (1, .iload_n 1, 0, 0), (2, .invokevirtual 101, 100, 0), (5, .astore 4, 0, 0), (7, .aload 4, 0, 0), (9, .ifnull 26, 0, 0), (12, .iload_n 2, 0, 0), (13, .invokestatic 143, 107, 0), (16, .ifCond .eq 19, 0, 0), (19, .iload_n 3, 0, 0), (20, .invokestatic 143, 107, 0), (23, .ifCond .eq 12, 0, 0), (26, .aload_n 0, 0, 0), (27, .getfield 146, 10, 12), (30, .bipush 10, 0, 0), (32, .if_icmp .ne 5, 0, 0), (35, .iconst (-1), 0, 0), (36, .ireturn, 0, 0), (37, .iconst 0, 0, 0), (38, .istore 5, 0, 0), (40, .iload 5, 0, 0), (42, .iconst 3, 0, 0), (43, .if_icmp .ge 38, 0, 0), (46, .iload_n 3, 0, 0), (47, .iload 5, 0, 0), (49, .invokestatic 149, 108, 0), (52, .iload_n 2, 0, 0), (53, .iload 5, 0, 0), (55, .invokestatic 149, 108, 0), (58, .isub, 0, 0), (59, .istore 6, 0, 0), (61, .iload 6, 0, 0), (63, .ifCond .lt 10, 0, 0), (66, .iload 6, 0, 0), (68, .bipush 6, 0, 0), (70, .if_icmp .lt 5, 0, 0), (73, .iconst (-1), 0, 0), (74, .ireturn, 0, 0), (75, .iinc 5 1, 0, 0), (78, .goto (-38), 0, 0), (81, .aload_n 0, 0, 0), (82, .getfield 23, 10, 2), (85, .aload_n 0, 0, 0), (86, .getfield 146, 10, 12), (89, .new 21, 9, 0), (92, .dup, 0, 0), (93, .aload 4, 0, 0), (95, .iload_n 2, 0, 0), (96, .iload_n 3, 0, 0), (97, .invokespecial 153, 66, 0), (100, .aastore, 0, 0), (101, .aload_n 0, 0, 0), (102, .dup, 0, 0), (103, .getfield 146, 10, 12), (106, .iconst 1, 0, 0), (107, .iadd, 0, 0), (108, .putfield 146, 10, 12), (111, .aload_n 0, 0, 0), (112, .getfield 146, 10, 12), (115, .iconst 1, 0, 0), (116, .isub, 0, 0), (117, .ireturn, 0, 0)]
def mj_cd79 : List (Nat × Instr × Nat × Nat) := [(0, .aload_n 0, 0, 0), (1, .iload_n 1, 0, 0), (2, .invokevirtual 156, 101, 0), (5, .astore_n 2, 0, 0), (6, .aload_n 2, 0, 0), (7, .ifnonnull 5, 0, 0), (10, .iconst (-1), 0, 0), (11, .ireturn, 0, 0), (12, .iconst 0, 0, 0), (13, .istore_n 3, 0, 0), (14, .aload_n 2, 0, 0), (15, .getfield 160, 9, 1), (18, .istore 4, 0, 0), (20, .iload 4, 0, 0), (22, .aload_n 2, 0, 0), (23, .getfield 163, 9, 2), (26, .if_icmp .gt 44, 0, 0), (29, .aload_n 2, 0, 0), (30, .getfield 160, 9, 1), (33, .aload_n 2, 0, 0), (34, .getfield 163, 9, 2), (37, .iload 4, 0, 0), (39, .invokestatic 166, 109, 0), (42, .ifCond .eq 22, 0, 0), (45, .aload_n 0, 0, 0), (46, .getfield 30, 10, 3), (49, .aload_n 2, 0, 0), (50, .getfield 170, 9, 0), (53, .iload 4, 0, 0), (55, .invokevirtual 174, 1, 0), (58, .ifCond .eq 6, 0, 0), (61, .iinc 3 1, 0, 0), (64, .iinc 4 1, 0, 0), (67, .goto (-47), 0, 0), (70, .iload_n 3, 0, 0), (71, .ireturn, 0, 0)]
def mj_cd80 : List (Nat × Instr × Nat × Nat) := [(0, .aload_n 0, 0, 0), (1, .iload_n 1, 0, 0), (2, .invokevirtual 156, 101, 0), (5, .astore_n 2, 0, 0), (6, .aload_n 2, 0, 0), (7, .ifnonnull 7, 0, 0), (10, .iconst (-1), 0, 0), (11, .goto 13, 0, 0), (14, .aload_n 0, 0, 0), (15, .aload_n 2, 0, 0), (16, .invokevirtual 178, 104, 0), (19, .arraylength, 0, 0), (20, .iconst 1, 0, 0), (21, .iadd, 0, 0), (22, .iconst 2, 0, 0), (23, .idiv, 0, 0), (24, .ireturn, 0, 0)]
def mj_cd81 : List (Nat × Instr × Nat × Nat) := [(0, .aload_n 0, 0, 0), (1, .iload_n 1, 0, 0), (2, .invokevirtual 156, 101, 0), (5, .astore_n 3, 0, 0), (6, .aload_n 3, 0, 0), (7, .ifnonnull 5, 0, 0), (10, .iconst (-1), 0, 0), (11, .ireturn, 0, 0), (12, .aload_n 0, 0, 0), (13, .aload_n 3, 0, 0), (14, .invokevirtual 178, 104, 0), (17, .astore 4, 0, 0), (19, .iload_n 2, 0, 0), (20, .iconst (-1), 0, 0), (21, .if_icmp .ne 7, 0, 0), (24, .aload 4, 0, 0), (26, .arraylength, 0, 0), (27, .ireturn, 0, 0), (28, .iload_n 2, 0, 0), (29, .ifCond .lt 17, 0, 0), (32, .iload_n 2, 0, 0), (33, .aload 4, 0, 0), (35, .arraylength, 0, 0), (36, .if_icmp .ge 10, 0, 0), (39, .aload 4, 0, 0), (41, .iload_n 2, 0, 0), (42, .iaload, 0, 0), (43, .goto 4, 0, 0), (46, .iconst (-1), 0, 0), (47, .ireturn, 0, 0)]
def mj_cd82 : List (Nat × Instr × Nat × Nat) := [(0, .aload_n 0, 0, 0), (1, .getfield 44, 10, 5), (4, .iload_n 1, 0, 0), (5, .invokevirtual 182, 53, 0), (8, .ifCond .eq 13, 0, 0), (11, .aload_n 0, 0, 0), (12, .getfield 44, 10, 5), (15, .getfield 185, 7, 1), (18, .goto 4, 0, 0), (21, .iconst (-1), 0, 0), (22, .ireturn, 0, 0)]
def mj_cd83 : List (Nat × Instr × Nat × Nat) := [(0, .aload_n 0, 0, 0), (1, .iload_n 1, 0, 0), (2, .invokevirtual 156, 101, 0), (5, .astore_n 2, 0, 0), (6, .aload_n 2, 0, 0), (7, .ifnonnull 5, 0, 0), (10, .iconst (-1), 0, 0), (11, .ireturn, 0, 0), (12, .aload_n 0, 0, 0), (13, .getfield 44, 10, 5), (16, .aload_n 0, 0, 0), (17, .aload_n 2, 0, 0), (18, .invokevirtual 178, 104, 0), (21, .invokevirtual 188, 56, 0), (24, .aload_n 0, 0, 0), (25, .getfield 44, 10, 5), (28, .getfield 185, 7, 1), (31, .ireturn, 0, 0)]
def mj_cd84 : List (Nat × Instr × Nat × Nat) := [(0, .aload_n 0, 0, 0), (1, .getfield 44, 10, 5), (4, .iload_n 1, 0, 0), (5, .iload_n 2, 0, 0), (6, .invokevirtual 191, 54, 0), (9, .ireturn, 0, 0)]
def mj_cd85 : List (Nat × Instr × Nat × Nat) := [(0, .aload_n 0, 0, 0), (1, .getfield 44, 10, 5), (4, .iload_n 1, 0, 0), (5, .invokevirtual 194, 55, 0), (8, .ireturn, 0, 0)]
def mj_cd86 : List (Nat × Instr × Nat × Nat) := [(0, .aload_n 0, 0, 0), (1, .iload_n 1, 0, 0), (2, .invokevirtual 156, 101, 0), (5, .astore_n 2, 0, 0), (6, .aload_n 2, 0, 0), (7, .ifnonnull 6, 0, 0), (10, .bipush (-2), 0, 0), (12, .ireturn, 0, 0), (13, .aload_n 0, 0, 0), (14, .getfield 37, 10, 4), (17, .aload_n 2, 0, 0), (18, .getfield 160, 9, 1), (21, .aload_n 2, 0, 0), (22, .getfield 163, 9, 2), (25, .invokevirtual 197, 59, 0), (28, .iconst 0, 0, 0), (29, .istore_n 3, 0, 0), (30, .iload_n 3, 0, 0), (31, .aload_n 0, 0, 0), (32, .getfield 44, 10, 5), (35, .getfield 185, 7, 1), (38, .if_icmp .ge 57, 0, 0), (41, .aload_n 0, 0, 0), (42, .getfield 37, 10, 4), (45, .invokevirtual 200, 61, 0), (48, .ifCond .eq 23, 0, 0), (51, .aload_n 0, 0, 0), (52, .aload_n 2, 0, 0), (53, .getfield 170, 9, 0), (56, .aload_n 0, 0, 0), (57, .getfield 44, 10, 5), (60, .getfield 204, 7, 0), (63, .iload_n 3, 0, 0), (64, .iaload, 0, 0), (65, .invokevirtual 207, 105, 0), (68, .ifCond .ne 5, 0, 0), (71, .iload_n 3, 0, 0), (72, .ireturn, 0, 0), (73, .aload_n 0, 0, 0), (74, .getfield 37, 10, 4), (77, .aload_n 0, 0, 0), (78, .getfield 44, 10, 5), (81, .getfield 204, 7, 0), (84, .iload_n 3, 0, 0), (85, .iaload, 0, 0), (86, .invokevirtual 210, 63, 0), (89, .iinc 3 1, 0, 0), (92, .goto (-62), 0, 0), (95, .aload_n 0, 0, 0), (96, .getfield 37, 10, 4), (99, .getfield 213, 8, 2), (102, .ifCond .ne 7, 0, 0), (105, .iconst (-1), 0, 0), (106, .goto 10, 0, 0), (109, .aload_n 0, 0, 0), (110, .getfield 44, 10, 5), (113, .getfield 185, 7, 1), (116, .ireturn, 0, 0)]
def mj_cd87 : List (Nat × Instr × Nat × Nat) := [(0, .aload_n 0, 0, 0), (1, .iload_n 1, 0, 0), (2, .invokevirtual 156, 101, 0), (5, .astore_n 3, 0, 0), (6, .aload_n 3, 0, 0), (7, .ifnonnull 5, 0, 0), (10, .iconst (-1), 0, 0), (11, .ireturn, 0, 0), (12, .aload_n 0, 0, 0), (13, .aload_n 3, 0, 0), (14, .invokevirtual 178, 104, 0), (17, .arraylength, 0, 0), (18, .ifCond .eq 10, 0, 0), (21, .aload_n 3, 0, 0), (22, .getfield 216, 9, 6), (25, .ifCond .ne 5, 0, 0), (28, .iconst (-1), 0, 0), (29, .ireturn, 0, 0), (30, .iload_n 2, 0, 0), (31, .tableswitch 40 0 2 #[25, 30, 35], 0, 0), (56, .aload_n 3, 0, 0), (57, .getfield 219, 9, 4), (60, .ireturn, 0, 0), (61, .aload_n 3, 0, 0), (62, .getfield 222, 9, 5), (65, .ireturn, 0, 0), (66, .aload_n 3, 0, 0), (67, .getfield 216, 9, 6), (70, .ireturn, 0, 0), (71, .iconst (-1), 0, 0), (72, .ireturn, 0, 0)]
def mj_cd88 : List (Nat × Instr × Nat × Nat) := [(0, .aload_n 0, 0, 0), (1, .iload_n 1, 0, 0), (2, .invokevirtual 156, 101, 0), (5, .astore_n 3, 0, 0), (6, .aload_n 3, 0, 0), (7, .ifnull 25, 0, 0), (10, .iload_n 2, 0, 0), (11, .invokestatic 143, 107, 0), (14, .ifCond .eq 18, 0, 0), (17, .aload_n 3, 0, 0), (18, .getfield 160, 9, 1), (21, .aload_n 3, 0, 0), (22, .getfield 163, 9, 2), (25, .iload_n 2, 0, 0), (26, .invokestatic 166, 109, 0), (29, .ifCond .ne 5, 0, 0), (32, .iconst (-1), 0, 0), (33, .ireturn, 0, 0), (34, .aload_n 0, 0, 0), (35, .getfield 30, 10, 3), (38, .aload_n 3, 0, 0), (39, .getfield 170, 9, 0), (42, .iload_n 2, 0, 0), (43, .invokevirtual 174, 1, 0), (46, .istore 4, 0, 0), (48, .iconst (-1), 0, 0), (49, .istore 5, 0, 0), (51, .iconst 0, 0, 0), (52, .istore 6, 0, 0), (54, .aload_n 3, 0, 0), (55, .getfield 160, 9, 1), (58, .istore 7, 0, 0), (60, .iload 7, 0, 0), (62, .aload_n 3, 0, 0), (63, .getfield 163, 9, 2), (66, .if_icmp .gt 84, 0, 0), (69, .iload_n 2, 0, 0), (70, .iload 7, 0, 0), (72, .invokestatic 225, 111, 0), (75, .istore 8, 0, 0), (77, .iload 5, 0, 0), (79, .iconst (-1), 0, 0), (80, .if_icmp .eq 10, 0, 0), (83, .iload 8, 0, 0), (85, .iload 6, 0, 0), (87, .if_icmp .ge 7, 0, 0), (90, .iconst 1, 0, 0), (91, .goto 4, 0, 0), (94, .iconst 0, 0, 0), (95, .istore 9, 0, 0), (97, .iload 9, 0, 0), (99, .ifCond .eq 45, 0, 0), (102, .aload_n 3, 0, 0), (103, .getfield 160, 9, 1), (106, .aload_n 3, 0, 0), (107, .getfield 163, 9, 2), (110, .iload 7, 0, 0), (112, .invokestatic 166, 109, 0), (115, .ifCond .eq 29, 0, 0), (118, .aload_n 0, 0, 0), (119, .getfield 30, 10, 3), (122, .aload_n 3, 0, 0), (123, .getfield 170, 9, 0), (126, .iload 7, 0, 0), (128, .invokevirtual 174, 1, 0), (131, .iload 4, 0, 0), (133, .if_icmp .eq 11, 0, 0), (136, .iload 7, 0, 0), (138, .istore 5, 0, 0), (140, .iload 8, 0, 0), (142, .istore 6, 0, 0), (144, .iinc 7 1, 0, 0), (147, .goto (-87), 0, 0), (150, .iload 5, 0, 0), (152, .ireturn, 0, 0)]
def mj_cd89 : List (Nat × Instr × Nat × Nat) := [(0, .aload_n 0, 0, 0), (1, .iload_n 1, 0, 0), (2, .invokevirtual 101, 100, 0), (5, .astore_n 3, 0, 0), (6, .aload_n 3, 0, 0), (7, .ifnull 10, 0, 0), (10, .iload_n 2, 0, 0), (11, .invokestatic 143, 107, 0), (14, .ifCond .ne 5, 0, 0), (17, .iconst (-1), 0, 0), (18, .ireturn, 0, 0), (19, .iconst 0, 0, 0), (20, .istore 4, 0, 0), (22, .iconst 0, 0, 0), (23, .istore 5, 0, 0), (25, .iload 5, 0, 0), (27, .iconst 3, 0, 0), (28, .if_icmp .ge 89, 0, 0), (31, .iload_n 2, 0, 0), (32, .iload 5, 0, 0), (34, .invokestatic 149, 108, 0), (37, .istore 6, 0, 0), (39, .iload 6, 0, 0), (41, .ifCond .le 33, 0, 0), (44, .aload_n 0, 0, 0), (45, .getfield 30, 10, 3), (48, .aload_n 3, 0, 0), (49, .iload_n 2, 0, 0), (50, .getstatic 114, 2, 0), (53, .iload 5, 0, 0), (55, .iaload, 0, 0), (56, .isub, 0, 0), (57, .invokevirtual 174, 1, 0), (60, .ifCond .eq 14, 0, 0), (63, .iload 4, 0, 0), (65, .iconst 1, 0, 0), (66, .iconst 2, 0, 0), (67, .iload 5, 0, 0), (69, .imul, 0, 0), (70, .ishl, 0, 0), (71, .ior, 0, 0), (72, .istore 4, 0, 0), (74, .iload 6, 0, 0), (76, .bipush 8, 0, 0), (78, .if_icmp .ge 33, 0, 0), (81, .aload_n 0, 0, 0), (82, .getfield 30, 10, 3), (85, .aload_n 3, 0, 0), (86, .iload_n 2, 0, 0), (87, .getstatic 114, 2, 0), (90, .iload 5, 0, 0), (92, .iaload, 0, 0), (93, .iadd, 0, 0), (94, .invokevirtual 174, 1, 0), (97, .ifCond .eq 14, 0, 0), (100, .iload 4, 0, 0), (102, .iconst 2, 0, 0), (103, .iconst 2, 0, 0), (104, .iload 5, 0, 0), (106, .imul, 0, 0), (107, .ishl, 0, 0), (108, .ior, 0, 0), (109, .istore 4, 0, 0), (111, .iinc 5 1, 0, 0), (114, .goto (-89), 0, 0), (117, .iload 4, 0, 0), (119, .ireturn, 0, 0)]
def mj_cd90 : List (Nat × Instr × Nat × Nat) := [(0, .aload_n 0, 0, 0), (1, .iload_n 1, 0, 0), (2, .invokevirtual 101, 100, 0), (5, .astore_n 3, 0, 0), (6, .aload_n 3, 0, 0), (7, .ifnull 10, 0, 0), (10, .iload_n 2, 0, 0), (11, .invokestatic 143, 107, 0), (14, .ifCond .ne 5, 0, 0), (17, .iconst (-1), 0, 0), (18, .ireturn, 0, 0), (19, .aload_n 0, 0, 0), (20, .getfield 51, 10, 6), (23, .aload_n 3, 0, 0), (24, .iload_n 2, 0, 0), (25, .aload_n 0, 0, 0), (26, .getfield 62, 10, 9), (29, .invokevirtual 228, 12, 0), (32, .ireturn, 0, 0)]
def mj_cd91 : List (Nat × Instr × Nat × Nat) := [(0, .aload_n 0, 0, 0), (1, .getfield 51, 10, 6), (4, .iload_n 1, 0, 0), (5, .iload_n 2, 0, 0), (6, .aload_n 0, 0, 0), (7, .getfield 62, 10, 9), (10, .invokevirtual 232, 14, 0), (13, .ireturn, 0, 0)]
def mj_cd92 : List (Nat × Instr × Nat × Nat) := [(0, .aload_n 0, 0, 0), (1, .getfield 51, 10, 6), (4, .iload_n 1, 0, 0), (5, .invokevirtual 236, 13, 0), (8, .astore_n 3, 0, 0), (9, .aload_n 3, 0, 0), (10, .ifnull 19, 0, 0), (13, .aload_n 0, 0, 0), (14, .iload_n 2, 0, 0), (15, .invokevirtual 240, 102, 0), (18, .ifCond .eq 11, 0, 0), (21, .aload_n 3, 0, 0), (22, .getfield 243, 4, 2), (25, .iload_n 2, 0, 0), (26, .if_icmp .le 5, 0, 0), (29, .iconst (-1), 0, 0), (30, .ireturn, 0, 0), (31, .aload_n 0, 0, 0), (32, .getfield 51, 10, 6), (35, .iload_n 2, 0, 0), (36, .invokevirtual 248, 15, 0), (39, .aload_n 0, 0, 0), (40, .getfield 51, 10, 6), (43, .getfield 251, 1, 1), (46, .iload_n 1, 0, 0), (47, .iaload, 0, 0), (48, .ireturn, 0, 0)]
def mj_cd93 : List (Nat × Instr × Nat × Nat) := [(0, .aload_n 0, 0, 0), (1, .iload_n 1, 0, 0), (2, .invokevirtual 240, 102, 0), (5, .ifCond .ne 5, 0, 0), (8, .iconst (-1), 0, 0), (9, .ireturn, 0, 0), (10, .aload_n 0, 0, 0), (11, .getfield 51, 10, 6), (14, .iload_n 1, 0, 0), (15, .invokevirtual 248, 15, 0), (18, .aload_n 0, 0, 0), (19, .getfield 51, 10, 6), (22, .aload_n 0, 0, 0), (23, .getfield 30, 10, 3), (26, .invokevirtual 254, 16, 0), (29, .ireturn, 0, 0)]
def mj_cd94 : List (Nat × Instr × Nat × Nat) := [(0, .aload_n 0, 0, 0), (1, .iload_n 1, 0, 0), (2, .invokevirtual 240, 102, 0), (5, .ifCond .ne 5, 0, 0), (8, .iconst (-1), 0, 0), (9, .ireturn, 0, 0), (10, .aload_n 0, 0, 0), (11, .getfield 51, 10, 6), (14, .iload_n 1, 0, 0), (15, .invokevirtual 248, 15, 0), (18, .aload_n 0, 0, 0), (19, .getfield 51, 10, 6), (22, .aload_n 0, 0, 0), (23, .getfield 66, 10, 10), (26, .invokevirtual 258, 17, 0), (29, .ireturn, 0, 0)]
def mj_cd95 : List (Nat × Instr × Nat × Nat) := [(0, .aload_n 0, 0, 0), (1, .iload_n 1, 0, 0), (2, .invokevirtual 101, 100, 0), (5, .ifnull 10, 0, 0), (8, .iload_n 2, 0, 0), (9, .invokestatic 143, 107, 0), (12, .ifCond .ne 5, 0, 0), (15, .iconst (-1), 0, 0), (16, .ireturn, 0, 0), (17, .aload_n 0, 0, 0), (18, .getfield 58, 10, 7), (21, .iload_n 1, 0, 0), (22, .iload_n 2, 0, 0), (23, .invokevirtual 262, 20, 0), (26, .ireturn, 0, 0)]
def mj_cd96 : List (Nat × Instr × Nat × Nat) := [(0, .aload_n 0, 0, 0), (1, .getfield 58, 10, 7), (4, .invokevirtual 264, 21, 0), (7, .return_, 0, 0)]
def mj_cd97 : List (Nat × Instr × Nat × Nat) := [(0, .aload_n 0, 0, 0), (1, .getfield 58, 10, 7), (4, .getfield 267, 2, 5), (7, .ifCond .eq 19, 0, 0), (10, .iload_n 1, 0, 0), (11, .iconst (-1), 0, 0), (12, .if_icmp .lt 14, 0, 0), (15, .iload_n 1, 0, 0), (16, .aload_n 0, 0, 0), (17, .getfield 58, 10, 7), (20, .getfield 267, 2, 5), (23, .if_icmp .lt 5, 0, 0), (26, .iconst (-1), 0, 0), (27, .ireturn, 0, 0), (28, .aload_n 0, 0, 0), (29, .getfield 58, 10, 7), (32, .invokevirtual 268, 22, 0), (35, .iload_n 1, 0, 0), (36, .iconst (-1), 0, 0), (37, .if_icmp .ne 13, 0, 0), (40, .aload_n 0, 0, 0), (41, .getfield 58, 10, 7), (44, .getfield 271, 2, 6), (47, .goto 12, 0, 0), (50, .aload_n 0, 0, 0), (51, .getfield 58, 10, 7), (54, .getfield 274, 2, 2), (57, .iload_n 1, 0, 0), (58, .iaload, 0, 0), (59, .ireturn, 0, 0)]
def mj_cd98 : List (Nat × Instr × Nat × Nat) := [(0, .iload_n 1, 0, 0), (1, .tableswitch 87 0 6 #[43, 48, 53, 58, 63, 71, 79], 0, 0), (44, .aload_n 0, 0, 0), (45, .getfield 62, 10, 9), (48, .ireturn, 0, 0), (49, .aload_n 0, 0, 0), (50, .getfield 66, 10, 10), (53, .ireturn, 0, 0), (54, .aload_n 0, 0, 0), (55, .getfield 91, 10, 11), (58, .ireturn, 0, 0), (59, .aload_n 0, 0, 0), (60, .getfield 146, 10, 12), (63, .ireturn, 0, 0), (64, .aload_n 0, 0, 0), (65, .getfield 44, 10, 5), (68, .getfield 185, 7, 1), (71, .ireturn, 0, 0), (72, .aload_n 0, 0, 0), (73, .getfield 51, 10, 6), (76, .getfield 277, 1, 5), (79, .ireturn, 0, 0), (80, .aload_n 0, 0, 0), (81, .getfield 58, 10, 7), (84, .getfield 267, 2, 5), (87, .ireturn, 0, 0), (88, .iconst (-1), 0, 0), (89, .ireturn, 0, 0)]
def mj_cd99 : List (Nat × Instr × Nat × Nat) := [(0, .iload_n 1, 0, 0), (1, .ifCond .lt 20, 0, 0), (4, .iload_n 1, 0, 0), (5, .aload_n 0, 0, 0), (6, .getfield 66, 10, 10), (9, .if_icmp .ge 12, 0, 0), (12, .aload_n 0, 0, 0), (13, .getfield 11, 10, 0), (16, .iload_n 1, 0, 0), (17, .aaload, 0, 0), (18, .goto 4, 0, 0), (21, .aconst_null, 0, 0), (22, .areturn, 0, 0)]
def mj_cd100 : List (Nat × Instr × Nat × Nat) := [(0, .iload_n 1, 0, 0), (1, .ifCond .lt 20, 0, 0), (4, .iload_n 1, 0, 0), (5, .aload_n 0, 0, 0), (6, .getfield 91, 10, 11), (9, .if_icmp .ge 12, 0, 0), (12, .aload_n 0, 0, 0), (13, .getfield 17, 10, 1), (16, .iload_n 1, 0, 0), (17, .aaload, 0, 0), (18, .goto 4, 0, 0), (21, .aconst_null, 0, 0), (22, .areturn, 0, 0)]
def mj_cd101 : List (Nat × Instr × Nat × Nat) := [(0, .iload_n 1, 0, 0), (1, .ifCond .lt 20, 0, 0), (4, .iload_n 1, 0, 0), (5, .aload_n 0, 0, 0), (6, .getfield 146, 10, 12), (9, .if_icmp .ge 12, 0, 0), (12, .aload_n 0, 0, 0), (13, .getfield 23, 10, 2), (16, .iload_n 1, 0, 0), (17, .aaload, 0, 0), (18, .goto 4, 0, 0), (21, .aconst_null, 0, 0), (22, .areturn, 0, 0)]
def mj_cd102 : List (Nat × Instr × Nat × Nat) := [(0, .iload_n 1, 0, 0), (1, .ifCond .lt 15, 0, 0), (4, .iload_n 1, 0, 0), (5, .aload_n 0, 0, 0), (6, .getfield 62, 10, 9), (9, .if_icmp .gt 7, 0, 0), (12, .iconst 1, 0, 0), (13, .goto 4, 0, 0), (16, .iconst 0, 0, 0), (17, .ireturn, 0, 0)]
def mj_cd103 : List (Nat × Instr × Nat × Nat) := [(0, .aload_n 0, 0, 0), (1, .iload_n 1, 0, 0), (2, .invokevirtual 101, 100, 0), (5, .astore_n 3, 0, 0), (6, .aload_n 3, 0, 0), (7, .ifnull 10, 0, 0), (10, .iload_n 2, 0, 0), (11, .invokestatic 143, 107, 0), (14, .ifCond .ne 5, 0, 0), (17, .iconst 0, 0, 0), (18, .ireturn, 0, 0), (19, .aload_n 0, 0, 0), (20, .getfield 30, 10, 3), (23, .aload_n 3, 0, 0), (24, .iload_n 2, 0, 0), (25, .invokevirtual 280, 2, 0), (28, .iconst 1, 0, 0), (29, .ireturn, 0, 0)]
def mj_cd104 : List (Nat × Instr × Nat × Nat) := [(0, .aload_n 1, 0, 0), (1, .getfield 284, 9, 3), (4, .astore_n 2, 0, 0), (5, .aload_n 2, 0, 0), (6, .ifnonnull 59, 0, 0), (9, .aload_n 0, 0, 0), (10, .getfield 287, 10, 8), (13, .ifnonnull 14, 0, 0), (16, .aload_n 0, 0, 0), (17, .new 291, 5, 0), (20, .dup, 0, 0), (21, .invokespecial 293, 37, 0), (24, .putfield 287, 10, 8), (27, .aload_n 0, 0, 0), (28, .getfield 287, 10, 8), (31, .aload_n 0, 0, 0), (32, .getfield 30, 10, 3), (35, .aload_n 1, 0, 0), (36, .invokevirtual 294, 38, 0), (39, .aload_n 0, 0, 0), (40, .getfield 287, 10, 8), (43, .aload_n 1, 0, 0), (44, .invokevirtual 298, 42, 0), (47, .aload_n 0, 0, 0), (48, .getfield 287, 10, 8), (51, .aload_n 0, 0, 0), (52, .getfield 37, 10, 4), (55, .aload_n 1, 0, 0), (56, .invokevirtual 302, 41, 0), (59, .astore_n 2, 0, 0), (60, .aload_n 1, 0, 0), (61, .aload_n 2, 0, 0), (62, .putfield 284, 9, 3), (65, .aload_n 2, 0, 0), (66, .areturn, 0, 0)]
def mj_cd105 : List (Nat × Instr × Nat × Nat) := [(0, .iload_n 2, 0, 0), (1, .iconst 1, 0, 0), (2, .if_icmp .le 12, 0, 0), (5, .aload_n 0, 0, 0), (6, .getfield 37, 10, 4), (9, .iload_n 2, 0, 0), (10, .invokevirtual 306, 62, 0), (13, .ireturn, 0, 0), (14, .aload_n 0, 0, 0), (15, .getfield 37, 10, 4), (18, .getfield 309, 8, 3), (21, .istore_n 3, 0, 0), (22, .iload_n 3, 0, 0), (23, .aload_n 0, 0, 0), (24, .getfield 37, 10, 4), (27, .getfield 310, 8, 4), (30, .if_icmp .gt 53, 0, 0), (33, .aload_n 0, 0, 0), (34, .getfield 37, 10, 4), (37, .getfield 309, 8, 3), (40, .aload_n 0, 0, 0), (41, .getfield 37, 10, 4), (44, .getfield 310, 8, 4), (47, .iload_n 3, 0, 0), (48, .invokestatic 166, 109, 0), (51, .ifCond .eq 26, 0, 0), (54, .aload_n 0, 0, 0), (55, .getfield 30, 10, 3), (58, .aload_n 1, 0, 0), (59, .iload_n 3, 0, 0), (60, .invokevirtual 174, 1, 0), (63, .iload_n 2, 0, 0), (64, .ifCond .ne 7, 0, 0), (67, .iconst 1, 0, 0), (68, .goto 4, 0, 0), (71, .iconst 0, 0, 0), (72, .if_icmp .eq 5, 0, 0), (75, .iconst 0, 0, 0), (76, .ireturn, 0, 0), (77, .iinc 3 1, 0, 0), (80, .goto (-58), 0, 0), (83, .iconst 1, 0, 0), (84, .ireturn, 0, 0)]
def mj_cd106 : List (Nat × Instr × Nat × Nat) := [(0, .iload_n 0, 0, 0), (1, .iconst 1, 0, 0), (2, .if_icmp .lt 13, 0, 0), (5, .iload_n 0, 0, 0), (6, .bipush 9, 0, 0), (8, .if_icmp .gt 7, 0, 0), (11, .iconst 1, 0, 0), (12, .goto 4, 0, 0), (15, .iconst 0, 0, 0), (16, .ireturn, 0, 0)]
def mj_cd107 : List (Nat × Instr × Nat × Nat) := [(0, .iload_n 0, 0, 0), (1, .ifCond .lt 14, 0, 0), (4, .iload_n 0, 0, 0), (5, .sipush 729, 0, 0), (8, .if_icmp .ge 7, 0, 0), (11, .iconst 1, 0, 0), (12, .goto 4, 0, 0), (15, .iconst 0, 0, 0), (16, .ireturn, 0, 0)]
def mj_cd108 : List (Nat × Instr × Nat × Nat) := [(0, .iload_n 0, 0, 0), (1, .getstatic 114, 2, 0), (4, .iload_n 1, 0, 0), (5, .iaload, 0, 0), (6, .idiv, 0, 0), (7, .bipush 9, 0, 0), (9, .irem, 0, 0), (10, .ireturn, 0, 0)]
def mj_cd109 : List (Nat × Instr × Nat × Nat) := [(0, .iconst 0, 0, 0), (1, .istore_n 3, 0, 0), (2, .iload_n 3, 0, 0), (3, .iconst 3, 0, 0), (4, .if_icmp .ge 38, 0, 0), (7, .iload_n 2, 0, 0), (8, .iload_n 3, 0, 0), (9, .invokestatic 149, 108, 0), (12, .istore 4, 0, 0), (14, .iload 4, 0, 0), (16, .iload_n 0, 0, 0), (17, .iload_n 3, 0, 0), (18, .invokestatic 149, 108, 0), (21, .if_icmp .lt 13, 0, 0), (24, .iload 4, 0, 0), (26, .iload_n 1, 0, 0), (27, .iload_n 3, 0, 0), (28, .invokestatic 149, 108, 0), (31, .if_icmp .le 5, 0, 0), (34, .iconst 0, 0, 0), (35, .ireturn, 0, 0), (36, .iinc 3 1, 0, 0), (39, .goto (-37), 0, 0), (42, .iconst 1, 0, 0), (43, .ireturn, 0, 0)]
def mj_cd110 : List (Nat × Instr × Nat × Nat) := [(0, .iload_n 1, 0, 0), (1, .iload_n 0, 0, 0), (2, .invokestatic 149, 108, 0), (5, .iload_n 2, 0, 0), (6, .iload_n 0, 0, 0), (7, .invokestatic 149, 108, 0), (10, .isub, 0, 0), (11, .invokestatic 311, 0, 4), (14, .ireturn, 0, 0)]
def mj_cd111 : List (Nat × Instr × Nat × Nat) := [(0, .iconst 0, 0, 0), (1, .iload_n 0, 0, 0), (2, .iload_n 1, 0, 0), (3, .invokestatic 316, 110, 0), (6, .iconst 1, 0, 0), (7, .iload_n 0, 0, 0), (8, .iload_n 1, 0, 0), (9, .invokestatic 316, 110, 0), (12, .iadd, 0, 0), (13, .iconst 2, 0, 0), (14, .iload_n 0, 0, 0), (15, .iload_n 1, 0, 0), (16, .invokestatic 316, 110, 0), (19, .iadd, 0, 0), (20, .ireturn, 0, 0)]
def mj_cd112 : List (Nat × Instr × Nat × Nat) := [(0, .iload_n 0, 0, 0), (1, .iload_n 1, 0, 0), (2, .if_icmp .lt 12, 0, 0), (5, .iload_n 0, 0, 0), (6, .iload_n 2, 0, 0), (7, .if_icmp .gt 7, 0, 0), (10, .iconst 1, 0, 0), (11, .goto 4, 0, 0), (14, .iconst 0, 0, 0), (15, .ireturn, 0, 0)]
def mj_cd113 : List (Nat × Instr × Nat × Nat) := [(0, .aload_n 0, 0, 0), (1, .invokespecial 1, 0, 1), (4, .aload_n 0, 0, 0), (5, .bipush 48, 0, 0), (7, .newarray .int, 12, 0), (9, .putfield 9, 11, 2), (12, .aload_n 0, 0, 0), (13, .bipush 36, 0, 0), (15, .newarray .boolean, 14, 0), (17, .putfield 13, 11, 3), (20, .aload_n 0, 0, 0), (21, .sipush 180, 0, 0), (24, .newarray .int, 12, 0), (26, .putfield 17, 11, 4), (29, .aload_n 0, 0, 0), (30, .bipush 20, 0, 0), (32, .newarray .int, 12, 0), (34, .putfield 20, 11, 5), (37, .aload_n 0, 0, 0), (38, .bipush 20, 0, 0), (40, .newarray .int, 12, 0), (42, .putfield 23, 11, 6), (45, .aload_n 0, 0, 0), (46, .bipush 6, 0, 0), (48, .newarray .int, 12, 0), (50, .putfield 26, 11, 9), (53, .aload_n 0, 0, 0), (54, .bipush 6, 0, 0), (56, .newarray .int, 12, 0), (58, .putfield 29, 11, 10), (61, .aload_n 0, 0, 0), (62, .bipush 6, 0, 0), (64, .newarray .int, 12, 0), (66, .putfield 32, 11, 11), (69, .aload_n 0, 0, 0), (70, .bipush 6, 0, 0), (72, .newarray .int, 12, 0), (74, .putfield 35, 11, 12), (77, .aload_n 0, 0, 0), (78, .bipush 6, 0, 0), (80, .newarray .int, 12, 0), (82, .putfield 38, 11, 13), (85, .aload_n 0, 0, 0), (86, .sipush 14580, 0, 0), (89, .newarray .int, 12, 0), (91, .putfield 41, 11, 16), (94, .aload_n 0, 0, 0), (95, .bipush 10, 0, 0), (97, .newarray .int, 12, 0), (99, .putfield 44, 11, 18), (102, .aload_n 0, 0, 0), (103, .bipush 30, 0, 0), (105, .newarray .int, 12, 0), (107, .putfield 47, 11, 19), (110, .aload_n 0, 0, 0), (111, .bipush 30, 0, 0), (113, .newarray .int, 12, 0), (115, .putfield 50, 11, 20), (118, .aload_n 0, 0, 0), (119, .ldc 53, 46656, 0), (121, .newarray .int, 12, 0), (123, .putfield 54, 11, 23), (126, .aload_n 0, 0, 0), (127, .ldc 53, 46656, 0), (129, .newarray .int, 12, 0), (131, .putfield 57, 11, 24), (134, .aload_n 0, 0, 0), (135, .sipush 500, 0, 0), (138, .newarray .int, 12, 0), (140, .putfield 60, 11, 25), (143, .aload_n 0, 0, 0), (144, .sipush 500, 0, 0), (147, .newarray .int, 12, 0), (149, .putfield 63, 11, 27), (152, .aload_n 0, 0, 0), (153, .bipush 60, 0, 0), (155, .newarray .int, 12, 0), (157, .putfield 66, 11, 34), (160, .aload_n 0, 0, 0), (161, .bipush 60, 0, 0), (163, .newarray .int, 12, 0), (165, .putfield 69, 11, 35), (168, .aload_n 0, 0, 0), (169, .bipush 60, 0, 0), (171, .newarray .int, 12, 0), (173, .putfield 72, 11, 36), (176, .aload_n 0, 0, 0), (177, .bipush 100, 0, 0), (179, .newarray .int, 12, 0), (181, .putfield 75, 11, 37), (184, .aload_n 0, 0, 0), (185, .bipush 100, 0, 0), (187, .newarray .boolean, 14, 0), (189, .putfield 78, 11, 38), (192, .aload_n 0, 0, 0), (193, .bipush 100, 0, 0), (195, .newarray .int, 12, 0), (197, .putfield 81, 11, 39), (200, .aload_n 0, 0, 0), (201, .bipush 8, 0, 0), (203, .newarray .int, 12, 0), (205, .putfield 84, 11, 42), (208, .aload_n 0, 0, 0), (209, .bipush 8, 0, 0), (211, .newarray .int, 12, 0), (213, .putfield 87, 11, 43), (216, .aload_n 0, 0, 0), (217, .bipush 8, 0, 0), (219, .newarray .int, 12, 0), (221, .putfield 90, 11, 44), (224, .aload_n 0, 0, 0), (225, .bipush 8, 0, 0), (227, .newarray .int, 12, 0), (229, .putfield 93, 11, 45), (232, .iconst 0, 0, 0), (233, .istore_n 1, 0, 0), (234, .iload_n 1, 0, 0), (235, .sipush 14580, 0, 0), (238, .if_icmp .ge 16, 0, 0), (241, .aload_n 0, 0, 0), (242, .getfield 41, 11, 16), (245, .iload_n 1, 0, 0), (246, .iconst (-1), 0, 0), (247, .iastore, 0, 0), (248, .iinc 1 1, 0, 0), (251, .goto (-17), 0, 0), (254, .return_, 0, 0)]
def mj_cd114 : List (Nat × Instr × Nat × Nat) := [(0, .aload_n 0, 0, 0), (1, .getfield 96, 11, 1), (4, .ireturn, 0, 0)]
def mj_cd115 : List (Nat × Instr × Nat × Nat) := [(0, .iload_n 1, 0, 0), (1, .iconst 0, 0, 0), (2, .sipush 500, 0, 0), (5, .invokestatic 100, 112, 0), (8, .ifCond .eq 15, 0, 0), (11, .aload_n 0, 0, 0), (12, .getfield 104, 11, 0), (15, .iload_n 1, 0, 0), (16, .iadd, 0, 0), (17, .sipush 1000, 0, 0), (20, .if_icmp .le 5, 0, 0), (23, .iconst (-1), 0, 0), (24, .ireturn, 0, 0), (25, .aload_n 0, 0, 0), (26, .dup, 0, 0), (27, .getfield 104, 11, 0), (30, .iload_n 1, 0, 0), (31, .iadd, 0, 0), (32, .putfield 104, 11, 0), (35, .aload_n 0, 0, 0), (36, .getfield 104, 11, 0), (39, .ireturn, 0, 0)]
def mj_cd116 : List (Nat × Instr × Nat × Nat) := [(0, .iload_n 1, 0, 0), (1, .iconst 0, 0, 0), (2, .aload_n 0, 0, 0), (3, .getfield 107, 11, 7), (6, .iconst 1, 0, 0), (7, .isub, 0, 0), (8, .invokestatic 100, 112, 0), (11, .ireturn, 0, 0)]
def mj_cd117 : List (Nat × Instr × Nat × Nat) := [(0, .iload_n 1, 0, 0), (1, .iconst 0, 0, 0), (2, .aload_n 0, 0, 0), (3, .getfield 110, 11, 8), (6, .iconst 1, 0, 0), (7, .isub, 0, 0), (8, .invokestatic 100, 112, 0), (11, .ireturn, 0, 0)]
def mj_cd118 : List (Nat × Instr × Nat × Nat) := [(0, .iload_n 0, 0, 0), (1, .iconst 0, 0, 0), (2, .sipush 728, 0, 0), (5, .invokestatic 100, 112, 0), (8, .ireturn, 0, 0)]
def mj_cd119 : List (Nat × Instr × Nat × Nat) := [(0, .iload_n 1, 0, 0), (1, .iconst 1, 0, 0), (2, .bipush 100, 0, 0), (4, .invokestatic 100, 112, 0), (7, .ifCond .eq 94, 0, 0), (10, .iload_n 2, 0, 0), (11, .iconst 1, 0, 0), (12, .bipush 100, 0, 0), (14, .invokestatic 100, 112, 0), (17, .ifCond .eq 84, 0, 0), (20, .iload_n 3, 0, 0), (21, .iconst 0, 0, 0), (22, .sipush 300, 0, 0), (25, .invokestatic 100, 112, 0), (28, .ifCond .eq 73, 0, 0), (31, .iload 4, 0, 0), (33, .bipush 50, 0, 0), (35, .sipush 900, 0, 0), (38, .invokestatic 100, 112, 0), (41, .ifCond .eq 60, 0, 0), (44, .iload 5, 0, 0), (46, .iconst 1, 0, 0), (47, .bipush 100, 0, 0), (49, .invokestatic 100, 112, 0), (52, .ifCond .eq 49, 0, 0), (55, .iload 6, 0, 0), (57, .bipush 50, 0, 0), (59, .sipush 999, 0, 0), (62, .invokestatic 100, 112, 0), (65, .ifCond .eq 36, 0, 0), (68, .iload 7, 0, 0), (70, .iconst 0, 0, 0), (71, .sipush 500, 0, 0), (74, .invokestatic 100, 112, 0), (77, .ifCond .eq 24, 0, 0), (80, .iload 8, 0, 0), (82, .iconst 1, 0, 0), (83, .sipush 500, 0, 0), (86, .invokestatic 100, 112, 0), (89, .ifCond .eq 12, 0, 0), (92, .aload_n 0, 0, 0), (93, .getfield 107, 11, 7), (96, .bipush 6, 0, 0), (98, .if_icmp .ne 5, 0, 0), (101, .iconst (-1), 0, 0), (102, .ireturn, 0, 0), (103, .bipush 8, 0, 0), (105, .aload_n 0, 0, 0), (106, .getfield 107, 11, 7), (109, .imul, 0, 0), (110, .istore 9, 0, 0), (112, .aload_n 0, 0, 0), (113, .getfield 9, 11, 2), (116, .iload 9, 0, 0), (118, .iload_n 1, 0, 0), (119, .iastore, 0, 0), (120, .aload_n 0, 0, 0), (121, .getfield 9, 11, 2), (124, .iload 9, 0, 0), (126, .iconst 1, 0, 0), (127, .iadd, 0, 0), (128, .iload_n 2, 0, 0), (129, .iastore, 0, 0), (130, .aload_n 0, 0, 0), (131, .getfield 9, 11, 2), (134, .iload 9, 0, 0), (136, .iconst 2, 0, 0), (137, .iadd, 0, 0), (138, .iload_n 3, 0, 0), (139, .iastore, 0, 0), (140, .aload_n 0, 0, 0), (141, .getfield 9, 11, 2), (144, .iload 9, 0, 0), (146, .iconst 3, 0, 0), (147, .iadd, 0, 0), (148, .iload 4, 0, 0), (150, .iastore, 0, 0), (151, .aload_n 0, 0, 0), (152, .getfield 9, 11, 2), (155, .iload 9, 0, 0), (157, .iconst 4, 0, 0), (158, .iadd, 0, 0), (159, .iload 5, 0, 0), (161, .iastore, 0, 0), (162, .aload_n 0, 0, 0), (163, .getfield 9, 11, 2), (166, .iload 9, 0, 0), (168, .iconst 5, 0, 0), (169, .iadd, 0, 0), (170, .iload 6, 0, 0), (172, .iastore, 0, 0), (173, .aload_n 0, 0, 0), (174, .getfield 9, 11, 2), (177, .iload 9, 0, 0), (179, .bipush 6, 0, 0), (181, .iadd, 0, 0), (182, .iload 7, 0, 0), (184, .iastore, 0, 0), (185, .aload_n 0, 0, 0), (186, .getfield 9, 11, 2), (189, .iload 9, 0, 0), (191, .bipush 7, 0, 0), (193, .iadd, 0, 0), (194, .iload 8, 0, 0), (196, .iastore, 0, 0), (197, .aload_n 0, 0, 0), (198, .dup, 0, 0), (199, .getfield 107, 11, 7), (202, .iconst 1, 0, 0), (203, .iadd, 0, 0), (204, .putfield 107, 11, 7), (207, .aload_n 0, 0, 0), (208, .getfield 107, 11, 7), (211, .iconst 1, 0, 0), (212, .isub, 0, 0), (213, .ireturn, 0, 0)]
def mj_cd120 : List (Nat × Instr × Nat × Nat) := [(0, .aload_n 0, 0, 0), (1, .iload_n 1, 0, 0), (2, .invokevirtual 113, 116, 0), (5, .ifCond .eq 25, 0, 0), (8, .aload_n 0, 0, 0), (9, .iload_n 2, 0, 0), (10, .invokevirtual 113, 116, 0), (13, .ifCond .eq 17, 0, 0), (16, .aload_n 0, 0, 0), (17, .getfield 13, 11, 3), (20, .bipush 6, 0, 0), (22, .iload_n 1, 0, 0), (23, .imul, 0, 0), (24, .iload_n 2, 0, 0), (25, .iadd, 0, 0), (26, .baload, 0, 0), (27, .ifCond .eq 5, 0, 0), (30, .iconst 0, 0, 0), (31, .ireturn, 0, 0), (32, .aload_n 0, 0, 0), (33, .getfield 13, 11, 3), (36, .bipush 6, 0, 0), (38, .iload_n 1, 0, 0), (39, .imul, 0, 0), (40, .iload_n 2, 0, 0), (41, .iadd, 0, 0), (42, .iconst 1, 0, 0), (43, .bastore, 0, 0), (44, .aload_n 0, 0, 0), (45, .getfield 13, 11, 3), (48, .bipush 6, 0, 0), (50, .iload_n 2, 0, 0), (51, .imul, 0, 0), (52, .iload_n 1, 0, 0), (53, .iadd, 0, 0), (54, .iconst 1, 0, 0), (55, .bastore, 0, 0), (56, .iconst 1, 0, 0), (57, .ireturn, 0, 0)]
def mj_cd121 : List (Nat × Instr × Nat × Nat) := [(0, .aload_n 0, 0, 0), (1, .iload_n 1, 0, 0), (2, .invokevirtual 113, 116, 0), (5, .ifCond .eq 44, 0, 0), (8, .aload_n 0, 0, 0), (9, .iload_n 2, 0, 0), (10, .invokevirtual 113, 116, 0), (13, .ifCond .eq 36, 0, 0), (16, .aload_n 0, 0, 0), (17, .getfield 13, 11, 3), (20, .bipush 6, 0, 0), (22, .iload_n 1, 0, 0), (23, .imul, 0, 0), (24, .iload_n 2, 0, 0), (25, .iadd, 0, 0), (26, .baload, 0, 0), (27, .ifCond .ne 22, 0, 0), (30, .iload_n 3, 0, 0), (31, .iconst 2, 0, 0), (32, .bipush 6, 0, 0), (34, .invokestatic 100, 112, 0), (37, .ifCond .eq 12, 0, 0), (40, .aload_n 0, 0, 0), (41, .getfield 110, 11, 8), (44, .bipush 20, 0, 0), (46, .if_icmp .ne 5, 0, 0), (49, .iconst (-1), 0, 0), (50, .ireturn, 0, 0), (51, .iconst 0, 0, 0), (52, .istore 4, 0, 0), (54, .iload 4, 0, 0), (56, .bipush 8, 0, 0), (58, .if_icmp .ge 129, 0, 0), (61, .aload_n 0, 0, 0), (62, .getfield 9, 11, 2), (65, .bipush 8, 0, 0), (67, .iload_n 1, 0, 0), (68, .imul, 0, 0), (69, .iload 4, 0, 0), (71, .iadd, 0, 0), (72, .iaload, 0, 0), (73, .istore 5, 0, 0), (75, .aload_n 0, 0, 0), (76, .getfield 9, 11, 2), (79, .bipush 8, 0, 0), (81, .iload_n 2, 0, 0), (82, .imul, 0, 0), (83, .iload 4, 0, 0), (85, .iadd, 0, 0), (86, .iaload, 0, 0), (87, .istore 6, 0, 0), (89, .iload 4, 0, 0), (91, .iconst 3, 0, 0), (92, .if_icmp .eq 10, 0, 0), (95, .iload 4, 0, 0), (97, .bipush 7, 0, 0), (99, .if_icmp .ne 7, 0, 0), (102, .iconst 1, 0, 0), (103, .goto 4, 0, 0), (106, .iconst 0, 0, 0), (107, .istore 7, 0, 0), (109, .iload 4, 0, 0), (111, .iconst 5, 0, 0), (112, .if_icmp .eq 10, 0, 0), (115, .iload 4, 0, 0), (117, .bipush 6, 0, 0), (119, .if_icmp .ne 7, 0, 0), (122, .iconst 1, 0, 0), (123, .goto 4, 0, 0), (126, .iconst 0, 0, 0), (127, .istore 8, 0, 0), (129, .aload_n 0, 0, 0), (130, .getfield 17, 11, 4), (133, .bipush 9, 0, 0), (135, .aload_n 0, 0, 0), (136, .getfield 110, 11, 8), (139, .imul, 0, 0), (140, .iload 4, 0, 0), (142, .iadd, 0, 0), (143, .iload 7, 0, 0), (145, .ifCond .eq 13, 0, 0), (148, .iload 5, 0, 0), (150, .iload 6, 0, 0), (152, .invokestatic 117, 0, 2), (155, .goto 25, 0, 0), (158, .iload 8, 0, 0), (160, .ifCond .eq 13, 0, 0), (163, .iload 5, 0, 0), (165, .iload 6, 0, 0), (167, .invokestatic 123, 0, 3), (170, .goto 10, 0, 0), (173, .iload 5, 0, 0), (175, .iload 6, 0, 0), (177, .iadd, 0, 0), (178, .iconst 2, 0, 0), (179, .idiv, 0, 0), (180, .iastore, 0, 0), (181, .iinc 4 1, 0, 0), (184, .goto (-130), 0, 0), (187, .aload_n 0, 0, 0), (188, .getfield 17, 11, 4), (191, .bipush 9, 0, 0), (193, .aload_n 0, 0, 0), (194, .getfield 110, 11, 8), (197, .imul, 0, 0), (198, .bipush 8, 0, 0), (200, .iadd, 0, 0), (201, .iload_n 3, 0, 0), (202, .iastore, 0, 0), (203, .aload_n 0, 0, 0), (204, .getfield 20, 11, 5), (207, .aload_n 0, 0, 0), (208, .getfield 110, 11, 8), (211, .iload_n 1, 0, 0), (212, .iastore, 0, 0), (213, .aload_n 0, 0, 0), (214, .getfield 23, 11, 6), (217, .aload_n 0, 0, 0), (218, .getfield 110, 11, 8), (221, .iload_n 2, 0, 0), (222, .iastore, 0, 0), (223, .aload_n 0, 0, 0), (224, .dup, 0, 0), (225, .getfield 110, 11, 8), (228, .iconst 1, 0, 0), (229, .iadd, 0, 0), (230, .putfield 110, 11, 8), (233, .aload_n 0, 0, 0), (234, .getfield 110, 11, 8), (237, .iconst 1, 0, 0), (238, .isub, 0, 0), (239, .ireturn, 0, 0)]
def mj_cd122 : List (Nat × Instr × Nat × Nat) := [(0, .aload_n 0, 0, 0), (1, .aload_n 0, 0, 0), (2, .iload_n 1, 0, 0), (3, .invokevirtual 126, 117, 0), (6, .ifCond .eq 17, 0, 0), (9, .iload_n 2, 0, 0), (10, .iconst 0, 0, 0), (11, .bipush 8, 0, 0), (13, .invokestatic 100, 112, 0), (16, .ifCond .eq 7, 0, 0), (19, .iconst 0, 0, 0), (20, .goto 4, 0, 0), (23, .iconst 1, 0, 0), (24, .putfield 96, 11, 1), (27, .aload_n 0, 0, 0), (28, .getfield 96, 11, 1), (31, .iconst 1, 0, 0), (32, .if_icmp .ne 7, 0, 0), (35, .iconst 0, 0, 0), (36, .goto 14, 0, 0), (39, .aload_n 0, 0, 0), (40, .getfield 17, 11, 4), (43, .bipush 9, 0, 0), (45, .iload_n 1, 0, 0), (46, .imul, 0, 0), (47, .iload_n 2, 0, 0), (48, .iadd, 0, 0), (49, .iaload, 0, 0), (50, .ireturn, 0, 0)]
def mj_cd123 : List (Nat × Instr × Nat × Nat) := [(0, .iload_n 1, 0, 0), (1, .iconst 1, 0, 0), (2, .bipush 9, 0, 0), (4, .invokestatic 100, 112, 0), (7, .ifCond .eq 32, 0, 0), (10, .iload_n 2, 0, 0), (11, .iconst 1, 0, 0), (12, .bipush 9, 0, 0), (14, .invokestatic 100, 112, 0), (17, .ifCond .eq 22, 0, 0), (20, .iload_n 3, 0, 0), (21, .iconst 1, 0, 0), (22, .bipush 9, 0, 0), (24, .invokestatic 100, 112, 0), (27, .ifCond .eq 12, 0, 0), (30, .iload_n 1, 0, 0), (31, .iload_n 2, 0, 0), (32, .iload_n 3, 0, 0), (33, .invokestatic 129, 124, 0), (36, .goto 4, 0, 0), (39, .iconst (-1), 0, 0), (40, .ireturn, 0, 0)]
def mj_cd124 : List (Nat × Instr × Nat × Nat) := [(0, .bipush 81, 0, 0), (2, .iload_n 0, 0, 0), (3, .iconst 1, 0, 0), (4, .isub, 0, 0), (5, .imul, 0, 0), (6, .bipush 9, 0, 0), (8, .iload_n 1, 0, 0), (9, .iconst 1, 0, 0), (10, .isub, 0, 0), (11, .imul, 0, 0), (12, .iadd, 0, 0), (13, .iload_n 2, 0, 0), (14, .iadd, 0, 0), (15, .iconst 1, 0, 0), (16, .isub, 0, 0), (17, .ireturn, 0, 0)]
def mj_cd125 : List (Nat × Instr × Nat × Nat) := [(0, .iload_n 1, 0, 0), (1, .ifCond .ne 10, 0, 0), (4, .iload_n 0, 0, 0), (5, .bipush 81, 0, 0), (7, .idiv, 0, 0), (8, .goto 22, 0, 0), (11, .iload_n 1, 0, 0), (12, .iconst 1, 0, 0), (13, .if_icmp .ne 13, 0, 0), (16, .iload_n 0, 0, 0), (17, .bipush 9, 0, 0), (19, .idiv, 0, 0), (20, .bipush 9, 0, 0), (22, .irem, 0, 0), (23, .goto 7, 0, 0), (26, .iload_n 0, 0, 0), (27, .bipush 9, 0, 0), (29, .irem, 0, 0), (30, .iconst 1, 0, 0), (31, .iadd, 0, 0), (32, .ireturn, 0, 0)]
def mj_cd126 : List (Nat × Instr × Nat × Nat) := [(0, .iload_n 1, 0, 0), (1, .iload_n 2, 0, 0), (2, .isub, 0, 0), (3, .iload_n 3, 0, 0), (4, .imul, 0, 0), (5, .sipush 1000, 0, 0), (8, .idiv, 0, 0), (9, .ireturn, 0, 0)]
def mj_cd127 : List (Nat × Instr × Nat × Nat) := [(0, .bipush 9, 0, 0), (2, .iload_n 1, 0, 0), (3, .imul, 0, 0), (4, .istore 5, 0, 0), (6, .aload_n 0, 0, 0), (7, .getfield 17, 11, 4), (10, .iload 5, 0, 0), (12, .bipush 8, 0, 0), (14, .iadd, 0, 0), (15, .iaload, 0, 0), (16, .istore 6, 0, 0), (18, .aload_n 0, 0, 0), (19, .getfield 17, 11, 4), (22, .iload 5, 0, 0), (24, .iconst 2, 0, 0), (25, .iadd, 0, 0), (26, .iaload, 0, 0), (27, .istore 7, 0, 0), (29, .iconst 0, 0, 0), (30, .istore 8, 0, 0), (32, .iload 8, 0, 0), (34, .iload 6, 0, 0), (36, .if_icmp .ge 221, 0, 0), (39, .aload_n 0, 0, 0), (40, .getfield 26, 11, 9), (43, .iload 8, 0, 0), (45, .iaload, 0, 0), (46, .istore 9, 0, 0), (48, .iload 9, 0, 0), (50, .aload_n 0, 0, 0), (51, .getfield 17, 11, 4), (54, .iload 5, 0, 0), (56, .iconst 3, 0, 0), (57, .iadd, 0, 0), (58, .iaload, 0, 0), (59, .if_icmp .lt 7, 0, 0), (62, .iconst 1, 0, 0), (63, .goto 4, 0, 0), (66, .iconst 0, 0, 0), (67, .istore 10, 0, 0), (69, .iload 8, 0, 0), (71, .ifCond .le 23, 0, 0), (74, .aload_n 0, 0, 0), (75, .iload 9, 0, 0), (77, .aload_n 0, 0, 0), (78, .getfield 26, 11, 9), (81, .iload 8, 0, 0), (83, .iconst 1, 0, 0), (84, .isub, 0, 0), (85, .iaload, 0, 0), (86, .iload 7, 0, 0), (88, .invokevirtual 133, 126, 0), (91, .goto 4, 0, 0), (94, .iconst 0, 0, 0), (95, .istore 11, 0, 0), (97, .iload 11, 0, 0), (99, .iload 8, 0, 0), (101, .iload 6, 0, 0), (103, .iconst 1, 0, 0), (104, .isub, 0, 0), (105, .if_icmp .ge 23, 0, 0), (108, .aload_n 0, 0, 0), (109, .iload 9, 0, 0), (111, .aload_n 0, 0, 0), (112, .getfield 26, 11, 9), (115, .iload 8, 0, 0), (117, .iconst 1, 0, 0), (118, .iadd, 0, 0), (119, .iaload, 0, 0), (120, .iload 7, 0, 0), (122, .invokevirtual 133, 126, 0), (125, .goto 13, 0, 0), (128, .aload_n 0, 0, 0), (129, .iload 9, 0, 0), (131, .bipush 20, 0, 0), (133, .iload 7, 0, 0), (135, .invokevirtual 133, 126, 0), (138, .iadd, 0, 0), (139, .istore 11, 0, 0), (141, .iload_n 2, 0, 0), (142, .iload 8, 0, 0), (144, .iconst 1, 0, 0), (145, .iadd, 0, 0), (146, .imul, 0, 0), (147, .aload_n 0, 0, 0), (148, .getfield 17, 11, 4), (151, .iload 5, 0, 0), (153, .iaload, 0, 0), (154, .imul, 0, 0), (155, .aload_n 0, 0, 0), (156, .getfield 17, 11, 4), (159, .iload 5, 0, 0), (161, .iconst 1, 0, 0), (162, .iadd, 0, 0), (163, .iaload, 0, 0), (164, .idiv, 0, 0), (165, .istore 12, 0, 0), (167, .aload_n 0, 0, 0), (168, .getfield 29, 11, 10), (171, .iload 8, 0, 0), (173, .sipush 5000, 0, 0), (176, .iload 9, 0, 0), (178, .iload 11, 0, 0), (180, .isub, 0, 0), (181, .iload 10, 0, 0), (183, .ifCond .eq 10, 0, 0), (186, .iload 12, 0, 0), (188, .iconst 2, 0, 0), (189, .idiv, 0, 0), (190, .goto 5, 0, 0), (193, .iload 12, 0, 0), (195, .iadd, 0, 0), (196, .invokestatic 117, 0, 2), (199, .iastore, 0, 0), (200, .iload 10, 0, 0), (202, .ifCond .eq 49, 0, 0), (205, .aload_n 0, 0, 0), (206, .getfield 35, 11, 12), (209, .iload 8, 0, 0), (211, .ldc 136, 100000, 0), (213, .aload_n 0, 0, 0), (214, .getfield 35, 11, 12), (217, .iload 8, 0, 0), (219, .iaload, 0, 0), (220, .iload_n 3, 0, 0), (221, .iload 9, 0, 0), (223, .aload_n 0, 0, 0), (224, .getfield 17, 11, 4), (227, .iload 5, 0, 0), (229, .iconst 3, 0, 0), (230, .iadd, 0, 0), (231, .iaload, 0, 0), (232, .isub, 0, 0), (233, .iconst 1, 0, 0), (234, .iadd, 0, 0), (235, .imul, 0, 0), (236, .aload_n 0, 0, 0), (237, .getfield 17, 11, 4), (240, .iload 5, 0, 0), (242, .iconst 4, 0, 0), (243, .iadd, 0, 0), (244, .iaload, 0, 0), (245, .idiv, 0, 0), (246, .iadd, 0, 0), (247, .invokestatic 117, 0, 2), (250, .iastore, 0, 0), (251, .iinc 8 1, 0, 0), (254, .goto (-222), 0, 0), (257, .iconst 0, 0, 0), (258, .istore 8, 0, 0), (260, .iload 8, 0, 0), (262, .iload 6, 0, 0), (264, .if_icmp .ge 88, 0, 0), (267, .aload_n 0, 0, 0), (268, .getfield 38, 11, 13), (271, .iload 8, 0, 0), (273, .iload 4, 0, 0), (275, .ifCond .eq 31, 0, 0), (278, .aload_n 0, 0, 0), (279, .getfield 38, 11, 13), (282, .iload 8, 0, 0), (284, .iaload, 0, 0), (285, .aload_n 0, 0, 0), (286, .getfield 26, 11, 9), (289, .iload 8, 0, 0), (291, .iaload, 0, 0), (292, .aload_n 0, 0, 0), (293, .getfield 29, 11, 10), (296, .iload 8, 0, 0), (298, .iaload, 0, 0), (299, .isub, 0, 0), (300, .invokestatic 123, 0, 3), (303, .goto 4, 0, 0), (306, .iconst 0, 0, 0), (307, .iastore, 0, 0), (308, .aload_n 0, 0, 0), (309, .getfield 26, 11, 9), (312, .iload 8, 0, 0), (314, .aload_n 0, 0, 0), (315, .getfield 29, 11, 10), (318, .iload 8, 0, 0), (320, .iaload, 0, 0), (321, .iastore, 0, 0), (322, .aload_n 0, 0, 0), (323, .getfield 32, 11, 11), (326, .iload 8, 0, 0), (328, .aload_n 0, 0, 0), (329, .getfield 32, 11, 11), (332, .iload 8, 0, 0), (334, .iaload, 0, 0), (335, .aload_n 0, 0, 0), (336, .getfield 26, 11, 9), (339, .iload 8, 0, 0), (341, .iaload, 0, 0), (342, .invokestatic 123, 0, 3), (345, .iastore, 0, 0), (346, .iinc 8 1, 0, 0), (349, .goto (-89), 0, 0), (352, .return_, 0, 0)]
def mj_cd128 : List (Nat × Instr × Nat × Nat) := [(0, .iconst 0, 0, 0), (1, .istore_n 2, 0, 0), (2, .iconst 0, 0, 0), (3, .istore_n 3, 0, 0), (4, .iload_n 3, 0, 0), (5, .iload_n 1, 0, 0), (6, .if_icmp .ge 18, 0, 0), (9, .iload_n 2, 0, 0), (10, .aload_n 0, 0, 0), (11, .getfield 35, 11, 12), (14, .iload_n 3, 0, 0), (15, .iaload, 0, 0), (16, .iadd, 0, 0), (17, .istore_n 2, 0, 0), (18, .iinc 3 1, 0, 0), (21, .goto (-17), 0, 0), (24, .iload_n 2, 0, 0), (25, .ireturn, 0, 0)]
def mj_cd129 : List (Nat × Instr × Nat × Nat) := [(0, .iload_n 2, 0, 0), (1, .iconst 1, 0, 0), (2, .invokestatic 137, 125, 0), (5, .istore_n 3, 0, 0), (6, .iload_n 2, 0, 0), (7, .iconst 2, 0, 0), (8, .invokestatic 137, 125, 0), (11, .istore 4, 0, 0), (13, .aload_n 0, 0, 0), (14, .getfield 17, 11, 4), (17, .bipush 9, 0, 0), (19, .iload_n 1, 0, 0), (20, .imul, 0, 0), (21, .bipush 8, 0, 0), (23, .iadd, 0, 0), (24, .iaload, 0, 0), (25, .istore 5, 0, 0), (27, .iconst 0, 0, 0), (28, .istore 6, 0, 0), (30, .iload 6, 0, 0), (32, .bipush 6, 0, 0), (34, .if_icmp .ge 43, 0, 0), (37, .aload_n 0, 0, 0), (38, .getfield 26, 11, 9), (41, .iload 6, 0, 0), (43, .bipush 20, 0, 0), (45, .iastore, 0, 0), (46, .aload_n 0, 0, 0), (47, .getfield 32, 11, 11), (50, .iload 6, 0, 0), (52, .bipush 20, 0, 0), (54, .iastore, 0, 0), (55, .aload_n 0, 0, 0), (56, .getfield 35, 11, 12), (59, .iload 6, 0, 0), (61, .iconst 0, 0, 0), (62, .iastore, 0, 0), (63, .aload_n 0, 0, 0), (64, .getfield 38, 11, 13), (67, .iload 6, 0, 0), (69, .iconst 0, 0, 0), (70, .iastore, 0, 0), (71, .iinc 6 1, 0, 0), (74, .goto (-44), 0, 0), (77, .aload_n 0, 0, 0), (78, .iconst 0, 0, 0), (79, .putfield 140, 11, 14), (82, .aload_n 0, 0, 0), (83, .getfield 140, 11, 14), (86, .bipush 60, 0, 0), (88, .if_icmp .ge 51, 0, 0), (91, .aload_n 0, 0, 0), (92, .getfield 140, 11, 14), (95, .ifCond .eq 17, 0, 0), (98, .aload_n 0, 0, 0), (99, .iload 5, 0, 0), (101, .invokevirtual 143, 128, 0), (104, .bipush 20, 0, 0), (106, .iload 4, 0, 0), (108, .imul, 0, 0), (109, .if_icmp .ge 30, 0, 0), (112, .aload_n 0, 0, 0), (113, .iload_n 1, 0, 0), (114, .iload_n 2, 0, 0), (115, .iconst 0, 0, 0), (116, .invokestatic 137, 125, 0), (119, .iload_n 3, 0, 0), (120, .imul, 0, 0), (121, .iload_n 3, 0, 0), (122, .iconst 0, 0, 0), (123, .invokevirtual 147, 127, 0), (126, .aload_n 0, 0, 0), (127, .dup, 0, 0), (128, .getfield 140, 11, 14), (131, .iconst 1, 0, 0), (132, .iadd, 0, 0), (133, .putfield 140, 11, 14), (136, .goto (-54), 0, 0), (139, .aload_n 0, 0, 0), (140, .aload_n 0, 0, 0), (141, .iload 5, 0, 0), (143, .invokevirtual 143, 128, 0), (146, .bipush 20, 0, 0), (148, .iload 4, 0, 0), (150, .imul, 0, 0), (151, .if_icmp .ge 7, 0, 0), (154, .iconst 1, 0, 0), (155, .goto 4, 0, 0), (158, .iconst 0, 0, 0), (159, .putfield 151, 11, 15), (162, .iconst 0, 0, 0), (163, .istore 6, 0, 0), (165, .iload 6, 0, 0), (167, .iconst 5, 0, 0), (168, .if_icmp .ge 19, 0, 0), (171, .aload_n 0, 0, 0), (172, .iload_n 1, 0, 0), (173, .iconst 0, 0, 0), (174, .iconst 2, 0, 0), (175, .iload_n 3, 0, 0), (176, .imul, 0, 0), (177, .iconst 0, 0, 0), (178, .invokevirtual 147, 127, 0), (181, .iinc 6 1, 0, 0), (184, .goto (-19), 0, 0), (187, .iconst 0, 0, 0), (188, .istore 6, 0, 0), (190, .iload 6, 0, 0), (192, .bipush 30, 0, 0), (194, .if_icmp .ge 17, 0, 0), (197, .aload_n 0, 0, 0), (198, .iload_n 1, 0, 0), (199, .iconst 0, 0, 0), (200, .iconst 0, 0, 0), (201, .iconst 1, 0, 0), (202, .invokevirtual 147, 127, 0), (205, .iinc 6 1, 0, 0), (208, .goto (-18), 0, 0), (211, .return_, 0, 0)]
def mj_cd130 : List (Nat × Instr × Nat × Nat) := [(0, .aload_n 0, 0, 0), (1, .iload_n 1, 0, 0), (2, .iload_n 2, 0, 0), (3, .invokevirtual 155, 129, 0), (6, .aload_n 0, 0, 0), (7, .iconst (-1), 0, 0), (8, .putfield 159, 11, 17), (11, .aload_n 0, 0, 0), (12, .getfield 151, 11, 15), (15, .ifCond .eq 5, 0, 0), (18, .iconst 1, 0, 0), (19, .ireturn, 0, 0), (20, .bipush 9, 0, 0), (22, .iload_n 1, 0, 0), (23, .imul, 0, 0), (24, .istore_n 3, 0, 0), (25, .iconst 0, 0, 0), (26, .istore 4, 0, 0), (28, .iload 4, 0, 0), (30, .aload_n 0, 0, 0), (31, .getfield 17, 11, 4), (34, .iload_n 3, 0, 0), (35, .bipush 8, 0, 0), (37, .iadd, 0, 0), (38, .iaload, 0, 0), (39, .if_icmp .ge 77, 0, 0), (42, .aload_n 0, 0, 0), (43, .iload 4, 0, 0), (45, .putfield 159, 11, 17), (48, .aload_n 0, 0, 0), (49, .getfield 32, 11, 11), (52, .iload 4, 0, 0), (54, .iaload, 0, 0), (55, .aload_n 0, 0, 0), (56, .getfield 17, 11, 4), (59, .iload_n 3, 0, 0), (60, .iconst 5, 0, 0), (61, .iadd, 0, 0), (62, .iaload, 0, 0), (63, .if_icmp .ge 5, 0, 0), (66, .iconst 2, 0, 0), (67, .ireturn, 0, 0), (68, .aload_n 0, 0, 0), (69, .getfield 35, 11, 12), (72, .iload 4, 0, 0), (74, .iaload, 0, 0), (75, .aload_n 0, 0, 0), (76, .getfield 17, 11, 4), (79, .iload_n 3, 0, 0), (80, .bipush 6, 0, 0), (82, .iadd, 0, 0), (83, .iaload, 0, 0), (84, .if_icmp .ge 5, 0, 0), (87, .iconst 3, 0, 0), (88, .ireturn, 0, 0), (89, .aload_n 0, 0, 0), (90, .getfield 38, 11, 13), (93, .iload 4, 0, 0), (95, .iaload, 0, 0), (96, .aload_n 0, 0, 0), (97, .getfield 17, 11, 4), (100, .iload_n 3, 0, 0), (101, .bipush 7, 0, 0), (103, .iadd, 0, 0), (104, .iaload, 0, 0), (105, .if_icmp .le 5, 0, 0), (108, .iconst 4, 0, 0), (109, .ireturn, 0, 0), (110, .iinc 4 1, 0, 0), (113, .goto (-85), 0, 0), (116, .aload_n 0, 0, 0), (117, .iconst (-1), 0, 0), (118, .putfield 159, 11, 17), (121, .iconst 0, 0, 0), (122, .ireturn, 0, 0)]
def mj_cd131 : List (Nat × Instr × Nat × Nat) := [(0, .sipush 729, 0, 0), (3, .iload_n 1, 0, 0), (4, .imul, 0, 0), (5, .iload_n 2, 0, 0), (6, .iadd, 0, 0), (7, .istore_n 3, 0, 0), (8, .aload_n 0, 0, 0), (9, .getfield 41, 11, 16), (12, .iload_n 3, 0, 0), (13, .iaload, 0, 0), (14, .iconst (-1), 0, 0), (15, .if_icmp .ne 15, 0, 0), (18, .aload_n 0, 0, 0), (19, .getfield 41, 11, 16), (22, .iload_n 3, 0, 0), (23, .aload_n 0, 0, 0), (24, .iload_n 1, 0, 0), (25, .iload_n 2, 0, 0), (26, .invokevirtual 162, 130, 0), (29, .iastore, 0, 0), (30, .aload_n 0, 0, 0), (31, .getfield 41, 11, 16), (34, .iload_n 3, 0, 0), (35, .iaload, 0, 0), (36, .ireturn, 0, 0)]
def mj_cd132 : List (Nat × Instr × Nat × Nat) := [(0, .aload_n 0, 0, 0), (1, .iload_n 1, 0, 0), (2, .invokevirtual 126, 117, 0), (5, .ifCond .eq 14, 0, 0), (8, .iload_n 2, 0, 0), (9, .invokestatic 165, 118, 0), (12, .ifCond .eq 7, 0, 0), (15, .iconst 1, 0, 0), (16, .goto 4, 0, 0), (19, .iconst 0, 0, 0), (20, .ireturn, 0, 0)]
def mj_cd133 : List (Nat × Instr × Nat × Nat) := [(0, .aload_n 0, 0, 0), (1, .iload_n 1, 0, 0), (2, .iload_n 2, 0, 0), (3, .invokevirtual 168, 132, 0), (6, .ifCond .eq 12, 0, 0), (9, .aload_n 0, 0, 0), (10, .iload_n 1, 0, 0), (11, .iload_n 2, 0, 0), (12, .invokevirtual 172, 131, 0), (15, .goto 4, 0, 0), (18, .iconst (-1), 0, 0), (19, .ireturn, 0, 0)]
def mj_cd134 : List (Nat × Instr × Nat × Nat) := [(0, .aload_n 0, 0, 0), (1, .iload_n 1, 0, 0), (2, .iload_n 2, 0, 0), (3, .invokevirtual 168, 132, 0), (6, .ifCond .eq 35, 0, 0), (9, .iload_n 3, 0, 0), (10, .iconst 0, 0, 0), (11, .aload_n 0, 0, 0), (12, .getfield 17, 11, 4), (15, .bipush 9, 0, 0), (17, .iload_n 1, 0, 0), (18, .imul, 0, 0), (19, .bipush 8, 0, 0), (21, .iadd, 0, 0), (22, .iaload, 0, 0), (23, .iconst 1, 0, 0), (24, .isub, 0, 0), (25, .invokestatic 100, 112, 0), (28, .ifCond .eq 13, 0, 0), (31, .iload 4, 0, 0), (33, .iconst 0, 0, 0), (34, .iconst 3, 0, 0), (35, .invokestatic 100, 112, 0), (38, .ifCond .ne 6, 0, 0), (41, .ldc 175, 4293967296, 0), (43, .ireturn, 0, 0), (44, .aload_n 0, 0, 0), (45, .iload_n 1, 0, 0), (46, .iload_n 2, 0, 0), (47, .invokevirtual 155, 129, 0), (50, .iload 4, 0, 0), (52, .ifCond .ne 12, 0, 0), (55, .aload_n 0, 0, 0), (56, .getfield 26, 11, 9), (59, .iload_n 3, 0, 0), (60, .iaload, 0, 0), (61, .goto 39, 0, 0), (64, .iload 4, 0, 0), (66, .iconst 1, 0, 0), (67, .if_icmp .ne 12, 0, 0), (70, .aload_n 0, 0, 0), (71, .getfield 32, 11, 11), (74, .iload_n 3, 0, 0), (75, .iaload, 0, 0), (76, .goto 24, 0, 0), (79, .iload 4, 0, 0), (81, .iconst 2, 0, 0), (82, .if_icmp .ne 12, 0, 0), (85, .aload_n 0, 0, 0), (86, .getfield 35, 11, 12), (89, .iload_n 3, 0, 0), (90, .iaload, 0, 0), (91, .goto 9, 0, 0), (94, .aload_n 0, 0, 0), (95, .getfield 38, 11, 13), (98, .iload_n 3, 0, 0), (99, .iaload, 0, 0), (100, .ireturn, 0, 0)]
def mj_cd135 : List (Nat × Instr × Nat × Nat) := [(0, .aload_n 0, 0, 0), (1, .iload_n 1, 0, 0), (2, .iload_n 2, 0, 0), (3, .invokevirtual 168, 132, 0), (6, .ifCond .ne 5, 0, 0), (9, .iconst (-1), 0, 0), (10, .ireturn, 0, 0), (11, .aload_n 0, 0, 0), (12, .iload_n 1, 0, 0), (13, .iload_n 2, 0, 0), (14, .invokevirtual 162, 130, 0), (17, .pop, 0, 0), (18, .aload_n 0, 0, 0), (19, .getfield 159, 11, 17), (22, .ireturn, 0, 0)]
def mj_cd136 : List (Nat × Instr × Nat × Nat) := [(0, .aload_n 0, 0, 0), (1, .iload_n 1, 0, 0), (2, .iload_n 2, 0, 0), (3, .invokevirtual 168, 132, 0), (6, .ifCond .ne 5, 0, 0), (9, .iconst (-1), 0, 0), (10, .ireturn, 0, 0), (11, .aload_n 0, 0, 0), (12, .iload_n 1, 0, 0), (13, .iload_n 2, 0, 0), (14, .invokevirtual 155, 129, 0), (17, .aload_n 0, 0, 0), (18, .getfield 140, 11, 14), (21, .ireturn, 0, 0)]
def mj_cd137 : List (Nat × Instr × Nat × Nat) := [(0, .iload_n 1, 0, 0), (1, .iconst 0, 0, 0), (2, .aload_n 0, 0, 0), (3, .getfield 176, 11, 21), (6, .iconst 1, 0, 0), (7, .isub, 0, 0), (8, .invokestatic 100, 112, 0), (11, .ireturn, 0, 0)]
def mj_cd138 : List (Nat × Instr × Nat × Nat) := [(0, .aload_n 0, 0, 0), (1, .iload_n 1, 0, 0), (2, .invokevirtual 126, 117, 0), (5, .ifCond .eq 26, 0, 0), (8, .iload_n 2, 0, 0), (9, .invokestatic 165, 118, 0), (12, .ifCond .eq 19, 0, 0), (15, .iload_n 3, 0, 0), (16, .invokestatic 165, 118, 0), (19, .ifCond .eq 12, 0, 0), (22, .aload_n 0, 0, 0), (23, .getfield 176, 11, 21), (26, .bipush 10, 0, 0), (28, .if_icmp .ne 5, 0, 0), (31, .iconst (-1), 0, 0), (32, .ireturn, 0, 0), (33, .iconst 0, 0, 0), (34, .istore 4, 0, 0), (36, .iload 4, 0, 0), (38, .iconst 3, 0, 0), (39, .if_icmp .ge 32, 0, 0), (42, .iload_n 3, 0, 0), (43, .iload 4, 0, 0), (45, .invokestatic 137, 125, 0), (48, .iload_n 2, 0, 0), (49, .iload 4, 0, 0), (51, .invokestatic 137, 125, 0), (54, .isub, 0, 0), (55, .iconst 0, 0, 0), (56, .iconst 5, 0, 0), (57, .invokestatic 100, 112, 0), (60, .ifCond .ne 5, 0, 0), (63, .iconst (-1), 0, 0), (64, .ireturn, 0, 0), (65, .iinc 4 1, 0, 0), (68, .goto (-32), 0, 0), (71, .aload_n 0, 0, 0), (72, .getfield 44, 11, 18), (75, .aload_n 0, 0, 0), (76, .getfield 176, 11, 21), (79, .iload_n 1, 0, 0), (80, .iastore, 0, 0), (81, .iconst 0, 0, 0), (82, .istore 4, 0, 0), (84, .iload 4, 0, 0), (86, .iconst 3, 0, 0), (87, .if_icmp .ge 49, 0, 0), (90, .aload_n 0, 0, 0), (91, .getfield 47, 11, 19), (94, .iconst 3, 0, 0), (95, .aload_n 0, 0, 0), (96, .getfield 176, 11, 21), (99, .imul, 0, 0), (100, .iload 4, 0, 0), (102, .iadd, 0, 0), (103, .iload_n 2, 0, 0), (104, .iload 4, 0, 0), (106, .invokestatic 137, 125, 0), (109, .iastore, 0, 0), (110, .aload_n 0, 0, 0), (111, .getfield 50, 11, 20), (114, .iconst 3, 0, 0), (115, .aload_n 0, 0, 0), (116, .getfield 176, 11, 21), (119, .imul, 0, 0), (120, .iload 4, 0, 0), (122, .iadd, 0, 0), (123, .iload_n 3, 0, 0), (124, .iload 4, 0, 0), (126, .invokestatic 137, 125, 0), (129, .iastore, 0, 0), (130, .iinc 4 1, 0, 0), (133, .goto (-49), 0, 0), (136, .aload_n 0, 0, 0), (137, .dup, 0, 0), (138, .getfield 176, 11, 21), (141, .iconst 1, 0, 0), (142, .iadd, 0, 0), (143, .putfield 176, 11, 21), (146, .aload_n 0, 0, 0), (147, .getfield 176, 11, 21), (150, .iconst 1, 0, 0), (151, .isub, 0, 0), (152, .ireturn, 0, 0)]
def mj_cd139 : List (Nat × Instr × Nat × Nat) := [(0, .iload_n 0, 0, 0), (1, .bipush 6, 0, 0), (3, .imul, 0, 0), (4, .iload_n 1, 0, 0), (5, .iadd, 0, 0), (6, .bipush 6, 0, 0), (8, .imul, 0, 0), (9, .iload_n 2, 0, 0), (10, .iadd, 0, 0), (11, .bipush 6, 0, 0), (13, .imul, 0, 0), (14, .iload_n 3, 0, 0), (15, .iadd, 0, 0), (16, .bipush 6, 0, 0), (18, .imul, 0, 0), (19, .iload 4, 0, 0), (21, .iadd, 0, 0), (22, .bipush 6, 0, 0), (24, .imul, 0, 0), (25, .iload 5, 0, 0), (27, .iadd, 0, 0), (28, .ireturn, 0, 0)]
def mj_cd140 : List (Nat × Instr × Nat × Nat) := [(0, .aload_n 0, 0, 0), (1, .aload_n 0, 0, 0), (2, .getfield 44, 11, 18), (5, .aload_n 0, 0, 0), (6, .getfield 179, 11, 22), (9, .iaload, 0, 0), (10, .aload_n 0, 0, 0), (11, .getfield 47, 11, 19), (14, .iconst 3, 0, 0), (15, .aload_n 0, 0, 0), (16, .getfield 179, 11, 22), (19, .imul, 0, 0), (20, .iaload, 0, 0), (21, .iload_n 1, 0, 0), (22, .iadd, 0, 0), (23, .aload_n 0, 0, 0), (24, .getfield 47, 11, 19), (27, .iconst 3, 0, 0), (28, .aload_n 0, 0, 0), (29, .getfield 179, 11, 22), (32, .imul, 0, 0), (33, .iconst 1, 0, 0), (34, .iadd, 0, 0), (35, .iaload, 0, 0), (36, .iload_n 2, 0, 0), (37, .iadd, 0, 0), (38, .aload_n 0, 0, 0), (39, .getfield 47, 11, 19), (42, .iconst 3, 0, 0), (43, .aload_n 0, 0, 0), (44, .getfield 179, 11, 22), (47, .imul, 0, 0), (48, .iconst 2, 0, 0), (49, .iadd, 0, 0), (50, .iaload, 0, 0), (51, .iload_n 3, 0, 0), (52, .iadd, 0, 0), (53, .invokestatic 129, 124, 0), (56, .invokevirtual 172, 131, 0), (59, .ifCond .ne 7, 0, 0), (62, .iconst 1, 0, 0), (63, .goto 4, 0, 0), (66, .iconst 0, 0, 0), (67, .ireturn, 0, 0)]
def mj_cd141 : List (Nat × Instr × Nat × Nat) := [(0, .iconst 0, 0, 0), (1, .istore 7, 0, 0), (3, .iload_n 1, 0, 0), (4, .istore 8, 0, 0), (6, .iload 8, 0, 0), (8, .iload_n 2, 0, 0), (9, .if_icmp .gt 65, 0, 0), (12, .iload_n 3, 0, 0), (13, .istore 9, 0, 0), (15, .iload 9, 0, 0), (17, .iload 4, 0, 0), (19, .if_icmp .gt 49, 0, 0), (22, .iload 5, 0, 0), (24, .istore 10, 0, 0), (26, .iload 10, 0, 0), (28, .iload 6, 0, 0), (30, .if_icmp .gt 32, 0, 0), (33, .iload 7, 0, 0), (35, .aload_n 0, 0, 0), (36, .iload 8, 0, 0), (38, .iload 9, 0, 0), (40, .iload 10, 0, 0), (42, .invokevirtual 182, 140, 0), (45, .ifCond .eq 7, 0, 0), (48, .iconst 1, 0, 0), (49, .goto 4, 0, 0), (52, .iconst 0, 0, 0), (53, .iadd, 0, 0), (54, .istore 7, 0, 0), (56, .iinc 10 1, 0, 0), (59, .goto (-33), 0, 0), (62, .iinc 9 1, 0, 0), (65, .goto (-50), 0, 0), (68, .iinc 8 1, 0, 0), (71, .goto (-65), 0, 0), (74, .iload 7, 0, 0), (76, .ireturn, 0, 0)]
def mj_cd142 : List (Nat × Instr × Nat × Nat) := [(0, .iload_n 1, 0, 0), (1, .iload_n 0, 0, 0), (2, .isub, 0, 0), (3, .iconst 1, 0, 0), (4, .iadd, 0, 0), (5, .iload_n 3, 0, 0), (6, .iload_n 2, 0, 0), (7, .isub, 0, 0), (8, .iconst 1, 0, 0), (9, .iadd, 0, 0), (10, .imul, 0, 0), (11, .iload 5, 0, 0), (13, .iload 4, 0, 0), (15, .isub, 0, 0), (16, .iconst 1, 0, 0), (17, .iadd, 0, 0), (18, .imul, 0, 0), (19, .ireturn, 0, 0)]
def mj_cd143 : List (Nat × Instr × Nat × Nat) := [(0, .aload_n 0, 0, 0), (1, .getfield 50, 11, 20), (4, .iconst 3, 0, 0), (5, .aload_n 0, 0, 0), (6, .getfield 179, 11, 22), (9, .imul, 0, 0), (10, .iload_n 1, 0, 0), (11, .iadd, 0, 0), (12, .iaload, 0, 0), (13, .aload_n 0, 0, 0), (14, .getfield 47, 11, 19), (17, .iconst 3, 0, 0), (18, .aload_n 0, 0, 0), (19, .getfield 179, 11, 22), (22, .imul, 0, 0), (23, .iload_n 1, 0, 0), (24, .iadd, 0, 0), (25, .iaload, 0, 0), (26, .isub, 0, 0), (27, .ireturn, 0, 0)]
def mj_cd144 : List (Nat × Instr × Nat × Nat) := [(0, .aload_n 0, 0, 0), (1, .iload_n 1, 0, 0), (2, .invokevirtual 185, 137, 0), (5, .ifCond .ne 5, 0, 0), (8, .iconst (-1), 0, 0), (9, .ireturn, 0, 0), (10, .aload_n 0, 0, 0), (11, .iload_n 1, 0, 0), (12, .putfield 179, 11, 22), (15, .aload_n 0, 0, 0), (16, .iconst 0, 0, 0), (17, .aload_n 0, 0, 0), (18, .iconst 0, 0, 0), (19, .invokevirtual 188, 143, 0), (22, .iconst 0, 0, 0), (23, .aload_n 0, 0, 0), (24, .iconst 1, 0, 0), (25, .invokevirtual 188, 143, 0), (28, .iconst 0, 0, 0), (29, .aload_n 0, 0, 0), (30, .iconst 2, 0, 0), (31, .invokevirtual 188, 143, 0), (34, .invokevirtual 191, 141, 0), (37, .ireturn, 0, 0)]
def mj_cd145 : List (Nat × Instr × Nat × Nat) := [(0, .iload_n 1, 0, 0), (1, .iload_n 2, 0, 0), (2, .iload_n 3, 0, 0), (3, .iload 4, 0, 0), (5, .iload 5, 0, 0), (7, .iload 6, 0, 0), (9, .invokestatic 195, 139, 0), (12, .istore 7, 0, 0), (14, .aload_n 0, 0, 0), (15, .getfield 54, 11, 23), (18, .iload 7, 0, 0), (20, .iaload, 0, 0), (21, .ifCond .le 11, 0, 0), (24, .aload_n 0, 0, 0), (25, .getfield 54, 11, 23), (28, .iload 7, 0, 0), (30, .iaload, 0, 0), (31, .ireturn, 0, 0), (32, .aload_n 0, 0, 0), (33, .iload_n 1, 0, 0), (34, .iload_n 2, 0, 0), (35, .iload_n 3, 0, 0), (36, .iload 4, 0, 0), (38, .iload 5, 0, 0), (40, .iload 6, 0, 0), (42, .invokevirtual 191, 141, 0), (45, .istore 8, 0, 0), (47, .iload 8, 0, 0), (49, .ifCond .eq 20, 0, 0), (52, .iload 8, 0, 0), (54, .iload_n 1, 0, 0), (55, .iload_n 2, 0, 0), (56, .iload_n 3, 0, 0), (57, .iload 4, 0, 0), (59, .iload 5, 0, 0), (61, .iload 6, 0, 0), (63, .invokestatic 198, 142, 0), (66, .if_icmp .ne 30, 0, 0), (69, .aload_n 0, 0, 0), (70, .getfield 57, 11, 24), (73, .iload 7, 0, 0), (75, .iload 8, 0, 0), (77, .ifCond .ne 7, 0, 0), (80, .iconst 1, 0, 0), (81, .goto 4, 0, 0), (84, .iconst 0, 0, 0), (85, .iastore, 0, 0), (86, .aload_n 0, 0, 0), (87, .getfield 54, 11, 23), (90, .iload 7, 0, 0), (92, .iconst 1, 0, 0), (93, .iastore, 0, 0), (94, .iconst 1, 0, 0), (95, .ireturn, 0, 0), (96, .sipush 1000, 0, 0), (99, .istore 9, 0, 0), (101, .iload_n 1, 0, 0), (102, .istore 10, 0, 0), (104, .iload 10, 0, 0), (106, .iload_n 2, 0, 0), (107, .if_icmp .ge 56, 0, 0), (110, .aload_n 0, 0, 0), (111, .iload 7, 0, 0), (113, .iload 9, 0, 0), (115, .iconst 2, 0, 0), (116, .iload 10, 0, 0), (118, .iadd, 0, 0), (119, .iload_n 1, 0, 0), (120, .isub, 0, 0), (121, .aload_n 0, 0, 0), (122, .iload_n 1, 0, 0), (123, .iload 10, 0, 0), (125, .iload_n 3, 0, 0), (126, .iload 4, 0, 0), (128, .iload 5, 0, 0), (130, .iload 6, 0, 0), (132, .invokevirtual 201, 145, 0), (135, .aload_n 0, 0, 0), (136, .iload 10, 0, 0), (138, .iconst 1, 0, 0), (139, .iadd, 0, 0), (140, .iload_n 2, 0, 0), (141, .iload_n 3, 0, 0), (142, .iload 4, 0, 0), (144, .iload 5, 0, 0), (146, .iload 6, 0, 0), (148, .invokevirtual 201, 145, 0), (151, .iadd, 0, 0), (152, .invokevirtual 204, 146, 0), (155, .istore 9, 0, 0), (157, .iinc 10 1, 0, 0), (160, .goto (-56), 0, 0), (163, .iload_n 3, 0, 0), (164, .istore 10, 0, 0), (166, .iload 10, 0, 0), (168, .iload 4, 0, 0), (170, .if_icmp .ge 56, 0, 0), (173, .aload_n 0, 0, 0), (174, .iload 7, 0, 0), (176, .iload 9, 0, 0), (178, .bipush 10, 0, 0), (180, .iload 10, 0, 0), (182, .iadd, 0, 0), (183, .iload_n 3, 0, 0), (184, .isub, 0, 0), (185, .aload_n 0, 0, 0), (186, .iload_n 1, 0, 0), (187, .iload_n 2, 0, 0), (188, .iload_n 3, 0, 0), (189, .iload 10, 0, 0), (191, .iload 5, 0, 0), (193, .iload 6, 0, 0), (195, .invokevirtual 201, 145, 0), (198, .aload_n 0, 0, 0), (199, .iload_n 1, 0, 0), (200, .iload_n 2, 0, 0), (201, .iload 10, 0, 0), (203, .iconst 1, 0, 0), (204, .iadd, 0, 0), (205, .iload 4, 0, 0), (207, .iload 5, 0, 0), (209, .iload 6, 0, 0), (211, .invokevirtual 201, 145, 0), (214, .iadd, 0, 0), (215, .invokevirtual 204, 146, 0), (218, .istore 9, 0, 0), (220, .iinc 10 1, 0, 0), (223, .goto (-57), 0, 0), (226, .iload 5, 0, 0), (228, .istore 10, 0, 0), (230, .iload 10, 0, 0), (232, .iload 6, 0, 0), (234, .if_icmp .ge 56, 0, 0), (237, .aload_n 0, 0, 0), (238, .iload 7, 0, 0), (240, .iload 9, 0, 0), (242, .bipush 18, 0, 0), (244, .iload 10, 0, 0), (246, .iadd, 0, 0), (247, .iload 5, 0, 0), (249, .isub, 0, 0), (250, .aload_n 0, 0, 0), (251, .iload_n 1, 0, 0), (252, .iload_n 2, 0, 0), (253, .iload_n 3, 0, 0), (254, .iload 4, 0, 0), (256, .iload 5, 0, 0), (258, .iload 10, 0, 0), (260, .invokevirtual 201, 145, 0), (263, .aload_n 0, 0, 0), (264, .iload_n 1, 0, 0), (265, .iload_n 2, 0, 0), (266, .iload_n 3, 0, 0), (267, .iload 4, 0, 0), (269, .iload 10, 0, 0), (271, .iconst 1, 0, 0), (272, .iadd, 0, 0), (273, .iload 6, 0, 0), (275, .invokevirtual 201, 145, 0), (278, .iadd, 0, 0), (279, .invokevirtual 204, 146, 0), (282, .istore 9, 0, 0), (284, .iinc 10 1, 0, 0), (287, .goto (-57), 0, 0), (290, .aload_n 0, 0, 0), (291, .getfield 54, 11, 23), (294, .iload 7, 0, 0), (296, .iload 9, 0, 0), (298, .iastore, 0, 0), (299, .iload 9, 0, 0), (301, .ireturn, 0, 0)]
def mj_cd146 : List (Nat × Instr × Nat × Nat) := [(0, .aload_n 0, 0, 0), (1, .getfield 57, 11, 24), (4, .iload_n 1, 0, 0), (5, .iload 4, 0, 0), (7, .iload_n 2, 0, 0), (8, .if_icmp .ge 7, 0, 0), (11, .iload_n 3, 0, 0), (12, .goto 9, 0, 0), (15, .aload_n 0, 0, 0), (16, .getfield 57, 11, 24), (19, .iload_n 1, 0, 0), (20, .iaload, 0, 0), (21, .iastore, 0, 0), (22, .iload 4, 0, 0), (24, .iload_n 2, 0, 0), (25, .invokestatic 117, 0, 2), (28, .ireturn, 0, 0)]
def mj_cd147 : List (Nat × Instr × Nat × Nat) := [(0, .aload_n 0, 0, 0), (1, .iload_n 1, 0, 0), (2, .putfield 179, 11, 22), (5, .iconst 0, 0, 0), (6, .istore_n 2, 0, 0), (7, .iload_n 2, 0, 0), (8, .ldc 53, 46656, 0), (10, .if_icmp .ge 16, 0, 0), (13, .aload_n 0, 0, 0), (14, .getfield 54, 11, 23), (17, .iload_n 2, 0, 0), (18, .iconst 0, 0, 0), (19, .iastore, 0, 0), (20, .iinc 2 1, 0, 0), (23, .goto (-16), 0, 0), (26, .aload_n 0, 0, 0), (27, .iconst 0, 0, 0), (28, .aload_n 0, 0, 0), (29, .iconst 0, 0, 0), (30, .invokevirtual 188, 143, 0), (33, .iconst 0, 0, 0), (34, .aload_n 0, 0, 0), (35, .iconst 1, 0, 0), (36, .invokevirtual 188, 143, 0), (39, .iconst 0, 0, 0), (40, .aload_n 0, 0, 0), (41, .iconst 2, 0, 0), (42, .invokevirtual 188, 143, 0), (45, .invokevirtual 201, 145, 0), (48, .ireturn, 0, 0)]
def mj_cd148 : List (Nat × Instr × Nat × Nat) := [(0, .aload_n 0, 0, 0), (1, .iload_n 1, 0, 0), (2, .invokevirtual 185, 137, 0), (5, .ifCond .eq 11, 0, 0), (8, .aload_n 0, 0, 0), (9, .iload_n 1, 0, 0), (10, .invokevirtual 208, 147, 0), (13, .goto 4, 0, 0), (16, .iconst (-1), 0, 0), (17, .ireturn, 0, 0)]
def mj_cd149 : List (Nat × Instr × Nat × Nat) := [(0, .aload_n 0, 0, 0), (1, .getfield 57, 11, 24), (4, .iload_n 1, 0, 0), (5, .iload_n 2, 0, 0), (6, .iload_n 3, 0, 0), (7, .iload 4, 0, 0), (9, .iload 5, 0, 0), (11, .iload 6, 0, 0), (13, .invokestatic 195, 139, 0), (16, .iaload, 0, 0), (17, .istore 7, 0, 0), (19, .aload_n 0, 0, 0), (20, .getfield 60, 11, 25), (23, .aload_n 0, 0, 0), (24, .getfield 211, 11, 26), (27, .iload 7, 0, 0), (29, .iastore, 0, 0), (30, .aload_n 0, 0, 0), (31, .dup, 0, 0), (32, .getfield 211, 11, 26), (35, .iconst 1, 0, 0), (36, .iadd, 0, 0), (37, .putfield 211, 11, 26), (40, .iload 7, 0, 0), (42, .iconst 2, 0, 0), (43, .if_icmp .ge 4, 0, 0), (46, .return_, 0, 0), (47, .iload 7, 0, 0), (49, .iconst 2, 0, 0), (50, .isub, 0, 0), (51, .bipush 8, 0, 0), (53, .irem, 0, 0), (54, .istore 8, 0, 0), (56, .iload 7, 0, 0), (58, .bipush 10, 0, 0), (60, .if_icmp .ge 40, 0, 0), (63, .aload_n 0, 0, 0), (64, .iload_n 1, 0, 0), (65, .iload_n 1, 0, 0), (66, .iload 8, 0, 0), (68, .iadd, 0, 0), (69, .iload_n 3, 0, 0), (70, .iload 4, 0, 0), (72, .iload 5, 0, 0), (74, .iload 6, 0, 0), (76, .invokevirtual 214, 149, 0), (79, .aload_n 0, 0, 0), (80, .iload_n 1, 0, 0), (81, .iload 8, 0, 0), (83, .iadd, 0, 0), (84, .iconst 1, 0, 0), (85, .iadd, 0, 0), (86, .iload_n 2, 0, 0), (87, .iload_n 3, 0, 0), (88, .iload 4, 0, 0), (90, .iload 5, 0, 0), (92, .iload 6, 0, 0), (94, .invokevirtual 214, 149, 0), (97, .goto 80, 0, 0), (100, .iload 7, 0, 0), (102, .bipush 18, 0, 0), (104, .if_icmp .ge 39, 0, 0), (107, .aload_n 0, 0, 0), (108, .iload_n 1, 0, 0), (109, .iload_n 2, 0, 0), (110, .iload_n 3, 0, 0), (111, .iload_n 3, 0, 0), (112, .iload 8, 0, 0), (114, .iadd, 0, 0), (115, .iload 5, 0, 0), (117, .iload 6, 0, 0), (119, .invokevirtual 214, 149, 0), (122, .aload_n 0, 0, 0), (123, .iload_n 1, 0, 0), (124, .iload_n 2, 0, 0), (125, .iload_n 3, 0, 0), (126, .iload 8, 0, 0), (128, .iadd, 0, 0), (129, .iconst 1, 0, 0), (130, .iadd, 0, 0), (131, .iload 4, 0, 0), (133, .iload 5, 0, 0), (135, .iload 6, 0, 0), (137, .invokevirtual 214, 149, 0), (140, .goto 37, 0, 0), (143, .aload_n 0, 0, 0), (144, .iload_n 1, 0, 0), (145, .iload_n 2, 0, 0), (146, .iload_n 3, 0, 0), (147, .iload 4, 0, 0), (149, .iload 5, 0, 0), (151, .iload 5, 0, 0), (153, .iload 8, 0, 0), (155, .iadd, 0, 0), (156, .invokevirtual 214, 149, 0), (159, .aload_n 0, 0, 0), (160, .iload_n 1, 0, 0), (161, .iload_n 2, 0, 0), (162, .iload_n 3, 0, 0), (163, .iload 4, 0, 0), (165, .iload 5, 0, 0), (167, .iload 8, 0, 0), (169, .iadd, 0, 0), (170, .iconst 1, 0, 0), (171, .iadd, 0, 0), (172, .iload 6, 0, 0), (174, .invokevirtual 214, 149, 0), (177, .return_, 0, 0)]
def mj_cd150 : List (Nat × Instr × Nat × Nat) := [(0, .aload_n 0, 0, 0), (1, .iload_n 1, 0, 0), (2, .invokevirtual 208, 147, 0), (5, .pop, 0, 0), (6, .aload_n 0, 0, 0), (7, .iconst 0, 0, 0), (8, .putfield 211, 11, 26), (11, .aload_n 0, 0, 0), (12, .iconst 0, 0, 0), (13, .aload_n 0, 0, 0), (14, .iconst 0, 0, 0), (15, .invokevirtual 188, 143, 0), (18, .iconst 0, 0, 0), (19, .aload_n 0, 0, 0), (20, .iconst 1, 0, 0), (21, .invokevirtual 188, 143, 0), (24, .iconst 0, 0, 0), (25, .aload_n 0, 0, 0), (26, .iconst 2, 0, 0), (27, .invokevirtual 188, 143, 0), (30, .invokevirtual 214, 149, 0), (33, .return_, 0, 0)]
def mj_cd151 : List (Nat × Instr × Nat × Nat) := [(0, .aload_n 0, 0, 0), (1, .iload_n 1, 0, 0), (2, .invokevirtual 185, 137, 0), (5, .ifCond .ne 5, 0, 0), (8, .iconst (-1), 0, 0), (9, .ireturn, 0, 0), (10, .aload_n 0, 0, 0), (11, .iload_n 1, 0, 0), (12, .invokevirtual 218, 150, 0), (15, .iload_n 2, 0, 0), (16, .iconst (-1), 0, 0), (17, .if_icmp .ne 10, 0, 0), (20, .aload_n 0, 0, 0), (21, .getfield 211, 11, 26), (24, .goto 27, 0, 0), (27, .iload_n 2, 0, 0), (28, .iconst 0, 0, 0), (29, .aload_n 0, 0, 0), (30, .getfield 211, 11, 26), (33, .iconst 1, 0, 0), (34, .isub, 0, 0), (35, .invokestatic 100, 112, 0), (38, .ifCond .eq 12, 0, 0), (41, .aload_n 0, 0, 0), (42, .getfield 60, 11, 25), (45, .iload_n 2, 0, 0), (46, .iaload, 0, 0), (47, .goto 4, 0, 0), (50, .iconst (-1), 0, 0), (51, .ireturn, 0, 0)]
def mj_cd152 : List (Nat × Instr × Nat × Nat) := [(0, .iload_n 1, 0, 0), (1, .iconst 0, 0, 0), (2, .bipush 31, 0, 0), (4, .invokestatic 100, 112, 0), (7, .ifCond .eq 13, 0, 0), (10, .aload_n 0, 0, 0), (11, .getfield 222, 11, 28), (14, .sipush 500, 0, 0), (17, .if_icmp .ne 5, 0, 0), (20, .iconst (-1), 0, 0), (21, .ireturn, 0, 0), (22, .aload_n 0, 0, 0), (23, .getfield 63, 11, 27), (26, .aload_n 0, 0, 0), (27, .getfield 222, 11, 28), (30, .iload_n 1, 0, 0), (31, .iastore, 0, 0), (32, .aload_n 0, 0, 0), (33, .dup, 0, 0), (34, .getfield 222, 11, 28), (37, .iconst 1, 0, 0), (38, .iadd, 0, 0), (39, .putfield 222, 11, 28), (42, .aload_n 0, 0, 0), (43, .getfield 222, 11, 28), (46, .ireturn, 0, 0)]
def mj_cd153 : List (Nat × Instr × Nat × Nat) := [(0, .aload_n 0, 0, 0), (1, .iload_n 1, 0, 0), (2, .invokevirtual 185, 137, 0), (5, .ifCond .ne 5, 0, 0), (8, .iconst (-1), 0, 0), (9, .ireturn, 0, 0), (10, .aload_n 0, 0, 0), (11, .iload_n 1, 0, 0), (12, .invokevirtual 218, 150, 0), (15, .iconst 0, 0, 0), (16, .istore_n 2, 0, 0), (17, .iload_n 2, 0, 0), (18, .aload_n 0, 0, 0), (19, .getfield 211, 11, 26), (22, .if_icmp .ge 21, 0, 0), (25, .aload_n 0, 0, 0), (26, .getfield 63, 11, 27), (29, .iload_n 2, 0, 0), (30, .aload_n 0, 0, 0), (31, .getfield 60, 11, 25), (34, .iload_n 2, 0, 0), (35, .iaload, 0, 0), (36, .iastore, 0, 0), (37, .iinc 2 1, 0, 0), (40, .goto (-23), 0, 0), (43, .aload_n 0, 0, 0), (44, .aload_n 0, 0, 0), (45, .getfield 211, 11, 26), (48, .putfield 222, 11, 28), (51, .aload_n 0, 0, 0), (52, .getfield 222, 11, 28), (55, .ireturn, 0, 0)]
def mj_cd154 : List (Nat × Instr × Nat × Nat) := [(0, .iload_n 1, 0, 0), (1, .iconst 0, 0, 0), (2, .aload_n 0, 0, 0), (3, .getfield 222, 11, 28), (6, .iconst 1, 0, 0), (7, .isub, 0, 0), (8, .invokestatic 100, 112, 0), (11, .ifCond .eq 13, 0, 0), (14, .iload_n 2, 0, 0), (15, .iconst 0, 0, 0), (16, .bipush 31, 0, 0), (18, .invokestatic 100, 112, 0), (21, .ifCond .ne 5, 0, 0), (24, .iconst 0, 0, 0), (25, .ireturn, 0, 0), (26, .aload_n 0, 0, 0), (27, .getfield 63, 11, 27), (30, .iload_n 1, 0, 0), (31, .iload_n 2, 0, 0), (32, .iastore, 0, 0), (33, .iconst 1, 0, 0), (34, .ireturn, 0, 0)]
def mj_cd155 : List (Nat × Instr × Nat × Nat) := [(0, .iload_n 1, 0, 0), (1, .ifCond .lt 11, 0, 0), (4, .iload_n 1, 0, 0), (5, .aload_n 0, 0, 0), (6, .getfield 222, 11, 28), (9, .if_icmp .le 5, 0, 0), (12, .iconst 0, 0, 0), (13, .ireturn, 0, 0), (14, .aload_n 0, 0, 0), (15, .iload_n 1, 0, 0), (16, .putfield 222, 11, 28), (19, .iconst 1, 0, 0), (20, .ireturn, 0, 0)]
def mj_cd156 : List (Nat × Instr × Nat × Nat) := [(0, .aload_n 0, 0, 0), (1, .getfield 225, 11, 30), (4, .iconst (-1), 0, 0), (5, .if_icmp .eq 4, 0, 0), (8, .return_, 0, 0), (9, .aload_n 0, 0, 0), (10, .getfield 228, 11, 29), (13, .aload_n 0, 0, 0), (14, .getfield 222, 11, 28), (17, .if_icmp .ne 12, 0, 0), (20, .aload_n 0, 0, 0), (21, .aload_n 0, 0, 0), (22, .getfield 228, 11, 29), (25, .putfield 225, 11, 30), (28, .return_, 0, 0), (29, .aload_n 0, 0, 0), (30, .getfield 63, 11, 27), (33, .aload_n 0, 0, 0), (34, .getfield 228, 11, 29), (37, .iaload, 0, 0), (38, .istore 7, 0, 0), (40, .iload 7, 0, 0), (42, .iconst 2, 0, 0), (43, .if_icmp .ge 64, 0, 0), (46, .aload_n 0, 0, 0), (47, .iload_n 1, 0, 0), (48, .iload_n 2, 0, 0), (49, .iload_n 3, 0, 0), (50, .iload 4, 0, 0), (52, .iload 5, 0, 0), (54, .iload 6, 0, 0), (56, .invokevirtual 191, 141, 0), (59, .istore 8, 0, 0), (61, .iload 8, 0, 0), (63, .iload 7, 0, 0), (65, .ifCond .ne 18, 0, 0), (68, .iload_n 1, 0, 0), (69, .iload_n 2, 0, 0), (70, .iload_n 3, 0, 0), (71, .iload 4, 0, 0), (73, .iload 5, 0, 0), (75, .iload 6, 0, 0), (77, .invokestatic 198, 142, 0), (80, .goto 4, 0, 0), (83, .iconst 0, 0, 0), (84, .if_icmp .eq 12, 0, 0), (87, .aload_n 0, 0, 0), (88, .aload_n 0, 0, 0), (89, .getfield 228, 11, 29), (92, .putfield 225, 11, 30), (95, .return_, 0, 0), (96, .aload_n 0, 0, 0), (97, .dup, 0, 0), (98, .getfield 228, 11, 29), (101, .iconst 1, 0, 0), (102, .iadd, 0, 0), (103, .putfield 228, 11, 29), (106, .return_, 0, 0), (107, .iload 7, 0, 0), (109, .iconst 2, 0, 0), (110, .isub, 0, 0), (111, .bipush 8, 0, 0), (113, .idiv, 0, 0), (114, .istore 8, 0, 0), (116, .iload 7, 0, 0), (118, .iconst 2, 0, 0), (119, .isub, 0, 0), (120, .bipush 8, 0, 0), (122, .irem, 0, 0), (123, .istore 9, 0, 0), (125, .iload 8, 0, 0), (127, .ifCond .ne 9, 0, 0), (130, .iload_n 2, 0, 0), (131, .iload_n 1, 0, 0), (132, .isub, 0, 0), (133, .goto 31, 0, 0), (136, .iload 8, 0, 0), (138, .iconst 1, 0, 0), (139, .if_icmp .ne 10, 0, 0), (142, .iload 4, 0, 0), (144, .iload_n 3, 0, 0), (145, .isub, 0, 0), (146, .goto 18, 0, 0), (149, .iload 8, 0, 0), (151, .iconst 2, 0, 0), (152, .if_icmp .ne 11, 0, 0), (155, .iload 6, 0, 0), (157, .iload 5, 0, 0), (159, .isub, 0, 0), (160, .goto 4, 0, 0), (163, .iconst 0, 0, 0), (164, .istore 10, 0, 0), (166, .iload 9, 0, 0), (168, .iload 10, 0, 0), (170, .if_icmp .lt 12, 0, 0), (173, .aload_n 0, 0, 0), (174, .aload_n 0, 0, 0), (175, .getfield 228, 11, 29), (178, .putfield 225, 11, 30), (181, .return_, 0, 0), (182, .aload_n 0, 0, 0), (183, .dup, 0, 0), (184, .getfield 228, 11, 29), (187, .iconst 1, 0, 0), (188, .iadd, 0, 0), (189, .putfield 228, 11, 29), (192, .iload 8, 0, 0), (194, .ifCond .ne 40, 0, 0), (197, .aload_n 0, 0, 0), (198, .iload_n 1, 0, 0), (199, .iload_n 1, 0, 0), (200, .iload 9, 0, 0), (202, .iadd, 0, 0), (203, .iload_n 3, 0, 0), (204, .iload 4, 0, 0), (206, .iload 5, 0, 0), (208, .iload 6, 0, 0), (210, .invokevirtual 231, 156, 0), (213, .aload_n 0, 0, 0), (214, .iload_n 1, 0, 0), (215, .iload 9, 0, 0), (217, .iadd, 0, 0), (218, .iconst 1, 0, 0), (219, .iadd, 0, 0), (220, .iload_n 2, 0, 0), (221, .iload_n 3, 0, 0), (222, .iload 4, 0, 0), (224, .iload 5, 0, 0), (226, .iload 6, 0, 0), (228, .invokevirtual 231, 156, 0), (231, .goto 79, 0, 0), (234, .iload 8, 0, 0), (236, .iconst 1, 0, 0), (237, .if_icmp .ne 39, 0, 0), (240, .aload_n 0, 0, 0), (241, .iload_n 1, 0, 0), (242, .iload_n 2, 0, 0), (243, .iload_n 3, 0, 0), (244, .iload_n 3, 0, 0), (245, .iload 9, 0, 0), (247, .iadd, 0, 0), (248, .iload 5, 0, 0), (250, .iload 6, 0, 0), (252, .invokevirtual 231, 156, 0), (255, .aload_n 0, 0, 0), (256, .iload_n 1, 0, 0), (257, .iload_n 2, 0, 0), (258, .iload_n 3, 0, 0), (259, .iload 9, 0, 0), (261, .iadd, 0, 0), (262, .iconst 1, 0, 0), (263, .iadd, 0, 0), (264, .iload 4, 0, 0), (266, .iload 5, 0, 0), (268, .iload 6, 0, 0), (270, .invokevirtual 231, 156, 0), (273, .goto 37, 0, 0), (276, .aload_n 0, 0, 0), (277, .iload_n 1, 0, 0), (278, .iload_n 2, 0, 0), (279, .iload_n 3, 0, 0), (280, .iload 4, 0, 0), (282, .iload 5, 0, 0), (284, .iload 5, 0, 0), (286, .iload 9, 0, 0), (288, .iadd, 0, 0), (289, .invokevirtual 231, 156, 0), (292, .aload_n 0, 0, 0), (293, .iload_n 1, 0, 0), (294, .iload_n 2, 0, 0), (295, .iload_n 3, 0, 0), (296, .iload 4, 0, 0), (298, .iload 5, 0, 0), (300, .iload 9, 0, 0), (302, .iadd, 0, 0), (303, .iconst 1, 0, 0), (304, .iadd, 0, 0), (305, .iload 6, 0, 0), (307, .invokevirtual 231, 156, 0), (310, .return_, 0, 0)]
def mj_cd157 : List (Nat × Instr × Nat × Nat) := [(0, .aload_n 0, 0, 0), (1, .iload_n 1, 0, 0), (2, .invokevirtual 185, 137, 0), (5, .ifCond .ne 6, 0, 0), (8, .bipush (-2), 0, 0), (10, .ireturn, 0, 0), (11, .aload_n 0, 0, 0), (12, .iload_n 1, 0, 0), (13, .putfield 179, 11, 22), (16, .aload_n 0, 0, 0), (17, .iconst 0, 0, 0), (18, .putfield 228, 11, 29), (21, .aload_n 0, 0, 0), (22, .iconst (-1), 0, 0), (23, .putfield 225, 11, 30), (26, .aload_n 0, 0, 0), (27, .iconst 0, 0, 0), (28, .aload_n 0, 0, 0), (29, .iconst 0, 0, 0), (30, .invokevirtual 188, 143, 0), (33, .iconst 0, 0, 0), (34, .aload_n 0, 0, 0), (35, .iconst 1, 0, 0), (36, .invokevirtual 188, 143, 0), (39, .iconst 0, 0, 0), (40, .aload_n 0, 0, 0), (41, .iconst 2, 0, 0), (42, .invokevirtual 188, 143, 0), (45, .invokevirtual 231, 156, 0), (48, .aload_n 0, 0, 0), (49, .getfield 225, 11, 30), (52, .iconst (-1), 0, 0), (53, .if_icmp .eq 10, 0, 0), (56, .aload_n 0, 0, 0), (57, .getfield 225, 11, 30), (60, .goto 22, 0, 0), (63, .aload_n 0, 0, 0), (64, .getfield 228, 11, 29), (67, .aload_n 0, 0, 0), (68, .getfield 222, 11, 28), (71, .if_icmp .ge 10, 0, 0), (74, .aload_n 0, 0, 0), (75, .getfield 228, 11, 29), (78, .goto 4, 0, 0), (81, .iconst (-1), 0, 0), (82, .ireturn, 0, 0)]
def mj_cd158 : List (Nat × Instr × Nat × Nat) := [(0, .iload_n 1, 0, 0), (1, .iload_n 2, 0, 0), (2, .iload_n 3, 0, 0), (3, .iload 4, 0, 0), (5, .iload 5, 0, 0), (7, .iload 6, 0, 0), (9, .invokestatic 198, 142, 0), (12, .istore 7, 0, 0), (14, .aload_n 0, 0, 0), (15, .getfield 47, 11, 19), (18, .iconst 3, 0, 0), (19, .aload_n 0, 0, 0), (20, .getfield 179, 11, 22), (23, .imul, 0, 0), (24, .iaload, 0, 0), (25, .iload_n 1, 0, 0), (26, .iadd, 0, 0), (27, .aload_n 0, 0, 0), (28, .getfield 47, 11, 19), (31, .iconst 3, 0, 0), (32, .aload_n 0, 0, 0), (33, .getfield 179, 11, 22), (36, .imul, 0, 0), (37, .iconst 1, 0, 0), (38, .iadd, 0, 0), (39, .iaload, 0, 0), (40, .iload_n 3, 0, 0), (41, .iadd, 0, 0), (42, .aload_n 0, 0, 0), (43, .getfield 47, 11, 19), (46, .iconst 3, 0, 0), (47, .aload_n 0, 0, 0), (48, .getfield 179, 11, 22), (51, .imul, 0, 0), (52, .iconst 2, 0, 0), (53, .iadd, 0, 0), (54, .iaload, 0, 0), (55, .iload 5, 0, 0), (57, .iadd, 0, 0), (58, .invokestatic 129, 124, 0), (61, .istore 8, 0, 0), (63, .aload_n 0, 0, 0), (64, .getfield 47, 11, 19), (67, .iconst 3, 0, 0), (68, .aload_n 0, 0, 0), (69, .getfield 179, 11, 22), (72, .imul, 0, 0), (73, .iaload, 0, 0), (74, .iload_n 2, 0, 0), (75, .iadd, 0, 0), (76, .aload_n 0, 0, 0), (77, .getfield 47, 11, 19), (80, .iconst 3, 0, 0), (81, .aload_n 0, 0, 0), (82, .getfield 179, 11, 22), (85, .imul, 0, 0), (86, .iconst 1, 0, 0), (87, .iadd, 0, 0), (88, .iaload, 0, 0), (89, .iload 4, 0, 0), (91, .iadd, 0, 0), (92, .aload_n 0, 0, 0), (93, .getfield 47, 11, 19), (96, .iconst 3, 0, 0), (97, .aload_n 0, 0, 0), (98, .getfield 179, 11, 22), (101, .imul, 0, 0), (102, .iconst 2, 0, 0), (103, .iadd, 0, 0), (104, .iaload, 0, 0), (105, .iload 6, 0, 0), (107, .iadd, 0, 0), (108, .invokestatic 129, 124, 0), (111, .istore 9, 0, 0), (113, .iload 7, 0, 0), (115, .aload_n 0, 0, 0), (116, .getfield 234, 11, 33), (119, .if_icmp .gt 39, 0, 0), (122, .iload 7, 0, 0), (124, .aload_n 0, 0, 0), (125, .getfield 234, 11, 33), (128, .if_icmp .ne 34, 0, 0), (131, .iload 8, 0, 0), (133, .aload_n 0, 0, 0), (134, .getfield 237, 11, 31), (137, .if_icmp .lt 21, 0, 0), (140, .iload 8, 0, 0), (142, .aload_n 0, 0, 0), (143, .getfield 237, 11, 31), (146, .if_icmp .ne 16, 0, 0), (149, .iload 9, 0, 0), (151, .aload_n 0, 0, 0), (152, .getfield 240, 11, 32), (155, .if_icmp .ge 7, 0, 0), (158, .iconst 1, 0, 0), (159, .goto 4, 0, 0), (162, .iconst 0, 0, 0), (163, .istore 10, 0, 0), (165, .iload 10, 0, 0), (167, .ifCond .eq 39, 0, 0), (170, .aload_n 0, 0, 0), (171, .iload_n 1, 0, 0), (172, .iload_n 2, 0, 0), (173, .iload_n 3, 0, 0), (174, .iload 4, 0, 0), (176, .iload 5, 0, 0), (178, .iload 6, 0, 0), (180, .invokevirtual 191, 141, 0), (183, .iload 7, 0, 0), (185, .if_icmp .ne 21, 0, 0), (188, .aload_n 0, 0, 0), (189, .iload 7, 0, 0), (191, .putfield 234, 11, 33), (194, .aload_n 0, 0, 0), (195, .iload 8, 0, 0), (197, .putfield 237, 11, 31), (200, .aload_n 0, 0, 0), (201, .iload 9, 0, 0), (203, .putfield 240, 11, 32), (206, .return_, 0, 0)]
def mj_cd159 : List (Nat × Instr × Nat × Nat) := [(0, .aload_n 0, 0, 0), (1, .iload_n 1, 0, 0), (2, .invokevirtual 185, 137, 0), (5, .ifCond .eq 12, 0, 0), (8, .iload_n 2, 0, 0), (9, .iconst 0, 0, 0), (10, .iconst 2, 0, 0), (11, .invokestatic 100, 112, 0), (14, .ifCond .ne 5, 0, 0), (17, .iconst (-1), 0, 0), (18, .ireturn, 0, 0), (19, .aload_n 0, 0, 0), (20, .iload_n 1, 0, 0), (21, .putfield 179, 11, 22), (24, .aload_n 0, 0, 0), (25, .iconst 0, 0, 0), (26, .putfield 234, 11, 33), (29, .iconst 0, 0, 0), (30, .istore_n 3, 0, 0), (31, .iload_n 3, 0, 0), (32, .aload_n 0, 0, 0), (33, .iconst 0, 0, 0), (34, .invokevirtual 188, 143, 0), (37, .if_icmp .gt 121, 0, 0), (40, .iload_n 3, 0, 0), (41, .istore 4, 0, 0), (43, .iload 4, 0, 0), (45, .aload_n 0, 0, 0), (46, .iconst 0, 0, 0), (47, .invokevirtual 188, 143, 0), (50, .if_icmp .gt 102, 0, 0), (53, .iconst 0, 0, 0), (54, .istore 5, 0, 0), (56, .iload 5, 0, 0), (58, .aload_n 0, 0, 0), (59, .iconst 1, 0, 0), (60, .invokevirtual 188, 143, 0), (63, .if_icmp .gt 83, 0, 0), (66, .iload 5, 0, 0), (68, .istore 6, 0, 0), (70, .iload 6, 0, 0), (72, .aload_n 0, 0, 0), (73, .iconst 1, 0, 0), (74, .invokevirtual 188, 143, 0), (77, .if_icmp .gt 63, 0, 0), (80, .iconst 0, 0, 0), (81, .istore 7, 0, 0), (83, .iload 7, 0, 0), (85, .aload_n 0, 0, 0), (86, .iconst 2, 0, 0), (87, .invokevirtual 188, 143, 0), (90, .if_icmp .gt 44, 0, 0), (93, .iload 7, 0, 0), (95, .istore 8, 0, 0), (97, .iload 8, 0, 0), (99, .aload_n 0, 0, 0), (100, .iconst 2, 0, 0), (101, .invokevirtual 188, 143, 0), (104, .if_icmp .gt 24, 0, 0), (107, .aload_n 0, 0, 0), (108, .iload_n 3, 0, 0), (109, .iload 4, 0, 0), (111, .iload 5, 0, 0), (113, .iload 6, 0, 0), (115, .iload 7, 0, 0), (117, .iload 8, 0, 0), (119, .invokevirtual 243, 158, 0), (122, .iinc 8 1, 0, 0), (125, .goto (-28), 0, 0), (128, .iinc 7 1, 0, 0), (131, .goto (-48), 0, 0), (134, .iinc 6 1, 0, 0), (137, .goto (-67), 0, 0), (140, .iinc 5 1, 0, 0), (143, .goto (-87), 0, 0), (146, .iinc 4 1, 0, 0), (149, .goto (-106), 0, 0), (152, .iinc 3 1, 0, 0), (155, .goto (-124), 0, 0), (158, .aload_n 0, 0, 0), (159, .getfield 234, 11, 33), (162, .ifCond .ne 7, 0, 0), (165, .iconst (-1), 0, 0), (166, .goto 30, 0, 0), (169, .iload_n 2, 0, 0), (170, .ifCond .ne 10, 0, 0), (173, .aload_n 0, 0, 0), (174, .getfield 237, 11, 31), (177, .goto 19, 0, 0), (180, .iload_n 2, 0, 0), (181, .iconst 1, 0, 0), (182, .if_icmp .ne 10, 0, 0), (185, .aload_n 0, 0, 0), (186, .getfield 240, 11, 32), (189, .goto 7, 0, 0), (192, .aload_n 0, 0, 0), (193, .getfield 234, 11, 33), (196, .ireturn, 0, 0)]
def mj_cd160 : List (Nat × Instr × Nat × Nat) := [(0, .iconst 0, 0, 0), (1, .istore_n 2, 0, 0), (2, .iconst 0, 0, 0), (3, .istore_n 3, 0, 0), (4, .iload_n 3, 0, 0), (5, .iconst 3, 0, 0), (6, .if_icmp .ge 26, 0, 0), (9, .iload_n 2, 0, 0), (10, .iload_n 0, 0, 0), (11, .iload_n 3, 0, 0), (12, .invokestatic 137, 125, 0), (15, .iload_n 1, 0, 0), (16, .iload_n 3, 0, 0), (17, .invokestatic 137, 125, 0), (20, .isub, 0, 0), (21, .invokestatic 246, 0, 4), (24, .iadd, 0, 0), (25, .istore_n 2, 0, 0), (26, .iinc 3 1, 0, 0), (29, .goto (-25), 0, 0), (32, .iload_n 2, 0, 0), (33, .ireturn, 0, 0)]
def mj_cd161 : List (Nat × Instr × Nat × Nat) := [(0, .aload_n 0, 0, 0), (1, .iload_n 1, 0, 0), (2, .invokevirtual 185, 137, 0), (5, .ifCond .eq 10, 0, 0), (8, .iload_n 2, 0, 0), (9, .invokestatic 165, 118, 0), (12, .ifCond .ne 5, 0, 0), (15, .iconst (-1), 0, 0), (16, .ireturn, 0, 0), (17, .iconst 0, 0, 0), (18, .istore_n 3, 0, 0), (19, .iload_n 3, 0, 0), (20, .iconst 3, 0, 0), (21, .if_icmp .ge 42, 0, 0), (24, .iload_n 2, 0, 0), (25, .iload_n 3, 0, 0), (26, .invokestatic 137, 125, 0), (29, .aload_n 0, 0, 0), (30, .getfield 47, 11, 19), (33, .iconst 3, 0, 0), (34, .iload_n 1, 0, 0), (35, .imul, 0, 0), (36, .iload_n 3, 0, 0), (37, .iadd, 0, 0), (38, .iaload, 0, 0), (39, .aload_n 0, 0, 0), (40, .getfield 50, 11, 20), (43, .iconst 3, 0, 0), (44, .iload_n 1, 0, 0), (45, .imul, 0, 0), (46, .iload_n 3, 0, 0), (47, .iadd, 0, 0), (48, .iaload, 0, 0), (49, .invokestatic 100, 112, 0), (52, .ifCond .ne 5, 0, 0), (55, .iconst (-1), 0, 0), (56, .ireturn, 0, 0), (57, .iinc 3 1, 0, 0), (60, .goto (-41), 0, 0), (63, .aload_n 0, 0, 0), (64, .iload_n 1, 0, 0), (65, .putfield 179, 11, 22), (68, .aload_n 0, 0, 0), (69, .getfield 44, 11, 18), (72, .iload_n 1, 0, 0), (73, .iaload, 0, 0), (74, .istore_n 3, 0, 0), (75, .iconst (-1), 0, 0), (76, .istore 4, 0, 0), (78, .aload_n 0, 0, 0), (79, .getfield 47, 11, 19), (82, .iconst 3, 0, 0), (83, .iload_n 1, 0, 0), (84, .imul, 0, 0), (85, .iaload, 0, 0), (86, .istore 5, 0, 0), (88, .iload 5, 0, 0), (90, .aload_n 0, 0, 0), (91, .getfield 50, 11, 20), (94, .iconst 3, 0, 0), (95, .iload_n 1, 0, 0), (96, .imul, 0, 0), (97, .iaload, 0, 0), (98, .if_icmp .gt 160, 0, 0), (101, .aload_n 0, 0, 0), (102, .getfield 47, 11, 19), (105, .iconst 3, 0, 0), (106, .iload_n 1, 0, 0), (107, .imul, 0, 0), (108, .iconst 1, 0, 0), (109, .iadd, 0, 0), (110, .iaload, 0, 0), (111, .istore 6, 0, 0), (113, .iload 6, 0, 0), (115, .aload_n 0, 0, 0), (116, .getfield 50, 11, 20), (119, .iconst 3, 0, 0), (120, .iload_n 1, 0, 0), (121, .imul, 0, 0), (122, .iconst 1, 0, 0), (123, .iadd, 0, 0), (124, .iaload, 0, 0), (125, .if_icmp .gt 127, 0, 0), (128, .aload_n 0, 0, 0), (129, .getfield 47, 11, 19), (132, .iconst 3, 0, 0), (133, .iload_n 1, 0, 0), (134, .imul, 0, 0), (135, .iconst 2, 0, 0), (136, .iadd, 0, 0), (137, .iaload, 0, 0), (138, .istore 7, 0, 0), (140, .iload 7, 0, 0), (142, .aload_n 0, 0, 0), (143, .getfield 50, 11, 20), (146, .iconst 3, 0, 0), (147, .iload_n 1, 0, 0), (148, .imul, 0, 0), (149, .iconst 2, 0, 0), (150, .iadd, 0, 0), (151, .iaload, 0, 0), (152, .if_icmp .gt 94, 0, 0), (155, .iload 5, 0, 0), (157, .iload 6, 0, 0), (159, .iload 7, 0, 0), (161, .invokestatic 129, 124, 0), (164, .istore 8, 0, 0), (166, .aload_n 0, 0, 0), (167, .iload_n 3, 0, 0), (168, .iload 8, 0, 0), (170, .invokevirtual 172, 131, 0), (173, .ifCond .ne 7, 0, 0), (176, .iconst 1, 0, 0), (177, .goto 4, 0, 0), (180, .iconst 0, 0, 0), (181, .aload_n 0, 0, 0), (182, .iload_n 3, 0, 0), (183, .iload_n 2, 0, 0), (184, .invokevirtual 172, 131, 0), (187, .ifCond .ne 7, 0, 0), (190, .iconst 1, 0, 0), (191, .goto 4, 0, 0), (194, .iconst 0, 0, 0), (195, .if_icmp .eq 7, 0, 0), (198, .iconst 1, 0, 0), (199, .goto 4, 0, 0), (202, .iconst 0, 0, 0), (203, .istore 9, 0, 0), (205, .iload 9, 0, 0), (207, .ifCond .eq 29, 0, 0), (210, .iload 4, 0, 0), (212, .iconst (-1), 0, 0), (213, .if_icmp .eq 18, 0, 0), (216, .iload_n 2, 0, 0), (217, .iload 8, 0, 0), (219, .invokestatic 249, 160, 0), (222, .iload_n 2, 0, 0), (223, .iload 4, 0, 0), (225, .invokestatic 249, 160, 0), (228, .if_icmp .ge 8, 0, 0), (231, .iload 8, 0, 0), (233, .goto 5, 0, 0), (236, .iload 4, 0, 0), (238, .istore 4, 0, 0), (240, .iinc 7 1, 0, 0), (243, .goto (-103), 0, 0), (246, .iinc 6 1, 0, 0), (249, .goto (-136), 0, 0), (252, .iinc 5 1, 0, 0), (255, .goto (-167), 0, 0), (258, .iload 4, 0, 0), (260, .ireturn, 0, 0)]
def mj_cd162 : List (Nat × Instr × Nat × Nat) := [(0, .aload_n 0, 0, 0), (1, .iload_n 1, 0, 0), (2, .iload_n 2, 0, 0), (3, .invokevirtual 168, 132, 0), (6, .ifCond .ne 5, 0, 0), (9, .iconst (-1), 0, 0), (10, .ireturn, 0, 0), (11, .iconst 0, 0, 0), (12, .istore_n 3, 0, 0), (13, .iconst 0, 0, 0), (14, .istore 4, 0, 0), (16, .iload 4, 0, 0), (18, .bipush 6, 0, 0), (20, .if_icmp .ge 97, 0, 0), (23, .iload 4, 0, 0), (25, .iconst 2, 0, 0), (26, .idiv, 0, 0), (27, .istore 5, 0, 0), (29, .iload 4, 0, 0), (31, .iconst 2, 0, 0), (32, .irem, 0, 0), (33, .ifCond .ne 7, 0, 0), (36, .iconst (-1), 0, 0), (37, .goto 4, 0, 0), (40, .iconst 1, 0, 0), (41, .istore 6, 0, 0), (43, .iload_n 2, 0, 0), (44, .iload 5, 0, 0), (46, .invokestatic 137, 125, 0), (49, .iload 6, 0, 0), (51, .iadd, 0, 0), (52, .iconst 1, 0, 0), (53, .bipush 9, 0, 0), (55, .invokestatic 100, 112, 0), (58, .ifCond .eq 53, 0, 0), (61, .iload_n 2, 0, 0), (62, .iload 6, 0, 0), (64, .iload 5, 0, 0), (66, .ifCond .ne 8, 0, 0), (69, .bipush 81, 0, 0), (71, .goto 15, 0, 0), (74, .iload 5, 0, 0), (76, .iconst 1, 0, 0), (77, .if_icmp .ne 8, 0, 0), (80, .bipush 9, 0, 0), (82, .goto 4, 0, 0), (85, .iconst 1, 0, 0), (86, .imul, 0, 0), (87, .iadd, 0, 0), (88, .istore 7, 0, 0), (90, .iload_n 3, 0, 0), (91, .aload_n 0, 0, 0), (92, .iload_n 1, 0, 0), (93, .iload 7, 0, 0), (95, .invokevirtual 172, 131, 0), (98, .ifCond .ne 10, 0, 0), (101, .iconst 1, 0, 0), (102, .iload 4, 0, 0), (104, .ishl, 0, 0), (105, .goto 4, 0, 0), (108, .iconst 0, 0, 0), (109, .ior, 0, 0), (110, .istore_n 3, 0, 0), (111, .iinc 4 1, 0, 0), (114, .goto (-98), 0, 0), (117, .iload_n 3, 0, 0), (118, .ireturn, 0, 0)]
def mj_cd163 : List (Nat × Instr × Nat × Nat) := [(0, .aload_n 0, 0, 0), (1, .iload_n 1, 0, 0), (2, .iload_n 2, 0, 0), (3, .invokevirtual 168, 132, 0), (6, .ifCond .eq 12, 0, 0), (9, .aload_n 0, 0, 0), (10, .getfield 252, 11, 40), (13, .bipush 60, 0, 0), (15, .if_icmp .ne 5, 0, 0), (18, .iconst (-1), 0, 0), (19, .ireturn, 0, 0), (20, .aload_n 0, 0, 0), (21, .getfield 66, 11, 34), (24, .aload_n 0, 0, 0), (25, .getfield 252, 11, 40), (28, .iload_n 1, 0, 0), (29, .iastore, 0, 0), (30, .aload_n 0, 0, 0), (31, .getfield 69, 11, 35), (34, .aload_n 0, 0, 0), (35, .getfield 252, 11, 40), (38, .iload_n 2, 0, 0), (39, .iastore, 0, 0), (40, .aload_n 0, 0, 0), (41, .getfield 72, 11, 36), (44, .aload_n 0, 0, 0), (45, .getfield 252, 11, 40), (48, .aload_n 0, 0, 0), (49, .getfield 104, 11, 0), (52, .iastore, 0, 0), (53, .aload_n 0, 0, 0), (54, .dup, 0, 0), (55, .getfield 252, 11, 40), (58, .iconst 1, 0, 0), (59, .iadd, 0, 0), (60, .putfield 252, 11, 40), (63, .aload_n 0, 0, 0), (64, .getfield 252, 11, 40), (67, .iconst 1, 0, 0), (68, .isub, 0, 0), (69, .ireturn, 0, 0)]
def mj_cd164 : List (Nat × Instr × Nat × Nat) := [(0, .iload_n 1, 0, 0), (1, .iconst 0, 0, 0), (2, .aload_n 0, 0, 0), (3, .getfield 252, 11, 40), (6, .iconst 1, 0, 0), (7, .isub, 0, 0), (8, .invokestatic 100, 112, 0), (11, .ifCond .eq 12, 0, 0), (14, .aload_n 0, 0, 0), (15, .getfield 255, 11, 41), (18, .bipush 100, 0, 0), (20, .if_icmp .ne 5, 0, 0), (23, .iconst 0, 0, 0), (24, .ireturn, 0, 0), (25, .aload_n 0, 0, 0), (26, .getfield 75, 11, 37), (29, .aload_n 0, 0, 0), (30, .getfield 255, 11, 41), (33, .iload_n 1, 0, 0), (34, .iastore, 0, 0), (35, .aload_n 0, 0, 0), (36, .getfield 78, 11, 38), (39, .aload_n 0, 0, 0), (40, .getfield 255, 11, 41), (43, .iload_n 2, 0, 0), (44, .bastore, 0, 0), (45, .aload_n 0, 0, 0), (46, .getfield 81, 11, 39), (49, .aload_n 0, 0, 0), (50, .getfield 255, 11, 41), (53, .aload_n 0, 0, 0), (54, .getfield 104, 11, 0), (57, .iastore, 0, 0), (58, .aload_n 0, 0, 0), (59, .dup, 0, 0), (60, .getfield 255, 11, 41), (63, .iconst 1, 0, 0), (64, .iadd, 0, 0), (65, .putfield 255, 11, 41), (68, .iconst 1, 0, 0), (69, .ireturn, 0, 0)]
def mj_cd165 : List (Nat × Instr × Nat × Nat) := [(0, .iconst 0, 0, 0), (1, .istore_n 3, 0, 0), (2, .iconst 0, 0, 0), (3, .istore 4, 0, 0), (5, .iload 4, 0, 0), (7, .aload_n 0, 0, 0), (8, .getfield 255, 11, 41), (11, .if_icmp .ge 51, 0, 0), (14, .aload_n 0, 0, 0), (15, .getfield 75, 11, 37), (18, .iload 4, 0, 0), (20, .iaload, 0, 0), (21, .iload_n 1, 0, 0), (22, .if_icmp .ne 32, 0, 0), (25, .aload_n 0, 0, 0), (26, .getfield 81, 11, 39), (29, .iload 4, 0, 0), (31, .iaload, 0, 0), (32, .iload_n 2, 0, 0), (33, .if_icmp .gt 21, 0, 0), (36, .aload_n 0, 0, 0), (37, .getfield 78, 11, 38), (40, .iload 4, 0, 0), (42, .baload, 0, 0), (43, .ifCond .eq 7, 0, 0), (46, .iconst 1, 0, 0), (47, .goto 8, 0, 0), (50, .iconst 2, 0, 0), (51, .goto 4, 0, 0), (54, .iload_n 3, 0, 0), (55, .istore_n 3, 0, 0), (56, .iinc 4 1, 0, 0), (59, .goto (-54), 0, 0), (62, .iload_n 3, 0, 0), (63, .ireturn, 0, 0)]
def mj_cd166 : List (Nat × Instr × Nat × Nat) := [(0, .iload_n 1, 0, 0), (1, .iconst 0, 0, 0), (2, .aload_n 0, 0, 0), (3, .getfield 252, 11, 40), (6, .iconst 1, 0, 0), (7, .isub, 0, 0), (8, .invokestatic 100, 112, 0), (11, .ifCond .eq 34, 0, 0), (14, .iload_n 2, 0, 0), (15, .iconst 0, 0, 0), (16, .aload_n 0, 0, 0), (17, .getfield 104, 11, 0), (20, .invokestatic 100, 112, 0), (23, .ifCond .eq 22, 0, 0), (26, .aload_n 0, 0, 0), (27, .getfield 72, 11, 36), (30, .iload_n 1, 0, 0), (31, .iaload, 0, 0), (32, .iload_n 2, 0, 0), (33, .if_icmp .gt 12, 0, 0), (36, .aload_n 0, 0, 0), (37, .iload_n 1, 0, 0), (38, .iload_n 2, 0, 0), (39, .invokevirtual 258, 165, 0), (42, .goto 4, 0, 0), (45, .iconst (-1), 0, 0), (46, .ireturn, 0, 0)]
def mj_cd167 : List (Nat × Instr × Nat × Nat) := [(0, .iload_n 1, 0, 0), (1, .iconst 0, 0, 0), (2, .aload_n 0, 0, 0), (3, .getfield 104, 11, 0), (6, .invokestatic 100, 112, 0), (9, .ifCond .ne 5, 0, 0), (12, .iconst (-1), 0, 0), (13, .ireturn, 0, 0), (14, .iconst 0, 0, 0), (15, .istore_n 2, 0, 0), (16, .iconst 0, 0, 0), (17, .istore_n 3, 0, 0), (18, .iload_n 3, 0, 0), (19, .aload_n 0, 0, 0), (20, .getfield 252, 11, 40), (23, .if_icmp .ge 68, 0, 0), (26, .aload_n 0, 0, 0), (27, .iload_n 3, 0, 0), (28, .iload_n 1, 0, 0), (29, .invokevirtual 258, 165, 0), (32, .istore 4, 0, 0), (34, .iload_n 2, 0, 0), (35, .iload 4, 0, 0), (37, .ifCond .eq 45, 0, 0), (40, .iload 4, 0, 0), (42, .iconst 1, 0, 0), (43, .if_icmp .ne 7, 0, 0), (46, .iconst 1, 0, 0), (47, .goto 4, 0, 0), (50, .iconst 0, 0, 0), (51, .aload_n 0, 0, 0), (52, .aload_n 0, 0, 0), (53, .getfield 66, 11, 34), (56, .iload_n 3, 0, 0), (57, .iaload, 0, 0), (58, .aload_n 0, 0, 0), (59, .getfield 69, 11, 35), (62, .iload_n 3, 0, 0), (63, .iaload, 0, 0), (64, .invokevirtual 172, 131, 0), (67, .ifCond .ne 7, 0, 0), (70, .iconst 1, 0, 0), (71, .goto 4, 0, 0), (74, .iconst 0, 0, 0), (75, .if_icmp .eq 7, 0, 0), (78, .iconst 1, 0, 0), (79, .goto 4, 0, 0), (82, .iconst 0, 0, 0), (83, .iadd, 0, 0), (84, .istore_n 2, 0, 0), (85, .iinc 3 1, 0, 0), (88, .goto (-70), 0, 0), (91, .iload_n 2, 0, 0), (92, .ireturn, 0, 0)]
def mj_cd168 : List (Nat × Instr × Nat × Nat) := [(0, .iload_n 1, 0, 0), (1, .iconst 0, 0, 0), (2, .aload_n 0, 0, 0), (3, .getfield 104, 11, 0), (6, .invokestatic 100, 112, 0), (9, .ifCond .ne 5, 0, 0), (12, .iconst (-1), 0, 0), (13, .ireturn, 0, 0), (14, .iconst (-1), 0, 0), (15, .istore_n 2, 0, 0), (16, .iconst 0, 0, 0), (17, .istore_n 3, 0, 0), (18, .iconst 1, 0, 0), (19, .istore 4, 0, 0), (21, .iconst 0, 0, 0), (22, .istore 5, 0, 0), (24, .iload 5, 0, 0), (26, .aload_n 0, 0, 0), (27, .getfield 107, 11, 7), (30, .if_icmp .ge 151, 0, 0), (33, .iconst 0, 0, 0), (34, .istore 6, 0, 0), (36, .iconst 0, 0, 0), (37, .istore 7, 0, 0), (39, .iconst 0, 0, 0), (40, .istore 8, 0, 0), (42, .iload 8, 0, 0), (44, .aload_n 0, 0, 0), (45, .getfield 252, 11, 40), (48, .if_icmp .ge 100, 0, 0), (51, .aload_n 0, 0, 0), (52, .iload 8, 0, 0), (54, .iload_n 1, 0, 0), (55, .invokevirtual 258, 165, 0), (58, .istore 9, 0, 0), (60, .aload_n 0, 0, 0), (61, .getfield 20, 11, 5), (64, .aload_n 0, 0, 0), (65, .getfield 66, 11, 34), (68, .iload 8, 0, 0), (70, .iaload, 0, 0), (71, .iaload, 0, 0), (72, .iload 5, 0, 0), (74, .if_icmp .eq 20, 0, 0), (77, .aload_n 0, 0, 0), (78, .getfield 23, 11, 6), (81, .aload_n 0, 0, 0), (82, .getfield 66, 11, 34), (85, .iload 8, 0, 0), (87, .iaload, 0, 0), (88, .iaload, 0, 0), (89, .iload 5, 0, 0), (91, .if_icmp .ne 7, 0, 0), (94, .iconst 1, 0, 0), (95, .goto 4, 0, 0), (98, .iconst 0, 0, 0), (99, .istore 10, 0, 0), (101, .iload 7, 0, 0), (103, .iload 10, 0, 0), (105, .ifCond .eq 12, 0, 0), (108, .iload 9, 0, 0), (110, .ifCond .eq 7, 0, 0), (113, .iconst 1, 0, 0), (114, .goto 4, 0, 0), (117, .iconst 0, 0, 0), (118, .iadd, 0, 0), (119, .istore 7, 0, 0), (121, .iload 6, 0, 0), (123, .iload 10, 0, 0), (125, .ifCond .eq 13, 0, 0), (128, .iload 9, 0, 0), (130, .iconst 2, 0, 0), (131, .if_icmp .ne 7, 0, 0), (134, .iconst 1, 0, 0), (135, .goto 4, 0, 0), (138, .iconst 0, 0, 0), (139, .iadd, 0, 0), (140, .istore 6, 0, 0), (142, .iinc 8 1, 0, 0), (145, .goto (-103), 0, 0), (148, .iload 6, 0, 0), (150, .ifCond .le 25, 0, 0), (153, .iload 6, 0, 0), (155, .iload 4, 0, 0), (157, .imul, 0, 0), (158, .iload_n 3, 0, 0), (159, .iload 7, 0, 0), (161, .imul, 0, 0), (162, .if_icmp .le 13, 0, 0), (165, .iload 5, 0, 0), (167, .istore_n 2, 0, 0), (168, .iload 6, 0, 0), (170, .istore_n 3, 0, 0), (171, .iload 7, 0, 0), (173, .istore 4, 0, 0), (175, .iinc 5 1, 0, 0), (178, .goto (-154), 0, 0), (181, .iload_n 2, 0, 0), (182, .ireturn, 0, 0)]
def mj_cd169 : List (Nat × Instr × Nat × Nat) := [(0, .aload_n 0, 0, 0), (1, .iload_n 1, 0, 0), (2, .iload_n 2, 0, 0), (3, .invokevirtual 168, 132, 0), (6, .ifCond .eq 12, 0, 0), (9, .aload_n 0, 0, 0), (10, .getfield 261, 11, 46), (13, .bipush 8, 0, 0), (15, .if_icmp .ne 5, 0, 0), (18, .iconst (-1), 0, 0), (19, .ireturn, 0, 0), (20, .aload_n 0, 0, 0), (21, .getfield 84, 11, 42), (24, .aload_n 0, 0, 0), (25, .getfield 261, 11, 46), (28, .iload_n 1, 0, 0), (29, .iastore, 0, 0), (30, .aload_n 0, 0, 0), (31, .getfield 87, 11, 43), (34, .aload_n 0, 0, 0), (35, .getfield 261, 11, 46), (38, .iload_n 2, 0, 0), (39, .iastore, 0, 0), (40, .aload_n 0, 0, 0), (41, .dup, 0, 0), (42, .getfield 261, 11, 46), (45, .iconst 1, 0, 0), (46, .iadd, 0, 0), (47, .putfield 261, 11, 46), (50, .aload_n 0, 0, 0), (51, .getfield 261, 11, 46), (54, .iconst 1, 0, 0), (55, .isub, 0, 0), (56, .ireturn, 0, 0)]
def mj_cd170 : List (Nat × Instr × Nat × Nat) := [(0, .aload_n 0, 0, 0), (1, .iconst 0, 0, 0), (2, .putfield 261, 11, 46), (5, .return_, 0, 0)]
def mj_cd171 : List (Nat × Instr × Nat × Nat) := [(0, .aload_n 0, 0, 0), (1, .getfield 84, 11, 42), (4, .iload_n 1, 0, 0), (5, .iaload, 0, 0), (6, .aload_n 0, 0, 0), (7, .getfield 84, 11, 42), (10, .iload_n 2, 0, 0), (11, .iaload, 0, 0), (12, .if_icmp .eq 8, 0, 0), (15, .bipush 10, 0, 0), (17, .goto 4, 0, 0), (20, .iconst 0, 0, 0), (21, .istore_n 3, 0, 0), (22, .iconst 0, 0, 0), (23, .istore 4, 0, 0), (25, .iload 4, 0, 0), (27, .iconst 3, 0, 0), (28, .if_icmp .ge 43, 0, 0), (31, .iload_n 3, 0, 0), (32, .iconst 3, 0, 0), (33, .iload 4, 0, 0), (35, .isub, 0, 0), (36, .aload_n 0, 0, 0), (37, .getfield 87, 11, 43), (40, .iload_n 1, 0, 0), (41, .iaload, 0, 0), (42, .iload 4, 0, 0), (44, .invokestatic 137, 125, 0), (47, .aload_n 0, 0, 0), (48, .getfield 87, 11, 43), (51, .iload_n 2, 0, 0), (52, .iaload, 0, 0), (53, .iload 4, 0, 0), (55, .invokestatic 137, 125, 0), (58, .isub, 0, 0), (59, .invokestatic 246, 0, 4), (62, .imul, 0, 0), (63, .iadd, 0, 0), (64, .istore_n 3, 0, 0), (65, .iinc 4 1, 0, 0), (68, .goto (-43), 0, 0), (71, .iload_n 3, 0, 0), (72, .ireturn, 0, 0)]
def mj_cd172 : List (Nat × Instr × Nat × Nat) := [(0, .aload_n 0, 0, 0), (1, .getfield 264, 11, 47), (4, .iconst (-1), 0, 0), (5, .if_icmp .eq 12, 0, 0), (8, .iload_n 3, 0, 0), (9, .aload_n 0, 0, 0), (10, .getfield 264, 11, 47), (13, .if_icmp .lt 4, 0, 0), (16, .return_, 0, 0), (17, .iload_n 1, 0, 0), (18, .aload_n 0, 0, 0), (19, .getfield 261, 11, 46), (22, .if_icmp .ne 41, 0, 0), (25, .aload_n 0, 0, 0), (26, .iload_n 3, 0, 0), (27, .putfield 264, 11, 47), (30, .iconst 0, 0, 0), (31, .istore 4, 0, 0), (33, .iload 4, 0, 0), (35, .aload_n 0, 0, 0), (36, .getfield 261, 11, 46), (39, .if_icmp .ge 23, 0, 0), (42, .aload_n 0, 0, 0), (43, .getfield 93, 11, 45), (46, .iload 4, 0, 0), (48, .aload_n 0, 0, 0), (49, .getfield 90, 11, 44), (52, .iload 4, 0, 0), (54, .iaload, 0, 0), (55, .iastore, 0, 0), (56, .iinc 4 1, 0, 0), (59, .goto (-26), 0, 0), (62, .return_, 0, 0), (63, .iconst 0, 0, 0), (64, .istore 4, 0, 0), (66, .iload 4, 0, 0), (68, .aload_n 0, 0, 0), (69, .getfield 261, 11, 46), (72, .if_icmp .ge 63, 0, 0), (75, .iload_n 2, 0, 0), (76, .iload 4, 0, 0), (78, .ishr, 0, 0), (79, .iconst 1, 0, 0), (80, .iand, 0, 0), (81, .ifCond .ne 48, 0, 0), (84, .aload_n 0, 0, 0), (85, .getfield 90, 11, 44), (88, .iload_n 1, 0, 0), (89, .iload 4, 0, 0), (91, .iastore, 0, 0), (92, .aload_n 0, 0, 0), (93, .iload_n 1, 0, 0), (94, .iconst 1, 0, 0), (95, .iadd, 0, 0), (96, .iload_n 2, 0, 0), (97, .iconst 1, 0, 0), (98, .iload 4, 0, 0), (100, .ishl, 0, 0), (101, .ior, 0, 0), (102, .iload_n 3, 0, 0), (103, .iload_n 1, 0, 0), (104, .ifCond .ne 7, 0, 0), (107, .iconst 0, 0, 0), (108, .goto 17, 0, 0), (111, .aload_n 0, 0, 0), (112, .aload_n 0, 0, 0), (113, .getfield 90, 11, 44), (116, .iload_n 1, 0, 0), (117, .iconst 1, 0, 0), (118, .isub, 0, 0), (119, .iaload, 0, 0), (120, .iload 4, 0, 0), (122, .invokevirtual 267, 171, 0), (125, .iadd, 0, 0), (126, .invokevirtual 270, 172, 0), (129, .iinc 4 1, 0, 0), (132, .goto (-66), 0, 0), (135, .return_, 0, 0)]
def mj_cd173 : List (Nat × Instr × Nat × Nat) := [(0, .iload_n 1, 0, 0), (1, .iconst (-1), 0, 0), (2, .aload_n 0, 0, 0), (3, .getfield 261, 11, 46), (6, .iconst 1, 0, 0), (7, .isub, 0, 0), (8, .invokestatic 100, 112, 0), (11, .ifCond .eq 10, 0, 0), (14, .aload_n 0, 0, 0), (15, .getfield 261, 11, 46), (18, .ifCond .ne 5, 0, 0), (21, .iconst (-1), 0, 0), (22, .ireturn, 0, 0), (23, .aload_n 0, 0, 0), (24, .iconst (-1), 0, 0), (25, .putfield 264, 11, 47), (28, .aload_n 0, 0, 0), (29, .iconst 0, 0, 0), (30, .iconst 0, 0, 0), (31, .iconst 0, 0, 0), (32, .invokevirtual 270, 172, 0), (35, .iload_n 1, 0, 0), (36, .iconst (-1), 0, 0), (37, .if_icmp .ne 10, 0, 0), (40, .aload_n 0, 0, 0), (41, .getfield 264, 11, 47), (44, .goto 9, 0, 0), (47, .aload_n 0, 0, 0), (48, .getfield 93, 11, 45), (51, .iload_n 1, 0, 0), (52, .iaload, 0, 0), (53, .ireturn, 0, 0)]
def mj_cd174 : List (Nat × Instr × Nat × Nat) := [(0, .iload_n 1, 0, 0), (1, .tableswitch 78 0 6 #[43, 48, 53, 58, 63, 68, 73], 0, 0), (44, .aload_n 0, 0, 0), (45, .getfield 104, 11, 0), (48, .ireturn, 0, 0), (49, .aload_n 0, 0, 0), (50, .getfield 107, 11, 7), (53, .ireturn, 0, 0), (54, .aload_n 0, 0, 0), (55, .getfield 110, 11, 8), (58, .ireturn, 0, 0), (59, .aload_n 0, 0, 0), (60, .getfield 176, 11, 21), (63, .ireturn, 0, 0), (64, .aload_n 0, 0, 0), (65, .getfield 222, 11, 28), (68, .ireturn, 0, 0), (69, .aload_n 0, 0, 0), (70, .getfield 252, 11, 40), (73, .ireturn, 0, 0), (74, .aload_n 0, 0, 0), (75, .getfield 261, 11, 46), (78, .ireturn, 0, 0), (79, .iconst (-1), 0, 0), (80, .ireturn, 0, 0)]
def mj_cd175 : List (Nat × Instr × Nat × Nat) := []
def mj_cd176 : List (Nat × Instr × Nat × Nat) := [(0, .new 8, 10, 0), (3, .dup, 0, 0), (4, .invokespecial 15, 67, 0), (7, .astore_n 1, 0, 0), (8, .new 16, 11, 0), (11, .dup, 0, 0), (12, .invokespecial 18, 113, 0), (15, .astore_n 2, 0, 0), (16, .iconst 1, 0, 0), (17, .newarray .long, 13, 0), (19, .astore_n 3, 0, 0), (20, .iconst 0, 0, 0), (21, .istore 4, 0, 0), (23, .iload 4, 0, 0), (25, .aload_n 0, 0, 0), (26, .arraylength, 0, 0), (27, .bipush 9, 0, 0), (29, .isub, 0, 0), (30, .if_icmp .gt 1330, 0, 0), (33, .aload_n 0, 0, 0), (34, .iload 4, 0, 0), (36, .iaload, 0, 0), (37, .bipush 31, 0, 0), (39, .iand, 0, 0), (40, .tableswitch 1314 0 30 #[140, 165, 280, 317, 366, 434, 483, 520, 581, 618, 655, 704, 729, 754, 791, 816, 841, 878, 903, 928, 965, 1002, 1039, 1076, 1129, 1166, 1191, 1216, 1253, 1264, 1289], 0, 0), (180, .aload_n 1, 0, 0), (181, .aload_n 0, 0, 0), (182, .iload 4, 0, 0), (184, .iconst 1, 0, 0), (185, .iadd, 0, 0), (186, .iaload, 0, 0), (187, .invokevirtual 19, 68, 0), (190, .aload_n 2, 0, 0), (191, .aload_n 0, 0, 0), (192, .iload 4, 0, 0), (194, .iconst 1, 0, 0), (195, .iadd, 0, 0), (196, .iaload, 0, 0), (197, .invokevirtual 23, 115, 0), (200, .if_icmp .eq 1154, 0, 0), (203, .iconst 0, 0, 0), (204, .ireturn, 0, 0), (205, .aload_n 1, 0, 0), (206, .aload_n 0, 0, 0), (207, .iload 4, 0, 0), (209, .iconst 1, 0, 0), (210, .iadd, 0, 0), (211, .iaload, 0, 0), (212, .aload_n 0, 0, 0), (213, .iload 4, 0, 0), (215, .iconst 2, 0, 0), (216, .iadd, 0, 0), (217, .iaload, 0, 0), (218, .aload_n 0, 0, 0), (219, .iload 4, 0, 0), (221, .iconst 3, 0, 0), (222, .iadd, 0, 0), (223, .iaload, 0, 0), (224, .aload_n 0, 0, 0), (225, .iload 4, 0, 0), (227, .iconst 4, 0, 0), (228, .iadd, 0, 0), (229, .iaload, 0, 0), (230, .aload_n 0, 0, 0), (231, .iload 4, 0, 0), (233, .iconst 5, 0, 0), (234, .iadd, 0, 0), (235, .iaload, 0, 0), (236, .aload_n 0, 0, 0), (237, .iload 4, 0, 0), (239, .bipush 6, 0, 0), (241, .iadd, 0, 0), (242, .iaload, 0, 0), (243, .aload_n 0, 0, 0), (244, .iload 4, 0, 0), (246, .bipush 7, 0, 0), (248, .iadd, 0, 0), (249, .iaload, 0, 0), (250, .aload_n 0, 0, 0), (251, .iload 4, 0, 0), (253, .bipush 8, 0, 0), (255, .iadd, 0, 0), (256, .iaload, 0, 0), (257, .invokevirtual 24, 69, 0), (260, .aload_n 2, 0, 0), (261, .aload_n 0, 0, 0), (262, .iload 4, 0, 0), (264, .iconst 1, 0, 0), (265, .iadd, 0, 0), (266, .iaload, 0, 0), (267, .aload_n 0, 0, 0), (268, .iload 4, 0, 0), (270, .iconst 2, 0, 0), (271, .iadd, 0, 0), (272, .iaload, 0, 0), (273, .aload_n 0, 0, 0), (274, .iload 4, 0, 0), (276, .iconst 3, 0, 0), (277, .iadd, 0, 0), (278, .iaload, 0, 0), (279, .aload_n 0, 0, 0), (280, .iload 4, 0, 0), (282, .iconst 4, 0, 0), (283, .iadd, 0, 0), (284, .iaload, 0, 0), (285, .aload_n 0, 0, 0), (286, .iload 4, 0, 0), (288, .iconst 5, 0, 0), (289, .iadd, 0, 0), (290, .iaload, 0, 0), (291, .aload_n 0, 0, 0), (292, .iload 4, 0, 0), (294, .bipush 6, 0, 0), (296, .iadd, 0, 0), (297, .iaload, 0, 0), (298, .aload_n 0, 0, 0), (299, .iload 4, 0, 0), (301, .bipush 7, 0, 0), (303, .iadd, 0, 0), (304, .iaload, 0, 0), (305, .aload_n 0, 0, 0), (306, .iload 4, 0, 0), (308, .bipush 8, 0, 0), (310, .iadd, 0, 0), (311, .iaload, 0, 0), (312, .invokevirtual 28, 119, 0), (315, .if_icmp .eq 1039, 0, 0), (318, .iconst 0, 0, 0), (319, .ireturn, 0, 0), (320, .aload_n 1, 0, 0), (321, .aload_n 0, 0, 0), (322, .iload 4, 0, 0), (324, .iconst 1, 0, 0), (325, .iadd, 0, 0), (326, .iaload, 0, 0), (327, .aload_n 0, 0, 0), (328, .iload 4, 0, 0), (330, .iconst 2, 0, 0), (331, .iadd, 0, 0), (332, .iaload, 0, 0), (333, .invokevirtual 29, 70, 0), (336, .aload_n 2, 0, 0), (337, .aload_n 0, 0, 0), (338, .iload 4, 0, 0), (340, .iconst 1, 0, 0), (341, .iadd, 0, 0), (342, .iaload, 0, 0), (343, .aload_n 0, 0, 0), (344, .iload 4, 0, 0), (346, .iconst 2, 0, 0), (347, .iadd, 0, 0), (348, .iaload, 0, 0), (349, .invokevirtual 33, 120, 0), (352, .if_icmp .eq 1002, 0, 0), (355, .iconst 0, 0, 0), (356, .ireturn, 0, 0), (357, .aload_n 1, 0, 0), (358, .aload_n 0, 0, 0), (359, .iload 4, 0, 0), (361, .iconst 1, 0, 0), (362, .iadd, 0, 0), (363, .iaload, 0, 0), (364, .aload_n 0, 0, 0), (365, .iload 4, 0, 0), (367, .iconst 2, 0, 0), (368, .iadd, 0, 0), (369, .iaload, 0, 0), (370, .aload_n 0, 0, 0), (371, .iload 4, 0, 0), (373, .iconst 3, 0, 0), (374, .iadd, 0, 0), (375, .iaload, 0, 0), (376, .invokevirtual 34, 71, 0), (379, .aload_n 2, 0, 0), (380, .aload_n 0, 0, 0), (381, .iload 4, 0, 0), (383, .iconst 1, 0, 0), (384, .iadd, 0, 0), (385, .iaload, 0, 0), (386, .aload_n 0, 0, 0), (387, .iload 4, 0, 0), (389, .iconst 2, 0, 0), (390, .iadd, 0, 0), (391, .iaload, 0, 0), (392, .aload_n 0, 0, 0), (393, .iload 4, 0, 0), (395, .iconst 3, 0, 0), (396, .iadd, 0, 0), (397, .iaload, 0, 0), (398, .invokevirtual 38, 121, 0), (401, .if_icmp .eq 953, 0, 0), (404, .iconst 0, 0, 0), (405, .ireturn, 0, 0), (406, .aload_n 1, 0, 0), (407, .aload_n 0, 0, 0), (408, .iload 4, 0, 0), (410, .iconst 1, 0, 0), (411, .iadd, 0, 0), (412, .iaload, 0, 0), (413, .aload_n 0, 0, 0), (414, .iload 4, 0, 0), (416, .iconst 2, 0, 0), (417, .iadd, 0, 0), (418, .iaload, 0, 0), (419, .aload_n 3, 0, 0), (420, .invokestatic 39, 175, 6), (423, .istore 5, 0, 0), (425, .aload_n 2, 0, 0), (426, .aload_n 0, 0, 0), (427, .iload 4, 0, 0), (429, .iconst 1, 0, 0), (430, .iadd, 0, 0), (431, .iaload, 0, 0), (432, .aload_n 0, 0, 0), (433, .iload 4, 0, 0), (435, .iconst 2, 0, 0), (436, .iadd, 0, 0), (437, .iaload, 0, 0), (438, .invokevirtual 44, 122, 0), (441, .istore 6, 0, 0), (443, .aload_n 2, 0, 0), (444, .invokevirtual 45, 114, 0), (447, .iload 5, 0, 0), (449, .if_icmp .eq 5, 0, 0), (452, .iconst 0, 0, 0), (453, .ireturn, 0, 0), (454, .iload 5, 0, 0), (456, .ifCond .ne 15, 0, 0), (459, .aload_n 3, 0, 0), (460, .iconst 0, 0, 0), (461, .laload, 0, 0), (462, .iload 6, 0, 0), (464, .i2l, 0, 0), (465, .lcmp, 0, 0), (466, .ifCond .eq 5, 0, 0), (469, .iconst 0, 0, 0), (470, .ireturn, 0, 0), (471, .goto 883, 0, 0), (474, .aload_n 1, 0, 0), (475, .aload_n 0, 0, 0), (476, .iload 4, 0, 0), (478, .iconst 1, 0, 0), (479, .iadd, 0, 0), (480, .iaload, 0, 0), (481, .aload_n 0, 0, 0), (482, .iload 4, 0, 0), (484, .iconst 2, 0, 0), (485, .iadd, 0, 0), (486, .iaload, 0, 0), (487, .aload_n 0, 0, 0), (488, .iload 4, 0, 0), (490, .iconst 3, 0, 0), (491, .iadd, 0, 0), (492, .iaload, 0, 0), (493, .invokevirtual 49, 73, 0), (496, .aload_n 2, 0, 0), (497, .aload_n 0, 0, 0), (498, .iload 4, 0, 0), (500, .iconst 1, 0, 0), (501, .iadd, 0, 0), (502, .iaload, 0, 0), (503, .aload_n 0, 0, 0), (504, .iload 4, 0, 0), (506, .iconst 2, 0, 0), (507, .iadd, 0, 0), (508, .iaload, 0, 0), (509, .aload_n 0, 0, 0), (510, .iload 4, 0, 0), (512, .iconst 3, 0, 0), (513, .iadd, 0, 0), (514, .iaload, 0, 0), (515, .invokevirtual 52, 123, 0), (518, .if_icmp .eq 836, 0, 0), (521, .iconst 0, 0, 0), (522, .ireturn, 0, 0), (523, .aload_n 1, 0, 0), (524, .aload_n 0, 0, 0), (525, .iload 4, 0, 0), (527, .iconst 1, 0, 0), (528, .iadd, 0, 0), (529, .iaload, 0, 0), (530, .aload_n 0, 0, 0), (531, .iload 4, 0, 0), (533, .iconst 2, 0, 0), (534, .iadd, 0, 0), (535, .iaload, 0, 0), (536, .invokevirtual 53, 74, 0), (539, .aload_n 2, 0, 0), (540, .aload_n 0, 0, 0), (541, .iload 4, 0, 0), (543, .iconst 1, 0, 0), (544, .iadd, 0, 0), (545, .iaload, 0, 0), (546, .aload_n 0, 0, 0), (547, .iload 4, 0, 0), (549, .iconst 2, 0, 0), (550, .iadd, 0, 0), (551, .iaload, 0, 0), (552, .invokevirtual 56, 133, 0), (555, .if_icmp .eq 799, 0, 0), (558, .iconst 0, 0, 0), (559, .ireturn, 0, 0), (560, .aload_n 1, 0, 0), (561, .aload_n 0, 0, 0), (562, .iload 4, 0, 0), (564, .iconst 1, 0, 0), (565, .iadd, 0, 0), (566, .iaload, 0, 0), (567, .aload_n 0, 0, 0), (568, .iload 4, 0, 0), (570, .iconst 2, 0, 0), (571, .iadd, 0, 0), (572, .iaload, 0, 0), (573, .aload_n 0, 0, 0), (574, .iload 4, 0, 0), (576, .iconst 3, 0, 0), (577, .iadd, 0, 0), (578, .iaload, 0, 0), (579, .aload_n 0, 0, 0), (580, .iload 4, 0, 0), (582, .iconst 4, 0, 0), (583, .iadd, 0, 0), (584, .iaload, 0, 0), (585, .invokevirtual 57, 75, 0), (588, .aload_n 2, 0, 0), (589, .aload_n 0, 0, 0), (590, .iload 4, 0, 0), (592, .iconst 1, 0, 0), (593, .iadd, 0, 0), (594, .iaload, 0, 0), (595, .aload_n 0, 0, 0), (596, .iload 4, 0, 0), (598, .iconst 2, 0, 0), (599, .iadd, 0, 0), (600, .iaload, 0, 0), (601, .aload_n 0, 0, 0), (602, .iload 4, 0, 0), (604, .iconst 3, 0, 0), (605, .iadd, 0, 0), (606, .iaload, 0, 0), (607, .aload_n 0, 0, 0), (608, .iload 4, 0, 0), (610, .iconst 4, 0, 0), (611, .iadd, 0, 0), (612, .iaload, 0, 0), (613, .invokevirtual 61, 134, 0), (616, .if_icmp .eq 738, 0, 0), (619, .iconst 0, 0, 0), (620, .ireturn, 0, 0), (621, .aload_n 1, 0, 0), (622, .aload_n 0, 0, 0), (623, .iload 4, 0, 0), (625, .iconst 1, 0, 0), (626, .iadd, 0, 0), (627, .iaload, 0, 0), (628, .aload_n 0, 0, 0), (629, .iload 4, 0, 0), (631, .iconst 2, 0, 0), (632, .iadd, 0, 0), (633, .iaload, 0, 0), (634, .invokevirtual 62, 76, 0), (637, .aload_n 2, 0, 0), (638, .aload_n 0, 0, 0), (639, .iload 4, 0, 0), (641, .iconst 1, 0, 0), (642, .iadd, 0, 0), (643, .iaload, 0, 0), (644, .aload_n 0, 0, 0), (645, .iload 4, 0, 0), (647, .iconst 2, 0, 0), (648, .iadd, 0, 0), (649, .iaload, 0, 0), (650, .invokevirtual 65, 135, 0), (653, .if_icmp .eq 701, 0, 0), (656, .iconst 0, 0, 0), (657, .ireturn, 0, 0), (658, .aload_n 1, 0, 0), (659, .aload_n 0, 0, 0), (660, .iload 4, 0, 0), (662, .iconst 1, 0, 0), (663, .iadd, 0, 0), (664, .iaload, 0, 0), (665, .aload_n 0, 0, 0), (666, .iload 4, 0, 0), (668, .iconst 2, 0, 0), (669, .iadd, 0, 0), (670, .iaload, 0, 0), (671, .invokevirtual 66, 77, 0), (674, .aload_n 2, 0, 0), (675, .aload_n 0, 0, 0), (676, .iload 4, 0, 0), (678, .iconst 1, 0, 0), (679, .iadd, 0, 0), (680, .iaload, 0, 0), (681, .aload_n 0, 0, 0), (682, .iload 4, 0, 0), (684, .iconst 2, 0, 0), (685, .iadd, 0, 0), (686, .iaload, 0, 0), (687, .invokevirtual 69, 136, 0), (690, .if_icmp .eq 664, 0, 0), (693, .iconst 0, 0, 0), (694, .ireturn, 0, 0), (695, .aload_n 1, 0, 0), (696, .aload_n 0, 0, 0), (697, .iload 4, 0, 0), (699, .iconst 1, 0, 0), (700, .iadd, 0, 0), (701, .iaload, 0, 0), (702, .aload_n 0, 0, 0), (703, .iload 4, 0, 0), (705, .iconst 2, 0, 0), (706, .iadd, 0, 0), (707, .iaload, 0, 0), (708, .aload_n 0, 0, 0), (709, .iload 4, 0, 0), (711, .iconst 3, 0, 0), (712, .iadd, 0, 0), (713, .iaload, 0, 0), (714, .invokevirtual 70, 78, 0), (717, .aload_n 2, 0, 0), (718, .aload_n 0, 0, 0), (719, .iload 4, 0, 0), (721, .iconst 1, 0, 0), (722, .iadd, 0, 0), (723, .iaload, 0, 0), (724, .aload_n 0, 0, 0), (725, .iload 4, 0, 0), (727, .iconst 2, 0, 0), (728, .iadd, 0, 0), (729, .iaload, 0, 0), (730, .aload_n 0, 0, 0), (731, .iload 4, 0, 0), (733, .iconst 3, 0, 0), (734, .iadd, 0, 0), (735, .iaload, 0, 0), (736, .invokevirtual 73, 138, 0), (739, .if_icmp .eq 615, 0, 0), (742, .iconst 0, 0, 0), (743, .ireturn, 0, 0), (744, .aload_n 1, 0, 0), (745, .aload_n 0, 0, 0), (746, .iload 4, 0, 0), (748, .iconst 1, 0, 0), (749, .iadd, 0, 0), (750, .iaload, 0, 0), (751, .invokevirtual 74, 79, 0), (754, .aload_n 2, 0, 0), (755, .aload_n 0, 0, 0), (756, .iload 4, 0, 0), (758, .iconst 1, 0, 0), (759, .iadd, 0, 0), (760, .iaload, 0, 0), (761, .invokevirtual 77, 144, 0), (764, .if_icmp .eq 590, 0, 0), (767, .iconst 0, 0, 0), (768, .ireturn, 0, 0), (769, .aload_n 1, 0, 0), (770, .aload_n 0, 0, 0), (771, .iload 4, 0, 0), (773, .iconst 1, 0, 0), (774, .iadd, 0, 0), (775, .iaload, 0, 0), (776, .invokevirtual 78, 80, 0), (779, .aload_n 2, 0, 0), (780, .aload_n 0, 0, 0), (781, .iload 4, 0, 0), (783, .iconst 1, 0, 0), (784, .iadd, 0, 0), (785, .iaload, 0, 0), (786, .invokevirtual 81, 148, 0), (789, .if_icmp .eq 565, 0, 0), (792, .iconst 0, 0, 0), (793, .ireturn, 0, 0), (794, .aload_n 1, 0, 0), (795, .aload_n 0, 0, 0), (796, .iload 4, 0, 0), (798, .iconst 1, 0, 0), (799, .iadd, 0, 0), (800, .iaload, 0, 0), (801, .aload_n 0, 0, 0), (802, .iload 4, 0, 0), (804, .iconst 2, 0, 0), (805, .iadd, 0, 0), (806, .iaload, 0, 0), (807, .invokevirtual 82, 81, 0), (810, .aload_n 2, 0, 0), (811, .aload_n 0, 0, 0), (812, .iload 4, 0, 0), (814, .iconst 1, 0, 0), (815, .iadd, 0, 0), (816, .iaload, 0, 0), (817, .aload_n 0, 0, 0), (818, .iload 4, 0, 0), (820, .iconst 2, 0, 0), (821, .iadd, 0, 0), (822, .iaload, 0, 0), (823, .invokevirtual 85, 151, 0), (826, .if_icmp .eq 528, 0, 0), (829, .iconst 0, 0, 0), (830, .ireturn, 0, 0), (831, .aload_n 1, 0, 0), (832, .aload_n 0, 0, 0), (833, .iload 4, 0, 0), (835, .iconst 1, 0, 0), (836, .iadd, 0, 0), (837, .iaload, 0, 0), (838, .invokevirtual 86, 82, 0), (841, .aload_n 2, 0, 0), (842, .aload_n 0, 0, 0), (843, .iload 4, 0, 0), (845, .iconst 1, 0, 0), (846, .iadd, 0, 0), (847, .iaload, 0, 0), (848, .invokevirtual 89, 152, 0), (851, .if_icmp .eq 503, 0, 0), (854, .iconst 0, 0, 0), (855, .ireturn, 0, 0), (856, .aload_n 1, 0, 0), (857, .aload_n 0, 0, 0), (858, .iload 4, 0, 0), (860, .iconst 1, 0, 0), (861, .iadd, 0, 0), (862, .iaload, 0, 0), (863, .invokevirtual 90, 83, 0), (866, .aload_n 2, 0, 0), (867, .aload_n 0, 0, 0), (868, .iload 4, 0, 0), (870, .iconst 1, 0, 0), (871, .iadd, 0, 0), (872, .iaload, 0, 0), (873, .invokevirtual 93, 153, 0), (876, .if_icmp .eq 478, 0, 0), (879, .iconst 0, 0, 0), (880, .ireturn, 0, 0), (881, .aload_n 1, 0, 0), (882, .aload_n 0, 0, 0), (883, .iload 4, 0, 0), (885, .iconst 1, 0, 0), (886, .iadd, 0, 0), (887, .iaload, 0, 0), (888, .aload_n 0, 0, 0), (889, .iload 4, 0, 0), (891, .iconst 2, 0, 0), (892, .iadd, 0, 0), (893, .iaload, 0, 0), (894, .invokevirtual 94, 84, 0), (897, .aload_n 2, 0, 0), (898, .aload_n 0, 0, 0), (899, .iload 4, 0, 0), (901, .iconst 1, 0, 0), (902, .iadd, 0, 0), (903, .iaload, 0, 0), (904, .aload_n 0, 0, 0), (905, .iload 4, 0, 0), (907, .iconst 2, 0, 0), (908, .iadd, 0, 0), (909, .iaload, 0, 0), (910, .invokevirtual 97, 154, 0), (913, .if_icmp .eq 441, 0, 0), (916, .iconst 0, 0, 0), (917, .ireturn, 0, 0), (918, .aload_n 1, 0, 0), (919, .aload_n 0, 0, 0), (920, .iload 4, 0, 0), (922, .iconst 1, 0, 0), (923, .iadd, 0, 0), (924, .iaload, 0, 0), (925, .invokevirtual 98, 85, 0), (928, .aload_n 2, 0, 0), (929, .aload_n 0, 0, 0), (930, .iload 4, 0, 0), (932, .iconst 1, 0, 0), (933, .iadd, 0, 0), (934, .iaload, 0, 0), (935, .invokevirtual 102, 155, 0), (938, .if_icmp .eq 416, 0, 0), (941, .iconst 0, 0, 0), (942, .ireturn, 0, 0), (943, .aload_n 1, 0, 0), (944, .aload_n 0, 0, 0), (945, .iload 4, 0, 0), (947, .iconst 1, 0, 0), (948, .iadd, 0, 0), (949, .iaload, 0, 0), (950, .invokevirtual 103, 86, 0), (953, .aload_n 2, 0, 0), (954, .aload_n 0, 0, 0), (955, .iload 4, 0, 0), (957, .iconst 1, 0, 0), (958, .iadd, 0, 0), (959, .iaload, 0, 0), (960, .invokevirtual 106, 157, 0), (963, .if_icmp .eq 391, 0, 0), (966, .iconst 0, 0, 0), (967, .ireturn, 0, 0), (968, .aload_n 1, 0, 0), (969, .aload_n 0, 0, 0), (970, .iload 4, 0, 0), (972, .iconst 1, 0, 0), (973, .iadd, 0, 0), (974, .iaload, 0, 0), (975, .aload_n 0, 0, 0), (976, .iload 4, 0, 0), (978, .iconst 2, 0, 0), (979, .iadd, 0, 0), (980, .iaload, 0, 0), (981, .invokevirtual 107, 87, 0), (984, .aload_n 2, 0, 0), (985, .aload_n 0, 0, 0), (986, .iload 4, 0, 0), (988, .iconst 1, 0, 0), (989, .iadd, 0, 0), (990, .iaload, 0, 0), (991, .aload_n 0, 0, 0), (992, .iload 4, 0, 0), (994, .iconst 2, 0, 0), (995, .iadd, 0, 0), (996, .iaload, 0, 0), (997, .invokevirtual 110, 159, 0), (1000, .if_icmp .eq 354, 0, 0), (1003, .iconst 0, 0, 0), (1004, .ireturn, 0, 0), (1005, .aload_n 1, 0, 0), (1006, .aload_n 0, 0, 0), (1007, .iload 4, 0, 0), (1009, .iconst 1, 0, 0), (1010, .iadd, 0, 0), (1011, .iaload, 0, 0), (1012, .aload_n 0, 0, 0), (1013, .iload 4, 0, 0), (1015, .iconst 2, 0, 0), (1016, .iadd, 0, 0), (1017, .iaload, 0, 0), (1018, .invokevirtual 111, 88, 0), (1021, .aload_n 2, 0, 0), (1022, .aload_n 0, 0, 0), (1023, .iload 4, 0, 0), (1025, .iconst 1, 0, 0), (1026, .iadd, 0, 0), (1027, .iaload, 0, 0), (1028, .aload_n 0, 0, 0), (1029, .iload 4, 0, 0), (1031, .iconst 2, 0, 0), (1032, .iadd, 0, 0), (1033, .iaload, 0, 0), (1034, .invokevirtual 114, 161, 0), (1037, .if_icmp .eq 317, 0, 0), (1040, .iconst 0, 0, 0), (1041, .ireturn, 0, 0), (1042, .aload_n 1, 0, 0), (1043, .aload_n 0, 0, 0), (1044, .iload 4, 0, 0), (1046, .iconst 1, 0, 0), (1047, .iadd, 0, 0), (1048, .iaload, 0, 0), (1049, .aload_n 0, 0, 0), (1050, .iload 4, 0, 0), (1052, .iconst 2, 0, 0), (1053, .iadd, 0, 0), (1054, .iaload, 0, 0), (1055, .invokevirtual 115, 89, 0), (1058, .aload_n 2, 0, 0), (1059, .aload_n 0, 0, 0), (1060, .iload 4, 0, 0), (1062, .iconst 1, 0, 0), (1063, .iadd, 0, 0), (1064, .iaload, 0, 0), (1065, .aload_n 0, 0, 0), (1066, .iload 4, 0, 0), (1068, .iconst 2, 0, 0), (1069, .iadd, 0, 0), (1070, .iaload, 0, 0), (1071, .invokevirtual 118, 162, 0), (1074, .if_icmp .eq 280, 0, 0), (1077, .iconst 0, 0, 0), (1078, .ireturn, 0, 0), (1079, .aload_n 1, 0, 0), (1080, .aload_n 0, 0, 0), (1081, .iload 4, 0, 0), (1083, .iconst 1, 0, 0), (1084, .iadd, 0, 0), (1085, .iaload, 0, 0), (1086, .aload_n 0, 0, 0), (1087, .iload 4, 0, 0), (1089, .iconst 2, 0, 0), (1090, .iadd, 0, 0), (1091, .iaload, 0, 0), (1092, .invokevirtual 119, 90, 0), (1095, .aload_n 2, 0, 0), (1096, .aload_n 0, 0, 0), (1097, .iload 4, 0, 0), (1099, .iconst 1, 0, 0), (1100, .iadd, 0, 0), (1101, .iaload, 0, 0), (1102, .aload_n 0, 0, 0), (1103, .iload 4, 0, 0), (1105, .iconst 2, 0, 0), (1106, .iadd, 0, 0), (1107, .iaload, 0, 0), (1108, .invokevirtual 122, 163, 0), (1111, .if_icmp .eq 243, 0, 0), (1114, .iconst 0, 0, 0), (1115, .ireturn, 0, 0), (1116, .aload_n 1, 0, 0), (1117, .aload_n 0, 0, 0), (1118, .iload 4, 0, 0), (1120, .iconst 1, 0, 0), (1121, .iadd, 0, 0), (1122, .iaload, 0, 0), (1123, .aload_n 0, 0, 0), (1124, .iload 4, 0, 0), (1126, .iconst 2, 0, 0), (1127, .iadd, 0, 0), (1128, .iaload, 0, 0), (1129, .ifCond .eq 7, 0, 0), (1132, .iconst 1, 0, 0), (1133, .goto 4, 0, 0), (1136, .iconst 0, 0, 0), (1137, .invokevirtual 123, 91, 0), (1140, .aload_n 2, 0, 0), (1141, .aload_n 0, 0, 0), (1142, .iload 4, 0, 0), (1144, .iconst 1, 0, 0), (1145, .iadd, 0, 0), (1146, .iaload, 0, 0), (1147, .aload_n 0, 0, 0), (1148, .iload 4, 0, 0), (1150, .iconst 2, 0, 0), (1151, .iadd, 0, 0), (1152, .iaload, 0, 0), (1153, .ifCond .eq 7, 0, 0), (1156, .iconst 1, 0, 0), (1157, .goto 4, 0, 0), (1160, .iconst 0, 0, 0), (1161, .invokevirtual 127, 164, 0), (1164, .if_icmp .eq 190, 0, 0), (1167, .iconst 0, 0, 0), (1168, .ireturn, 0, 0), (1169, .aload_n 1, 0, 0), (1170, .aload_n 0, 0, 0), (1171, .iload 4, 0, 0), (1173, .iconst 1, 0, 0), (1174, .iadd, 0, 0), (1175, .iaload, 0, 0), (1176, .aload_n 0, 0, 0), (1177, .iload 4, 0, 0), (1179, .iconst 2, 0, 0), (1180, .iadd, 0, 0), (1181, .iaload, 0, 0), (1182, .invokevirtual 128, 92, 0), (1185, .aload_n 2, 0, 0), (1186, .aload_n 0, 0, 0), (1187, .iload 4, 0, 0), (1189, .iconst 1, 0, 0), (1190, .iadd, 0, 0), (1191, .iaload, 0, 0), (1192, .aload_n 0, 0, 0), (1193, .iload 4, 0, 0), (1195, .iconst 2, 0, 0), (1196, .iadd, 0, 0), (1197, .iaload, 0, 0), (1198, .invokevirtual 131, 166, 0), (1201, .if_icmp .eq 153, 0, 0), (1204, .iconst 0, 0, 0), (1205, .ireturn, 0, 0), (1206, .aload_n 1, 0, 0), (1207, .aload_n 0, 0, 0), (1208, .iload 4, 0, 0), (1210, .iconst 1, 0, 0), (1211, .iadd, 0, 0), (1212, .iaload, 0, 0), (1213, .invokevirtual 132, 93, 0), (1216, .aload_n 2, 0, 0), (1217, .aload_n 0, 0, 0), (1218, .iload 4, 0, 0), (1220, .iconst 1, 0, 0), (1221, .iadd, 0, 0), (1222, .iaload, 0, 0), (1223, .invokevirtual 135, 167, 0), (1226, .if_icmp .eq 128, 0, 0), (1229, .iconst 0, 0, 0), (1230, .ireturn, 0, 0), (1231, .aload_n 1, 0, 0), (1232, .aload_n 0, 0, 0), (1233, .iload 4, 0, 0), (1235, .iconst 1, 0, 0), (1236, .iadd, 0, 0), (1237, .iaload, 0, 0), (1238, .invokevirtual 136, 94, 0), (1241, .aload_n 2, 0, 0), (1242, .aload_n 0, 0, 0), (1243, .iload 4, 0, 0), (1245, .iconst 1, 0, 0), (1246, .iadd, 0, 0), (1247, .iaload, 0, 0), (1248, .invokevirtual 139, 168, 0), (1251, .if_icmp .eq 103, 0, 0), (1254, .iconst 0, 0, 0), (1255, .ireturn, 0, 0), (1256, .aload_n 1, 0, 0), (1257, .aload_n 0, 0, 0), (1258, .iload 4, 0, 0), (1260, .iconst 1, 0, 0), (1261, .iadd, 0, 0), (1262, .iaload, 0, 0), (1263, .aload_n 0, 0, 0), (1264, .iload 4, 0, 0), (1266, .iconst 2, 0, 0), (1267, .iadd, 0, 0), (1268, .iaload, 0, 0), (1269, .invokevirtual 140, 95, 0), (1272, .aload_n 2, 0, 0), (1273, .aload_n 0, 0, 0), (1274, .iload 4, 0, 0), (1276, .iconst 1, 0, 0), (1277, .iadd, 0, 0), (1278, .iaload, 0, 0), (1279, .aload_n 0, 0, 0), (1280, .iload 4, 0, 0), (1282, .iconst 2, 0, 0), (1283, .iadd, 0, 0), (1284, .iaload, 0, 0), (1285, .invokevirtual 143, 169, 0), (1288, .if_icmp .eq 66, 0, 0), (1291, .iconst 0, 0, 0), (1292, .ireturn, 0, 0), (1293, .aload_n 1, 0, 0), (1294, .invokevirtual 144, 96, 0), (1297, .aload_n 2, 0, 0), (1298, .invokevirtual 147, 170, 0), (1301, .goto 53, 0, 0), (1304, .aload_n 1, 0, 0), (1305, .aload_n 0, 0, 0), (1306, .iload 4, 0, 0), (1308, .iconst 1, 0, 0), (1309, .iadd, 0, 0), (1310, .iaload, 0, 0), (1311, .invokevirtual 148, 97, 0), (1314, .aload_n 2, 0, 0), (1315, .aload_n 0, 0, 0), (1316, .iload 4, 0, 0), (1318, .iconst 1, 0, 0), (1319, .iadd, 0, 0), (1320, .iaload, 0, 0), (1321, .invokevirtual 151, 173, 0), (1324, .if_icmp .eq 30, 0, 0), (1327, .iconst 0, 0, 0), (1328, .ireturn, 0, 0), (1329, .aload_n 1, 0, 0), (1330, .aload_n 0, 0, 0), (1331, .iload 4, 0, 0), (1333, .iconst 1, 0, 0), (1334, .iadd, 0, 0), (1335, .iaload, 0, 0), (1336, .invokevirtual 152, 98, 0), (1339, .aload_n 2, 0, 0), (1340, .aload_n 0, 0, 0), (1341, .iload 4, 0, 0), (1343, .iconst 1, 0, 0), (1344, .iadd, 0, 0), (1345, .iaload, 0, 0), (1346, .invokevirtual 155, 174, 0), (1349, .if_icmp .eq 5, 0, 0), (1352, .iconst 0, 0, 0), (1353, .ireturn, 0, 0), (1354, .iinc 4 9, 0, 0), (1357, .goto (-1334), 0, 0), (1360, .iconst 1, 0, 0), (1361, .ireturn, 0, 0)]
def mj_cds : List (List (Nat × Instr × Nat × Nat)) := [mj_cd0, mj_cd1, mj_cd2, mj_cd3, mj_cd4, mj_cd5, mj_cd6, mj_cd7, mj_cd8, mj_cd9, mj_cd10, mj_cd11, mj_cd12, mj_cd13, mj_cd14, mj_cd15, mj_cd16, mj_cd17, mj_cd18, mj_cd19, mj_cd20, mj_cd21, mj_cd22, mj_cd23, mj_cd24, mj_cd25, mj_cd26, mj_cd27, mj_cd28, mj_cd29, mj_cd30, mj_cd31, mj_cd32, mj_cd33, mj_cd34, mj_cd35, mj_cd36, mj_cd37, mj_cd38, mj_cd39, mj_cd40, mj_cd41, mj_cd42, mj_cd43, mj_cd44, mj_cd45, mj_cd46, mj_cd47, mj_cd48, mj_cd49, mj_cd50, mj_cd51, mj_cd52, mj_cd53, mj_cd54, mj_cd55, mj_cd56, mj_cd57, mj_cd58, mj_cd59, mj_cd60, mj_cd61, mj_cd62, mj_cd63, mj_cd64, mj_cd65, mj_cd66, mj_cd67, mj_cd68, mj_cd69, mj_cd70, mj_cd71, mj_cd72, mj_cd73, mj_cd74, mj_cd75, mj_cd76, mj_cd77, mj_cd78, mj_cd79, mj_cd80, mj_cd81, mj_cd82, mj_cd83, mj_cd84, mj_cd85, mj_cd86, mj_cd87, mj_cd88, mj_cd89, mj_cd90, mj_cd91, mj_cd92, mj_cd93, mj_cd94, mj_cd95, mj_cd96, mj_cd97, mj_cd98, mj_cd99, mj_cd100, mj_cd101, mj_cd102, mj_cd103, mj_cd104, mj_cd105, mj_cd106, mj_cd107, mj_cd108, mj_cd109, mj_cd110, mj_cd111, mj_cd112, mj_cd113, mj_cd114, mj_cd115, mj_cd116, mj_cd117, mj_cd118, mj_cd119, mj_cd120, mj_cd121, mj_cd122, mj_cd123, mj_cd124, mj_cd125, mj_cd126, mj_cd127, mj_cd128, mj_cd129, mj_cd130, mj_cd131, mj_cd132, mj_cd133, mj_cd134, mj_cd135, mj_cd136, mj_cd137, mj_cd138, mj_cd139, mj_cd140, mj_cd141, mj_cd142, mj_cd143, mj_cd144, mj_cd145, mj_cd146, mj_cd147, mj_cd148, mj_cd149, mj_cd150, mj_cd151, mj_cd152, mj_cd153, mj_cd154, mj_cd155, mj_cd156, mj_cd157, mj_cd158, mj_cd159, mj_cd160, mj_cd161, mj_cd162, mj_cd163, mj_cd164, mj_cd165, mj_cd166, mj_cd167, mj_cd168, mj_cd169, mj_cd170, mj_cd171, mj_cd172, mj_cd173, mj_cd174, mj_cd175, mj_cd176]
/-- fields: own class, pool number, kind, place, of a nest mate -/
def mj_fl : List (Nat × Nat × Nat × Nat × Nat) := [(0, 9, 0, 0, 0), (0, 15, 0, 1, 0), (0, 18, 0, 2, 0), (0, 21, 0, 3, 0), (0, 37, 0, 4, 0), (0, 41, 0, 5, 0), (0, 63, 0, 7, 0), (0, 70, 0, 6, 0), (0, 73, 0, 8, 0), (0, 80, 3, 2, 1), (1, 13, 1, 0, 0), (1, 17, 1, 1, 0), (1, 21, 1, 2, 0), (1, 24, 1, 3, 0), (1, 27, 1, 4, 0), (1, 30, 1, 5, 0), (1, 41, 1, 6, 0), (1, 44, 4, 0, 1), (1, 48, 4, 1, 1), (2, 11, 2, 0, 0), (2, 15, 2, 1, 0), (2, 18, 2, 2, 0), (2, 21, 2, 3, 0), (2, 24, 2, 5, 0), (2, 28, 2, 7, 0), (2, 32, 2, 4, 0), (2, 42, 2, 6, 0), (3, 9, 3, 2, 0), (3, 15, 3, 3, 0), (3, 19, 3, 4, 0), (3, 22, 3, 0, 0), (3, 26, 3, 1, 0), (3, 29, 6, 0, 1), (4, 7, 4, 0, 0), (4, 13, 4, 1, 0), (4, 17, 4, 2, 0), (5, 9, 5, 0, 0), (5, 28, 9, 1, 1), (5, 40, 9, 0, 1), (5, 61, 9, 2, 1), (5, 82, 8, 3, 1), (5, 83, 8, 4, 1), (5, 92, 9, 6, 1), (5, 95, 9, 4, 1), (5, 98, 9, 5, 1), (6, 7, 6, 0, 0), (6, 13, 6, 1, 0), (7, 9, 7, 0, 0), (7, 17, 7, 1, 0), (8, 11, 8, 0, 0), (8, 15, 8, 1, 0), (8, 18, 8, 2, 0), (8, 26, 8, 3, 0), (8, 29, 8, 4, 0), (9, 7, 9, 0, 0), (9, 13, 9, 1, 0), (9, 17, 9, 2, 0), (10, 11, 10, 0, 0), (10, 17, 10, 1, 0), (10, 23, 10, 2, 0), (10, 30, 10, 3, 0), (10, 37, 10, 4, 0), (10, 44, 10, 5, 0), (10, 51, 10, 6, 0), (10, 58, 10, 7, 0), (10, 62, 10, 9, 0), (10, 66, 10, 10, 0), (10, 91, 10, 11, 0), (10, 121, 0, 7, 1), (10, 108, 3, 2, 1), (10, 125, 0, 0, 1), (10, 128, 0, 1, 1), (10, 131, 0, 2, 1), (10, 134, 0, 3, 1), (10, 137, 0, 8, 1), (10, 140, 0, 6, 1), (10, 146, 10, 12, 0), (10, 160, 9, 1, 1), (10, 163, 9, 2, 1), (10, 170, 9, 0, 1), (10, 185, 7, 1, 1), (10, 204, 7, 0, 1), (10, 213, 8, 2, 1), (10, 216, 9, 6, 1), (10, 219, 9, 4, 1), (10, 222, 9, 5, 1), (10, 243, 4, 2, 1), (10, 251, 1, 1, 1), (10, 267, 2, 5, 1), (10, 271, 2, 6, 1), (10, 274, 2, 2, 1), (10, 277, 1, 5, 1), (10, 284, 9, 3, 1), (10, 287, 10, 8, 0), (10, 309, 8, 3, 1), (10, 310, 8, 4, 1), (11, 9, 11, 2, 0), (11, 13, 11, 3, 0), (11, 17, 11, 4, 0), (11, 20, 11, 5, 0), (11, 23, 11, 6, 0), (11, 26, 11, 9, 0), (11, 29, 11, 10, 0), (11, 32, 11, 11, 0), (11, 35, 11, 12, 0), (11, 38, 11, 13, 0), (11, 41, 11, 16, 0), (11, 44, 11, 18, 0), (11, 47, 11, 19, 0), (11, 50, 11, 20, 0), (11, 54, 11, 23, 0), (11, 57, 11, 24, 0), (11, 60, 11, 25, 0), (11, 63, 11, 27, 0), (11, 66, 11, 34, 0), (11, 69, 11, 35, 0), (11, 72, 11, 36, 0), (11, 75, 11, 37, 0), (11, 78, 11, 38, 0), (11, 81, 11, 39, 0), (11, 84, 11, 42, 0), (11, 87, 11, 43, 0), (11, 90, 11, 44, 0), (11, 93, 11, 45, 0), (11, 96, 11, 1, 0), (11, 104, 11, 0, 0), (11, 107, 11, 7, 0), (11, 110, 11, 8, 0), (11, 140, 11, 14, 0), (11, 151, 11, 15, 0), (11, 159, 11, 17, 0), (11, 176, 11, 21, 0), (11, 179, 11, 22, 0), (11, 211, 11, 26, 0), (11, 222, 11, 28, 0), (11, 225, 11, 30, 0), (11, 228, 11, 29, 0), (11, 234, 11, 33, 0), (11, 237, 11, 31, 0), (11, 240, 11, 32, 0), (11, 252, 11, 40, 0), (11, 255, 11, 41, 0), (11, 261, 11, 46, 0), (11, 264, 11, 47, 0)]
def mj_ml : List (Nat × Nat × Nat × Nat) := [(0, 3, 1001, 0), (0, 24, 33, 1), (0, 30, 2, 0), (0, 34, 34, 1), (0, 45, 3, 0), (0, 48, 4, 0), (0, 52, 5, 0), (0, 55, 6, 0), (0, 59, 9, 0), (0, 66, 35, 1), (0, 76, 108, 1), (0, 83, 7, 0), (0, 87, 8, 0), (0, 92, 10, 0), (1, 3, 1001, 0), (1, 34, 36, 1), (1, 37, 13, 0), (1, 51, 1, 1), (1, 57, 18, 0), (1, 61, 32, 1), (2, 3, 1001, 0), (2, 35, 23, 0), (2, 38, 25, 0), (2, 45, 26, 0), (2, 49, 28, 0), (2, 53, 24, 0), (2, 56, 110, 1), (2, 60, 27, 0), (3, 3, 1001, 0), (3, 32, 31, 0), (3, 36, 1002, 0), (3, 42, 1003, 0), (4, 1, 1001, 0), (5, 1, 1001, 0), (5, 13, 44, 0), (5, 17, 47, 0), (5, 24, 39, 0), (5, 37, 48, 0), (5, 44, 1, 1), (5, 50, 40, 0), (5, 64, 46, 0), (5, 68, 1003, 0), (5, 74, 59, 1), (5, 78, 61, 1), (5, 84, 63, 1), (5, 88, 43, 0), (5, 101, 108, 1), (5, 106, 45, 0), (6, 1, 1001, 0), (7, 1, 1001, 0), (7, 13, 57, 0), (7, 21, 1002, 0), (7, 27, 1005, 0), (8, 3, 1001, 0), (8, 22, 60, 0), (8, 32, 64, 0), (8, 36, 65, 0), (8, 39, 108, 1), (8, 43, 62, 0), (9, 1, 1001, 0), (10, 1, 1001, 0), (10, 29, 0, 1), (10, 36, 58, 1), (10, 43, 52, 1), (10, 50, 11, 1), (10, 57, 19, 1), (10, 76, 49, 1), (10, 79, 99, 0), (10, 83, 50, 1), (10, 87, 51, 1), (10, 94, 29, 1), (10, 97, 30, 1), (10, 111, 106, 0), (10, 117, 103, 0), (10, 101, 100, 0), (10, 143, 107, 0), (10, 149, 108, 0), (10, 153, 66, 1), (10, 156, 101, 0), (10, 166, 109, 0), (10, 174, 1, 1), (10, 178, 104, 0), (10, 182, 53, 1), (10, 188, 56, 1), (10, 191, 54, 1), (10, 194, 55, 1), (10, 197, 59, 1), (10, 200, 61, 1), (10, 207, 105, 0), (10, 210, 63, 1), (10, 225, 111, 0), (10, 228, 12, 1), (10, 232, 14, 1), (10, 236, 13, 1), (10, 240, 102, 0), (10, 248, 15, 1), (10, 254, 16, 1), (10, 258, 17, 1), (10, 262, 20, 1), (10, 264, 21, 1), (10, 268, 22, 1), (10, 280, 2, 1), (10, 293, 37, 1), (10, 294, 38, 1), (10, 298, 42, 1), (10, 302, 41, 1), (10, 306, 62, 1), (10, 311, 1004, 0), (10, 316, 110, 0), (11, 1, 1001, 0), (11, 100, 112, 0), (11, 113, 116, 0), (11, 117, 1002, 0), (11, 123, 1003, 0), (11, 126, 117, 0), (11, 129, 124, 0), (11, 133, 126, 0), (11, 137, 125, 0), (11, 143, 128, 0), (11, 147, 127, 0), (11, 155, 129, 0), (11, 162, 130, 0), (11, 165, 118, 0), (11, 168, 132, 0), (11, 172, 131, 0), (11, 182, 140, 0), (11, 185, 137, 0), (11, 188, 143, 0), (11, 191, 141, 0), (11, 195, 139, 0), (11, 198, 142, 0), (11, 201, 145, 0), (11, 204, 146, 0), (11, 208, 147, 0), (11, 214, 149, 0), (11, 218, 150, 0), (11, 231, 156, 0), (11, 243, 158, 0), (11, 246, 1004, 0), (11, 249, 160, 0), (11, 258, 165, 0), (11, 267, 171, 0), (11, 270, 172, 0), (12, 15, 67, 0), (12, 18, 113, 0), (12, 19, 68, 0), (12, 23, 115, 0), (12, 24, 69, 0), (12, 28, 119, 0), (12, 29, 70, 0), (12, 33, 120, 0), (12, 34, 71, 0), (12, 38, 121, 0), (12, 44, 122, 0), (12, 45, 114, 0), (12, 49, 73, 0), (12, 52, 123, 0), (12, 53, 74, 0), (12, 56, 133, 0), (12, 57, 75, 0), (12, 61, 134, 0), (12, 62, 76, 0), (12, 65, 135, 0), (12, 66, 77, 0), (12, 69, 136, 0), (12, 70, 78, 0), (12, 73, 138, 0), (12, 74, 79, 0), (12, 77, 144, 0), (12, 78, 80, 0), (12, 81, 148, 0), (12, 82, 81, 0), (12, 85, 151, 0), (12, 86, 82, 0), (12, 89, 152, 0), (12, 90, 83, 0), (12, 93, 153, 0), (12, 94, 84, 0), (12, 97, 154, 0), (12, 98, 85, 0), (12, 102, 155, 0), (12, 103, 86, 0), (12, 106, 157, 0), (12, 107, 87, 0), (12, 110, 159, 0), (12, 111, 88, 0), (12, 114, 161, 0), (12, 115, 89, 0), (12, 118, 162, 0), (12, 119, 90, 0), (12, 122, 163, 0), (12, 123, 91, 0), (12, 127, 164, 0), (12, 128, 92, 0), (12, 131, 166, 0), (12, 132, 93, 0), (12, 135, 167, 0), (12, 136, 94, 0), (12, 139, 168, 0), (12, 140, 95, 0), (12, 143, 169, 0), (12, 144, 96, 0), (12, 147, 170, 0), (12, 148, 97, 0), (12, 151, 173, 0), (12, 152, 98, 0), (12, 155, 174, 0)]
def mj_cls : List (Nat × Nat × Nat) := [(1, 11, 16), (1, 11, 4), (10, 9, 17), (10, 15, 15), (10, 21, 18), (10, 27, 0), (10, 34, 8), (10, 41, 7), (10, 48, 1), (10, 55, 2), (10, 9, 6), (10, 15, 3), (10, 21, 9), (10, 291, 5), (12, 8, 10), (12, 16, 11)]
def mj_cst : List (Nat × Nat × Nat) := [(0, 91, 100000), (10, 124, 4293967296), (11, 53, 46656), (11, 136, 100000), (11, 175, 4293967296)]
def mj_sl : List (Nat × Nat × Nat × Nat) := [(5, 21, 6, 0), (5, 34, 5, 0), (5, 53, 3, 0), (5, 56, 4, 0), (5, 110, 2, 1), (8, 47, 2, 1), (10, 69, 0, 0), (10, 73, 1, 0), (10, 114, 2, 0)]
def mj_sCL : List (String × String) := [(RX10, "LEAST_MARK"), (RX10, "MOST_MARK"), (RX10, "STEP"), (RX5, "STRIDE"), (RX5, "STRETCHES_BELOW"), (RX5, "HIGH"), (RX5, "SPAN")]
def mj_sVL : List (List Int32) := [[1, 1, 0, 50, 1, 50, 0, 1], [100, 100, 300, 900, 100, 999, 500, 500], [81, 9, 1], [441, 21, 1], [0, 1, 3, 6, 10, 15, 21], [0, 1, 1, 2, 2, 2, 3, 3, 3, 3, 4, 4, 4, 4, 4, 5, 5, 5, 5, 5, 5], [0, 0, 1, 0, 1, 2, 0, 1, 2, 3, 0, 1, 2, 3, 4, 0, 1, 2, 3, 4, 5]]
end
section
/-! A SMALL MACHINE over the program's instructions: numbered cells, total rows of ints, longs and references; one run of it is a run of the JVM (part 05). -/
def mj_own (mid : Nat) : Nat := mj_ownL.getD mid 0
def mj_maxL (mid : Nat) : Nat := mj_maxLL.getD mid 0
def mj_np (mid : Nat) : Nat := mj_npL.getD mid 0
def mj_st (mid : Nat) : Bool := mj_stL.getD mid false
def mj_y (mid : Nat) : MethodName := mj_yL.getD mid yL_law
def mj_bAt : Option Cond → ByteArray
  | some (.code _ b _ _) => b
  | _ => ⟨#[]⟩
def mj_b (mid : Nat) : ByteArray := if mid = 176 then code else mj_bAt lw_tbl[mj_bP.getD mid 9999]?
def mj_r (mid : Nat) : Option FieldType := mj_rL.getD mid none
def mj_cn (o : Nat) : String := mj_cnL.getD o ""
def mj_tyL : List (Nat → FieldType) := [tyX0, tyX1, tyX2, tyX3, tyX4, tyX5, tyX6, tyX7, tyX8, tyX9, tyX10, tyX11]
def mj_ty (kd : Nat) : Nat → FieldType := mj_tyL.getD kd tyX0
def mj_kc (kd : Nat) : vw_C := vwCl.getD kd (RX0, TX0, 0)
def mj_nf (kd : Nat) : Nat := (mj_kc kd).2.2
def mj_sL (k : Nat) : Nat := (mj_sVL.getD k []).length
def mj_sV (k j : Nat) : Int32 := (mj_sVL.getD k []).getD j 0
def mj_sC (k : Nat) : String := (mj_sCL.getD k ("", "")).1
def mj_sN (k : Nat) : String := (mj_sCL.getD k ("", "")).2
def mj_isR : FieldType → Bool
  | .object _ => true
  | .array _ => true
  | _ => false
def mj_look : List (Nat × Instr × Nat × Nat) → Nat → Option (Instr × Nat × Nat)
  | [], _ => none
  | e :: r, pc => bif Nat.beq e.1 pc then some e.2 else mj_look r pc
def mj_fetch (mid pc : Nat) : Option (Instr × Nat × Nat) := mj_look (mj_cds.getD mid []) pc
/-- the heap: next address, slots made so far, kind and length by address, ints, longs, references by address and place -/
abbrev mj_H : Type := Nat × Nat × (Nat → Nat × Nat) × (Nat → Nat → Int32) × (Nat → Nat → Int64) × (Nat → Nat → Option Nat)
def mj_K (h : mj_H) : Nat → Nat × Nat := h.2.2.1
def mj_I (h : mj_H) : Nat → Nat → Int32 := h.2.2.2.1
def mj_J (h : mj_H) : Nat → Nat → Int64 := h.2.2.2.2.1
def mj_R (h : mj_H) : Nat → Nat → Option Nat := h.2.2.2.2.2
def mj_u {α : Type} (f : Nat → Nat → α) (a j : Nat) (x : α) : Nat → Nat → α := fun b i => if b = a then (if i = j then x else f b i) else f b i
def mj_setI (h : mj_H) (a j : Nat) (x : Int32) : mj_H := (h.1, h.2.1, h.2.2.1, mj_u h.2.2.2.1 a j x, h.2.2.2.2.1, h.2.2.2.2.2)
def mj_setJ (h : mj_H) (a j : Nat) (x : Int64) : mj_H := (h.1, h.2.1, h.2.2.1, h.2.2.2.1, mj_u h.2.2.2.2.1 a j x, h.2.2.2.2.2)
def mj_setR (h : mj_H) (a j : Nat) (x : Option Nat) : mj_H := (h.1, h.2.1, h.2.2.1, h.2.2.2.1, h.2.2.2.2.1, mj_u h.2.2.2.2.2 a j x)
/-- a whole row of ints anew -/
def mj_setW (h : mj_H) (a : Nat) (f : Nat → Int32) : mj_H := (h.1, h.2.1, h.2.2.1, (fun b i => if b = a then f i else h.2.2.2.1 b i), h.2.2.2.2.1, h.2.2.2.2.2)
def mj_new (h : mj_H) (kd len : Nat) : mj_H := (h.1 + 1, h.2.1 + len, (fun b => if b = h.1 then (kd, len) else h.2.2.1 b), (fun b i => if b = h.1 then 0 else h.2.2.2.1 b i), (fun b i => if b = h.1 then 0 else h.2.2.2.2.1 b i), (fun b i => if b = h.1 then none else h.2.2.2.2.2 b i))
def mj_unset : Value := .float 0
abbrev mj_S : Type := Nat × List Value × List Value × mj_H
def mj_icmp : Instr → Int32 → Int32 → Bool
  | .if_icmp .eq _, x, y => decide (x = y)
  | .if_icmp .ne _, x, y => decide (¬ x = y)
  | .if_icmp .lt _, x, y => decide (x < y)
  | .if_icmp .ge _, x, y => decide (y ≤ x)
  | .if_icmp .gt _, x, y => decide (y < x)
  | .if_icmp .le _, x, y => decide (x ≤ y)
  | .ifCond .eq _, x, _ => decide (x = 0)
  | .ifCond .ne _, x, _ => decide (¬ x = 0)
  | .ifCond .lt _, x, _ => decide (x < 0)
  | .ifCond .ge _, x, _ => decide (0 ≤ x)
  | .ifCond .gt _, x, _ => decide (0 < x)
  | .ifCond .le _, x, _ => decide (x ≤ 0)
  | _, _, _ => false
def mj_tgt (pc : Nat) (off : Int) : Nat := ((pc : Int) + off).toNat
def mj_load (ls : List Value) (k : Nat) (isInt : Bool) : Option Value :=
  match ls[k]? with
  | some (.int x) => if isInt then some (.int x) else none
  | some (.ref q) => if isInt then none else some (.ref q)
  | some .null => if isInt then none else some .null
  | _ => none
def mj_bin (st : List Value) (f : Int32 → Int32 → Option Int32) : Option (List Value) :=
  match st with
  | .int y :: .int x :: r => (f x y).map (fun z => .int z :: r)
  | _ => none
def mj_lbin (st : List Value) (f : Int64 → Int64 → Value) : Option (List Value) :=
  match st with
  | .long y :: .long x :: r => some (f x y :: r)
  | _ => none
def mj_fv (h : mj_H) (kd a j : Nat) : Value := if mj_isR (mj_ty kd j) then va_rf (mj_R h a j) else .int (mj_I h a j)
def mj_words (r : List Value) : Nat := (r.map fun v => v.category).sum
def mj_inb (h : mj_H) (k : Nat) (i : Int32) : Bool := !(decide (i < 0) || decide ((mj_K h k).2 ≤ i.toNatClampNeg))
/-- the class whose objects an array of references holds -/
def mj_elt (kd : Nat) : Nat := if kd = 15 then 3 else if kd = 16 then 4 else if kd = 17 then 6 else 9
def mj_getf (h : mj_H) (a b : Nat) (st : List Value) : Option (List Value) :=
  match st with
  | .ref k :: r => if (mj_K h k).1 = a ∧ a < 12 ∧ b < mj_nf a then some (mj_fv h a k b :: r) else none
  | _ => none
def mj_putf (h : mj_H) (a b : Nat) (st : List Value) : Option (List Value × mj_H) :=
  match st with
  | .int x :: .ref k :: r => if (mj_K h k).1 = a ∧ a < 12 ∧ b < mj_nf a ∧ (mj_ty a b = .int ∨ (mj_ty a b = .boolean ∧ (x = 0 ∨ x = 1))) then some (r, mj_setI h k b x) else none
  | .ref v :: .ref k :: r => if (mj_K h k).1 = a ∧ a < 12 ∧ b < mj_nf a ∧ mj_isR (mj_ty a b) = true then some (r, mj_setR h k b (some v)) else none
  | .null :: .ref k :: r => if (mj_K h k).1 = a ∧ a < 12 ∧ b < mj_nf a ∧ mj_isR (mj_ty a b) = true then some (r, mj_setR h k b none) else none
  | _ => none
def mj_ald (h : mj_H) (kd : Nat) (st : List Value) : Option (List Value) :=
  match st with
  | .int i :: .ref k :: r => if (mj_K h k).1 = kd ∧ mj_inb h k i = true then some ((if kd = 13 then .long (mj_J h k i.toNatClampNeg) else .int (mj_I h k i.toNatClampNeg)) :: r) else none
  | _ => none
def mj_rld (h : mj_H) (st : List Value) : Option (List Value) :=
  match st with
  | .int i :: .ref k :: r => if 15 ≤ (mj_K h k).1 ∧ (mj_K h k).1 ≤ 18 ∧ mj_inb h k i = true then some (va_rf (mj_R h k i.toNatClampNeg) :: r) else none
  | _ => none
def mj_ast (h : mj_H) (st : List Value) : Option (List Value × mj_H) :=
  match st with
  | .int x :: .int i :: .ref k :: r => if 8 ≤ k ∧ (mj_K h k).1 = 12 ∧ mj_inb h k i = true then some (r, mj_setI h k i.toNatClampNeg x) else none
  | _ => none
def mj_zst (h : mj_H) (st : List Value) : Option (List Value × mj_H) :=
  match st with
  | .int x :: .int i :: .ref k :: r => if (mj_K h k).1 = 14 ∧ (x = 0 ∨ x = 1) ∧ mj_inb h k i = true then some (r, mj_setI h k i.toNatClampNeg x) else none
  | _ => none
def mj_lst (h : mj_H) (st : List Value) : Option (List Value × mj_H) :=
  match st with
  | .long x :: .int i :: .ref k :: r => if (mj_K h k).1 = 13 ∧ mj_inb h k i = true then some (r, mj_setJ h k i.toNatClampNeg x) else none
  | _ => none
def mj_rst (h : mj_H) (st : List Value) : Option (List Value × mj_H) :=
  match st with
  | .ref v :: .int i :: .ref k :: r => if 15 ≤ (mj_K h k).1 ∧ (mj_K h k).1 ≤ 18 ∧ (mj_K h v).1 = mj_elt (mj_K h k).1 ∧ mj_inb h k i = true then some (r, mj_setR h k i.toNatClampNeg (some v)) else none
  | _ => none
def mj_alen (h : mj_H) (st : List Value) : Option (List Value) :=
  match st with
  | .ref k :: r => if 12 ≤ (mj_K h k).1 ∧ (mj_K h k).1 ≤ 18 then some (.int (Int32.ofNat (mj_K h k).2) :: r) else none
  | _ => none
def mj_nwa (h : mj_H) (kd : Nat) (st : List Value) : Option (List Value × mj_H) :=
  match st with
  | .int n :: r => if ¬ n < 0 ∧ n.toNatClampNeg ≤ 100000 then some (.ref h.1 :: r, mj_new h kd n.toNatClampNeg) else none
  | _ => none
def mj_cpy (h : mj_H) (st : List Value) : Option (List Value × mj_H) :=
  match st with
  | .int n :: .int dp :: .ref q :: .int sp :: .ref k :: r => if 8 ≤ k ∧ 8 ≤ q ∧ (mj_K h k).1 = 12 ∧ (mj_K h q).1 = 12 ∧ ¬ sp < 0 ∧ ¬ dp < 0 ∧ ¬ n < 0 ∧ sp.toNatClampNeg + n.toNatClampNeg ≤ (mj_K h k).2 ∧ dp.toNatClampNeg + n.toNatClampNeg ≤ (mj_K h q).2 ∧ mj_words r ≤ 8 then some (r, mj_setW h q (va_cpy (mj_I h k) (mj_I h q) sp.toNatClampNeg dp.toNatClampNeg n.toNatClampNeg)) else none
  | _ => none
/-- what is told of a job, by the law's own method: thrown (a cell of no further use is made, and 1 answered), or the number put into the law's row (and 0 answered) -/
def mj_toldT (h : mj_H) (r : List Value) : Option (List Value × mj_H) := some (.int 1 :: r, mj_new h 19 6)
def mj_toldQ (h : mj_H) (o q : Nat) (w : Int32) (r : List Value) : Option (List Value × mj_H) :=
  if w < 0 ∨ 8 < w then mj_toldT h r
  else if (mj_K h q).1 = 3 then
    match mj_R h q 2 with
    | some mm => if (mj_K h mm).1 = 12 ∧ mj_inb h mm w = true then some (.int 0 :: r, mj_setJ h o 0 (mj_I h mm w.toNatClampNeg).toInt64) else none
    | none => none
  else none
def mj_told (h : mj_H) (st : List Value) : Option (List Value × mj_H) :=
  match st with
  | .ref o :: .int w :: .int j :: .ref x :: r =>
    if (mj_K h x).1 = 10 ∧ (mj_K h o).1 = 13 ∧ 1 ≤ (mj_K h o).2 ∧ mj_words r ≤ 8 then
      if ¬ j < 0 ∧ j < mj_I h x 11 then
        match mj_R h x 1 with
        | some jr => if (mj_K h jr).1 = 15 ∧ mj_inb h jr j = true then
            match mj_R h jr j.toNatClampNeg with
            | some q => mj_toldQ h o q w r
            | none => mj_toldT h r
          else none
        | none => none
      else mj_toldT h r
    else none
  | _ => none
def mj_step (i : Instr) (a b pc : Nat) (ls st : List Value) (h : mj_H) : Option mj_S :=
  match i with
  | .iconst n => some (pc + 1, ls, .int (Int32.ofInt n) :: st, h)
  | .bipush n => some (pc + 2, ls, .int (Int8.ofInt n).toInt32 :: st, h)
  | .sipush n => some (pc + 3, ls, .int (Int16.ofInt n).toInt32 :: st, h)
  | .ldc _ => some (pc + 2, ls, .int (Int32.ofNat a) :: st, h)
  | .lconst n => some (pc + 1, ls, .long (Int64.ofNat (n : Nat)) :: st, h)
  | .aconst_null => some (pc + 1, ls, .null :: st, h)
  | .iload_n k => (mj_load ls (k : Nat) true).map fun v => (pc + 1, ls, v :: st, h)
  | .iload k => (mj_load ls k true).map fun v => (pc + 2, ls, v :: st, h)
  | .aload_n k => (mj_load ls (k : Nat) false).map fun v => (pc + 1, ls, v :: st, h)
  | .aload k => (mj_load ls k false).map fun v => (pc + 2, ls, v :: st, h)
  | .istore_n k => match st with
    | .int x :: r => if (k : Nat) < ls.length then some (pc + 1, ls.set (k : Nat) (.int x), r, h) else none
    | _ => none
  | .istore k => match st with
    | .int x :: r => if k < ls.length then some (pc + 2, ls.set k (.int x), r, h) else none
    | _ => none
  | .astore_n k => match st with
    | .ref x :: r => if (k : Nat) < ls.length then some (pc + 1, ls.set (k : Nat) (.ref x), r, h) else none
    | .null :: r => if (k : Nat) < ls.length then some (pc + 1, ls.set (k : Nat) .null, r, h) else none
    | _ => none
  | .astore k => match st with
    | .ref x :: r => if k < ls.length then some (pc + 2, ls.set k (.ref x), r, h) else none
    | .null :: r => if k < ls.length then some (pc + 2, ls.set k .null, r, h) else none
    | _ => none
  | .iinc k n => match ls[k]? with
    | some (.int x) => some (pc + 3, ls.set k (.int (x + Int32.ofInt n)), st, h)
    | _ => none
  | .iadd => (mj_bin st fun x y => some (x + y)).map fun z => (pc + 1, ls, z, h)
  | .isub => (mj_bin st fun x y => some (x - y)).map fun z => (pc + 1, ls, z, h)
  | .imul => (mj_bin st fun x y => some (x * y)).map fun z => (pc + 1, ls, z, h)
  | .iand => (mj_bin st fun x y => some (x &&& y)).map fun z => (pc + 1, ls, z, h)
  | .ior => (mj_bin st fun x y => some (x ||| y)).map fun z => (pc + 1, ls, z, h)
  | .ishl => (mj_bin st fun x y => some (x <<< (y &&& 31))).map fun z => (pc + 1, ls, z, h)
  | .ishr => (mj_bin st fun x y => some (x >>> (y &&& 31))).map fun z => (pc + 1, ls, z, h)
  | .idiv => (mj_bin st fun x y => if y = 0 then none else some (x / y)).map fun z => (pc + 1, ls, z, h)
  | .irem => (mj_bin st fun x y => if y = 0 then none else some (x - x / y * y)).map fun z => (pc + 1, ls, z, h)
  | .land => (mj_lbin st fun x y => .long (x &&& y)).map fun z => (pc + 1, ls, z, h)
  | .lor => (mj_lbin st fun x y => .long (x ||| y)).map fun z => (pc + 1, ls, z, h)
  | .lcmp => (mj_lbin st fun x y => .int (lg_cmp x y)).map fun z => (pc + 1, ls, z, h)
  | .lshl => match st with
    | .int y :: .long x :: r => some (pc + 1, ls, .long (x <<< (y.toInt64 &&& 63)) :: r, h)
    | _ => none
  | .lshr => match st with
    | .int y :: .long x :: r => some (pc + 1, ls, .long (x >>> (y.toInt64 &&& 63)) :: r, h)
    | _ => none
  | .i2l => match st with
    | .int x :: r => some (pc + 1, ls, .long x.toInt64 :: r, h)
    | _ => none
  | .dup => match st with
    | v :: r => if v.category = 1 then some (pc + 1, ls, v :: v :: r, h) else none
    | _ => none
  | .pop => match st with
    | v :: r => if v.category = 1 then some (pc + 1, ls, r, h) else none
    | _ => none
  | .dup2 => match st with
    | v :: w :: r => if v.category = 1 ∧ w.category = 1 then some (pc + 1, ls, v :: w :: v :: w :: r, h) else none
    | _ => none
  | .goto off => some (mj_tgt pc off, ls, st, h)
  | .if_icmp c off => match st with
    | .int y :: .int x :: r => some (bif mj_icmp (.if_icmp c off) x y then mj_tgt pc off else pc + 3, ls, r, h)
    | _ => none
  | .ifCond c off => match st with
    | .int x :: r => some (bif mj_icmp (.ifCond c off) x 0 then mj_tgt pc off else pc + 3, ls, r, h)
    | _ => none
  | .ifnull off => match st with
    | .ref _ :: r => some (pc + 3, ls, r, h)
    | .null :: r => some (mj_tgt pc off, ls, r, h)
    | _ => none
  | .ifnonnull off => match st with
    | .ref _ :: r => some (mj_tgt pc off, ls, r, h)
    | .null :: r => some (pc + 3, ls, r, h)
    | _ => none
  | .if_acmp .ne off => match st with
    | .ref y :: .ref x :: r => if 8 ≤ x ∧ 8 ≤ y then some (if x = y then pc + 3 else mj_tgt pc off, ls, r, h) else none
    | .ref _ :: .null :: r => some (mj_tgt pc off, ls, r, h)
    | _ => none
  | .tableswitch dflt lo hi offs => match st with
    | .int x :: r => if x.toInt < lo ∨ hi < x.toInt then some (mj_tgt pc dflt, ls, r, h) else (offs[(x.toInt - lo).toNat]?).map fun off => (mj_tgt pc off, ls, r, h)
    | _ => none
  | .getfield _ => (mj_getf h a b st).map fun z => (pc + 3, ls, z, h)
  | .putfield _ => (mj_putf h a b st).map fun z => (pc + 3, ls, z.1, z.2)
  | .getstatic _ => some (pc + 3, ls, .ref a :: st, h)
  | .iaload => (mj_ald h 12 st).map fun z => (pc + 1, ls, z, h)
  | .baload => (mj_ald h 14 st).map fun z => (pc + 1, ls, z, h)
  | .laload => (mj_ald h 13 st).map fun z => (pc + 1, ls, z, h)
  | .aaload => (mj_rld h st).map fun z => (pc + 1, ls, z, h)
  | .iastore => (mj_ast h st).map fun z => (pc + 1, ls, z.1, z.2)
  | .bastore => (mj_zst h st).map fun z => (pc + 1, ls, z.1, z.2)
  | .lastore => (mj_lst h st).map fun z => (pc + 1, ls, z.1, z.2)
  | .aastore => (mj_rst h st).map fun z => (pc + 1, ls, z.1, z.2)
  | .arraylength => (mj_alen h st).map fun z => (pc + 1, ls, z, h)
  | .newarray _ => (mj_nwa h a st).map fun z => (pc + 2, ls, z.1, z.2)
  | .anewarray _ => (mj_nwa h a st).map fun z => (pc + 3, ls, z.1, z.2)
  | .new _ => if a < 12 then some (pc + 3, ls, .ref h.1 :: st, mj_new h a (mj_nf a)) else none
  | .invokespecial _ => match st with
    | .ref _ :: r => if b = 1 ∧ mj_words r ≤ 8 then some (pc + 3, ls, r, h) else none
    | _ => none
  | .invokestatic _ =>
    if b = 2 then match st with
      | .int y :: .int x :: r => if mj_words r ≤ 8 then some (pc + 3, ls, .int (if y < x then y else x) :: r, h) else none
      | _ => none
    else if b = 3 then match st with
      | .int y :: .int x :: r => if mj_words r ≤ 8 then some (pc + 3, ls, .int (if x < y then y else x) :: r, h) else none
      | _ => none
    else if b = 4 then match st with
      | .int x :: r => if mj_words r ≤ 8 then some (pc + 3, ls, .int (if 0 ≤ x then x else 0 - x) :: r, h) else none
      | _ => none
    else if b = 5 then (mj_cpy h st).map fun z => (pc + 3, ls, z.1, z.2)
    else if b = 6 then (mj_told h st).map fun z => (pc + 3, ls, z.1, z.2)
    else none
  | _ => none
/-- a return: what is answered -/
def mj_ret (rt : Option FieldType) (i : Instr) (st : List Value) : Option (Option Value) :=
  match i with
  | .return_ => match rt, st with
    | none, [] => some none
    | _, _ => none
  | .ireturn => match rt, st with
    | some .int, [.int v] => some (some (.int v))
    | some .boolean, [.int v] => if v = 0 ∨ v = 1 then some (some (.int v)) else none
    | _, _ => none
  | .areturn => match rt, st with
    | some t, [.ref v] => if mj_isR t then some (some (.ref v)) else none
    | some t, [.null] => if mj_isR t then some (some .null) else none
    | _, _ => none
  | _ => none
def mj_kn : Value → Bool
  | .int _ => true
  | .ref _ => true
  | .null => true
  | _ => false
/-- a call of a method of the program: its number, its arguments, the stack below -/
def mj_call (i : Instr) (a b : Nat) (st : List Value) (h : mj_H) : Option (List Value × List Value) :=
  if b = 0 then
    match i with
    | .invokevirtual _ => match st.drop (mj_np a) with
      | .ref k :: r => if (mj_K h k).1 = mj_own a ∧ mj_own a < 12 ∧ mj_words r ≤ 8 ∧ mj_st a = false ∧ (st.take (mj_np a)).all mj_kn = true then some (.ref k :: (st.take (mj_np a)).reverse, r) else none
      | _ => none
    | .invokespecial _ => match st.drop (mj_np a) with
      | .ref k :: r => if mj_words r ≤ 8 ∧ mj_st a = false ∧ (st.take (mj_np a)).all mj_kn = true then some (.ref k :: (st.take (mj_np a)).reverse, r) else none
      | _ => none
    | .invokestatic _ => if mj_np a ≤ st.length ∧ mj_words (st.drop (mj_np a)) ≤ 8 ∧ mj_st a = true ∧ (st.take (mj_np a)).all mj_kn = true then some ((st.take (mj_np a)).reverse, st.drop (mj_np a)) else none
    | _ => none
  else none
def mj_run : Nat → Nat → Nat → Nat → List Value → List Value → mj_H → Option (Option Value × mj_H)
  | 0, _, _, _, _, _, _ => none
  | n + 1, d, mid, pc, ls, st, h =>
    match mj_fetch mid pc with
    | none => none
    | some (i, a, b) =>
      match mj_ret (mj_r mid) i st with
      | some r => some (r, h)
      | none =>
        match mj_call i a b st h with
        | some (args, st') =>
          match d with
          | 0 => none
          | d' + 1 =>
            match mj_run n d' a 0 (args ++ List.replicate (mj_maxL a - args.length) mj_unset) [] h with
            | none => none
            | some (r, h') => mj_run n (d' + 1) mid (pc + 3) ls (r.toList ++ st') h'
        | none =>
          match mj_step i a b pc ls st h with
          | none => none
          | some (pc', ls', st', h') => mj_run n d mid pc' ls' st' h'
end
section
/-! ROWS OF THE SMALL MACHINE: a goal at an instruction out of the goal at the next -/
def mx (d mid pc : Nat) (ls st : List Value) (h : mj_H) (Q : Option Value → mj_H → Prop) : Prop := ∃ n r h', mj_run n d mid pc ls st h = some (r, h') ∧ Q r h'
theorem mj_run_le : ∀ (n m d d' mid pc : Nat) (ls st : List Value) (h : mj_H) (x : Option Value × mj_H), mj_run n d mid pc ls st h = some x → n ≤ m → d ≤ d' → mj_run m d' mid pc ls st h = some x := by
  intro n
  induction n with
  | zero => intro m d d' mid pc ls st h x e; cases e
  | succ n ih =>
    intro m d d' mid pc ls st h x e hm hd
    obtain ⟨m', rfl⟩ : ∃ m', m = m' + 1 := ⟨m - 1, by omega⟩
    unfold mj_run at e ⊢
    split at e
    · cases e
    · rename_i i a b hf
      try rw [hf]
      try dsimp only
      split at e
      · rename_i r hr
        try rw [hr]
        exact e
      · rename_i hr
        try rw [hr]
        try dsimp only
        split at e
        · rename_i as st' hc
          try rw [hc]
          try dsimp only
          split at e
          · cases e
          · rename_i d0
            obtain ⟨d1, rfl⟩ : ∃ d1, d' = d1 + 1 := ⟨d' - 1, by omega⟩
            split at e
            · cases e
            · rename_i r1 h1 e1
              show (match mj_run m' d1 a 0 (as ++ List.replicate (mj_maxL a - as.length) mj_unset) [] h with | none => none | some (r, h') => mj_run m' (d1 + 1) mid (pc + 3) ls (r.toList ++ st') h') = some x
              rw [ih m' d0 d1 _ _ _ _ _ _ e1 (by omega) (by omega)]
              exact ih m' _ _ _ _ _ _ _ _ e (by omega) (by omega)
        · rename_i hc
          try rw [hc]
          try dsimp only
          split at e
          · cases e
          · rename_i p1 l1 s1 h1 e1
            try rw [e1]
            exact ih m' _ _ _ _ _ _ _ _ e (by omega) (by omega)
section MXR
variable {d mid pc : Nat} {ls st : List Value} {h : mj_H} {Q Q' : Option Value → mj_H → Prop} {a b : Nat}
theorem mx.mono {d' : Nat} (k : mx d mid pc ls st h Q) (hd : d ≤ d') : mx d' mid pc ls st h Q := by
  obtain ⟨n, r, h', e, q⟩ := k
  exact ⟨n, r, h', mj_run_le n n d d' _ _ _ _ _ _ e (Nat.le_refl _) hd, q⟩
theorem mx.post (k : mx d mid pc ls st h Q) (hq : ∀ r h', Q r h' → Q' r h') : mx d mid pc ls st h Q' := by
  obtain ⟨n, r, h', e, q⟩ := k
  exact ⟨n, r, h', e, hq r h' q⟩
theorem mx_step {i : Instr} {pc' : Nat} {ls' st' : List Value} {h' : mj_H} (f : mj_fetch mid pc = some (i, a, b)) (hr : mj_ret (mj_r mid) i st = none) (hc : mj_call i a b st h = none) (hs : mj_step i a b pc ls st h = some (pc', ls', st', h')) (k : mx d mid pc' ls' st' h' Q) : mx d mid pc ls st h Q := by
  obtain ⟨n, r, h1, e, q⟩ := k
  refine ⟨n + 1, r, h1, ?_, q⟩
  unfold mj_run
  rw [f]; dsimp only
  rw [hr]; dsimp only
  rw [hc]; dsimp only
  rw [hs]
  exact e
theorem mx_ret {i : Instr} {r : Option Value} (f : mj_fetch mid pc = some (i, a, b)) (hr : mj_ret (mj_r mid) i st = some r) (q : Q r h) : mx d mid pc ls st h Q := by
  refine ⟨1, r, h, ?_, q⟩
  unfold mj_run
  rw [f]; dsimp only
  rw [hr]
theorem mx_call {i : Instr} {dc : Nat} {as st' : List Value} (f : mj_fetch mid pc = some (i, a, b)) (hr : mj_ret (mj_r mid) i st = none) (hc : mj_call i a b st h = some (as, st')) (hd : dc < d) (k : mx dc a 0 (as ++ List.replicate (mj_maxL a - as.length) mj_unset) [] h Q') (kk : ∀ r h', Q' r h' → mx d mid (pc + 3) ls (r.toList ++ st') h' Q) : mx d mid pc ls st h Q := by
  obtain ⟨n, r, h1, e, q⟩ := k
  obtain ⟨n2, r2, h2, e2, q2⟩ := kk r h1 q
  obtain ⟨d', rfl⟩ : ∃ d', d = d' + 1 := ⟨d - 1, by omega⟩
  refine ⟨n + n2 + 1, r2, h2, ?_, q2⟩
  unfold mj_run
  rw [f]; dsimp only
  rw [hr]; dsimp only
  rw [hc]; dsimp only
  rw [mj_run_le n (n + n2) dc d' _ _ _ _ _ _ e (by omega) (by omega)]
  exact mj_run_le n2 (n + n2) _ _ _ _ _ _ _ _ e2 (by omega) (Nat.le_refl _)
theorem mj_nocall {i : Instr} (hi : ∀ x, i ≠ .invokevirtual x ∧ i ≠ .invokespecial x ∧ i ≠ .invokestatic x) : mj_call i a b st h = none := by
  unfold mj_call
  split
  · split
    · exact absurd rfl (hi _).1
    · exact absurd rfl (hi _).2.1
    · exact absurd rfl (hi _).2.2
    · rfl
  · rfl

theorem x_iconst {n : Int} {v : Int32} (f : mj_fetch mid pc = some (.iconst n, a, b)) (hv : Int32.ofInt n = v) (k : mx d mid (pc + 1) ls (.int v :: st) h Q) : mx d mid pc ls st h Q := mx_step f rfl (mj_nocall fun _ => ⟨nofun, nofun, nofun⟩) (by rw [← hv]; rfl) k
theorem x_bipush {n : Int} {v : Int32} (f : mj_fetch mid pc = some (.bipush n, a, b)) (hv : (Int8.ofInt n).toInt32 = v) (k : mx d mid (pc + 2) ls (.int v :: st) h Q) : mx d mid pc ls st h Q := mx_step f rfl (mj_nocall fun _ => ⟨nofun, nofun, nofun⟩) (by rw [← hv]; rfl) k
theorem x_sipush {n : Int} {v : Int32} (f : mj_fetch mid pc = some (.sipush n, a, b)) (hv : (Int16.ofInt n).toInt32 = v) (k : mx d mid (pc + 3) ls (.int v :: st) h Q) : mx d mid pc ls st h Q := mx_step f rfl (mj_nocall fun _ => ⟨nofun, nofun, nofun⟩) (by rw [← hv]; rfl) k
theorem x_ldc {x : Nat} {v : Int32} (f : mj_fetch mid pc = some (.ldc x, a, b)) (hv : Int32.ofNat a = v) (k : mx d mid (pc + 2) ls (.int v :: st) h Q) : mx d mid pc ls st h Q := mx_step f rfl (mj_nocall fun _ => ⟨nofun, nofun, nofun⟩) (by rw [← hv]; rfl) k
theorem x_lconst {n : Fin 2} {v : Int64} (f : mj_fetch mid pc = some (.lconst n, a, b)) (hv : Int64.ofNat (n : Nat) = v) (k : mx d mid (pc + 1) ls (.long v :: st) h Q) : mx d mid pc ls st h Q := mx_step f rfl (mj_nocall fun _ => ⟨nofun, nofun, nofun⟩) (by rw [← hv]; rfl) k
theorem x_null  (f : mj_fetch mid pc = some (.aconst_null, a, b)) (k : mx d mid (pc + 1) ls (.null :: st) h Q) : mx d mid pc ls st h Q := mx_step f rfl (mj_nocall fun _ => ⟨nofun, nofun, nofun⟩) (by rfl) k
theorem x_iload_n {k : Fin 4} {x : Int32} (f : mj_fetch mid pc = some (.iload_n k, a, b)) (hl : ls[(k : Nat)]? = some (.int x)) (k : mx d mid (pc + 1) ls (.int x :: st) h Q) : mx d mid pc ls st h Q := mx_step f rfl (mj_nocall fun _ => ⟨nofun, nofun, nofun⟩) (by simp [mj_step, mj_load, hl]) k
theorem x_iload {k : Nat} {x : Int32} (f : mj_fetch mid pc = some (.iload k, a, b)) (hl : ls[(k : Nat)]? = some (.int x)) (k : mx d mid (pc + 2) ls (.int x :: st) h Q) : mx d mid pc ls st h Q := mx_step f rfl (mj_nocall fun _ => ⟨nofun, nofun, nofun⟩) (by simp [mj_step, mj_load, hl]) k
theorem x_aload_n {k : Fin 4} {x : Nat} (f : mj_fetch mid pc = some (.aload_n k, a, b)) (hl : ls[(k : Nat)]? = some (.ref x)) (k : mx d mid (pc + 1) ls (.ref x :: st) h Q) : mx d mid pc ls st h Q := mx_step f rfl (mj_nocall fun _ => ⟨nofun, nofun, nofun⟩) (by simp [mj_step, mj_load, hl]) k
theorem x_aload_nN {k : Fin 4} (f : mj_fetch mid pc = some (.aload_n k, a, b)) (hl : ls[(k : Nat)]? = some .null) (k : mx d mid (pc + 1) ls (.null :: st) h Q) : mx d mid pc ls st h Q := mx_step f rfl (mj_nocall fun _ => ⟨nofun, nofun, nofun⟩) (by simp [mj_step, mj_load, hl]) k
theorem x_aload {k : Nat} {x : Nat} (f : mj_fetch mid pc = some (.aload k, a, b)) (hl : ls[(k : Nat)]? = some (.ref x)) (k : mx d mid (pc + 2) ls (.ref x :: st) h Q) : mx d mid pc ls st h Q := mx_step f rfl (mj_nocall fun _ => ⟨nofun, nofun, nofun⟩) (by simp [mj_step, mj_load, hl]) k
theorem x_aloadN {k : Nat} (f : mj_fetch mid pc = some (.aload k, a, b)) (hl : ls[(k : Nat)]? = some .null) (k : mx d mid (pc + 2) ls (.null :: st) h Q) : mx d mid pc ls st h Q := mx_step f rfl (mj_nocall fun _ => ⟨nofun, nofun, nofun⟩) (by simp [mj_step, mj_load, hl]) k
theorem x_istore_n {k : Fin 4} {x : Int32} {ls1 : List Value} (f : mj_fetch mid pc = some (.istore_n k, a, b)) (hl : (k : Nat) < ls.length) (hs : ls.set (k : Nat) (.int x) = ls1) (k : mx d mid (pc + 1) ls1 st h Q) : mx d mid pc ls (.int x :: st) h Q := mx_step f rfl (mj_nocall fun _ => ⟨nofun, nofun, nofun⟩) (by simp [mj_step, hl, ← hs]) k
theorem x_istore {k : Nat} {x : Int32} {ls1 : List Value} (f : mj_fetch mid pc = some (.istore k, a, b)) (hl : (k : Nat) < ls.length) (hs : ls.set (k : Nat) (.int x) = ls1) (k : mx d mid (pc + 2) ls1 st h Q) : mx d mid pc ls (.int x :: st) h Q := mx_step f rfl (mj_nocall fun _ => ⟨nofun, nofun, nofun⟩) (by simp [mj_step, hl, ← hs]) k
theorem x_astore_n {k : Fin 4} {x : Nat} {ls1 : List Value} (f : mj_fetch mid pc = some (.astore_n k, a, b)) (hl : (k : Nat) < ls.length) (hs : ls.set (k : Nat) (.ref x) = ls1) (k : mx d mid (pc + 1) ls1 st h Q) : mx d mid pc ls (.ref x :: st) h Q := mx_step f rfl (mj_nocall fun _ => ⟨nofun, nofun, nofun⟩) (by simp [mj_step, hl, ← hs]) k
theorem x_astore_nN {k : Fin 4} {ls1 : List Value} (f : mj_fetch mid pc = some (.astore_n k, a, b)) (hl : (k : Nat) < ls.length) (hs : ls.set (k : Nat) .null = ls1) (k : mx d mid (pc + 1) ls1 st h Q) : mx d mid pc ls (.null :: st) h Q := mx_step f rfl (mj_nocall fun _ => ⟨nofun, nofun, nofun⟩) (by simp [mj_step, hl, ← hs]) k
theorem x_astore {k : Nat} {x : Nat} {ls1 : List Value} (f : mj_fetch mid pc = some (.astore k, a, b)) (hl : (k : Nat) < ls.length) (hs : ls.set (k : Nat) (.ref x) = ls1) (k : mx d mid (pc + 2) ls1 st h Q) : mx d mid pc ls (.ref x :: st) h Q := mx_step f rfl (mj_nocall fun _ => ⟨nofun, nofun, nofun⟩) (by simp [mj_step, hl, ← hs]) k
theorem x_astoreN {k : Nat} {ls1 : List Value} (f : mj_fetch mid pc = some (.astore k, a, b)) (hl : (k : Nat) < ls.length) (hs : ls.set (k : Nat) .null = ls1) (k : mx d mid (pc + 2) ls1 st h Q) : mx d mid pc ls (.null :: st) h Q := mx_step f rfl (mj_nocall fun _ => ⟨nofun, nofun, nofun⟩) (by simp [mj_step, hl, ← hs]) k
theorem x_iinc {k : Nat} {n : Int} {x v : Int32} {ls1 : List Value} (f : mj_fetch mid pc = some (.iinc k n, a, b)) (hl : ls[k]? = some (.int x)) (hv : x + Int32.ofInt n = v) (hs : ls.set k (.int v) = ls1) (k : mx d mid (pc + 3) ls1 st h Q) : mx d mid pc ls st h Q := mx_step f rfl (mj_nocall fun _ => ⟨nofun, nofun, nofun⟩) (by subst hv; simp [mj_step, hl, ← hs]) k
theorem x_iadd {x y : Int32} (f : mj_fetch mid pc = some (.iadd, a, b)) (k : mx d mid (pc + 1) ls (.int (x + y) :: st) h Q) : mx d mid pc ls (.int y :: .int x :: st) h Q := mx_step f rfl (mj_nocall fun _ => ⟨nofun, nofun, nofun⟩) (by rfl) k
theorem x_isub {x y : Int32} (f : mj_fetch mid pc = some (.isub, a, b)) (k : mx d mid (pc + 1) ls (.int (x - y) :: st) h Q) : mx d mid pc ls (.int y :: .int x :: st) h Q := mx_step f rfl (mj_nocall fun _ => ⟨nofun, nofun, nofun⟩) (by rfl) k
theorem x_imul {x y : Int32} (f : mj_fetch mid pc = some (.imul, a, b)) (k : mx d mid (pc + 1) ls (.int (x * y) :: st) h Q) : mx d mid pc ls (.int y :: .int x :: st) h Q := mx_step f rfl (mj_nocall fun _ => ⟨nofun, nofun, nofun⟩) (by rfl) k
theorem x_iand {x y : Int32} (f : mj_fetch mid pc = some (.iand, a, b)) (k : mx d mid (pc + 1) ls (.int (x &&& y) :: st) h Q) : mx d mid pc ls (.int y :: .int x :: st) h Q := mx_step f rfl (mj_nocall fun _ => ⟨nofun, nofun, nofun⟩) (by rfl) k
theorem x_ior {x y : Int32} (f : mj_fetch mid pc = some (.ior, a, b)) (k : mx d mid (pc + 1) ls (.int (x ||| y) :: st) h Q) : mx d mid pc ls (.int y :: .int x :: st) h Q := mx_step f rfl (mj_nocall fun _ => ⟨nofun, nofun, nofun⟩) (by rfl) k
theorem x_ishl {x y : Int32} (f : mj_fetch mid pc = some (.ishl, a, b)) (k : mx d mid (pc + 1) ls (.int (x <<< (y &&& 31)) :: st) h Q) : mx d mid pc ls (.int y :: .int x :: st) h Q := mx_step f rfl (mj_nocall fun _ => ⟨nofun, nofun, nofun⟩) (by rfl) k
theorem x_ishr {x y : Int32} (f : mj_fetch mid pc = some (.ishr, a, b)) (k : mx d mid (pc + 1) ls (.int (x >>> (y &&& 31)) :: st) h Q) : mx d mid pc ls (.int y :: .int x :: st) h Q := mx_step f rfl (mj_nocall fun _ => ⟨nofun, nofun, nofun⟩) (by rfl) k
theorem x_idiv {x y : Int32} (f : mj_fetch mid pc = some (.idiv, a, b)) (hne : ¬ y = 0) (k : mx d mid (pc + 1) ls (.int (x / y) :: st) h Q) : mx d mid pc ls (.int y :: .int x :: st) h Q := mx_step f rfl (mj_nocall fun _ => ⟨nofun, nofun, nofun⟩) (by simp [mj_step, mj_bin, hne]) k
theorem x_irem {x y : Int32} (f : mj_fetch mid pc = some (.irem, a, b)) (hne : ¬ y = 0) (k : mx d mid (pc + 1) ls (.int (x - x / y * y) :: st) h Q) : mx d mid pc ls (.int y :: .int x :: st) h Q := mx_step f rfl (mj_nocall fun _ => ⟨nofun, nofun, nofun⟩) (by simp [mj_step, mj_bin, hne]) k
theorem x_iaddN {x y : Nat} (f : mj_fetch mid pc = some (.iadd, a, b)) (k : mx d mid (pc + 1) ls (.int (nI (x + y)) :: st) h Q) : mx d mid pc ls (.int (nI y) :: .int (nI x) :: st) h Q := mx_step f rfl (mj_nocall fun _ => ⟨nofun, nofun, nofun⟩) (by rw [← nI_add]; rfl) k
theorem x_imulN {x y : Nat} (f : mj_fetch mid pc = some (.imul, a, b)) (k : mx d mid (pc + 1) ls (.int (nI (x * y)) :: st) h Q) : mx d mid pc ls (.int (nI y) :: .int (nI x) :: st) h Q := mx_step f rfl (mj_nocall fun _ => ⟨nofun, nofun, nofun⟩) (by rw [← pk_mul]; rfl) k
theorem x_isubN {x y : Nat} (f : mj_fetch mid pc = some (.isub, a, b)) (hle : y ≤ x) (k : mx d mid (pc + 1) ls (.int (nI (x - y)) :: st) h Q) : mx d mid pc ls (.int (nI y) :: .int (nI x) :: st) h Q := mx_step f rfl (mj_nocall fun _ => ⟨nofun, nofun, nofun⟩) (by rw [← pk_sub hle]; rfl) k
theorem x_idivN {x y : Nat} (f : mj_fetch mid pc = some (.idiv, a, b)) (hx : x < 2 ^ 31) (h0 : 0 < y) (hy : y < 2 ^ 31) (k : mx d mid (pc + 1) ls (.int (nI (x / y)) :: st) h Q) : mx d mid pc ls (.int (nI y) :: .int (nI x) :: st) h Q := mx_step f rfl (mj_nocall fun _ => ⟨nofun, nofun, nofun⟩) (by rw [← pk_div hx h0 hy]; simp [mj_step, mj_bin, nI_ne0 h0 hy]) k
theorem x_iremN {x y : Nat} (f : mj_fetch mid pc = some (.irem, a, b)) (hx : x < 2 ^ 31) (h0 : 0 < y) (hy : y < 2 ^ 31) (k : mx d mid (pc + 1) ls (.int (nI (x % y)) :: st) h Q) : mx d mid pc ls (.int (nI y) :: .int (nI x) :: st) h Q := mx_step f rfl (mj_nocall fun _ => ⟨nofun, nofun, nofun⟩) (by rw [← pk_rem hx h0 hy]; simp [mj_step, mj_bin, nI_ne0 h0 hy]) k
theorem x_land {x y : Int64} (f : mj_fetch mid pc = some (.land, a, b)) (k : mx d mid (pc + 1) ls (.long (x &&& y) :: st) h Q) : mx d mid pc ls (.long y :: .long x :: st) h Q := mx_step f rfl (mj_nocall fun _ => ⟨nofun, nofun, nofun⟩) (by rfl) k
theorem x_lor {x y : Int64} (f : mj_fetch mid pc = some (.lor, a, b)) (k : mx d mid (pc + 1) ls (.long (x ||| y) :: st) h Q) : mx d mid pc ls (.long y :: .long x :: st) h Q := mx_step f rfl (mj_nocall fun _ => ⟨nofun, nofun, nofun⟩) (by rfl) k
theorem x_lcmp {x y : Int64} (f : mj_fetch mid pc = some (.lcmp, a, b)) (k : mx d mid (pc + 1) ls (.int (lg_cmp x y) :: st) h Q) : mx d mid pc ls (.long y :: .long x :: st) h Q := mx_step f rfl (mj_nocall fun _ => ⟨nofun, nofun, nofun⟩) (by rfl) k
theorem x_lshl {x : Int64} {y : Int32} (f : mj_fetch mid pc = some (.lshl, a, b)) (k : mx d mid (pc + 1) ls (.long (x <<< (y.toInt64 &&& 63)) :: st) h Q) : mx d mid pc ls (.int y :: .long x :: st) h Q := mx_step f rfl (mj_nocall fun _ => ⟨nofun, nofun, nofun⟩) (by rfl) k
theorem x_lshr {x : Int64} {y : Int32} (f : mj_fetch mid pc = some (.lshr, a, b)) (k : mx d mid (pc + 1) ls (.long (x >>> (y.toInt64 &&& 63)) :: st) h Q) : mx d mid pc ls (.int y :: .long x :: st) h Q := mx_step f rfl (mj_nocall fun _ => ⟨nofun, nofun, nofun⟩) (by rfl) k
theorem x_i2l {x : Int32} (f : mj_fetch mid pc = some (.i2l, a, b)) (k : mx d mid (pc + 1) ls (.long x.toInt64 :: st) h Q) : mx d mid pc ls (.int x :: st) h Q := mx_step f rfl (mj_nocall fun _ => ⟨nofun, nofun, nofun⟩) (by rfl) k
theorem x_dup {v : Value} (f : mj_fetch mid pc = some (.dup, a, b)) (hv : v.category = 1) (k : mx d mid (pc + 1) ls (v :: v :: st) h Q) : mx d mid pc ls (v :: st) h Q := mx_step f rfl (mj_nocall fun _ => ⟨nofun, nofun, nofun⟩) (by simp [mj_step, hv]) k
theorem x_pop {v : Value} (f : mj_fetch mid pc = some (.pop, a, b)) (hv : v.category = 1) (k : mx d mid (pc + 1) ls st h Q) : mx d mid pc ls (v :: st) h Q := mx_step f rfl (mj_nocall fun _ => ⟨nofun, nofun, nofun⟩) (by simp [mj_step, hv]) k
theorem x_dup2 {v w : Value} (f : mj_fetch mid pc = some (.dup2, a, b)) (hv : v.category = 1) (hw : w.category = 1) (k : mx d mid (pc + 1) ls (v :: w :: v :: w :: st) h Q) : mx d mid pc ls (v :: w :: st) h Q := mx_step f rfl (mj_nocall fun _ => ⟨nofun, nofun, nofun⟩) (by simp [mj_step, hv, hw]) k
theorem x_goto {off : Int} {t : Nat} (f : mj_fetch mid pc = some (.goto off, a, b)) (ht : mj_tgt pc off = t) (k : mx d mid t ls st h Q) : mx d mid pc ls st h Q := mx_step f rfl (mj_nocall fun _ => ⟨nofun, nofun, nofun⟩) (by rw [← ht]; rfl) k
theorem x_icmp_eq {x y : Int32} {off : Int} {t : Nat} (f : mj_fetch mid pc = some (.if_icmp .eq off, a, b)) (ht : mj_tgt pc off = t) (kt : x = y → mx d mid t ls st h Q) (kf : ¬ x = y → mx d mid (pc + 3) ls st h Q) : mx d mid pc ls (.int y :: .int x :: st) h Q := by
  by_cases hc : x = y
  · refine mx_step f rfl (mj_nocall fun _ => ⟨nofun, nofun, nofun⟩) ?_ (kt hc)
    rw [← ht]; simp [mj_step, mj_icmp, hc]
  · refine mx_step f rfl (mj_nocall fun _ => ⟨nofun, nofun, nofun⟩) ?_ (kf hc)
    simp [mj_step, mj_icmp, hc]
theorem x_icmp_lt {x y : Int32} {off : Int} {t : Nat} (f : mj_fetch mid pc = some (.if_icmp .lt off, a, b)) (ht : mj_tgt pc off = t) (kt : x < y → mx d mid t ls st h Q) (kf : ¬ x < y → mx d mid (pc + 3) ls st h Q) : mx d mid pc ls (.int y :: .int x :: st) h Q := by
  by_cases hc : x < y
  · refine mx_step f rfl (mj_nocall fun _ => ⟨nofun, nofun, nofun⟩) ?_ (kt hc)
    rw [← ht]; simp [mj_step, mj_icmp, hc]
  · refine mx_step f rfl (mj_nocall fun _ => ⟨nofun, nofun, nofun⟩) ?_ (kf hc)
    simp [mj_step, mj_icmp, hc]
theorem x_icmp_ge {x y : Int32} {off : Int} {t : Nat} (f : mj_fetch mid pc = some (.if_icmp .ge off, a, b)) (ht : mj_tgt pc off = t) (kt : y ≤ x → mx d mid t ls st h Q) (kf : ¬ y ≤ x → mx d mid (pc + 3) ls st h Q) : mx d mid pc ls (.int y :: .int x :: st) h Q := by
  by_cases hc : y ≤ x
  · refine mx_step f rfl (mj_nocall fun _ => ⟨nofun, nofun, nofun⟩) ?_ (kt hc)
    rw [← ht]; simp [mj_step, mj_icmp, hc]
  · refine mx_step f rfl (mj_nocall fun _ => ⟨nofun, nofun, nofun⟩) ?_ (kf hc)
    simp [mj_step, mj_icmp, hc]
theorem x_icmp_gt {x y : Int32} {off : Int} {t : Nat} (f : mj_fetch mid pc = some (.if_icmp .gt off, a, b)) (ht : mj_tgt pc off = t) (kt : y < x → mx d mid t ls st h Q) (kf : ¬ y < x → mx d mid (pc + 3) ls st h Q) : mx d mid pc ls (.int y :: .int x :: st) h Q := by
  by_cases hc : y < x
  · refine mx_step f rfl (mj_nocall fun _ => ⟨nofun, nofun, nofun⟩) ?_ (kt hc)
    rw [← ht]; simp [mj_step, mj_icmp, hc]
  · refine mx_step f rfl (mj_nocall fun _ => ⟨nofun, nofun, nofun⟩) ?_ (kf hc)
    simp [mj_step, mj_icmp, hc]
theorem x_icmp_le {x y : Int32} {off : Int} {t : Nat} (f : mj_fetch mid pc = some (.if_icmp .le off, a, b)) (ht : mj_tgt pc off = t) (kt : x ≤ y → mx d mid t ls st h Q) (kf : ¬ x ≤ y → mx d mid (pc + 3) ls st h Q) : mx d mid pc ls (.int y :: .int x :: st) h Q := by
  by_cases hc : x ≤ y
  · refine mx_step f rfl (mj_nocall fun _ => ⟨nofun, nofun, nofun⟩) ?_ (kt hc)
    rw [← ht]; simp [mj_step, mj_icmp, hc]
  · refine mx_step f rfl (mj_nocall fun _ => ⟨nofun, nofun, nofun⟩) ?_ (kf hc)
    simp [mj_step, mj_icmp, hc]
theorem x_icmp_ne {x y : Int32} {off : Int} {t : Nat} (f : mj_fetch mid pc = some (.if_icmp .ne off, a, b)) (ht : mj_tgt pc off = t) (kt : ¬ x = y → mx d mid t ls st h Q) (kf : x = y → mx d mid (pc + 3) ls st h Q) : mx d mid pc ls (.int y :: .int x :: st) h Q := by
  by_cases hc : x = y
  · refine mx_step f rfl (mj_nocall fun _ => ⟨nofun, nofun, nofun⟩) ?_ (kf hc)
    simp [mj_step, mj_icmp, hc]
  · refine mx_step f rfl (mj_nocall fun _ => ⟨nofun, nofun, nofun⟩) ?_ (kt hc)
    rw [← ht]; simp [mj_step, mj_icmp, hc]
theorem x_if_eq {x : Int32} {off : Int} {t : Nat} (f : mj_fetch mid pc = some (.ifCond .eq off, a, b)) (ht : mj_tgt pc off = t) (kt : x = 0 → mx d mid t ls st h Q) (kf : ¬ x = 0 → mx d mid (pc + 3) ls st h Q) : mx d mid pc ls (.int x :: st) h Q := by
  by_cases hc : x = 0
  · refine mx_step f rfl (mj_nocall fun _ => ⟨nofun, nofun, nofun⟩) ?_ (kt hc)
    rw [← ht]; simp [mj_step, mj_icmp, hc]
  · refine mx_step f rfl (mj_nocall fun _ => ⟨nofun, nofun, nofun⟩) ?_ (kf hc)
    simp [mj_step, mj_icmp, hc]
theorem x_if_lt {x : Int32} {off : Int} {t : Nat} (f : mj_fetch mid pc = some (.ifCond .lt off, a, b)) (ht : mj_tgt pc off = t) (kt : x < 0 → mx d mid t ls st h Q) (kf : ¬ x < 0 → mx d mid (pc + 3) ls st h Q) : mx d mid pc ls (.int x :: st) h Q := by
  by_cases hc : x < 0
  · refine mx_step f rfl (mj_nocall fun _ => ⟨nofun, nofun, nofun⟩) ?_ (kt hc)
    rw [← ht]; simp [mj_step, mj_icmp, hc]
  · refine mx_step f rfl (mj_nocall fun _ => ⟨nofun, nofun, nofun⟩) ?_ (kf hc)
    simp [mj_step, mj_icmp, hc]
theorem x_if_ge {x : Int32} {off : Int} {t : Nat} (f : mj_fetch mid pc = some (.ifCond .ge off, a, b)) (ht : mj_tgt pc off = t) (kt : 0 ≤ x → mx d mid t ls st h Q) (kf : ¬ 0 ≤ x → mx d mid (pc + 3) ls st h Q) : mx d mid pc ls (.int x :: st) h Q := by
  by_cases hc : 0 ≤ x
  · refine mx_step f rfl (mj_nocall fun _ => ⟨nofun, nofun, nofun⟩) ?_ (kt hc)
    rw [← ht]; simp [mj_step, mj_icmp, hc]
  · refine mx_step f rfl (mj_nocall fun _ => ⟨nofun, nofun, nofun⟩) ?_ (kf hc)
    simp [mj_step, mj_icmp, hc]
theorem x_if_gt {x : Int32} {off : Int} {t : Nat} (f : mj_fetch mid pc = some (.ifCond .gt off, a, b)) (ht : mj_tgt pc off = t) (kt : 0 < x → mx d mid t ls st h Q) (kf : ¬ 0 < x → mx d mid (pc + 3) ls st h Q) : mx d mid pc ls (.int x :: st) h Q := by
  by_cases hc : 0 < x
  · refine mx_step f rfl (mj_nocall fun _ => ⟨nofun, nofun, nofun⟩) ?_ (kt hc)
    rw [← ht]; simp [mj_step, mj_icmp, hc]
  · refine mx_step f rfl (mj_nocall fun _ => ⟨nofun, nofun, nofun⟩) ?_ (kf hc)
    simp [mj_step, mj_icmp, hc]
theorem x_if_le {x : Int32} {off : Int} {t : Nat} (f : mj_fetch mid pc = some (.ifCond .le off, a, b)) (ht : mj_tgt pc off = t) (kt : x ≤ 0 → mx d mid t ls st h Q) (kf : ¬ x ≤ 0 → mx d mid (pc + 3) ls st h Q) : mx d mid pc ls (.int x :: st) h Q := by
  by_cases hc : x ≤ 0
  · refine mx_step f rfl (mj_nocall fun _ => ⟨nofun, nofun, nofun⟩) ?_ (kt hc)
    rw [← ht]; simp [mj_step, mj_icmp, hc]
  · refine mx_step f rfl (mj_nocall fun _ => ⟨nofun, nofun, nofun⟩) ?_ (kf hc)
    simp [mj_step, mj_icmp, hc]
theorem x_if_ne {x : Int32} {off : Int} {t : Nat} (f : mj_fetch mid pc = some (.ifCond .ne off, a, b)) (ht : mj_tgt pc off = t) (kt : ¬ x = 0 → mx d mid t ls st h Q) (kf : x = 0 → mx d mid (pc + 3) ls st h Q) : mx d mid pc ls (.int x :: st) h Q := by
  by_cases hc : x = 0
  · refine mx_step f rfl (mj_nocall fun _ => ⟨nofun, nofun, nofun⟩) ?_ (kf hc)
    simp [mj_step, mj_icmp, hc]
  · refine mx_step f rfl (mj_nocall fun _ => ⟨nofun, nofun, nofun⟩) ?_ (kt hc)
    rw [← ht]; simp [mj_step, mj_icmp, hc]
theorem x_icmpN_eq {x y : Nat} {off : Int} {t : Nat} (f : mj_fetch mid pc = some (.if_icmp .eq off, a, b)) (ht : mj_tgt pc off = t) (hx : x < 2 ^ 31) (hy : y < 2 ^ 31) (kt : x = y → mx d mid t ls st h Q) (kf : ¬ (x = y) → mx d mid (pc + 3) ls st h Q) : mx d mid pc ls (.int (nI y) :: .int (nI x) :: st) h Q := x_icmp_eq f ht (fun hc => kt ((nI_eq hx hy).mp hc)) (fun hc => kf (fun q => hc ((nI_eq hx hy).mpr q)))
theorem x_icmpN_lt {x y : Nat} {off : Int} {t : Nat} (f : mj_fetch mid pc = some (.if_icmp .lt off, a, b)) (ht : mj_tgt pc off = t) (hx : x < 2 ^ 31) (hy : y < 2 ^ 31) (kt : x < y → mx d mid t ls st h Q) (kf : ¬ (x < y) → mx d mid (pc + 3) ls st h Q) : mx d mid pc ls (.int (nI y) :: .int (nI x) :: st) h Q := x_icmp_lt f ht (fun hc => kt ((nI_ltI hx hy).mp hc)) (fun hc => kf (fun q => hc ((nI_ltI hx hy).mpr q)))
theorem x_icmpN_ge {x y : Nat} {off : Int} {t : Nat} (f : mj_fetch mid pc = some (.if_icmp .ge off, a, b)) (ht : mj_tgt pc off = t) (hx : x < 2 ^ 31) (hy : y < 2 ^ 31) (kt : y ≤ x → mx d mid t ls st h Q) (kf : ¬ (y ≤ x) → mx d mid (pc + 3) ls st h Q) : mx d mid pc ls (.int (nI y) :: .int (nI x) :: st) h Q := x_icmp_ge f ht (fun hc => kt ((nI_leI hy hx).mp hc)) (fun hc => kf (fun q => hc ((nI_leI hy hx).mpr q)))
theorem x_icmpN_gt {x y : Nat} {off : Int} {t : Nat} (f : mj_fetch mid pc = some (.if_icmp .gt off, a, b)) (ht : mj_tgt pc off = t) (hx : x < 2 ^ 31) (hy : y < 2 ^ 31) (kt : y < x → mx d mid t ls st h Q) (kf : ¬ (y < x) → mx d mid (pc + 3) ls st h Q) : mx d mid pc ls (.int (nI y) :: .int (nI x) :: st) h Q := x_icmp_gt f ht (fun hc => kt ((nI_ltI hy hx).mp hc)) (fun hc => kf (fun q => hc ((nI_ltI hy hx).mpr q)))
theorem x_icmpN_le {x y : Nat} {off : Int} {t : Nat} (f : mj_fetch mid pc = some (.if_icmp .le off, a, b)) (ht : mj_tgt pc off = t) (hx : x < 2 ^ 31) (hy : y < 2 ^ 31) (kt : x ≤ y → mx d mid t ls st h Q) (kf : ¬ (x ≤ y) → mx d mid (pc + 3) ls st h Q) : mx d mid pc ls (.int (nI y) :: .int (nI x) :: st) h Q := x_icmp_le f ht (fun hc => kt ((nI_leI hx hy).mp hc)) (fun hc => kf (fun q => hc ((nI_leI hx hy).mpr q)))
theorem x_icmpN_ne {x y : Nat} {off : Int} {t : Nat} (f : mj_fetch mid pc = some (.if_icmp .ne off, a, b)) (ht : mj_tgt pc off = t) (hx : x < 2 ^ 31) (hy : y < 2 ^ 31) (kt : ¬ x = y → mx d mid t ls st h Q) (kf : x = y → mx d mid (pc + 3) ls st h Q) : mx d mid pc ls (.int (nI y) :: .int (nI x) :: st) h Q := x_icmp_ne f ht (fun hc => kt (fun q => hc ((nI_eq hx hy).mpr q))) (fun hc => kf ((nI_eq hx hy).mp hc))
theorem x_ifnull {x : Nat} {off : Int} (f : mj_fetch mid pc = some (.ifnull off, a, b)) (k : mx d mid (pc + 3) ls st h Q) : mx d mid pc ls (.ref x :: st) h Q := mx_step f rfl (mj_nocall fun _ => ⟨nofun, nofun, nofun⟩) (by rfl) k
theorem x_ifnullN {off : Int} {t : Nat} (f : mj_fetch mid pc = some (.ifnull off, a, b)) (ht : mj_tgt pc off = t) (k : mx d mid t ls st h Q) : mx d mid pc ls (.null :: st) h Q := mx_step f rfl (mj_nocall fun _ => ⟨nofun, nofun, nofun⟩) (by rw [← ht]; rfl) k
theorem x_ifnonnull {x : Nat} {off : Int} {t : Nat} (f : mj_fetch mid pc = some (.ifnonnull off, a, b)) (ht : mj_tgt pc off = t) (k : mx d mid t ls st h Q) : mx d mid pc ls (.ref x :: st) h Q := mx_step f rfl (mj_nocall fun _ => ⟨nofun, nofun, nofun⟩) (by rw [← ht]; rfl) k
theorem x_ifnonnullN {off : Int} (f : mj_fetch mid pc = some (.ifnonnull off, a, b)) (k : mx d mid (pc + 3) ls st h Q) : mx d mid pc ls (.null :: st) h Q := mx_step f rfl (mj_nocall fun _ => ⟨nofun, nofun, nofun⟩) (by rfl) k
theorem x_acmp {x y : Nat} {off : Int} {t : Nat} (f : mj_fetch mid pc = some (.if_acmp .ne off, a, b)) (ht : mj_tgt pc off = t) (hx : 8 ≤ x) (hy : 8 ≤ y) (k : mx d mid (if x = y then pc + 3 else t) ls st h Q) : mx d mid pc ls (.ref y :: .ref x :: st) h Q := mx_step f rfl (mj_nocall fun _ => ⟨nofun, nofun, nofun⟩) (by rw [← ht]; simp [mj_step, hx, hy]) k
theorem x_acmpN {y : Nat} {off : Int} {t : Nat} (f : mj_fetch mid pc = some (.if_acmp .ne off, a, b)) (ht : mj_tgt pc off = t) (k : mx d mid t ls st h Q) : mx d mid pc ls (.ref y :: .null :: st) h Q := mx_step f rfl (mj_nocall fun _ => ⟨nofun, nofun, nofun⟩) (by rw [← ht]; rfl) k
theorem x_tsw {dflt lo hi : Int} {offs : Array Int} {x : Int32} {off : Int} {t : Nat} (f : mj_fetch mid pc = some (.tableswitch dflt lo hi offs, a, b)) (h1 : ¬ (x.toInt < lo ∨ hi < x.toInt)) (ho : offs[(x.toInt - lo).toNat]? = some off) (ht : mj_tgt pc off = t) (k : mx d mid t ls st h Q) : mx d mid pc ls (.int x :: st) h Q := mx_step f rfl (mj_nocall fun _ => ⟨nofun, nofun, nofun⟩) (by rw [← ht]; simp [mj_step, h1, ho]) k
theorem x_tswD {dflt lo hi : Int} {offs : Array Int} {x : Int32} {t : Nat} (f : mj_fetch mid pc = some (.tableswitch dflt lo hi offs, a, b)) (h1 : x.toInt < lo ∨ hi < x.toInt) (ht : mj_tgt pc dflt = t) (k : mx d mid t ls st h Q) : mx d mid pc ls (.int x :: st) h Q := mx_step f rfl (mj_nocall fun _ => ⟨nofun, nofun, nofun⟩) (by rw [← ht]; simp [mj_step, h1]) k
theorem x_getI {x q n : Nat} (f : mj_fetch mid pc = some (.getfield x, a, b)) (hK : mj_K h q = (a, n)) (hg : a < 12 ∧ b < mj_nf a ∧ mj_isR (mj_ty a b) = false) (k : mx d mid (pc + 3) ls (.int (mj_I h q b) :: st) h Q) : mx d mid pc ls (.ref q :: st) h Q := mx_step f rfl (mj_nocall fun _ => ⟨nofun, nofun, nofun⟩) (by simp [mj_step, mj_getf, mj_fv, hK, hg.1, hg.2.1, hg.2.2]) k
theorem x_getR {x q n y : Nat} (f : mj_fetch mid pc = some (.getfield x, a, b)) (hK : mj_K h q = (a, n)) (hg : a < 12 ∧ b < mj_nf a ∧ mj_isR (mj_ty a b) = true) (hR : mj_R h q b = some y) (k : mx d mid (pc + 3) ls (.ref y :: st) h Q) : mx d mid pc ls (.ref q :: st) h Q := mx_step f rfl (mj_nocall fun _ => ⟨nofun, nofun, nofun⟩) (by simp [mj_step, mj_getf, mj_fv, hK, hg.1, hg.2.1, hg.2.2, hR, va_rf]) k
theorem x_getN {x q n : Nat} (f : mj_fetch mid pc = some (.getfield x, a, b)) (hK : mj_K h q = (a, n)) (hg : a < 12 ∧ b < mj_nf a ∧ mj_isR (mj_ty a b) = true) (hR : mj_R h q b = none) (k : mx d mid (pc + 3) ls (.null :: st) h Q) : mx d mid pc ls (.ref q :: st) h Q := mx_step f rfl (mj_nocall fun _ => ⟨nofun, nofun, nofun⟩) (by simp [mj_step, mj_getf, mj_fv, hK, hg.1, hg.2.1, hg.2.2, hR, va_rf]) k
theorem x_putI {x q n : Nat} {v : Int32} (f : mj_fetch mid pc = some (.putfield x, a, b)) (hK : mj_K h q = (a, n)) (hg : a < 12 ∧ b < mj_nf a ∧ mj_ty a b = .int) (k : mx d mid (pc + 3) ls st (mj_setI h q b v) Q) : mx d mid pc ls (.int v :: .ref q :: st) h Q := mx_step f rfl (mj_nocall fun _ => ⟨nofun, nofun, nofun⟩) (by simp [mj_step, mj_putf, hK, hg.1, hg.2.1, hg.2.2]) k
theorem x_putZ {x q n : Nat} {v : Int32} (f : mj_fetch mid pc = some (.putfield x, a, b)) (hK : mj_K h q = (a, n)) (hg : a < 12 ∧ b < mj_nf a ∧ mj_ty a b = .boolean) (hv : v = 0 ∨ v = 1) (k : mx d mid (pc + 3) ls st (mj_setI h q b v) Q) : mx d mid pc ls (.int v :: .ref q :: st) h Q := mx_step f rfl (mj_nocall fun _ => ⟨nofun, nofun, nofun⟩) (by simp [mj_step, mj_putf, hK, hg.1, hg.2.1, hg.2.2, hv]) k
theorem x_putR {x q n y : Nat} (f : mj_fetch mid pc = some (.putfield x, a, b)) (hK : mj_K h q = (a, n)) (hg : a < 12 ∧ b < mj_nf a ∧ mj_isR (mj_ty a b) = true) (k : mx d mid (pc + 3) ls st (mj_setR h q b (some y)) Q) : mx d mid pc ls (.ref y :: .ref q :: st) h Q := mx_step f rfl (mj_nocall fun _ => ⟨nofun, nofun, nofun⟩) (by simp [mj_step, mj_putf, hK, hg.1, hg.2.1, hg.2.2]) k
theorem x_gets {x : Nat} (f : mj_fetch mid pc = some (.getstatic x, a, b)) (k : mx d mid (pc + 3) ls (.ref a :: st) h Q) : mx d mid pc ls st h Q := mx_step f rfl (mj_nocall fun _ => ⟨nofun, nofun, nofun⟩) (by rfl) k
theorem mj_inbN {h : mj_H} {q kd n j : Nat} (hK : mj_K h q = (kd, n)) (hj : j < n) (hn : n < 2 ^ 31) : mj_inb h q (nI j) = true := by
  unfold mj_inb
  rw [hK, nI_clamp (by omega)]
  have h0 : ¬ nI j < 0 := nI_pos (by omega)
  simp [h0, hj]
theorem x_iald {q n j : Nat} (f : mj_fetch mid pc = some (.iaload, a, b)) (hK : mj_K h q = (12, n)) (hj : j < n) (hn : n < 2 ^ 31) (k : mx d mid (pc + 1) ls (.int (mj_I h q j) :: st) h Q) : mx d mid pc ls (.int (nI j) :: .ref q :: st) h Q := mx_step f rfl (mj_nocall fun _ => ⟨nofun, nofun, nofun⟩) (by have hb1 : mj_inb h q (nI j) = true := mj_inbN hK hj hn; have hb2 : (nI j).toNatClampNeg = j := nI_clamp (by omega); simp [mj_step, mj_ald, hK, hb1, hb2]) k
theorem x_zald {q n j : Nat} (f : mj_fetch mid pc = some (.baload, a, b)) (hK : mj_K h q = (14, n)) (hj : j < n) (hn : n < 2 ^ 31) (k : mx d mid (pc + 1) ls (.int (mj_I h q j) :: st) h Q) : mx d mid pc ls (.int (nI j) :: .ref q :: st) h Q := mx_step f rfl (mj_nocall fun _ => ⟨nofun, nofun, nofun⟩) (by have hb1 : mj_inb h q (nI j) = true := mj_inbN hK hj hn; have hb2 : (nI j).toNatClampNeg = j := nI_clamp (by omega); simp [mj_step, mj_ald, hK, hb1, hb2]) k
theorem x_lald {q n j : Nat} (f : mj_fetch mid pc = some (.laload, a, b)) (hK : mj_K h q = (13, n)) (hj : j < n) (hn : n < 2 ^ 31) (k : mx d mid (pc + 1) ls (.long (mj_J h q j) :: st) h Q) : mx d mid pc ls (.int (nI j) :: .ref q :: st) h Q := mx_step f rfl (mj_nocall fun _ => ⟨nofun, nofun, nofun⟩) (by have hb1 : mj_inb h q (nI j) = true := mj_inbN hK hj hn; have hb2 : (nI j).toNatClampNeg = j := nI_clamp (by omega); simp [mj_step, mj_ald, hK, hb1, hb2]) k
theorem x_rald {q kd n j y : Nat} (f : mj_fetch mid pc = some (.aaload, a, b)) (hK : mj_K h q = (kd, n)) (hkd : 15 ≤ kd ∧ kd ≤ 18) (hj : j < n) (hn : n < 2 ^ 31) (hR : mj_R h q j = some y) (k : mx d mid (pc + 1) ls (.ref y :: st) h Q) : mx d mid pc ls (.int (nI j) :: .ref q :: st) h Q := mx_step f rfl (mj_nocall fun _ => ⟨nofun, nofun, nofun⟩) (by have hb1 : mj_inb h q (nI j) = true := mj_inbN hK hj hn; have hb2 : (nI j).toNatClampNeg = j := nI_clamp (by omega); simp [mj_step, mj_rld, hK, hb1, hb2, hkd.1, hkd.2, hR, va_rf]) k
theorem x_iast {q n j : Nat} {v : Int32} (f : mj_fetch mid pc = some (.iastore, a, b)) (hK : mj_K h q = (12, n)) (h8 : 8 ≤ q) (hj : j < n) (hn : n < 2 ^ 31) (k : mx d mid (pc + 1) ls st (mj_setI h q j v) Q) : mx d mid pc ls (.int v :: .int (nI j) :: .ref q :: st) h Q := mx_step f rfl (mj_nocall fun _ => ⟨nofun, nofun, nofun⟩) (by have hb1 : mj_inb h q (nI j) = true := mj_inbN hK hj hn; have hb2 : (nI j).toNatClampNeg = j := nI_clamp (by omega); simp [mj_step, mj_ast, hK, hb1, hb2, h8]) k
theorem x_zast {q n j : Nat} {v : Int32} (f : mj_fetch mid pc = some (.bastore, a, b)) (hK : mj_K h q = (14, n)) (hv : v = 0 ∨ v = 1) (hj : j < n) (hn : n < 2 ^ 31) (k : mx d mid (pc + 1) ls st (mj_setI h q j v) Q) : mx d mid pc ls (.int v :: .int (nI j) :: .ref q :: st) h Q := mx_step f rfl (mj_nocall fun _ => ⟨nofun, nofun, nofun⟩) (by have hb1 : mj_inb h q (nI j) = true := mj_inbN hK hj hn; have hb2 : (nI j).toNatClampNeg = j := nI_clamp (by omega); simp [mj_step, mj_zst, hK, hb1, hb2, hv]) k
theorem x_last {q n j : Nat} {v : Int64} (f : mj_fetch mid pc = some (.lastore, a, b)) (hK : mj_K h q = (13, n)) (hj : j < n) (hn : n < 2 ^ 31) (k : mx d mid (pc + 1) ls st (mj_setJ h q j v) Q) : mx d mid pc ls (.long v :: .int (nI j) :: .ref q :: st) h Q := mx_step f rfl (mj_nocall fun _ => ⟨nofun, nofun, nofun⟩) (by have hb1 : mj_inb h q (nI j) = true := mj_inbN hK hj hn; have hb2 : (nI j).toNatClampNeg = j := nI_clamp (by omega); simp [mj_step, mj_lst, hK, hb1, hb2]) k
theorem x_rast {q kd n j y m : Nat} (f : mj_fetch mid pc = some (.aastore, a, b)) (hK : mj_K h q = (kd, n)) (hkd : 15 ≤ kd ∧ kd ≤ 18) (hy : mj_K h y = (mj_elt kd, m)) (hj : j < n) (hn : n < 2 ^ 31) (k : mx d mid (pc + 1) ls st (mj_setR h q j (some y)) Q) : mx d mid pc ls (.ref y :: .int (nI j) :: .ref q :: st) h Q := mx_step f rfl (mj_nocall fun _ => ⟨nofun, nofun, nofun⟩) (by have hb1 : mj_inb h q (nI j) = true := mj_inbN hK hj hn; have hb2 : (nI j).toNatClampNeg = j := nI_clamp (by omega); simp [mj_step, mj_rst, hK, hb1, hb2, hkd.1, hkd.2, hy]) k
theorem x_alen {q kd n : Nat} (f : mj_fetch mid pc = some (.arraylength, a, b)) (hK : mj_K h q = (kd, n)) (hkd : 12 ≤ kd ∧ kd ≤ 18) (k : mx d mid (pc + 1) ls (.int (nI n) :: st) h Q) : mx d mid pc ls (.ref q :: st) h Q := mx_step f rfl (mj_nocall fun _ => ⟨nofun, nofun, nofun⟩) (by simp [mj_step, mj_alen, hK, hkd.1, hkd.2, nI]) k
theorem mj_nwaN {h : mj_H} {kd j : Nat} (hj : j ≤ 100000) {st : List Value} : mj_nwa h kd (.int (nI j) :: st) = some (.ref h.1 :: st, mj_new h kd j) := by
  have h1 : ¬ nI j < 0 := nI_pos (by omega)
  have h2 : (nI j).toNatClampNeg = j := nI_clamp (by omega)
  simp [mj_nwa, h1, h2, hj]
theorem x_newa {t : ArrayType} {j : Nat} (f : mj_fetch mid pc = some (.newarray t, a, b)) (hj : j ≤ 100000) (k : mx d mid (pc + 2) ls (.ref h.1 :: st) (mj_new h a j) Q) : mx d mid pc ls (.int (nI j) :: st) h Q := mx_step f rfl (mj_nocall fun _ => ⟨nofun, nofun, nofun⟩) (by simp [mj_step, mj_nwaN hj]) k
theorem x_newr {x j : Nat} (f : mj_fetch mid pc = some (.anewarray x, a, b)) (hj : j ≤ 100000) (k : mx d mid (pc + 3) ls (.ref h.1 :: st) (mj_new h a j) Q) : mx d mid pc ls (.int (nI j) :: st) h Q := mx_step f rfl (mj_nocall fun _ => ⟨nofun, nofun, nofun⟩) (by simp [mj_step, mj_nwaN hj]) k
theorem x_new {x n : Nat} (f : mj_fetch mid pc = some (.new x, a, b)) (h12 : a < 12) (hn : mj_nf a = n) (k : mx d mid (pc + 3) ls (.ref h.1 :: st) (mj_new h a n) Q) : mx d mid pc ls st h Q := mx_step f rfl (mj_nocall fun _ => ⟨nofun, nofun, nofun⟩) (by simp [mj_step, h12, hn]) k
theorem x_init {q : Nat} {x : Nat} (f : mj_fetch mid pc = some (.invokespecial x, a, 1)) (hw : mj_words st ≤ 8) (k : mx d mid (pc + 3) ls st h Q) : mx d mid pc ls (.ref q :: st) h Q := mx_step f rfl rfl (by simp [mj_step, hw]) k
theorem x_min {u v : Int32} {x : Nat} (f : mj_fetch mid pc = some (.invokestatic x, a, 2)) (hw : mj_words st ≤ 8) (k : mx d mid (pc + 3) ls (.int (if v < u then v else u) :: st) h Q) : mx d mid pc ls (.int v :: .int u :: st) h Q := mx_step f rfl rfl (by simp [mj_step, hw]) k
theorem x_max {u v : Int32} {x : Nat} (f : mj_fetch mid pc = some (.invokestatic x, a, 3)) (hw : mj_words st ≤ 8) (k : mx d mid (pc + 3) ls (.int (if u < v then v else u) :: st) h Q) : mx d mid pc ls (.int v :: .int u :: st) h Q := mx_step f rfl rfl (by simp [mj_step, hw]) k
theorem x_abs {u : Int32} {x : Nat} (f : mj_fetch mid pc = some (.invokestatic x, a, 4)) (hw : mj_words st ≤ 8) (k : mx d mid (pc + 3) ls (.int (if 0 ≤ u then u else 0 - u) :: st) h Q) : mx d mid pc ls (.int u :: st) h Q := mx_step f rfl rfl (by simp [mj_step, hw]) k
theorem x_cpy {n q y ny nq : Nat} {x : Nat} (f : mj_fetch mid pc = some (.invokestatic x, a, 5)) (hw : mj_words st ≤ 8) (hy : mj_K h y = (12, ny)) (hq : mj_K h q = (12, nq)) (h8 : 8 ≤ y ∧ 8 ≤ q) (hn1 : n ≤ ny) (hn2 : n ≤ nq) (hn3 : n < 2 ^ 31) (k : mx d mid (pc + 3) ls st (mj_setW h q (va_cpy (mj_I h y) (mj_I h q) 0 0 n)) Q) : mx d mid pc ls (.int (nI n) :: .int 0 :: .ref q :: .int 0 :: .ref y :: st) h Q := mx_step f rfl rfl (by have h1 : ¬ nI n < 0 := nI_pos hn3; have h2 : (nI n).toNatClampNeg = n := nI_clamp hn3; have h3 : (0 : Int32).toNatClampNeg = 0 := rfl; simp [mj_step, mj_cpy, hw, hy, hq, h8.1, h8.2, h1, h2, h3, hn1, hn2]) k
theorem x_retI {v : Int32} (f : mj_fetch mid pc = some (.ireturn, a, b)) (hr : mj_r mid = some .int) (q : Q (some (.int v)) h) : mx d mid pc ls [.int v] h Q := mx_ret f (by rw [hr]; rfl) q
theorem x_retZ {v : Int32} (f : mj_fetch mid pc = some (.ireturn, a, b)) (hr : mj_r mid = some .boolean) (hv : v = 0 ∨ v = 1) (q : Q (some (.int v)) h) : mx d mid pc ls [.int v] h Q := mx_ret f (by rw [hr]; simp [mj_ret, hv]) q
theorem x_retV (f : mj_fetch mid pc = some (.return_, a, b)) (hr : mj_r mid = none) (q : Q none h) : mx d mid pc ls [] h Q := mx_ret f (by rw [hr]; rfl) q
theorem x_retA {v : Nat} {t : FieldType} (f : mj_fetch mid pc = some (.areturn, a, b)) (hr : mj_r mid = some t) (ht : mj_isR t = true) (q : Q (some (.ref v)) h) : mx d mid pc ls [.ref v] h Q := mx_ret f (by rw [hr]; simp [mj_ret, ht]) q
theorem x_retN {t : FieldType} (f : mj_fetch mid pc = some (.areturn, a, b)) (hr : mj_r mid = some t) (ht : mj_isR t = true) (q : Q (some .null) h) : mx d mid pc ls [.null] h Q := mx_ret f (by rw [hr]; simp [mj_ret, ht]) q
/-- what a call of a method gives: it ends, its answer and its heap are as said -/
def mxc (d mid : Nat) (as : List Value) (h : mj_H) (Q : Option Value → mj_H → Prop) : Prop := mx d mid 0 (as ++ List.replicate (mj_maxL mid - as.length) mj_unset) [] h Q
theorem mxc.mono {d d' : Nat} {as : List Value} (k : mxc d mid as h Q) (hd : d ≤ d') : mxc d' mid as h Q := mx.mono k hd
theorem mxc.post {as : List Value} (k : mxc d mid as h Q) (hq : ∀ r h', Q r h' → Q' r h') : mxc d mid as h Q' := mx.post k hq
theorem x_callV {x q n dc : Nat} {as : List Value} {stk : List Value} (f : mj_fetch mid pc = some (.invokevirtual x, a, 0)) (k : mxc dc a (.ref q :: as) h Q') (hd : dc < d) (hK : mj_K h q = (mj_own a, n)) (hg : mj_own a < 12 ∧ mj_st a = false) (hstk : stk = as.reverse ++ .ref q :: st) (hn : mj_np a = as.length) (hw : mj_words st ≤ 8) (hk : as.all mj_kn = true) (kk : ∀ r h', Q' r h' → mx d mid (pc + 3) ls (r.toList ++ st) h' Q) : mx d mid pc ls stk h Q := by
  subst hstk
  refine mx_call (as := .ref q :: as) (st' := st) f rfl ?_ hd k kk
  have e1 : (as.reverse ++ .ref q :: st).drop (mj_np a) = .ref q :: st := by rw [hn, List.drop_left' (by simp)]
  have e2 : (as.reverse ++ .ref q :: st).take (mj_np a) = as.reverse := by rw [hn, List.take_left' (by simp)]
  unfold mj_call
  rw [if_pos rfl]
  dsimp only
  rw [e1, e2]
  simp [hK, hg.1, hg.2, hw]
  intro v hv
  exact List.all_eq_true.mp hk v hv
theorem x_callI {x q dc : Nat} {as : List Value} {stk : List Value} (f : mj_fetch mid pc = some (.invokespecial x, a, 0)) (k : mxc dc a (.ref q :: as) h Q') (hd : dc < d) (hg : mj_st a = false) (hstk : stk = as.reverse ++ .ref q :: st) (hn : mj_np a = as.length) (hw : mj_words st ≤ 8) (hk : as.all mj_kn = true) (kk : ∀ r h', Q' r h' → mx d mid (pc + 3) ls (r.toList ++ st) h' Q) : mx d mid pc ls stk h Q := by
  subst hstk
  refine mx_call (as := .ref q :: as) (st' := st) f rfl ?_ hd k kk
  have e1 : (as.reverse ++ .ref q :: st).drop (mj_np a) = .ref q :: st := by rw [hn, List.drop_left' (by simp)]
  have e2 : (as.reverse ++ .ref q :: st).take (mj_np a) = as.reverse := by rw [hn, List.take_left' (by simp)]
  unfold mj_call
  rw [if_pos rfl]
  dsimp only
  rw [e1, e2]
  simp [hg, hw]
  intro v hv
  exact List.all_eq_true.mp hk v hv
theorem x_callS {x dc : Nat} {as : List Value} {stk : List Value} (f : mj_fetch mid pc = some (.invokestatic x, a, 0)) (k : mxc dc a as h Q') (hd : dc < d) (hg : mj_st a = true) (hstk : stk = as.reverse ++ st) (hn : mj_np a = as.length) (hw : mj_words st ≤ 8) (hk : as.all mj_kn = true) (kk : ∀ r h', Q' r h' → mx d mid (pc + 3) ls (r.toList ++ st) h' Q) : mx d mid pc ls stk h Q := by
  subst hstk
  refine mx_call (as := as) (st' := st) f rfl ?_ hd k kk
  have e1 : (as.reverse ++ st).drop (mj_np a) = st := by rw [hn, List.drop_left' (by simp)]
  have e2 : (as.reverse ++ st).take (mj_np a) = as.reverse := by rw [hn, List.take_left' (by simp)]
  unfold mj_call
  rw [if_pos rfl]
  dsimp only
  rw [e1, e2]
  simp [hg, hw, hn]
  intro v hv
  exact List.all_eq_true.mp hk v hv
end MXR
end
section
/-! branches on a truth value, and small helps -/
section MXB
variable {d mid pc : Nat} {ls st : List Value} {h : mj_H} {Q Q' : Option Value → mj_H → Prop} {a b : Nat}
theorem mj_b01 {P : Prop} {i : Decidable P} : (@ite Int32 P i 1 0) = 0 ∨ (@ite Int32 P i 1 0) = 1 := by
  by_cases h : P
  · right; simp [h]
  · left; simp [h]
theorem x_ifB_eq {P : Prop} {i : Decidable P} {off : Int} {t : Nat} (f : mj_fetch mid pc = some (.ifCond .eq off, a, b)) (ht : mj_tgt pc off = t) (kt : ¬ P → mx d mid t ls st h Q) (kf : P → mx d mid (pc + 3) ls st h Q) : mx d mid pc ls (.int (@ite Int32 P i 1 0) :: st) h Q :=
  x_if_eq f ht (fun hc => kt (fun hp => by rw [if_pos hp] at hc; exact absurd hc (by decide))) (fun hc => kf (by
    by_cases hp : P
    · exact hp
    · exact absurd (if_neg hp) hc))
theorem x_ifB_ne {P : Prop} {i : Decidable P} {off : Int} {t : Nat} (f : mj_fetch mid pc = some (.ifCond .ne off, a, b)) (ht : mj_tgt pc off = t) (kt : P → mx d mid t ls st h Q) (kf : ¬ P → mx d mid (pc + 3) ls st h Q) : mx d mid pc ls (.int (@ite Int32 P i 1 0) :: st) h Q :=
  x_if_ne f ht (fun hc => kt (by
    by_cases hp : P
    · exact hp
    · exact absurd (if_neg hp) hc)) (fun hc => kf (fun hp => by rw [if_pos hp] at hc; exact absurd hc (by decide)))
theorem x_ifN_eq {x : Nat} {off : Int} {t : Nat} (f : mj_fetch mid pc = some (.ifCond .eq off, a, b)) (ht : mj_tgt pc off = t) (hx : x < 2 ^ 31) (kt : x = 0 → mx d mid t ls st h Q) (kf : ¬ x = 0 → mx d mid (pc + 3) ls st h Q) : mx d mid pc ls (.int (nI x) :: st) h Q :=
  x_if_eq f ht (fun hc => kt ((nI_eq (b := 0) hx (by decide)).mp hc)) (fun hc => kf (fun q => hc ((nI_eq (b := 0) hx (by decide)).mpr q)))
theorem x_ifN_ne {x : Nat} {off : Int} {t : Nat} (f : mj_fetch mid pc = some (.ifCond .ne off, a, b)) (ht : mj_tgt pc off = t) (hx : x < 2 ^ 31) (kt : ¬ x = 0 → mx d mid t ls st h Q) (kf : x = 0 → mx d mid (pc + 3) ls st h Q) : mx d mid pc ls (.int (nI x) :: st) h Q :=
  x_if_ne f ht (fun hc => kt (fun q => hc ((nI_eq (b := 0) hx (by decide)).mpr q))) (fun hc => kf ((nI_eq (b := 0) hx (by decide)).mp hc))
theorem x_ifN_lt {x : Nat} {off : Int} {t : Nat} (f : mj_fetch mid pc = some (.ifCond .lt off, a, b)) (ht : mj_tgt pc off = t) (hx : x < 2 ^ 31) (kt : False → mx d mid t ls st h Q) (kf : True → mx d mid (pc + 3) ls st h Q) : mx d mid pc ls (.int (nI x) :: st) h Q :=
  x_if_lt f ht (fun hc => (nI_pos hx hc).elim) (fun _ => kf trivial)
theorem x_ifN_le {x : Nat} {off : Int} {t : Nat} (f : mj_fetch mid pc = some (.ifCond .le off, a, b)) (ht : mj_tgt pc off = t) (hx : x < 2 ^ 31) (kt : x = 0 → mx d mid t ls st h Q) (kf : ¬ x = 0 → mx d mid (pc + 3) ls st h Q) : mx d mid pc ls (.int (nI x) :: st) h Q :=
  x_if_le f ht (fun hc => kt (by have := (nI_leI (b := 0) hx (by decide)).mp hc; omega)) (fun hc => kf (fun q => hc ((nI_leI (b := 0) hx (by decide)).mpr (by omega))))
theorem x_ifN_gt {x : Nat} {off : Int} {t : Nat} (f : mj_fetch mid pc = some (.ifCond .gt off, a, b)) (ht : mj_tgt pc off = t) (hx : x < 2 ^ 31) (kt : 0 < x → mx d mid t ls st h Q) (kf : ¬ 0 < x → mx d mid (pc + 3) ls st h Q) : mx d mid pc ls (.int (nI x) :: st) h Q :=
  x_if_gt f ht (fun hc => kt ((nI_ltI (a := 0) (by decide) hx).mp hc)) (fun hc => kf (fun q => hc ((nI_ltI (a := 0) (by decide) hx).mpr q)))
theorem x_callVe {x q n dc : Nat} {as : List Value} {stk : List Value} {v : Value} {h' : mj_H} (f : mj_fetch mid pc = some (.invokevirtual x, a, 0)) (k : mxc dc a (.ref q :: as) h (fun r h1 => r = some v ∧ h1 = h')) (hd : dc < d) (hK : mj_K h q = (mj_own a, n)) (hg : mj_own a < 12 ∧ mj_st a = false) (hstk : stk = as.reverse ++ .ref q :: st) (hn : mj_np a = as.length) (hw : mj_words st ≤ 8) (hk : as.all mj_kn = true) (kk : mx d mid (pc + 3) ls (v :: st) h' Q) : mx d mid pc ls stk h Q :=
  x_callV f k hd hK hg hstk hn hw hk (by rintro _ _ ⟨rfl, rfl⟩; exact kk)
theorem x_callVn {x q n dc : Nat} {as : List Value} {stk : List Value} {h' : mj_H} (f : mj_fetch mid pc = some (.invokevirtual x, a, 0)) (k : mxc dc a (.ref q :: as) h (fun r h1 => r = none ∧ h1 = h')) (hd : dc < d) (hK : mj_K h q = (mj_own a, n)) (hg : mj_own a < 12 ∧ mj_st a = false) (hstk : stk = as.reverse ++ .ref q :: st) (hn : mj_np a = as.length) (hw : mj_words st ≤ 8) (hk : as.all mj_kn = true) (kk : mx d mid (pc + 3) ls st h' Q) : mx d mid pc ls stk h Q :=
  x_callV f k hd hK hg hstk hn hw hk (by rintro _ _ ⟨rfl, rfl⟩; exact kk)
theorem x_callIn {x q dc : Nat} {as : List Value} {stk : List Value} {h' : mj_H} (f : mj_fetch mid pc = some (.invokespecial x, a, 0)) (k : mxc dc a (.ref q :: as) h (fun r h1 => r = none ∧ h1 = h')) (hd : dc < d) (hg : mj_st a = false) (hstk : stk = as.reverse ++ .ref q :: st) (hn : mj_np a = as.length) (hw : mj_words st ≤ 8) (hk : as.all mj_kn = true) (kk : mx d mid (pc + 3) ls st h' Q) : mx d mid pc ls stk h Q :=
  x_callI f k hd hg hstk hn hw hk (by rintro _ _ ⟨rfl, rfl⟩; exact kk)
theorem x_callSe {x dc : Nat} {as : List Value} {stk : List Value} {v : Value} {h' : mj_H} (f : mj_fetch mid pc = some (.invokestatic x, a, 0)) (k : mxc dc a as h (fun r h1 => r = some v ∧ h1 = h')) (hd : dc < d) (hg : mj_st a = true) (hstk : stk = as.reverse ++ st) (hn : mj_np a = as.length) (hw : mj_words st ≤ 8) (hk : as.all mj_kn = true) (kk : mx d mid (pc + 3) ls (v :: st) h' Q) : mx d mid pc ls stk h Q :=
  x_callS f k hd hg hstk hn hw hk (by rintro _ _ ⟨rfl, rfl⟩; exact kk)
theorem x_callSn {x dc : Nat} {as : List Value} {stk : List Value} {h' : mj_H} (f : mj_fetch mid pc = some (.invokestatic x, a, 0)) (k : mxc dc a as h (fun r h1 => r = none ∧ h1 = h')) (hd : dc < d) (hg : mj_st a = true) (hstk : stk = as.reverse ++ st) (hn : mj_np a = as.length) (hw : mj_words st ≤ 8) (hk : as.all mj_kn = true) (kk : mx d mid (pc + 3) ls st h' Q) : mx d mid pc ls stk h Q :=
  x_callS f k hd hg hstk hn hw hk (by rintro _ _ ⟨rfl, rfl⟩; exact kk)
theorem x_top {v w : Value} (e : v = w) (k : mx d mid pc ls (w :: st) h Q) : mx d mid pc ls (v :: st) h Q := e ▸ k
theorem x_topi {v w : Int32} (e : v = w) (k : mx d mid pc ls (.int w :: st) h Q) : mx d mid pc ls (.int v :: st) h Q := e ▸ k
theorem x_name {v : Int32} (k : ∀ w, w = v → mx d mid pc ls (.int w :: st) h Q) : mx d mid pc ls (.int v :: st) h Q := k v rfl
theorem x_heap {h' : mj_H} (e : h = h') (k : mx d mid pc ls st h' Q) : mx d mid pc ls st h Q := e ▸ k
theorem x_nameH (k : ∀ w, w = h → mx d mid pc ls st w Q) : mx d mid pc ls st h Q := k h rfl
end MXB
theorem mj_if0 {P : Prop} {i : Decidable P} (h : ¬ P) : (some (.int (nI 0)) : Option Value) = some (.int (@ite Int32 P i 1 0)) := by rw [if_neg h]; rfl
theorem mj_if1 {P : Prop} {i : Decidable P} (h : P) : (some (.int (nI 1)) : Option Value) = some (.int (@ite Int32 P i 1 0)) := by rw [if_pos h]; rfl
theorem mj_qT {P A B : Prop} {i : Decidable P} (h : P) (a : A) : @ite Prop P i A B := by rw [if_pos h]; exact a
theorem mj_qF {P A B : Prop} {i : Decidable P} (h : ¬ P) (b : B) : @ite Prop P i A B := by rw [if_neg h]; exact b
theorem mj_I_set (h : mj_H) (a j b i : Nat) (x : Int32) : mj_I (mj_setI h a j x) b i = if b = a then (if i = j then x else mj_I h b i) else mj_I h b i := rfl
theorem mj_I_at (h : mj_H) (a j : Nat) (x : Int32) : mj_I (mj_setI h a j x) a j = x := by simp [mj_I_set]
theorem mj_I_ne {h : mj_H} {a j i : Nat} {x : Int32} (hq : ¬ i = j) : mj_I (mj_setI h a j x) a i = mj_I h a i := by simp [mj_I_set, hq]
theorem mj_ifs {α : Type} {q r : Nat} {a b : α} (h : ¬ q = r) : (if q < r + 1 then a else b) = if q < r then a else b := by
  by_cases h1 : q < r
  · rw [if_pos h1, if_pos (by omega)]
  · rw [if_neg h1, if_neg (by omega)]
theorem mj_I_other {h : mj_H} {a j b : Nat} {x : Int32} (hb : b ≠ a) : mj_I (mj_setI h a j x) b = mj_I h b := by
  funext i; simp [mj_I_set, hb]
end
section
/-! THE MODEL'S SHAPE: its object is cell 33, its rows are the cells 34 to 61 -/
def mm_L : List (Nat × Nat × Nat × Nat) := [(2, 34, 12, 48), (3, 35, 14, 36), (4, 36, 12, 180), (5, 37, 12, 20), (6, 38, 12, 20), (9, 39, 12, 6), (10, 40, 12, 6), (11, 41, 12, 6), (12, 42, 12, 6), (13, 43, 12, 6), (16, 44, 12, 14580), (18, 45, 12, 10), (19, 46, 12, 30), (20, 47, 12, 30), (23, 48, 12, 46656), (24, 49, 12, 46656), (25, 50, 12, 500), (27, 51, 12, 500), (34, 52, 12, 60), (35, 53, 12, 60), (36, 54, 12, 60), (37, 55, 12, 100), (38, 56, 14, 100), (39, 57, 12, 100), (42, 58, 12, 8), (43, 59, 12, 8), (44, 60, 12, 8), (45, 61, 12, 8)]
def SM (h : mj_H) : Prop := mj_K h 33 = (11, 48) ∧ ∀ e ∈ mm_L, mj_R h 33 e.1 = some e.2.1 ∧ mj_K h e.2.1 = e.2.2
theorem SM.k33 {h : mj_H} (S : SM h) : mj_K h 33 = (11, 48) := S.1
theorem SM.r2 {h : mj_H} (S : SM h) : mj_R h 33 2 = some 34 := (S.2 (2, 34, 12, 48) (by decide)).1
theorem SM.k34 {h : mj_H} (S : SM h) : mj_K h 34 = (12, 48) := (S.2 (2, 34, 12, 48) (by decide)).2
theorem SM.r3 {h : mj_H} (S : SM h) : mj_R h 33 3 = some 35 := (S.2 (3, 35, 14, 36) (by decide)).1
theorem SM.k35 {h : mj_H} (S : SM h) : mj_K h 35 = (14, 36) := (S.2 (3, 35, 14, 36) (by decide)).2
theorem SM.r4 {h : mj_H} (S : SM h) : mj_R h 33 4 = some 36 := (S.2 (4, 36, 12, 180) (by decide)).1
theorem SM.k36 {h : mj_H} (S : SM h) : mj_K h 36 = (12, 180) := (S.2 (4, 36, 12, 180) (by decide)).2
theorem SM.r5 {h : mj_H} (S : SM h) : mj_R h 33 5 = some 37 := (S.2 (5, 37, 12, 20) (by decide)).1
theorem SM.k37 {h : mj_H} (S : SM h) : mj_K h 37 = (12, 20) := (S.2 (5, 37, 12, 20) (by decide)).2
theorem SM.r6 {h : mj_H} (S : SM h) : mj_R h 33 6 = some 38 := (S.2 (6, 38, 12, 20) (by decide)).1
theorem SM.k38 {h : mj_H} (S : SM h) : mj_K h 38 = (12, 20) := (S.2 (6, 38, 12, 20) (by decide)).2
theorem SM.r9 {h : mj_H} (S : SM h) : mj_R h 33 9 = some 39 := (S.2 (9, 39, 12, 6) (by decide)).1
theorem SM.k39 {h : mj_H} (S : SM h) : mj_K h 39 = (12, 6) := (S.2 (9, 39, 12, 6) (by decide)).2
theorem SM.r10 {h : mj_H} (S : SM h) : mj_R h 33 10 = some 40 := (S.2 (10, 40, 12, 6) (by decide)).1
theorem SM.k40 {h : mj_H} (S : SM h) : mj_K h 40 = (12, 6) := (S.2 (10, 40, 12, 6) (by decide)).2
theorem SM.r11 {h : mj_H} (S : SM h) : mj_R h 33 11 = some 41 := (S.2 (11, 41, 12, 6) (by decide)).1
theorem SM.k41 {h : mj_H} (S : SM h) : mj_K h 41 = (12, 6) := (S.2 (11, 41, 12, 6) (by decide)).2
theorem SM.r12 {h : mj_H} (S : SM h) : mj_R h 33 12 = some 42 := (S.2 (12, 42, 12, 6) (by decide)).1
theorem SM.k42 {h : mj_H} (S : SM h) : mj_K h 42 = (12, 6) := (S.2 (12, 42, 12, 6) (by decide)).2
theorem SM.r13 {h : mj_H} (S : SM h) : mj_R h 33 13 = some 43 := (S.2 (13, 43, 12, 6) (by decide)).1
theorem SM.k43 {h : mj_H} (S : SM h) : mj_K h 43 = (12, 6) := (S.2 (13, 43, 12, 6) (by decide)).2
theorem SM.r16 {h : mj_H} (S : SM h) : mj_R h 33 16 = some 44 := (S.2 (16, 44, 12, 14580) (by decide)).1
theorem SM.k44 {h : mj_H} (S : SM h) : mj_K h 44 = (12, 14580) := (S.2 (16, 44, 12, 14580) (by decide)).2
theorem SM.r18 {h : mj_H} (S : SM h) : mj_R h 33 18 = some 45 := (S.2 (18, 45, 12, 10) (by decide)).1
theorem SM.k45 {h : mj_H} (S : SM h) : mj_K h 45 = (12, 10) := (S.2 (18, 45, 12, 10) (by decide)).2
theorem SM.r19 {h : mj_H} (S : SM h) : mj_R h 33 19 = some 46 := (S.2 (19, 46, 12, 30) (by decide)).1
theorem SM.k46 {h : mj_H} (S : SM h) : mj_K h 46 = (12, 30) := (S.2 (19, 46, 12, 30) (by decide)).2
theorem SM.r20 {h : mj_H} (S : SM h) : mj_R h 33 20 = some 47 := (S.2 (20, 47, 12, 30) (by decide)).1
theorem SM.k47 {h : mj_H} (S : SM h) : mj_K h 47 = (12, 30) := (S.2 (20, 47, 12, 30) (by decide)).2
theorem SM.r23 {h : mj_H} (S : SM h) : mj_R h 33 23 = some 48 := (S.2 (23, 48, 12, 46656) (by decide)).1
theorem SM.k48 {h : mj_H} (S : SM h) : mj_K h 48 = (12, 46656) := (S.2 (23, 48, 12, 46656) (by decide)).2
theorem SM.r24 {h : mj_H} (S : SM h) : mj_R h 33 24 = some 49 := (S.2 (24, 49, 12, 46656) (by decide)).1
theorem SM.k49 {h : mj_H} (S : SM h) : mj_K h 49 = (12, 46656) := (S.2 (24, 49, 12, 46656) (by decide)).2
theorem SM.r25 {h : mj_H} (S : SM h) : mj_R h 33 25 = some 50 := (S.2 (25, 50, 12, 500) (by decide)).1
theorem SM.k50 {h : mj_H} (S : SM h) : mj_K h 50 = (12, 500) := (S.2 (25, 50, 12, 500) (by decide)).2
theorem SM.r27 {h : mj_H} (S : SM h) : mj_R h 33 27 = some 51 := (S.2 (27, 51, 12, 500) (by decide)).1
theorem SM.k51 {h : mj_H} (S : SM h) : mj_K h 51 = (12, 500) := (S.2 (27, 51, 12, 500) (by decide)).2
theorem SM.r34 {h : mj_H} (S : SM h) : mj_R h 33 34 = some 52 := (S.2 (34, 52, 12, 60) (by decide)).1
theorem SM.k52 {h : mj_H} (S : SM h) : mj_K h 52 = (12, 60) := (S.2 (34, 52, 12, 60) (by decide)).2
theorem SM.r35 {h : mj_H} (S : SM h) : mj_R h 33 35 = some 53 := (S.2 (35, 53, 12, 60) (by decide)).1
theorem SM.k53 {h : mj_H} (S : SM h) : mj_K h 53 = (12, 60) := (S.2 (35, 53, 12, 60) (by decide)).2
theorem SM.r36 {h : mj_H} (S : SM h) : mj_R h 33 36 = some 54 := (S.2 (36, 54, 12, 60) (by decide)).1
theorem SM.k54 {h : mj_H} (S : SM h) : mj_K h 54 = (12, 60) := (S.2 (36, 54, 12, 60) (by decide)).2
theorem SM.r37 {h : mj_H} (S : SM h) : mj_R h 33 37 = some 55 := (S.2 (37, 55, 12, 100) (by decide)).1
theorem SM.k55 {h : mj_H} (S : SM h) : mj_K h 55 = (12, 100) := (S.2 (37, 55, 12, 100) (by decide)).2
theorem SM.r38 {h : mj_H} (S : SM h) : mj_R h 33 38 = some 56 := (S.2 (38, 56, 14, 100) (by decide)).1
theorem SM.k56 {h : mj_H} (S : SM h) : mj_K h 56 = (14, 100) := (S.2 (38, 56, 14, 100) (by decide)).2
theorem SM.r39 {h : mj_H} (S : SM h) : mj_R h 33 39 = some 57 := (S.2 (39, 57, 12, 100) (by decide)).1
theorem SM.k57 {h : mj_H} (S : SM h) : mj_K h 57 = (12, 100) := (S.2 (39, 57, 12, 100) (by decide)).2
theorem SM.r42 {h : mj_H} (S : SM h) : mj_R h 33 42 = some 58 := (S.2 (42, 58, 12, 8) (by decide)).1
theorem SM.k58 {h : mj_H} (S : SM h) : mj_K h 58 = (12, 8) := (S.2 (42, 58, 12, 8) (by decide)).2
theorem SM.r43 {h : mj_H} (S : SM h) : mj_R h 33 43 = some 59 := (S.2 (43, 59, 12, 8) (by decide)).1
theorem SM.k59 {h : mj_H} (S : SM h) : mj_K h 59 = (12, 8) := (S.2 (43, 59, 12, 8) (by decide)).2
theorem SM.r44 {h : mj_H} (S : SM h) : mj_R h 33 44 = some 60 := (S.2 (44, 60, 12, 8) (by decide)).1
theorem SM.k60 {h : mj_H} (S : SM h) : mj_K h 60 = (12, 8) := (S.2 (44, 60, 12, 8) (by decide)).2
theorem SM.r45 {h : mj_H} (S : SM h) : mj_R h 33 45 = some 61 := (S.2 (45, 61, 12, 8) (by decide)).1
theorem SM.k61 {h : mj_H} (S : SM h) : mj_K h 61 = (12, 8) := (S.2 (45, 61, 12, 8) (by decide)).2
theorem SM.to {h h' : mj_H} (S : SM h) (e1 : mj_K h' = mj_K h) (e2 : mj_R h' = mj_R h) : SM h' := by
  unfold SM
  rw [e1, e2]
  exact S
/-- a number that names one of n things -/
abbrev mIn (s : Int32) (n : Nat) : Prop := ¬ s < 0 ∧ s.toNatClampNeg < n
theorem mIn_of {s : Int32} {n : Nat} (h : mIn s n) (hn : n < 2 ^ 31) : ∃ j, j < n ∧ s = nI j := vp_in_of (n := n) (fun q => q.elim h.1 (fun z => absurd h.2 (Nat.not_lt.mpr z))) hn
theorem mIn_nI {j n : Nat} (h : j < n) (hn : n < 2 ^ 31) : mIn (nI j) n := ⟨nI_pos (by omega), by rw [nI_clamp (by omega)]; exact h⟩
theorem mIn_nI_iff {j n : Nat} (hj : j < 2 ^ 31) : mIn (nI j) n ↔ j < n := ⟨fun h => by have := h.2; rw [nI_clamp hj] at this; exact this, fun h => ⟨nI_pos hj, by rw [nI_clamp hj]; exact h⟩⟩
theorem mIn_iff {s : Int32} {n : Nat} (hn : n < 2 ^ 30) : (0 ≤ s ∧ s ≤ nI n - 1) ↔ mIn s n := by
  have e1 : (nI n - 1).toInt = (n : Int) - 1 := by
    cases n with
    | zero => rfl
    | succ k =>
      have : nI (k + 1) - 1 = nI k := nI_pred k
      rw [this, nI_toInt (by omega)]
      omega
  rw [Int32.le_iff_toInt_le, Int32.le_iff_toInt_le, e1]
  have e0 : (0 : Int32).toInt = 0 := rfl
  have e2 : s.toNatClampNeg = s.toInt.toNat := rfl
  unfold mIn
  rw [Int32.lt_iff_toInt_lt, e0, e2]
  omega
end
section
/-- the place of a setting on an axis: 0 to 8 -/
def mm_pt (k a : Nat) : Nat := if a = 0 then k / 81 else if a = 1 then k / 9 % 9 else k % 9
theorem mm_set (t p l : Nat) : (81 : Int32) * (nI (t + 1) - 1) + 9 * (nI (p + 1) - 1) + nI (l + 1) - 1 = nI (81 * t + 9 * p + l) := by
  rw [nI_pred, nI_pred, show (81 : Int32) = nI 81 from rfl, show (9 : Int32) = nI 9 from rfl, pk_mul, pk_mul, nI_add, nI_add, show 81 * t + 9 * p + (l + 1) = 81 * t + 9 * p + l + 1 by omega, nI_pred]
theorem f_112_0 : mj_fetch 112 0 = some (.iload_n 0, 0, 0) := by decide +kernel
theorem f_112_1 : mj_fetch 112 1 = some (.iload_n 1, 0, 0) := by decide +kernel
theorem f_112_2 : mj_fetch 112 2 = some (.if_icmp .lt 12, 0, 0) := by decide +kernel
theorem f_112_5 : mj_fetch 112 5 = some (.iload_n 0, 0, 0) := by decide +kernel
theorem f_112_6 : mj_fetch 112 6 = some (.iload_n 2, 0, 0) := by decide +kernel
theorem f_112_7 : mj_fetch 112 7 = some (.if_icmp .gt 7, 0, 0) := by decide +kernel
theorem f_112_10 : mj_fetch 112 10 = some (.iconst 1, 0, 0) := by decide +kernel
theorem f_112_11 : mj_fetch 112 11 = some (.goto 4, 0, 0) := by decide +kernel
theorem f_112_14 : mj_fetch 112 14 = some (.iconst 0, 0, 0) := by decide +kernel
theorem f_112_15 : mj_fetch 112 15 = some (.ireturn, 0, 0) := by decide +kernel
theorem f_116_0 : mj_fetch 116 0 = some (.iload_n 1, 0, 0) := by decide +kernel
theorem f_116_1 : mj_fetch 116 1 = some (.iconst 0, 0, 0) := by decide +kernel
theorem f_116_2 : mj_fetch 116 2 = some (.aload_n 0, 0, 0) := by decide +kernel
theorem f_116_3 : mj_fetch 116 3 = some (.getfield 107, 11, 7) := by decide +kernel
theorem f_116_6 : mj_fetch 116 6 = some (.iconst 1, 0, 0) := by decide +kernel
theorem f_116_7 : mj_fetch 116 7 = some (.isub, 0, 0) := by decide +kernel
theorem f_116_8 : mj_fetch 116 8 = some (.invokestatic 100, 112, 0) := by decide +kernel
theorem f_116_11 : mj_fetch 116 11 = some (.ireturn, 0, 0) := by decide +kernel
theorem f_117_0 : mj_fetch 117 0 = some (.iload_n 1, 0, 0) := by decide +kernel
theorem f_117_1 : mj_fetch 117 1 = some (.iconst 0, 0, 0) := by decide +kernel
theorem f_117_2 : mj_fetch 117 2 = some (.aload_n 0, 0, 0) := by decide +kernel
theorem f_117_3 : mj_fetch 117 3 = some (.getfield 110, 11, 8) := by decide +kernel
theorem f_117_6 : mj_fetch 117 6 = some (.iconst 1, 0, 0) := by decide +kernel
theorem f_117_7 : mj_fetch 117 7 = some (.isub, 0, 0) := by decide +kernel
theorem f_117_8 : mj_fetch 117 8 = some (.invokestatic 100, 112, 0) := by decide +kernel
theorem f_117_11 : mj_fetch 117 11 = some (.ireturn, 0, 0) := by decide +kernel
theorem f_137_0 : mj_fetch 137 0 = some (.iload_n 1, 0, 0) := by decide +kernel
theorem f_137_1 : mj_fetch 137 1 = some (.iconst 0, 0, 0) := by decide +kernel
theorem f_137_2 : mj_fetch 137 2 = some (.aload_n 0, 0, 0) := by decide +kernel
theorem f_137_3 : mj_fetch 137 3 = some (.getfield 176, 11, 21) := by decide +kernel
theorem f_137_6 : mj_fetch 137 6 = some (.iconst 1, 0, 0) := by decide +kernel
theorem f_137_7 : mj_fetch 137 7 = some (.isub, 0, 0) := by decide +kernel
theorem f_137_8 : mj_fetch 137 8 = some (.invokestatic 100, 112, 0) := by decide +kernel
theorem f_137_11 : mj_fetch 137 11 = some (.ireturn, 0, 0) := by decide +kernel
theorem f_118_0 : mj_fetch 118 0 = some (.iload_n 0, 0, 0) := by decide +kernel
theorem f_118_1 : mj_fetch 118 1 = some (.iconst 0, 0, 0) := by decide +kernel
theorem f_118_2 : mj_fetch 118 2 = some (.sipush 728, 0, 0) := by decide +kernel
theorem f_118_5 : mj_fetch 118 5 = some (.invokestatic 100, 112, 0) := by decide +kernel
theorem f_118_8 : mj_fetch 118 8 = some (.ireturn, 0, 0) := by decide +kernel
theorem f_132_0 : mj_fetch 132 0 = some (.aload_n 0, 0, 0) := by decide +kernel
theorem f_132_1 : mj_fetch 132 1 = some (.iload_n 1, 0, 0) := by decide +kernel
theorem f_132_2 : mj_fetch 132 2 = some (.invokevirtual 126, 117, 0) := by decide +kernel
theorem f_132_5 : mj_fetch 132 5 = some (.ifCond .eq 14, 0, 0) := by decide +kernel
theorem f_132_8 : mj_fetch 132 8 = some (.iload_n 2, 0, 0) := by decide +kernel
theorem f_132_9 : mj_fetch 132 9 = some (.invokestatic 165, 118, 0) := by decide +kernel
theorem f_132_12 : mj_fetch 132 12 = some (.ifCond .eq 7, 0, 0) := by decide +kernel
theorem f_132_15 : mj_fetch 132 15 = some (.iconst 1, 0, 0) := by decide +kernel
theorem f_132_16 : mj_fetch 132 16 = some (.goto 4, 0, 0) := by decide +kernel
theorem f_132_19 : mj_fetch 132 19 = some (.iconst 0, 0, 0) := by decide +kernel
theorem f_132_20 : mj_fetch 132 20 = some (.ireturn, 0, 0) := by decide +kernel
theorem f_114_0 : mj_fetch 114 0 = some (.aload_n 0, 0, 0) := by decide +kernel
theorem f_114_1 : mj_fetch 114 1 = some (.getfield 96, 11, 1) := by decide +kernel
theorem f_114_4 : mj_fetch 114 4 = some (.ireturn, 0, 0) := by decide +kernel
theorem f_124_0 : mj_fetch 124 0 = some (.bipush 81, 0, 0) := by decide +kernel
theorem f_124_2 : mj_fetch 124 2 = some (.iload_n 0, 0, 0) := by decide +kernel
theorem f_124_3 : mj_fetch 124 3 = some (.iconst 1, 0, 0) := by decide +kernel
theorem f_124_4 : mj_fetch 124 4 = some (.isub, 0, 0) := by decide +kernel
theorem f_124_5 : mj_fetch 124 5 = some (.imul, 0, 0) := by decide +kernel
theorem f_124_6 : mj_fetch 124 6 = some (.bipush 9, 0, 0) := by decide +kernel
theorem f_124_8 : mj_fetch 124 8 = some (.iload_n 1, 0, 0) := by decide +kernel
theorem f_124_9 : mj_fetch 124 9 = some (.iconst 1, 0, 0) := by decide +kernel
theorem f_124_10 : mj_fetch 124 10 = some (.isub, 0, 0) := by decide +kernel
theorem f_124_11 : mj_fetch 124 11 = some (.imul, 0, 0) := by decide +kernel
theorem f_124_12 : mj_fetch 124 12 = some (.iadd, 0, 0) := by decide +kernel
theorem f_124_13 : mj_fetch 124 13 = some (.iload_n 2, 0, 0) := by decide +kernel
theorem f_124_14 : mj_fetch 124 14 = some (.iadd, 0, 0) := by decide +kernel
theorem f_124_15 : mj_fetch 124 15 = some (.iconst 1, 0, 0) := by decide +kernel
theorem f_124_16 : mj_fetch 124 16 = some (.isub, 0, 0) := by decide +kernel
theorem f_124_17 : mj_fetch 124 17 = some (.ireturn, 0, 0) := by decide +kernel
theorem f_126_0 : mj_fetch 126 0 = some (.iload_n 1, 0, 0) := by decide +kernel
theorem f_126_1 : mj_fetch 126 1 = some (.iload_n 2, 0, 0) := by decide +kernel
theorem f_126_2 : mj_fetch 126 2 = some (.isub, 0, 0) := by decide +kernel
theorem f_126_3 : mj_fetch 126 3 = some (.iload_n 3, 0, 0) := by decide +kernel
theorem f_126_4 : mj_fetch 126 4 = some (.imul, 0, 0) := by decide +kernel
theorem f_126_5 : mj_fetch 126 5 = some (.sipush 1000, 0, 0) := by decide +kernel
theorem f_126_8 : mj_fetch 126 8 = some (.idiv, 0, 0) := by decide +kernel
theorem f_126_9 : mj_fetch 126 9 = some (.ireturn, 0, 0) := by decide +kernel
theorem f_125_0 : mj_fetch 125 0 = some (.iload_n 1, 0, 0) := by decide +kernel
theorem f_125_1 : mj_fetch 125 1 = some (.ifCond .ne 10, 0, 0) := by decide +kernel
theorem f_125_4 : mj_fetch 125 4 = some (.iload_n 0, 0, 0) := by decide +kernel
theorem f_125_5 : mj_fetch 125 5 = some (.bipush 81, 0, 0) := by decide +kernel
theorem f_125_7 : mj_fetch 125 7 = some (.idiv, 0, 0) := by decide +kernel
theorem f_125_8 : mj_fetch 125 8 = some (.goto 22, 0, 0) := by decide +kernel
theorem f_125_11 : mj_fetch 125 11 = some (.iload_n 1, 0, 0) := by decide +kernel
theorem f_125_12 : mj_fetch 125 12 = some (.iconst 1, 0, 0) := by decide +kernel
theorem f_125_13 : mj_fetch 125 13 = some (.if_icmp .ne 13, 0, 0) := by decide +kernel
theorem f_125_16 : mj_fetch 125 16 = some (.iload_n 0, 0, 0) := by decide +kernel
theorem f_125_17 : mj_fetch 125 17 = some (.bipush 9, 0, 0) := by decide +kernel
theorem f_125_19 : mj_fetch 125 19 = some (.idiv, 0, 0) := by decide +kernel
theorem f_125_20 : mj_fetch 125 20 = some (.bipush 9, 0, 0) := by decide +kernel
theorem f_125_22 : mj_fetch 125 22 = some (.irem, 0, 0) := by decide +kernel
theorem f_125_23 : mj_fetch 125 23 = some (.goto 7, 0, 0) := by decide +kernel
theorem f_125_26 : mj_fetch 125 26 = some (.iload_n 0, 0, 0) := by decide +kernel
theorem f_125_27 : mj_fetch 125 27 = some (.bipush 9, 0, 0) := by decide +kernel
theorem f_125_29 : mj_fetch 125 29 = some (.irem, 0, 0) := by decide +kernel
theorem f_125_30 : mj_fetch 125 30 = some (.iconst 1, 0, 0) := by decide +kernel
theorem f_125_31 : mj_fetch 125 31 = some (.iadd, 0, 0) := by decide +kernel
theorem f_125_32 : mj_fetch 125 32 = some (.ireturn, 0, 0) := by decide +kernel
theorem f_115_0 : mj_fetch 115 0 = some (.iload_n 1, 0, 0) := by decide +kernel
theorem f_115_1 : mj_fetch 115 1 = some (.iconst 0, 0, 0) := by decide +kernel
theorem f_115_2 : mj_fetch 115 2 = some (.sipush 500, 0, 0) := by decide +kernel
theorem f_115_5 : mj_fetch 115 5 = some (.invokestatic 100, 112, 0) := by decide +kernel
theorem f_115_8 : mj_fetch 115 8 = some (.ifCond .eq 15, 0, 0) := by decide +kernel
theorem f_115_11 : mj_fetch 115 11 = some (.aload_n 0, 0, 0) := by decide +kernel
theorem f_115_12 : mj_fetch 115 12 = some (.getfield 104, 11, 0) := by decide +kernel
theorem f_115_15 : mj_fetch 115 15 = some (.iload_n 1, 0, 0) := by decide +kernel
theorem f_115_16 : mj_fetch 115 16 = some (.iadd, 0, 0) := by decide +kernel
theorem f_115_17 : mj_fetch 115 17 = some (.sipush 1000, 0, 0) := by decide +kernel
theorem f_115_20 : mj_fetch 115 20 = some (.if_icmp .le 5, 0, 0) := by decide +kernel
theorem f_115_23 : mj_fetch 115 23 = some (.iconst (-1), 0, 0) := by decide +kernel
theorem f_115_24 : mj_fetch 115 24 = some (.ireturn, 0, 0) := by decide +kernel
theorem f_115_25 : mj_fetch 115 25 = some (.aload_n 0, 0, 0) := by decide +kernel
theorem f_115_26 : mj_fetch 115 26 = some (.dup, 0, 0) := by decide +kernel
theorem f_115_27 : mj_fetch 115 27 = some (.getfield 104, 11, 0) := by decide +kernel
theorem f_115_30 : mj_fetch 115 30 = some (.iload_n 1, 0, 0) := by decide +kernel
theorem f_115_31 : mj_fetch 115 31 = some (.iadd, 0, 0) := by decide +kernel
theorem f_115_32 : mj_fetch 115 32 = some (.putfield 104, 11, 0) := by decide +kernel
theorem f_115_35 : mj_fetch 115 35 = some (.aload_n 0, 0, 0) := by decide +kernel
theorem f_115_36 : mj_fetch 115 36 = some (.getfield 104, 11, 0) := by decide +kernel
theorem f_115_39 : mj_fetch 115 39 = some (.ireturn, 0, 0) := by decide +kernel
theorem f_123_0 : mj_fetch 123 0 = some (.iload_n 1, 0, 0) := by decide +kernel
theorem f_123_1 : mj_fetch 123 1 = some (.iconst 1, 0, 0) := by decide +kernel
theorem f_123_2 : mj_fetch 123 2 = some (.bipush 9, 0, 0) := by decide +kernel
theorem f_123_4 : mj_fetch 123 4 = some (.invokestatic 100, 112, 0) := by decide +kernel
theorem f_123_7 : mj_fetch 123 7 = some (.ifCond .eq 32, 0, 0) := by decide +kernel
theorem f_123_10 : mj_fetch 123 10 = some (.iload_n 2, 0, 0) := by decide +kernel
theorem f_123_11 : mj_fetch 123 11 = some (.iconst 1, 0, 0) := by decide +kernel
theorem f_123_12 : mj_fetch 123 12 = some (.bipush 9, 0, 0) := by decide +kernel
theorem f_123_14 : mj_fetch 123 14 = some (.invokestatic 100, 112, 0) := by decide +kernel
theorem f_123_17 : mj_fetch 123 17 = some (.ifCond .eq 22, 0, 0) := by decide +kernel
theorem f_123_20 : mj_fetch 123 20 = some (.iload_n 3, 0, 0) := by decide +kernel
theorem f_123_21 : mj_fetch 123 21 = some (.iconst 1, 0, 0) := by decide +kernel
theorem f_123_22 : mj_fetch 123 22 = some (.bipush 9, 0, 0) := by decide +kernel
theorem f_123_24 : mj_fetch 123 24 = some (.invokestatic 100, 112, 0) := by decide +kernel
theorem f_123_27 : mj_fetch 123 27 = some (.ifCond .eq 12, 0, 0) := by decide +kernel
theorem f_123_30 : mj_fetch 123 30 = some (.iload_n 1, 0, 0) := by decide +kernel
theorem f_123_31 : mj_fetch 123 31 = some (.iload_n 2, 0, 0) := by decide +kernel
theorem f_123_32 : mj_fetch 123 32 = some (.iload_n 3, 0, 0) := by decide +kernel
theorem f_123_33 : mj_fetch 123 33 = some (.invokestatic 129, 124, 0) := by decide +kernel
theorem f_123_36 : mj_fetch 123 36 = some (.goto 4, 0, 0) := by decide +kernel
theorem f_123_39 : mj_fetch 123 39 = some (.iconst (-1), 0, 0) := by decide +kernel
theorem f_123_40 : mj_fetch 123 40 = some (.ireturn, 0, 0) := by decide +kernel
theorem f_152_0 : mj_fetch 152 0 = some (.iload_n 1, 0, 0) := by decide +kernel
theorem f_152_1 : mj_fetch 152 1 = some (.iconst 0, 0, 0) := by decide +kernel
theorem f_152_2 : mj_fetch 152 2 = some (.bipush 31, 0, 0) := by decide +kernel
theorem f_152_4 : mj_fetch 152 4 = some (.invokestatic 100, 112, 0) := by decide +kernel
theorem f_152_7 : mj_fetch 152 7 = some (.ifCond .eq 13, 0, 0) := by decide +kernel
theorem f_152_10 : mj_fetch 152 10 = some (.aload_n 0, 0, 0) := by decide +kernel
theorem f_152_11 : mj_fetch 152 11 = some (.getfield 222, 11, 28) := by decide +kernel
theorem f_152_14 : mj_fetch 152 14 = some (.sipush 500, 0, 0) := by decide +kernel
theorem f_152_17 : mj_fetch 152 17 = some (.if_icmp .ne 5, 0, 0) := by decide +kernel
theorem f_152_20 : mj_fetch 152 20 = some (.iconst (-1), 0, 0) := by decide +kernel
theorem f_152_21 : mj_fetch 152 21 = some (.ireturn, 0, 0) := by decide +kernel
theorem f_152_22 : mj_fetch 152 22 = some (.aload_n 0, 0, 0) := by decide +kernel
theorem f_152_23 : mj_fetch 152 23 = some (.getfield 63, 11, 27) := by decide +kernel
theorem f_152_26 : mj_fetch 152 26 = some (.aload_n 0, 0, 0) := by decide +kernel
theorem f_152_27 : mj_fetch 152 27 = some (.getfield 222, 11, 28) := by decide +kernel
theorem f_152_30 : mj_fetch 152 30 = some (.iload_n 1, 0, 0) := by decide +kernel
theorem f_152_31 : mj_fetch 152 31 = some (.iastore, 0, 0) := by decide +kernel
theorem f_152_32 : mj_fetch 152 32 = some (.aload_n 0, 0, 0) := by decide +kernel
theorem f_152_33 : mj_fetch 152 33 = some (.dup, 0, 0) := by decide +kernel
theorem f_152_34 : mj_fetch 152 34 = some (.getfield 222, 11, 28) := by decide +kernel
theorem f_152_37 : mj_fetch 152 37 = some (.iconst 1, 0, 0) := by decide +kernel
theorem f_152_38 : mj_fetch 152 38 = some (.iadd, 0, 0) := by decide +kernel
theorem f_152_39 : mj_fetch 152 39 = some (.putfield 222, 11, 28) := by decide +kernel
theorem f_152_42 : mj_fetch 152 42 = some (.aload_n 0, 0, 0) := by decide +kernel
theorem f_152_43 : mj_fetch 152 43 = some (.getfield 222, 11, 28) := by decide +kernel
theorem f_152_46 : mj_fetch 152 46 = some (.ireturn, 0, 0) := by decide +kernel
theorem f_154_0 : mj_fetch 154 0 = some (.iload_n 1, 0, 0) := by decide +kernel
theorem f_154_1 : mj_fetch 154 1 = some (.iconst 0, 0, 0) := by decide +kernel
theorem f_154_2 : mj_fetch 154 2 = some (.aload_n 0, 0, 0) := by decide +kernel
theorem f_154_3 : mj_fetch 154 3 = some (.getfield 222, 11, 28) := by decide +kernel
theorem f_154_6 : mj_fetch 154 6 = some (.iconst 1, 0, 0) := by decide +kernel
theorem f_154_7 : mj_fetch 154 7 = some (.isub, 0, 0) := by decide +kernel
theorem f_154_8 : mj_fetch 154 8 = some (.invokestatic 100, 112, 0) := by decide +kernel
theorem f_154_11 : mj_fetch 154 11 = some (.ifCond .eq 13, 0, 0) := by decide +kernel
theorem f_154_14 : mj_fetch 154 14 = some (.iload_n 2, 0, 0) := by decide +kernel
theorem f_154_15 : mj_fetch 154 15 = some (.iconst 0, 0, 0) := by decide +kernel
theorem f_154_16 : mj_fetch 154 16 = some (.bipush 31, 0, 0) := by decide +kernel
theorem f_154_18 : mj_fetch 154 18 = some (.invokestatic 100, 112, 0) := by decide +kernel
theorem f_154_21 : mj_fetch 154 21 = some (.ifCond .ne 5, 0, 0) := by decide +kernel
theorem f_154_24 : mj_fetch 154 24 = some (.iconst 0, 0, 0) := by decide +kernel
theorem f_154_25 : mj_fetch 154 25 = some (.ireturn, 0, 0) := by decide +kernel
theorem f_154_26 : mj_fetch 154 26 = some (.aload_n 0, 0, 0) := by decide +kernel
theorem f_154_27 : mj_fetch 154 27 = some (.getfield 63, 11, 27) := by decide +kernel
theorem f_154_30 : mj_fetch 154 30 = some (.iload_n 1, 0, 0) := by decide +kernel
theorem f_154_31 : mj_fetch 154 31 = some (.iload_n 2, 0, 0) := by decide +kernel
theorem f_154_32 : mj_fetch 154 32 = some (.iastore, 0, 0) := by decide +kernel
theorem f_154_33 : mj_fetch 154 33 = some (.iconst 1, 0, 0) := by decide +kernel
theorem f_154_34 : mj_fetch 154 34 = some (.ireturn, 0, 0) := by decide +kernel
theorem f_155_0 : mj_fetch 155 0 = some (.iload_n 1, 0, 0) := by decide +kernel
theorem f_155_1 : mj_fetch 155 1 = some (.ifCond .lt 11, 0, 0) := by decide +kernel
theorem f_155_4 : mj_fetch 155 4 = some (.iload_n 1, 0, 0) := by decide +kernel
theorem f_155_5 : mj_fetch 155 5 = some (.aload_n 0, 0, 0) := by decide +kernel
theorem f_155_6 : mj_fetch 155 6 = some (.getfield 222, 11, 28) := by decide +kernel
theorem f_155_9 : mj_fetch 155 9 = some (.if_icmp .le 5, 0, 0) := by decide +kernel
theorem f_155_12 : mj_fetch 155 12 = some (.iconst 0, 0, 0) := by decide +kernel
theorem f_155_13 : mj_fetch 155 13 = some (.ireturn, 0, 0) := by decide +kernel
theorem f_155_14 : mj_fetch 155 14 = some (.aload_n 0, 0, 0) := by decide +kernel
theorem f_155_15 : mj_fetch 155 15 = some (.iload_n 1, 0, 0) := by decide +kernel
theorem f_155_16 : mj_fetch 155 16 = some (.putfield 222, 11, 28) := by decide +kernel
theorem f_155_19 : mj_fetch 155 19 = some (.iconst 1, 0, 0) := by decide +kernel
theorem f_155_20 : mj_fetch 155 20 = some (.ireturn, 0, 0) := by decide +kernel
theorem f_170_0 : mj_fetch 170 0 = some (.aload_n 0, 0, 0) := by decide +kernel
theorem f_170_1 : mj_fetch 170 1 = some (.iconst 0, 0, 0) := by decide +kernel
theorem f_170_2 : mj_fetch 170 2 = some (.putfield 261, 11, 46) := by decide +kernel
theorem f_170_5 : mj_fetch 170 5 = some (.return_, 0, 0) := by decide +kernel
theorem f_120_0 : mj_fetch 120 0 = some (.aload_n 0, 0, 0) := by decide +kernel
theorem f_120_1 : mj_fetch 120 1 = some (.iload_n 1, 0, 0) := by decide +kernel
theorem f_120_2 : mj_fetch 120 2 = some (.invokevirtual 113, 116, 0) := by decide +kernel
theorem f_120_5 : mj_fetch 120 5 = some (.ifCond .eq 25, 0, 0) := by decide +kernel
theorem f_120_8 : mj_fetch 120 8 = some (.aload_n 0, 0, 0) := by decide +kernel
theorem f_120_9 : mj_fetch 120 9 = some (.iload_n 2, 0, 0) := by decide +kernel
theorem f_120_10 : mj_fetch 120 10 = some (.invokevirtual 113, 116, 0) := by decide +kernel
theorem f_120_13 : mj_fetch 120 13 = some (.ifCond .eq 17, 0, 0) := by decide +kernel
theorem f_120_16 : mj_fetch 120 16 = some (.aload_n 0, 0, 0) := by decide +kernel
theorem f_120_17 : mj_fetch 120 17 = some (.getfield 13, 11, 3) := by decide +kernel
theorem f_120_20 : mj_fetch 120 20 = some (.bipush 6, 0, 0) := by decide +kernel
theorem f_120_22 : mj_fetch 120 22 = some (.iload_n 1, 0, 0) := by decide +kernel
theorem f_120_23 : mj_fetch 120 23 = some (.imul, 0, 0) := by decide +kernel
theorem f_120_24 : mj_fetch 120 24 = some (.iload_n 2, 0, 0) := by decide +kernel
theorem f_120_25 : mj_fetch 120 25 = some (.iadd, 0, 0) := by decide +kernel
theorem f_120_26 : mj_fetch 120 26 = some (.baload, 0, 0) := by decide +kernel
theorem f_120_27 : mj_fetch 120 27 = some (.ifCond .eq 5, 0, 0) := by decide +kernel
theorem f_120_30 : mj_fetch 120 30 = some (.iconst 0, 0, 0) := by decide +kernel
theorem f_120_31 : mj_fetch 120 31 = some (.ireturn, 0, 0) := by decide +kernel
theorem f_120_32 : mj_fetch 120 32 = some (.aload_n 0, 0, 0) := by decide +kernel
theorem f_120_33 : mj_fetch 120 33 = some (.getfield 13, 11, 3) := by decide +kernel
theorem f_120_36 : mj_fetch 120 36 = some (.bipush 6, 0, 0) := by decide +kernel
theorem f_120_38 : mj_fetch 120 38 = some (.iload_n 1, 0, 0) := by decide +kernel
theorem f_120_39 : mj_fetch 120 39 = some (.imul, 0, 0) := by decide +kernel
theorem f_120_40 : mj_fetch 120 40 = some (.iload_n 2, 0, 0) := by decide +kernel
theorem f_120_41 : mj_fetch 120 41 = some (.iadd, 0, 0) := by decide +kernel
theorem f_120_42 : mj_fetch 120 42 = some (.iconst 1, 0, 0) := by decide +kernel
theorem f_120_43 : mj_fetch 120 43 = some (.bastore, 0, 0) := by decide +kernel
theorem f_120_44 : mj_fetch 120 44 = some (.aload_n 0, 0, 0) := by decide +kernel
theorem f_120_45 : mj_fetch 120 45 = some (.getfield 13, 11, 3) := by decide +kernel
theorem f_120_48 : mj_fetch 120 48 = some (.bipush 6, 0, 0) := by decide +kernel
theorem f_120_50 : mj_fetch 120 50 = some (.iload_n 2, 0, 0) := by decide +kernel
theorem f_120_51 : mj_fetch 120 51 = some (.imul, 0, 0) := by decide +kernel
theorem f_120_52 : mj_fetch 120 52 = some (.iload_n 1, 0, 0) := by decide +kernel
theorem f_120_53 : mj_fetch 120 53 = some (.iadd, 0, 0) := by decide +kernel
theorem f_120_54 : mj_fetch 120 54 = some (.iconst 1, 0, 0) := by decide +kernel
theorem f_120_55 : mj_fetch 120 55 = some (.bastore, 0, 0) := by decide +kernel
theorem f_120_56 : mj_fetch 120 56 = some (.iconst 1, 0, 0) := by decide +kernel
theorem f_120_57 : mj_fetch 120 57 = some (.ireturn, 0, 0) := by decide +kernel
theorem f_122_0 : mj_fetch 122 0 = some (.aload_n 0, 0, 0) := by decide +kernel
theorem f_122_1 : mj_fetch 122 1 = some (.aload_n 0, 0, 0) := by decide +kernel
theorem f_122_2 : mj_fetch 122 2 = some (.iload_n 1, 0, 0) := by decide +kernel
theorem f_122_3 : mj_fetch 122 3 = some (.invokevirtual 126, 117, 0) := by decide +kernel
theorem f_122_6 : mj_fetch 122 6 = some (.ifCond .eq 17, 0, 0) := by decide +kernel
theorem f_122_9 : mj_fetch 122 9 = some (.iload_n 2, 0, 0) := by decide +kernel
theorem f_122_10 : mj_fetch 122 10 = some (.iconst 0, 0, 0) := by decide +kernel
theorem f_122_11 : mj_fetch 122 11 = some (.bipush 8, 0, 0) := by decide +kernel
theorem f_122_13 : mj_fetch 122 13 = some (.invokestatic 100, 112, 0) := by decide +kernel
theorem f_122_16 : mj_fetch 122 16 = some (.ifCond .eq 7, 0, 0) := by decide +kernel
theorem f_122_19 : mj_fetch 122 19 = some (.iconst 0, 0, 0) := by decide +kernel
theorem f_122_20 : mj_fetch 122 20 = some (.goto 4, 0, 0) := by decide +kernel
theorem f_122_23 : mj_fetch 122 23 = some (.iconst 1, 0, 0) := by decide +kernel
theorem f_122_24 : mj_fetch 122 24 = some (.putfield 96, 11, 1) := by decide +kernel
theorem f_122_27 : mj_fetch 122 27 = some (.aload_n 0, 0, 0) := by decide +kernel
theorem f_122_28 : mj_fetch 122 28 = some (.getfield 96, 11, 1) := by decide +kernel
theorem f_122_31 : mj_fetch 122 31 = some (.iconst 1, 0, 0) := by decide +kernel
theorem f_122_32 : mj_fetch 122 32 = some (.if_icmp .ne 7, 0, 0) := by decide +kernel
theorem f_122_35 : mj_fetch 122 35 = some (.iconst 0, 0, 0) := by decide +kernel
theorem f_122_36 : mj_fetch 122 36 = some (.goto 14, 0, 0) := by decide +kernel
theorem f_122_39 : mj_fetch 122 39 = some (.aload_n 0, 0, 0) := by decide +kernel
theorem f_122_40 : mj_fetch 122 40 = some (.getfield 17, 11, 4) := by decide +kernel
theorem f_122_43 : mj_fetch 122 43 = some (.bipush 9, 0, 0) := by decide +kernel
theorem f_122_45 : mj_fetch 122 45 = some (.iload_n 1, 0, 0) := by decide +kernel
theorem f_122_46 : mj_fetch 122 46 = some (.imul, 0, 0) := by decide +kernel
theorem f_122_47 : mj_fetch 122 47 = some (.iload_n 2, 0, 0) := by decide +kernel
theorem f_122_48 : mj_fetch 122 48 = some (.iadd, 0, 0) := by decide +kernel
theorem f_122_49 : mj_fetch 122 49 = some (.iaload, 0, 0) := by decide +kernel
theorem f_122_50 : mj_fetch 122 50 = some (.ireturn, 0, 0) := by decide +kernel
theorem f_163_0 : mj_fetch 163 0 = some (.aload_n 0, 0, 0) := by decide +kernel
theorem f_163_1 : mj_fetch 163 1 = some (.iload_n 1, 0, 0) := by decide +kernel
theorem f_163_2 : mj_fetch 163 2 = some (.iload_n 2, 0, 0) := by decide +kernel
theorem f_163_3 : mj_fetch 163 3 = some (.invokevirtual 168, 132, 0) := by decide +kernel
theorem f_163_6 : mj_fetch 163 6 = some (.ifCond .eq 12, 0, 0) := by decide +kernel
theorem f_163_9 : mj_fetch 163 9 = some (.aload_n 0, 0, 0) := by decide +kernel
theorem f_163_10 : mj_fetch 163 10 = some (.getfield 252, 11, 40) := by decide +kernel
theorem f_163_13 : mj_fetch 163 13 = some (.bipush 60, 0, 0) := by decide +kernel
theorem f_163_15 : mj_fetch 163 15 = some (.if_icmp .ne 5, 0, 0) := by decide +kernel
theorem f_163_18 : mj_fetch 163 18 = some (.iconst (-1), 0, 0) := by decide +kernel
theorem f_163_19 : mj_fetch 163 19 = some (.ireturn, 0, 0) := by decide +kernel
theorem f_163_20 : mj_fetch 163 20 = some (.aload_n 0, 0, 0) := by decide +kernel
theorem f_163_21 : mj_fetch 163 21 = some (.getfield 66, 11, 34) := by decide +kernel
theorem f_163_24 : mj_fetch 163 24 = some (.aload_n 0, 0, 0) := by decide +kernel
theorem f_163_25 : mj_fetch 163 25 = some (.getfield 252, 11, 40) := by decide +kernel
theorem f_163_28 : mj_fetch 163 28 = some (.iload_n 1, 0, 0) := by decide +kernel
theorem f_163_29 : mj_fetch 163 29 = some (.iastore, 0, 0) := by decide +kernel
theorem f_163_30 : mj_fetch 163 30 = some (.aload_n 0, 0, 0) := by decide +kernel
theorem f_163_31 : mj_fetch 163 31 = some (.getfield 69, 11, 35) := by decide +kernel
theorem f_163_34 : mj_fetch 163 34 = some (.aload_n 0, 0, 0) := by decide +kernel
theorem f_163_35 : mj_fetch 163 35 = some (.getfield 252, 11, 40) := by decide +kernel
theorem f_163_38 : mj_fetch 163 38 = some (.iload_n 2, 0, 0) := by decide +kernel
theorem f_163_39 : mj_fetch 163 39 = some (.iastore, 0, 0) := by decide +kernel
theorem f_163_40 : mj_fetch 163 40 = some (.aload_n 0, 0, 0) := by decide +kernel
theorem f_163_41 : mj_fetch 163 41 = some (.getfield 72, 11, 36) := by decide +kernel
theorem f_163_44 : mj_fetch 163 44 = some (.aload_n 0, 0, 0) := by decide +kernel
theorem f_163_45 : mj_fetch 163 45 = some (.getfield 252, 11, 40) := by decide +kernel
theorem f_163_48 : mj_fetch 163 48 = some (.aload_n 0, 0, 0) := by decide +kernel
theorem f_163_49 : mj_fetch 163 49 = some (.getfield 104, 11, 0) := by decide +kernel
theorem f_163_52 : mj_fetch 163 52 = some (.iastore, 0, 0) := by decide +kernel
theorem f_163_53 : mj_fetch 163 53 = some (.aload_n 0, 0, 0) := by decide +kernel
theorem f_163_54 : mj_fetch 163 54 = some (.dup, 0, 0) := by decide +kernel
theorem f_163_55 : mj_fetch 163 55 = some (.getfield 252, 11, 40) := by decide +kernel
theorem f_163_58 : mj_fetch 163 58 = some (.iconst 1, 0, 0) := by decide +kernel
theorem f_163_59 : mj_fetch 163 59 = some (.iadd, 0, 0) := by decide +kernel
theorem f_163_60 : mj_fetch 163 60 = some (.putfield 252, 11, 40) := by decide +kernel
theorem f_163_63 : mj_fetch 163 63 = some (.aload_n 0, 0, 0) := by decide +kernel
theorem f_163_64 : mj_fetch 163 64 = some (.getfield 252, 11, 40) := by decide +kernel
theorem f_163_67 : mj_fetch 163 67 = some (.iconst 1, 0, 0) := by decide +kernel
theorem f_163_68 : mj_fetch 163 68 = some (.isub, 0, 0) := by decide +kernel
theorem f_163_69 : mj_fetch 163 69 = some (.ireturn, 0, 0) := by decide +kernel
theorem f_164_0 : mj_fetch 164 0 = some (.iload_n 1, 0, 0) := by decide +kernel
theorem f_164_1 : mj_fetch 164 1 = some (.iconst 0, 0, 0) := by decide +kernel
theorem f_164_2 : mj_fetch 164 2 = some (.aload_n 0, 0, 0) := by decide +kernel
theorem f_164_3 : mj_fetch 164 3 = some (.getfield 252, 11, 40) := by decide +kernel
theorem f_164_6 : mj_fetch 164 6 = some (.iconst 1, 0, 0) := by decide +kernel
theorem f_164_7 : mj_fetch 164 7 = some (.isub, 0, 0) := by decide +kernel
theorem f_164_8 : mj_fetch 164 8 = some (.invokestatic 100, 112, 0) := by decide +kernel
theorem f_164_11 : mj_fetch 164 11 = some (.ifCond .eq 12, 0, 0) := by decide +kernel
theorem f_164_14 : mj_fetch 164 14 = some (.aload_n 0, 0, 0) := by decide +kernel
theorem f_164_15 : mj_fetch 164 15 = some (.getfield 255, 11, 41) := by decide +kernel
theorem f_164_18 : mj_fetch 164 18 = some (.bipush 100, 0, 0) := by decide +kernel
theorem f_164_20 : mj_fetch 164 20 = some (.if_icmp .ne 5, 0, 0) := by decide +kernel
theorem f_164_23 : mj_fetch 164 23 = some (.iconst 0, 0, 0) := by decide +kernel
theorem f_164_24 : mj_fetch 164 24 = some (.ireturn, 0, 0) := by decide +kernel
theorem f_164_25 : mj_fetch 164 25 = some (.aload_n 0, 0, 0) := by decide +kernel
theorem f_164_26 : mj_fetch 164 26 = some (.getfield 75, 11, 37) := by decide +kernel
theorem f_164_29 : mj_fetch 164 29 = some (.aload_n 0, 0, 0) := by decide +kernel
theorem f_164_30 : mj_fetch 164 30 = some (.getfield 255, 11, 41) := by decide +kernel
theorem f_164_33 : mj_fetch 164 33 = some (.iload_n 1, 0, 0) := by decide +kernel
theorem f_164_34 : mj_fetch 164 34 = some (.iastore, 0, 0) := by decide +kernel
theorem f_164_35 : mj_fetch 164 35 = some (.aload_n 0, 0, 0) := by decide +kernel
theorem f_164_36 : mj_fetch 164 36 = some (.getfield 78, 11, 38) := by decide +kernel
theorem f_164_39 : mj_fetch 164 39 = some (.aload_n 0, 0, 0) := by decide +kernel
theorem f_164_40 : mj_fetch 164 40 = some (.getfield 255, 11, 41) := by decide +kernel
theorem f_164_43 : mj_fetch 164 43 = some (.iload_n 2, 0, 0) := by decide +kernel
theorem f_164_44 : mj_fetch 164 44 = some (.bastore, 0, 0) := by decide +kernel
theorem f_164_45 : mj_fetch 164 45 = some (.aload_n 0, 0, 0) := by decide +kernel
theorem f_164_46 : mj_fetch 164 46 = some (.getfield 81, 11, 39) := by decide +kernel
theorem f_164_49 : mj_fetch 164 49 = some (.aload_n 0, 0, 0) := by decide +kernel
theorem f_164_50 : mj_fetch 164 50 = some (.getfield 255, 11, 41) := by decide +kernel
theorem f_164_53 : mj_fetch 164 53 = some (.aload_n 0, 0, 0) := by decide +kernel
theorem f_164_54 : mj_fetch 164 54 = some (.getfield 104, 11, 0) := by decide +kernel
theorem f_164_57 : mj_fetch 164 57 = some (.iastore, 0, 0) := by decide +kernel
theorem f_164_58 : mj_fetch 164 58 = some (.aload_n 0, 0, 0) := by decide +kernel
theorem f_164_59 : mj_fetch 164 59 = some (.dup, 0, 0) := by decide +kernel
theorem f_164_60 : mj_fetch 164 60 = some (.getfield 255, 11, 41) := by decide +kernel
theorem f_164_63 : mj_fetch 164 63 = some (.iconst 1, 0, 0) := by decide +kernel
theorem f_164_64 : mj_fetch 164 64 = some (.iadd, 0, 0) := by decide +kernel
theorem f_164_65 : mj_fetch 164 65 = some (.putfield 255, 11, 41) := by decide +kernel
theorem f_164_68 : mj_fetch 164 68 = some (.iconst 1, 0, 0) := by decide +kernel
theorem f_164_69 : mj_fetch 164 69 = some (.ireturn, 0, 0) := by decide +kernel
theorem f_169_0 : mj_fetch 169 0 = some (.aload_n 0, 0, 0) := by decide +kernel
theorem f_169_1 : mj_fetch 169 1 = some (.iload_n 1, 0, 0) := by decide +kernel
theorem f_169_2 : mj_fetch 169 2 = some (.iload_n 2, 0, 0) := by decide +kernel
theorem f_169_3 : mj_fetch 169 3 = some (.invokevirtual 168, 132, 0) := by decide +kernel
theorem f_169_6 : mj_fetch 169 6 = some (.ifCond .eq 12, 0, 0) := by decide +kernel
theorem f_169_9 : mj_fetch 169 9 = some (.aload_n 0, 0, 0) := by decide +kernel
theorem f_169_10 : mj_fetch 169 10 = some (.getfield 261, 11, 46) := by decide +kernel
theorem f_169_13 : mj_fetch 169 13 = some (.bipush 8, 0, 0) := by decide +kernel
theorem f_169_15 : mj_fetch 169 15 = some (.if_icmp .ne 5, 0, 0) := by decide +kernel
theorem f_169_18 : mj_fetch 169 18 = some (.iconst (-1), 0, 0) := by decide +kernel
theorem f_169_19 : mj_fetch 169 19 = some (.ireturn, 0, 0) := by decide +kernel
theorem f_169_20 : mj_fetch 169 20 = some (.aload_n 0, 0, 0) := by decide +kernel
theorem f_169_21 : mj_fetch 169 21 = some (.getfield 84, 11, 42) := by decide +kernel
theorem f_169_24 : mj_fetch 169 24 = some (.aload_n 0, 0, 0) := by decide +kernel
theorem f_169_25 : mj_fetch 169 25 = some (.getfield 261, 11, 46) := by decide +kernel
theorem f_169_28 : mj_fetch 169 28 = some (.iload_n 1, 0, 0) := by decide +kernel
theorem f_169_29 : mj_fetch 169 29 = some (.iastore, 0, 0) := by decide +kernel
theorem f_169_30 : mj_fetch 169 30 = some (.aload_n 0, 0, 0) := by decide +kernel
theorem f_169_31 : mj_fetch 169 31 = some (.getfield 87, 11, 43) := by decide +kernel
theorem f_169_34 : mj_fetch 169 34 = some (.aload_n 0, 0, 0) := by decide +kernel
theorem f_169_35 : mj_fetch 169 35 = some (.getfield 261, 11, 46) := by decide +kernel
theorem f_169_38 : mj_fetch 169 38 = some (.iload_n 2, 0, 0) := by decide +kernel
theorem f_169_39 : mj_fetch 169 39 = some (.iastore, 0, 0) := by decide +kernel
theorem f_169_40 : mj_fetch 169 40 = some (.aload_n 0, 0, 0) := by decide +kernel
theorem f_169_41 : mj_fetch 169 41 = some (.dup, 0, 0) := by decide +kernel
theorem f_169_42 : mj_fetch 169 42 = some (.getfield 261, 11, 46) := by decide +kernel
theorem f_169_45 : mj_fetch 169 45 = some (.iconst 1, 0, 0) := by decide +kernel
theorem f_169_46 : mj_fetch 169 46 = some (.iadd, 0, 0) := by decide +kernel
theorem f_169_47 : mj_fetch 169 47 = some (.putfield 261, 11, 46) := by decide +kernel
theorem f_169_50 : mj_fetch 169 50 = some (.aload_n 0, 0, 0) := by decide +kernel
theorem f_169_51 : mj_fetch 169 51 = some (.getfield 261, 11, 46) := by decide +kernel
theorem f_169_54 : mj_fetch 169 54 = some (.iconst 1, 0, 0) := by decide +kernel
theorem f_169_55 : mj_fetch 169 55 = some (.isub, 0, 0) := by decide +kernel
theorem f_169_56 : mj_fetch 169 56 = some (.ireturn, 0, 0) := by decide +kernel
set_option maxRecDepth 20000 in
theorem c_in (h : mj_H) (v lo hi : Int32) : mxc 0 112 [.int v, .int lo, .int hi] h (fun r h' => r = some (.int (if lo ≤ v ∧ v ≤ hi then 1 else 0)) ∧ h' = h) := by
  show mx 0 112 0 [.int v, .int lo, .int hi] [] h _
  refine x_iload_n f_112_0 rfl ?_
  refine x_iload_n f_112_1 rfl ?_
  refine x_icmp_lt (t := 14) f_112_2 (by decide) (fun c_1 => ?_) (fun c_1 => ?_)
  · refine x_iconst (v := nI 0) f_112_14 (by decide) ?_
    refine x_retZ f_112_15 rfl (by decide) ?_
    exact ⟨mj_if0 (by simp only [Int32.lt_iff_toInt_lt, Int32.le_iff_toInt_le, ← Int32.toInt_inj] at *; omega), rfl⟩
  · refine x_iload_n f_112_5 rfl ?_
    refine x_iload_n f_112_6 rfl ?_
    refine x_icmp_gt (t := 14) f_112_7 (by decide) (fun c_2 => ?_) (fun c_2 => ?_)
    · refine x_iconst (v := nI 0) f_112_14 (by decide) ?_
      refine x_retZ f_112_15 rfl (by decide) ?_
      exact ⟨mj_if0 (by simp only [Int32.lt_iff_toInt_lt, Int32.le_iff_toInt_le, ← Int32.toInt_inj] at *; omega), rfl⟩
    · refine x_iconst (v := nI 1) f_112_10 (by decide) ?_
      refine x_goto (t := 15) f_112_11 (by decide) ?_
      refine x_retZ f_112_15 rfl (by decide) ?_
      exact ⟨mj_if1 (by simp only [Int32.lt_iff_toInt_lt, Int32.le_iff_toInt_le, ← Int32.toInt_inj] at *; omega), rfl⟩
theorem c_inM (h : mj_H) (v : Int32) {n : Nat} (hn : n < 2 ^ 30) : mxc 0 112 [.int v, .int (nI 0), .int (nI n - nI 1)] h (fun r h' => r = some (.int (if mIn v n then 1 else 0)) ∧ h' = h) := by
  refine (c_in h v (nI 0) (nI n - nI 1)).post ?_
  rintro _ _ ⟨rfl, rfl⟩
  refine ⟨?_, rfl⟩
  simp only [show nI 0 = (0 : Int32) from rfl, show nI 1 = (1 : Int32) from rfl, mIn_iff hn]
set_option maxRecDepth 20000 in
theorem c_isStuff {h : mj_H} (S : SM h) (s : Int32) {n : Nat} (hn : n < 2 ^ 30) (e : mj_I h 33 7 = nI n) : mxc 1 116 [.ref 33, .int s] h (fun r h' => r = some (.int (if mIn s n then 1 else 0)) ∧ h' = h) := by
  show mx 1 116 0 [.ref 33, .int s] [] h _
  refine x_iload_n f_116_0 rfl ?_
  refine x_iconst (v := nI 0) f_116_1 (by decide) ?_
  refine x_aload_n f_116_2 rfl ?_
  refine x_getI f_116_3 S.k33 (by decide) ?_
  refine x_iconst (v := nI 1) f_116_6 (by decide) ?_
  refine x_isub f_116_7 ?_
  refine x_callSe f_116_8 (c_in _ _ _ _) (by omega) rfl rfl rfl (Nat.le_of_ble_eq_true rfl) rfl ?_
  refine x_retZ f_116_11 rfl mj_b01 ?_
  refine ⟨?_, rfl⟩
  rw [e]
  simp only [show nI 0 = (0 : Int32) from rfl, show nI 1 = (1 : Int32) from rfl, mIn_iff hn]
set_option maxRecDepth 20000 in
theorem c_isJob {h : mj_H} (S : SM h) (s : Int32) {n : Nat} (hn : n < 2 ^ 30) (e : mj_I h 33 8 = nI n) : mxc 1 117 [.ref 33, .int s] h (fun r h' => r = some (.int (if mIn s n then 1 else 0)) ∧ h' = h) := by
  show mx 1 117 0 [.ref 33, .int s] [] h _
  refine x_iload_n f_117_0 rfl ?_
  refine x_iconst (v := nI 0) f_117_1 (by decide) ?_
  refine x_aload_n f_117_2 rfl ?_
  refine x_getI f_117_3 S.k33 (by decide) ?_
  refine x_iconst (v := nI 1) f_117_6 (by decide) ?_
  refine x_isub f_117_7 ?_
  refine x_callSe f_117_8 (c_in _ _ _ _) (by omega) rfl rfl rfl (Nat.le_of_ble_eq_true rfl) rfl ?_
  refine x_retZ f_117_11 rfl mj_b01 ?_
  refine ⟨?_, rfl⟩
  rw [e]
  simp only [show nI 0 = (0 : Int32) from rfl, show nI 1 = (1 : Int32) from rfl, mIn_iff hn]
set_option maxRecDepth 20000 in
theorem c_isWindow {h : mj_H} (S : SM h) (s : Int32) {n : Nat} (hn : n < 2 ^ 30) (e : mj_I h 33 21 = nI n) : mxc 1 137 [.ref 33, .int s] h (fun r h' => r = some (.int (if mIn s n then 1 else 0)) ∧ h' = h) := by
  show mx 1 137 0 [.ref 33, .int s] [] h _
  refine x_iload_n f_137_0 rfl ?_
  refine x_iconst (v := nI 0) f_137_1 (by decide) ?_
  refine x_aload_n f_137_2 rfl ?_
  refine x_getI f_137_3 S.k33 (by decide) ?_
  refine x_iconst (v := nI 1) f_137_6 (by decide) ?_
  refine x_isub f_137_7 ?_
  refine x_callSe f_137_8 (c_in _ _ _ _) (by omega) rfl rfl rfl (Nat.le_of_ble_eq_true rfl) rfl ?_
  refine x_retZ f_137_11 rfl mj_b01 ?_
  refine ⟨?_, rfl⟩
  rw [e]
  simp only [show nI 0 = (0 : Int32) from rfl, show nI 1 = (1 : Int32) from rfl, mIn_iff hn]
set_option maxRecDepth 20000 in
theorem c_isSetting (h : mj_H) (s : Int32) : mxc 1 118 [.int s] h (fun r h' => r = some (.int (if mIn s 729 then 1 else 0)) ∧ h' = h) := by
  show mx 1 118 0 [.int s] [] h _
  refine x_iload_n f_118_0 rfl ?_
  refine x_iconst (v := nI 0) f_118_1 (by decide) ?_
  refine x_sipush (v := nI 728) f_118_2 (by decide) ?_
  refine x_callSe f_118_5 (c_in _ _ _ _) (by omega) rfl rfl rfl (Nat.le_of_ble_eq_true rfl) rfl ?_
  refine x_retZ f_118_8 rfl mj_b01 ?_
  refine ⟨?_, rfl⟩
  simp only [show nI 0 = (0 : Int32) from rfl, show nI 728 = nI 729 - 1 by decide, mIn_iff (s := s) (n := 729) (by decide)]
set_option maxRecDepth 20000 in
theorem c_isAsked {h : mj_H} (S : SM h) (j s : Int32) {jm : Nat} (h_jm : jm < 2 ^ 30) (e_jm : mj_I h 33 8 = nI jm) : mxc 2 132 [.ref 33, .int j, .int s] h (fun r h' => r = some (.int (if mIn j jm ∧ mIn s 729 then 1 else 0)) ∧ h' = h) := by
  show mx 2 132 0 [.ref 33, .int j, .int s] [] h _
  refine x_aload_n f_132_0 rfl ?_
  refine x_iload_n f_132_1 rfl ?_
  refine x_callVe f_132_2 (c_isJob S _ h_jm e_jm) (by omega) S.k33 (by decide) rfl rfl (Nat.le_of_ble_eq_true rfl) rfl ?_
  refine x_ifB_eq (t := 19) f_132_5 (by decide) (fun c_1 => ?_) (fun c_1 => ?_)
  · refine x_iconst (v := nI 0) f_132_19 (by decide) ?_
    refine x_retZ f_132_20 rfl (by decide) ?_
    exact ⟨mj_if0 (fun q => c_1 q.1), rfl⟩
  · refine x_iload_n f_132_8 rfl ?_
    refine x_callSe f_132_9 (c_isSetting _ _) (by omega) rfl rfl rfl (Nat.le_of_ble_eq_true rfl) rfl ?_
    refine x_ifB_eq (t := 19) f_132_12 (by decide) (fun c_2 => ?_) (fun c_2 => ?_)
    · refine x_iconst (v := nI 0) f_132_19 (by decide) ?_
      refine x_retZ f_132_20 rfl (by decide) ?_
      exact ⟨mj_if0 (fun q => c_2 q.2), rfl⟩
    · refine x_iconst (v := nI 1) f_132_15 (by decide) ?_
      refine x_goto (t := 20) f_132_16 (by decide) ?_
      refine x_retZ f_132_20 rfl (by decide) ?_
      exact ⟨mj_if1 ⟨c_1, c_2⟩, rfl⟩
set_option maxRecDepth 20000 in
theorem c_thrown {h : mj_H} (S : SM h) : mxc 0 114 [.ref 33] h (fun r h' => r = some (.int (mj_I h 33 1)) ∧ h' = h) := by
  show mx 0 114 0 [.ref 33] [] h _
  refine x_aload_n f_114_0 rfl ?_
  refine x_getI f_114_1 S.k33 (by decide) ?_
  refine x_retI f_114_4 rfl ?_
  exact ⟨rfl, rfl⟩
set_option maxRecDepth 20000 in
theorem c_settingOf (h : mj_H) (t p l : Int32) : mxc 0 124 [.int t, .int p, .int l] h (fun r h' => r = some (.int (81 * (t - 1) + 9 * (p - 1) + l - 1)) ∧ h' = h) := by
  show mx 0 124 0 [.int t, .int p, .int l] [] h _
  refine x_bipush (v := nI 81) f_124_0 (by decide) ?_
  refine x_iload_n f_124_2 rfl ?_
  refine x_iconst (v := nI 1) f_124_3 (by decide) ?_
  refine x_isub f_124_4 ?_
  refine x_imul f_124_5 ?_
  refine x_bipush (v := nI 9) f_124_6 (by decide) ?_
  refine x_iload_n f_124_8 rfl ?_
  refine x_iconst (v := nI 1) f_124_9 (by decide) ?_
  refine x_isub f_124_10 ?_
  refine x_imul f_124_11 ?_
  refine x_iadd f_124_12 ?_
  refine x_iload_n f_124_13 rfl ?_
  refine x_iadd f_124_14 ?_
  refine x_iconst (v := nI 1) f_124_15 (by decide) ?_
  refine x_isub f_124_16 ?_
  refine x_retI f_124_17 rfl ?_
  exact ⟨rfl, rfl⟩
set_option maxRecDepth 20000 in
theorem c_led3 {h : mj_H} (x y z : Int32) (n : Nat) : mxc 0 126 [.ref 33, .int x, .int y, .int z] h (fun r h' => r = some (.int ((x - y) * z / 1000)) ∧ h' = h) := by
  show mx 0 126 0 [.ref 33, .int x, .int y, .int z] [] h _
  refine x_iload_n f_126_0 rfl ?_
  refine x_iload_n f_126_1 rfl ?_
  refine x_isub f_126_2 ?_
  refine x_iload_n f_126_3 rfl ?_
  refine x_imul f_126_4 ?_
  refine x_sipush (v := nI 1000) f_126_5 (by decide) ?_
  refine x_idiv f_126_8 (by decide) ?_
  refine x_retI f_126_9 rfl ?_
  exact ⟨rfl, rfl⟩
set_option maxRecDepth 20000 in
theorem c_part (h : mj_H) (k a : Nat) (hk : k < 729) (ha : a < 3) : mxc 0 125 [.int (nI k), .int (nI a)] h (fun r h' => r = some (.int (nI (mm_pt k a + 1))) ∧ h' = h) := by
  show mx 0 125 0 [.int (nI k), .int (nI a)] [] h _
  refine x_iload_n f_125_0 rfl ?_
  refine x_ifN_ne (t := 11) f_125_1 (by decide) (by omega) (fun c_1 => ?_) (fun c_1 => ?_)
  · refine x_iload_n f_125_11 rfl ?_
    refine x_iconst (v := nI 1) f_125_12 (by decide) ?_
    refine x_icmpN_ne (t := 26) f_125_13 (by decide) (by omega) (by decide) (fun c_2 => ?_) (fun c_2 => ?_)
    · refine x_iload_n f_125_26 rfl ?_
      refine x_bipush (v := nI 9) f_125_27 (by decide) ?_
      refine x_iremN f_125_29 (by omega) (by decide) (by decide) ?_
      refine x_iconst (v := nI 1) f_125_30 (by decide) ?_
      refine x_iaddN f_125_31 ?_
      refine x_retI f_125_32 rfl ?_
      exact ⟨by simp [mm_pt, *], rfl⟩
    · refine x_iload_n f_125_16 rfl ?_
      refine x_bipush (v := nI 9) f_125_17 (by decide) ?_
      refine x_idivN f_125_19 (by omega) (by decide) (by decide) ?_
      refine x_bipush (v := nI 9) f_125_20 (by decide) ?_
      refine x_iremN f_125_22 (by omega) (by decide) (by decide) ?_
      refine x_goto (t := 30) f_125_23 (by decide) ?_
      refine x_iconst (v := nI 1) f_125_30 (by decide) ?_
      refine x_iaddN f_125_31 ?_
      refine x_retI f_125_32 rfl ?_
      exact ⟨by simp [mm_pt, *], rfl⟩
  · refine x_iload_n f_125_4 rfl ?_
    refine x_bipush (v := nI 81) f_125_5 (by decide) ?_
    refine x_idivN f_125_7 (by omega) (by decide) (by decide) ?_
    refine x_goto (t := 30) f_125_8 (by decide) ?_
    refine x_iconst (v := nI 1) f_125_30 (by decide) ?_
    refine x_iaddN f_125_31 ?_
    refine x_retI f_125_32 rfl ?_
    exact ⟨by simp [mm_pt, *], rfl⟩
set_option maxRecDepth 20000 in
theorem c_days {h : mj_H} (S : SM h) (n : Int32) : mxc 1 115 [.ref 33, .int n] h (fun r h' => if (0 ≤ n ∧ n ≤ 500) ∧ mj_I h 33 0 + n ≤ 1000 then r = some (.int (mj_I h 33 0 + n)) ∧ h' = mj_setI h 33 0 (mj_I h 33 0 + n) else r = some (.int (-1)) ∧ h' = h) := by
  show mx 1 115 0 [.ref 33, .int n] [] h _
  refine x_iload_n f_115_0 rfl ?_
  refine x_iconst (v := nI 0) f_115_1 (by decide) ?_
  refine x_sipush (v := nI 500) f_115_2 (by decide) ?_
  refine x_callSe f_115_5 (c_in _ _ _ _) (by omega) rfl rfl rfl (Nat.le_of_ble_eq_true rfl) rfl ?_
  refine x_ifB_eq (t := 23) f_115_8 (by decide) (fun c_1 => ?_) (fun c_1 => ?_)
  · refine x_iconst (v := -1) f_115_23 (by decide) ?_
    refine x_retI f_115_24 rfl ?_
    exact mj_qF (by first | exact fun q => c_1 (q.1) | exact fun q => (q.1) c_1) ⟨rfl, rfl⟩
  · refine x_aload_n f_115_11 rfl ?_
    refine x_getI f_115_12 S.k33 (by decide) ?_
    refine x_iload_n f_115_15 rfl ?_
    refine x_iadd f_115_16 ?_
    refine x_sipush (v := nI 1000) f_115_17 (by decide) ?_
    refine x_icmp_le (t := 25) f_115_20 (by decide) (fun c_2 => ?_) (fun c_2 => ?_)
    · refine x_aload_n f_115_25 rfl ?_
      refine x_dup f_115_26 rfl ?_
      refine x_getI f_115_27 S.k33 (by decide) ?_
      refine x_iload_n f_115_30 rfl ?_
      refine x_iadd f_115_31 ?_
      refine x_putI f_115_32 S.k33 (by decide) ?_
      refine x_aload_n f_115_35 rfl ?_
      refine x_getI f_115_36 S.k33 (by decide) ?_
      refine x_topi (w := (mj_I h 33 0) + n) (mj_I_at _ _ _ _) ?_
      refine x_retI f_115_39 rfl ?_
      exact mj_qT ⟨c_1, c_2⟩ ⟨rfl, rfl⟩
    · refine x_iconst (v := -1) f_115_23 (by decide) ?_
      refine x_retI f_115_24 rfl ?_
      exact mj_qF (by first | exact fun q => c_2 (q.2) | exact fun q => (q.2) c_2) ⟨rfl, rfl⟩
set_option maxRecDepth 20000 in
theorem c_setting {h : mj_H} (S : SM h) (t p l : Int32) : mxc 1 123 [.ref 33, .int t, .int p, .int l] h (fun r h' => if (1 ≤ t ∧ t ≤ 9) ∧ (1 ≤ p ∧ p ≤ 9) ∧ (1 ≤ l ∧ l ≤ 9) then r = some (.int (81 * (t - 1) + 9 * (p - 1) + l - 1)) ∧ h' = h else r = some (.int (-1)) ∧ h' = h) := by
  show mx 1 123 0 [.ref 33, .int t, .int p, .int l] [] h _
  refine x_iload_n f_123_0 rfl ?_
  refine x_iconst (v := nI 1) f_123_1 (by decide) ?_
  refine x_bipush (v := nI 9) f_123_2 (by decide) ?_
  refine x_callSe f_123_4 (c_in _ _ _ _) (by omega) rfl rfl rfl (Nat.le_of_ble_eq_true rfl) rfl ?_
  refine x_ifB_eq (t := 39) f_123_7 (by decide) (fun c_1 => ?_) (fun c_1 => ?_)
  · refine x_iconst (v := -1) f_123_39 (by decide) ?_
    refine x_retI f_123_40 rfl ?_
    exact mj_qF (by first | exact fun q => c_1 (q.1) | exact fun q => (q.1) c_1) ⟨rfl, rfl⟩
  · refine x_iload_n f_123_10 rfl ?_
    refine x_iconst (v := nI 1) f_123_11 (by decide) ?_
    refine x_bipush (v := nI 9) f_123_12 (by decide) ?_
    refine x_callSe f_123_14 (c_in _ _ _ _) (by omega) rfl rfl rfl (Nat.le_of_ble_eq_true rfl) rfl ?_
    refine x_ifB_eq (t := 39) f_123_17 (by decide) (fun c_2 => ?_) (fun c_2 => ?_)
    · refine x_iconst (v := -1) f_123_39 (by decide) ?_
      refine x_retI f_123_40 rfl ?_
      exact mj_qF (by first | exact fun q => c_2 (q.2.1) | exact fun q => (q.2.1) c_2) ⟨rfl, rfl⟩
    · refine x_iload_n f_123_20 rfl ?_
      refine x_iconst (v := nI 1) f_123_21 (by decide) ?_
      refine x_bipush (v := nI 9) f_123_22 (by decide) ?_
      refine x_callSe f_123_24 (c_in _ _ _ _) (by omega) rfl rfl rfl (Nat.le_of_ble_eq_true rfl) rfl ?_
      refine x_ifB_eq (t := 39) f_123_27 (by decide) (fun c_3 => ?_) (fun c_3 => ?_)
      · refine x_iconst (v := -1) f_123_39 (by decide) ?_
        refine x_retI f_123_40 rfl ?_
        exact mj_qF (by first | exact fun q => c_3 (q.2.2) | exact fun q => (q.2.2) c_3) ⟨rfl, rfl⟩
      · refine x_iload_n f_123_30 rfl ?_
        refine x_iload_n f_123_31 rfl ?_
        refine x_iload_n f_123_32 rfl ?_
        refine x_callSe f_123_33 (c_settingOf _ _ _ _) (by omega) rfl rfl rfl (Nat.le_of_ble_eq_true rfl) rfl ?_
        refine x_goto (t := 40) f_123_36 (by decide) ?_
        refine x_retI f_123_40 rfl ?_
        exact mj_qT ⟨c_1, c_2, c_3⟩ ⟨rfl, rfl⟩
set_option maxRecDepth 20000 in
theorem c_tell {h : mj_H} (S : SM h) (v : Int32) {tm : Nat} (h_tm : tm ≤ 500) (e_tm : mj_I h 33 28 = nI tm) : mxc 1 152 [.ref 33, .int v] h (fun r h' => if (0 ≤ v ∧ v ≤ 31) ∧ ¬ tm = 500 then r = some (.int (nI (tm + 1))) ∧ h' = mj_setI (mj_setI h 51 tm v) 33 28 (nI (tm + 1)) else r = some (.int (-1)) ∧ h' = h) := by
  show mx 1 152 0 [.ref 33, .int v] [] h _
  refine x_iload_n f_152_0 rfl ?_
  refine x_iconst (v := nI 0) f_152_1 (by decide) ?_
  refine x_bipush (v := nI 31) f_152_2 (by decide) ?_
  refine x_callSe f_152_4 (c_in _ _ _ _) (by omega) rfl rfl rfl (Nat.le_of_ble_eq_true rfl) rfl ?_
  refine x_ifB_eq (t := 20) f_152_7 (by decide) (fun c_1 => ?_) (fun c_1 => ?_)
  · refine x_iconst (v := -1) f_152_20 (by decide) ?_
    refine x_retI f_152_21 rfl ?_
    exact mj_qF (by first | exact fun q => c_1 (q.1) | exact fun q => (q.1) c_1) ⟨rfl, rfl⟩
  · refine x_aload_n f_152_10 rfl ?_
    refine x_getI f_152_11 S.k33 (by decide) ?_
    refine x_topi (w := nI tm) e_tm ?_
    refine x_sipush (v := nI 500) f_152_14 (by decide) ?_
    refine x_icmpN_ne (t := 22) f_152_17 (by decide) (by omega) (by decide) (fun c_2 => ?_) (fun c_2 => ?_)
    · refine x_aload_n f_152_22 rfl ?_
      refine x_getR f_152_23 S.k33 (by decide) S.r27 ?_
      refine x_aload_n f_152_26 rfl ?_
      refine x_getI f_152_27 S.k33 (by decide) ?_
      refine x_topi (w := nI tm) e_tm ?_
      refine x_iload_n f_152_30 rfl ?_
      refine x_iast (j := tm) f_152_31 S.k51 (by decide) (by omega) (by decide) ?_
      refine x_aload_n f_152_32 rfl ?_
      refine x_dup f_152_33 rfl ?_
      refine x_getI f_152_34 S.k33 (by decide) ?_
      refine x_topi (w := nI tm) ((congrFun (mj_I_other (by decide)) _).trans (e_tm)) ?_
      refine x_iconst (v := nI 1) f_152_37 (by decide) ?_
      refine x_iaddN f_152_38 ?_
      refine x_putI f_152_39 S.k33 (by decide) ?_
      refine x_aload_n f_152_42 rfl ?_
      refine x_getI f_152_43 S.k33 (by decide) ?_
      refine x_topi (w := nI (tm + 1)) (mj_I_at _ _ _ _) ?_
      refine x_retI f_152_46 rfl ?_
      exact mj_qT ⟨c_1, c_2⟩ ⟨rfl, rfl⟩
    · refine x_iconst (v := -1) f_152_20 (by decide) ?_
      refine x_retI f_152_21 rfl ?_
      exact mj_qF (by first | exact fun q => c_2 (q.2) | exact fun q => (q.2) c_2) ⟨rfl, rfl⟩
set_option maxRecDepth 20000 in
theorem c_alter {h : mj_H} (S : SM h) (k v : Int32) {tm : Nat} (h_tm : tm ≤ 500) (e_tm : mj_I h 33 28 = nI tm) : mxc 1 154 [.ref 33, .int k, .int v] h (fun r h' => if mIn k tm ∧ (0 ≤ v ∧ v ≤ 31) then r = some (.int (nI 1)) ∧ h' = mj_setI h 51 k.toNatClampNeg v else r = some (.int (nI 0)) ∧ h' = h) := by
  show mx 1 154 0 [.ref 33, .int k, .int v] [] h _
  refine x_iload_n f_154_0 rfl ?_
  refine x_iconst (v := nI 0) f_154_1 (by decide) ?_
  refine x_aload_n f_154_2 rfl ?_
  refine x_getI f_154_3 S.k33 (by decide) ?_
  refine x_topi (w := nI tm) e_tm ?_
  refine x_iconst (v := nI 1) f_154_6 (by decide) ?_
  refine x_isub f_154_7 ?_
  refine x_callSe f_154_8 (c_inM _ _ (n := tm) (by omega)) (by omega) rfl rfl rfl (Nat.le_of_ble_eq_true rfl) rfl ?_
  refine x_ifB_eq (t := 24) f_154_11 (by decide) (fun c_1 => ?_) (fun c_1 => ?_)
  · refine x_iconst (v := nI 0) f_154_24 (by decide) ?_
    refine x_retZ f_154_25 rfl (by decide) ?_
    exact mj_qF (by first | exact fun q => c_1 (q.1) | exact fun q => (q.1) c_1) ⟨rfl, rfl⟩
  · refine x_iload_n f_154_14 rfl ?_
    refine x_iconst (v := nI 0) f_154_15 (by decide) ?_
    refine x_bipush (v := nI 31) f_154_16 (by decide) ?_
    refine x_callSe f_154_18 (c_in _ _ _ _) (by omega) rfl rfl rfl (Nat.le_of_ble_eq_true rfl) rfl ?_
    refine x_ifB_ne (t := 26) f_154_21 (by decide) (fun c_2 => ?_) (fun c_2 => ?_)
    · obtain ⟨j, h_j, rfl⟩ := mIn_of c_1 (by omega)
      simp only [nI_clamp (show j < 2 ^ 31 by omega)]
      refine x_aload_n f_154_26 rfl ?_
      refine x_getR f_154_27 S.k33 (by decide) S.r27 ?_
      refine x_iload_n f_154_30 rfl ?_
      refine x_iload_n f_154_31 rfl ?_
      refine x_iast (j := j) f_154_32 S.k51 (by decide) (by omega) (by decide) ?_
      refine x_iconst (v := nI 1) f_154_33 (by decide) ?_
      refine x_retZ f_154_34 rfl (by decide) ?_
      exact mj_qT ⟨c_1, c_2⟩ ⟨rfl, rfl⟩
    · refine x_iconst (v := nI 0) f_154_24 (by decide) ?_
      refine x_retZ f_154_25 rfl (by decide) ?_
      exact mj_qF (by first | exact fun q => c_2 (q.2) | exact fun q => (q.2) c_2) ⟨rfl, rfl⟩
set_option maxRecDepth 20000 in
theorem c_end {h : mj_H} (S : SM h) (n : Int32) : mxc 0 155 [.ref 33, .int n] h (fun r h' => if ¬ n < 0 ∧ n ≤ mj_I h 33 28 then r = some (.int (nI 1)) ∧ h' = mj_setI h 33 28 n else r = some (.int (nI 0)) ∧ h' = h) := by
  show mx 0 155 0 [.ref 33, .int n] [] h _
  refine x_iload_n f_155_0 rfl ?_
  refine x_if_lt (t := 12) f_155_1 (by decide) (fun c_1 => ?_) (fun c_1 => ?_)
  · refine x_iconst (v := nI 0) f_155_12 (by decide) ?_
    refine x_retZ f_155_13 rfl (by decide) ?_
    exact mj_qF (by first | exact fun q => c_1 (q.1) | exact fun q => (q.1) c_1) ⟨rfl, rfl⟩
  · refine x_iload_n f_155_4 rfl ?_
    refine x_aload_n f_155_5 rfl ?_
    refine x_getI f_155_6 S.k33 (by decide) ?_
    refine x_icmp_le (t := 14) f_155_9 (by decide) (fun c_2 => ?_) (fun c_2 => ?_)
    · refine x_aload_n f_155_14 rfl ?_
      refine x_iload_n f_155_15 rfl ?_
      refine x_putI f_155_16 S.k33 (by decide) ?_
      refine x_iconst (v := nI 1) f_155_19 (by decide) ?_
      refine x_retZ f_155_20 rfl (by decide) ?_
      exact mj_qT ⟨c_1, c_2⟩ ⟨rfl, rfl⟩
    · refine x_iconst (v := nI 0) f_155_12 (by decide) ?_
      refine x_retZ f_155_13 rfl (by decide) ?_
      exact mj_qF (by first | exact fun q => c_2 (q.2) | exact fun q => (q.2) c_2) ⟨rfl, rfl⟩
set_option maxRecDepth 20000 in
theorem c_clear {h : mj_H} (S : SM h) : mxc 0 170 [.ref 33] h (fun r h' => r = none ∧ h' = mj_setI h 33 46 (nI 0)) := by
  show mx 0 170 0 [.ref 33] [] h _
  refine x_aload_n f_170_0 rfl ?_
  refine x_iconst (v := nI 0) f_170_1 (by decide) ?_
  refine x_putI f_170_2 S.k33 (by decide) ?_
  refine x_retV f_170_5 rfl ?_
  exact ⟨rfl, rfl⟩
set_option maxRecDepth 20000 in
theorem c_bar {h : mj_H} (S : SM h) (a b : Int32) {sm : Nat} (h_sm : sm ≤ 6) (e_sm : mj_I h 33 7 = nI sm) : mxc 2 120 [.ref 33, .int a, .int b] h (fun r h' => if mIn a sm ∧ mIn b sm ∧ mj_I h 35 (6 * a.toNatClampNeg + b.toNatClampNeg) = 0 then r = some (.int (nI 1)) ∧ h' = mj_setI (mj_setI h 35 (6 * a.toNatClampNeg + b.toNatClampNeg) (nI 1)) 35 (6 * b.toNatClampNeg + a.toNatClampNeg) (nI 1) else r = some (.int (nI 0)) ∧ h' = h) := by
  show mx 2 120 0 [.ref 33, .int a, .int b] [] h _
  refine x_aload_n f_120_0 rfl ?_
  refine x_iload_n f_120_1 rfl ?_
  refine x_callVe f_120_2 (c_isStuff S _ (n := sm) (by omega) e_sm) (by omega) S.k33 (by decide) rfl rfl (Nat.le_of_ble_eq_true rfl) rfl ?_
  refine x_ifB_eq (t := 30) f_120_5 (by decide) (fun c_1 => ?_) (fun c_1 => ?_)
  · refine x_iconst (v := nI 0) f_120_30 (by decide) ?_
    refine x_retZ f_120_31 rfl (by decide) ?_
    exact mj_qF (by first | exact fun q => c_1 (q.1) | exact fun q => (q.1) c_1) ⟨rfl, rfl⟩
  · refine x_aload_n f_120_8 rfl ?_
    refine x_iload_n f_120_9 rfl ?_
    refine x_callVe f_120_10 (c_isStuff S _ (n := sm) (by omega) e_sm) (by omega) S.k33 (by decide) rfl rfl (Nat.le_of_ble_eq_true rfl) rfl ?_
    refine x_ifB_eq (t := 30) f_120_13 (by decide) (fun c_2 => ?_) (fun c_2 => ?_)
    · refine x_iconst (v := nI 0) f_120_30 (by decide) ?_
      refine x_retZ f_120_31 rfl (by decide) ?_
      exact mj_qF (by first | exact fun q => c_2 (q.2.1) | exact fun q => (q.2.1) c_2) ⟨rfl, rfl⟩
    · obtain ⟨i, h_i, rfl⟩ := mIn_of c_1 (by omega)
      simp only [nI_clamp (show i < 2 ^ 31 by omega)]
      obtain ⟨j, h_j, rfl⟩ := mIn_of c_2 (by omega)
      simp only [nI_clamp (show j < 2 ^ 31 by omega)]
      refine x_aload_n f_120_16 rfl ?_
      refine x_getR f_120_17 S.k33 (by decide) S.r3 ?_
      refine x_bipush (v := nI 6) f_120_20 (by decide) ?_
      refine x_iload_n f_120_22 rfl ?_
      refine x_imulN f_120_23 ?_
      refine x_iload_n f_120_24 rfl ?_
      refine x_iaddN f_120_25 ?_
      refine x_zald (j := ((6 * i) + j)) f_120_26 S.k35 (by omega) (by decide) ?_
      refine x_if_eq (t := 32) f_120_27 (by decide) (fun c_3 => ?_) (fun c_3 => ?_)
      · refine x_aload_n f_120_32 rfl ?_
        refine x_getR f_120_33 S.k33 (by decide) S.r3 ?_
        refine x_bipush (v := nI 6) f_120_36 (by decide) ?_
        refine x_iload_n f_120_38 rfl ?_
        refine x_imulN f_120_39 ?_
        refine x_iload_n f_120_40 rfl ?_
        refine x_iaddN f_120_41 ?_
        refine x_iconst (v := nI 1) f_120_42 (by decide) ?_
        refine x_zast (j := ((6 * i) + j)) f_120_43 S.k35 (by decide) (by omega) (by decide) ?_
        refine x_aload_n f_120_44 rfl ?_
        refine x_getR f_120_45 S.k33 (by decide) S.r3 ?_
        refine x_bipush (v := nI 6) f_120_48 (by decide) ?_
        refine x_iload_n f_120_50 rfl ?_
        refine x_imulN f_120_51 ?_
        refine x_iload_n f_120_52 rfl ?_
        refine x_iaddN f_120_53 ?_
        refine x_iconst (v := nI 1) f_120_54 (by decide) ?_
        refine x_zast (j := ((6 * j) + i)) f_120_55 S.k35 (by decide) (by omega) (by decide) ?_
        refine x_iconst (v := nI 1) f_120_56 (by decide) ?_
        refine x_retZ f_120_57 rfl (by decide) ?_
        exact mj_qT ⟨c_1, c_2, c_3⟩ ⟨rfl, rfl⟩
      · refine x_iconst (v := nI 0) f_120_30 (by decide) ?_
        refine x_retZ f_120_31 rfl (by decide) ?_
        exact mj_qF (by first | exact fun q => c_3 (q.2.2) | exact fun q => (q.2.2) c_3) ⟨rfl, rfl⟩
set_option maxRecDepth 20000 in
theorem c_told {h : mj_H} (S : SM h) (j w : Int32) {jm : Nat} (h_jm : jm ≤ 20) (e_jm : mj_I h 33 8 = nI jm) : mxc 2 122 [.ref 33, .int j, .int w] h (fun r h' => if mIn j jm ∧ (0 ≤ w ∧ w ≤ 8) then r = some (.int (mj_I h 36 (9 * j.toNatClampNeg + w.toNatClampNeg))) ∧ h' = mj_setI h 33 1 (nI 0) else r = some (.int (nI 0)) ∧ h' = mj_setI h 33 1 (nI 1)) := by
  show mx 2 122 0 [.ref 33, .int j, .int w] [] h _
  refine x_aload_n f_122_0 rfl ?_
  refine x_aload_n f_122_1 rfl ?_
  refine x_iload_n f_122_2 rfl ?_
  refine x_callVe f_122_3 (c_isJob S _ (n := jm) (by omega) e_jm) (by omega) S.k33 (by decide) rfl rfl (Nat.le_of_ble_eq_true rfl) rfl ?_
  refine x_ifB_eq (t := 23) f_122_6 (by decide) (fun c_1 => ?_) (fun c_1 => ?_)
  · refine x_iconst (v := nI 1) f_122_23 (by decide) ?_
    refine x_putI f_122_24 S.k33 (by decide) ?_
    refine x_aload_n f_122_27 rfl ?_
    refine x_getI f_122_28 S.k33 (by decide) ?_
    refine x_topi (w := nI 1) (mj_I_at _ _ _ _) ?_
    refine x_iconst (v := nI 1) f_122_31 (by decide) ?_
    refine x_icmpN_ne (t := 39) f_122_32 (by decide) (by decide) (by decide) (fun c_2 => by omega) (fun c_2 => ?_)
    refine x_iconst (v := nI 0) f_122_35 (by decide) ?_
    refine x_goto (t := 50) f_122_36 (by decide) ?_
    refine x_retI f_122_50 rfl ?_
    exact mj_qF (fun q => c_1 q.1) ⟨rfl, rfl⟩
  · refine x_iload_n f_122_9 rfl ?_
    refine x_iconst (v := nI 0) f_122_10 (by decide) ?_
    refine x_bipush (v := nI 8) f_122_11 (by decide) ?_
    refine x_callSe f_122_13 (c_in _ _ _ _) (by omega) rfl rfl rfl (Nat.le_of_ble_eq_true rfl) rfl ?_
    refine x_ifB_eq (t := 23) f_122_16 (by decide) (fun c_2 => ?_) (fun c_2 => ?_)
    · refine x_iconst (v := nI 1) f_122_23 (by decide) ?_
      refine x_putI f_122_24 S.k33 (by decide) ?_
      refine x_aload_n f_122_27 rfl ?_
      refine x_getI f_122_28 S.k33 (by decide) ?_
      refine x_topi (w := nI 1) (mj_I_at _ _ _ _) ?_
      refine x_iconst (v := nI 1) f_122_31 (by decide) ?_
      refine x_icmpN_ne (t := 39) f_122_32 (by decide) (by decide) (by decide) (fun c_3 => by omega) (fun c_3 => ?_)
      refine x_iconst (v := nI 0) f_122_35 (by decide) ?_
      refine x_goto (t := 50) f_122_36 (by decide) ?_
      refine x_retI f_122_50 rfl ?_
      exact mj_qF (fun q => c_2 q.2) ⟨rfl, rfl⟩
    · obtain ⟨i, h_i, rfl⟩ := mIn_of c_1 (by omega)
      simp only [nI_clamp (show i < 2 ^ 31 by omega)]
      have c_2b : mIn w 9 := (mIn_iff (n := 9) (by decide)).mp c_2
      obtain ⟨k, h_k, rfl⟩ := mIn_of c_2b (by decide)
      simp only [nI_clamp (show k < 2 ^ 31 by omega)]
      refine x_iconst (v := nI 0) f_122_19 (by decide) ?_
      refine x_goto (t := 24) f_122_20 (by decide) ?_
      refine x_putI f_122_24 S.k33 (by decide) ?_
      refine x_aload_n f_122_27 rfl ?_
      refine x_getI f_122_28 S.k33 (by decide) ?_
      refine x_topi (w := nI 0) (mj_I_at _ _ _ _) ?_
      refine x_iconst (v := nI 1) f_122_31 (by decide) ?_
      refine x_icmpN_ne (t := 39) f_122_32 (by decide) (by decide) (by decide) (fun c_4 => ?_) (fun c_4 => by omega)
      refine x_aload_n f_122_39 rfl ?_
      refine x_getR f_122_40 S.k33 (by decide) S.r4 ?_
      refine x_bipush (v := nI 9) f_122_43 (by decide) ?_
      refine x_iload_n f_122_45 rfl ?_
      refine x_imulN f_122_46 ?_
      refine x_iload_n f_122_47 rfl ?_
      refine x_iaddN f_122_48 ?_
      refine x_iald (j := ((9 * i) + k)) f_122_49 S.k36 (by omega) (by decide) ?_
      refine x_topi (w := mj_I h 36 ((9 * i) + k)) (congrFun (mj_I_other (by decide)) _) ?_
      refine x_retI f_122_50 rfl ?_
      exact mj_qT ⟨c_1, c_2⟩ ⟨rfl, rfl⟩
set_option maxRecDepth 20000 in
theorem c_joint {h : mj_H} (S : SM h) (j s : Int32) {jm xm : Nat} (h_jm : jm ≤ 20) (e_jm : mj_I h 33 8 = nI jm) (h_xm : xm ≤ 60) (e_xm : mj_I h 33 40 = nI xm) : mxc 3 163 [.ref 33, .int j, .int s] h (fun r h' => if (mIn j jm ∧ mIn s 729) ∧ ¬ xm = 60 then r = some (.int (nI xm)) ∧ h' = mj_setI (mj_setI (mj_setI (mj_setI h 52 xm j) 53 xm s) 54 xm (mj_I h 33 0)) 33 40 (nI (xm + 1)) else r = some (.int (-1)) ∧ h' = h) := by
  show mx 3 163 0 [.ref 33, .int j, .int s] [] h _
  refine x_aload_n f_163_0 rfl ?_
  refine x_iload_n f_163_1 rfl ?_
  refine x_iload_n f_163_2 rfl ?_
  refine x_callVe f_163_3 (c_isAsked S _ _ (jm := jm) (by omega) e_jm) (by omega) S.k33 (by decide) rfl rfl (Nat.le_of_ble_eq_true rfl) rfl ?_
  refine x_ifB_eq (t := 18) f_163_6 (by decide) (fun c_1 => ?_) (fun c_1 => ?_)
  · refine x_iconst (v := -1) f_163_18 (by decide) ?_
    refine x_retI f_163_19 rfl ?_
    exact mj_qF (by first | exact fun q => c_1 (q.1) | exact fun q => (q.1) c_1) ⟨rfl, rfl⟩
  · refine x_aload_n f_163_9 rfl ?_
    refine x_getI f_163_10 S.k33 (by decide) ?_
    refine x_topi (w := nI xm) e_xm ?_
    refine x_bipush (v := nI 60) f_163_13 (by decide) ?_
    refine x_icmpN_ne (t := 20) f_163_15 (by decide) (by omega) (by decide) (fun c_2 => ?_) (fun c_2 => ?_)
    · refine x_aload_n f_163_20 rfl ?_
      refine x_getR f_163_21 S.k33 (by decide) S.r34 ?_
      refine x_aload_n f_163_24 rfl ?_
      refine x_getI f_163_25 S.k33 (by decide) ?_
      refine x_topi (w := nI xm) e_xm ?_
      refine x_iload_n f_163_28 rfl ?_
      refine x_iast (j := xm) f_163_29 S.k52 (by decide) (by omega) (by decide) ?_
      refine x_aload_n f_163_30 rfl ?_
      refine x_getR f_163_31 S.k33 (by decide) S.r35 ?_
      refine x_aload_n f_163_34 rfl ?_
      refine x_getI f_163_35 S.k33 (by decide) ?_
      refine x_topi (w := nI xm) ((congrFun (mj_I_other (by decide)) _).trans (e_xm)) ?_
      refine x_iload_n f_163_38 rfl ?_
      refine x_iast (j := xm) f_163_39 S.k53 (by decide) (by omega) (by decide) ?_
      refine x_aload_n f_163_40 rfl ?_
      refine x_getR f_163_41 S.k33 (by decide) S.r36 ?_
      refine x_aload_n f_163_44 rfl ?_
      refine x_getI f_163_45 S.k33 (by decide) ?_
      refine x_topi (w := nI xm) ((congrFun (mj_I_other (by decide)) _).trans ((congrFun (mj_I_other (by decide)) _).trans (e_xm))) ?_
      refine x_aload_n f_163_48 rfl ?_
      refine x_getI f_163_49 S.k33 (by decide) ?_
      refine x_topi (w := mj_I h 33 0) ((congrFun (mj_I_other (by decide)) _).trans (congrFun (mj_I_other (by decide)) _)) ?_
      refine x_iast (j := xm) f_163_52 S.k54 (by decide) (by omega) (by decide) ?_
      refine x_aload_n f_163_53 rfl ?_
      refine x_dup f_163_54 rfl ?_
      refine x_getI f_163_55 S.k33 (by decide) ?_
      refine x_topi (w := nI xm) ((congrFun (mj_I_other (by decide)) _).trans ((congrFun (mj_I_other (by decide)) _).trans ((congrFun (mj_I_other (by decide)) _).trans (e_xm)))) ?_
      refine x_iconst (v := nI 1) f_163_58 (by decide) ?_
      refine x_iaddN f_163_59 ?_
      refine x_putI f_163_60 S.k33 (by decide) ?_
      refine x_aload_n f_163_63 rfl ?_
      refine x_getI f_163_64 S.k33 (by decide) ?_
      refine x_topi (w := nI (xm + 1)) (mj_I_at _ _ _ _) ?_
      refine x_iconst (v := nI 1) f_163_67 (by decide) ?_
      refine x_isubN f_163_68 (by omega) ?_
      refine x_retI f_163_69 rfl ?_
      exact mj_qT ⟨c_1, c_2⟩ ⟨by rw [Nat.add_sub_cancel], rfl⟩
    · refine x_iconst (v := -1) f_163_18 (by decide) ?_
      refine x_retI f_163_19 rfl ?_
      exact mj_qF (by first | exact fun q => c_2 (q.2) | exact fun q => (q.2) c_2) ⟨rfl, rfl⟩
set_option maxRecDepth 20000 in
theorem c_attempt {h : mj_H} (S : SM h) (x g : Int32) (hg : g = 0 ∨ g = 1) {xm km : Nat} (h_xm : xm ≤ 60) (e_xm : mj_I h 33 40 = nI xm) (h_km : km ≤ 100) (e_km : mj_I h 33 41 = nI km) : mxc 1 164 [.ref 33, .int x, .int g] h (fun r h' => if mIn x xm ∧ ¬ km = 100 then r = some (.int (nI 1)) ∧ h' = mj_setI (mj_setI (mj_setI (mj_setI h 55 km x) 56 km g) 57 km (mj_I h 33 0)) 33 41 (nI (km + 1)) else r = some (.int (nI 0)) ∧ h' = h) := by
  show mx 1 164 0 [.ref 33, .int x, .int g] [] h _
  refine x_iload_n f_164_0 rfl ?_
  refine x_iconst (v := nI 0) f_164_1 (by decide) ?_
  refine x_aload_n f_164_2 rfl ?_
  refine x_getI f_164_3 S.k33 (by decide) ?_
  refine x_topi (w := nI xm) e_xm ?_
  refine x_iconst (v := nI 1) f_164_6 (by decide) ?_
  refine x_isub f_164_7 ?_
  refine x_callSe f_164_8 (c_inM _ _ (n := xm) (by omega)) (by omega) rfl rfl rfl (Nat.le_of_ble_eq_true rfl) rfl ?_
  refine x_ifB_eq (t := 23) f_164_11 (by decide) (fun c_1 => ?_) (fun c_1 => ?_)
  · refine x_iconst (v := nI 0) f_164_23 (by decide) ?_
    refine x_retZ f_164_24 rfl (by decide) ?_
    exact mj_qF (by first | exact fun q => c_1 (q.1) | exact fun q => (q.1) c_1) ⟨rfl, rfl⟩
  · refine x_aload_n f_164_14 rfl ?_
    refine x_getI f_164_15 S.k33 (by decide) ?_
    refine x_topi (w := nI km) e_km ?_
    refine x_bipush (v := nI 100) f_164_18 (by decide) ?_
    refine x_icmpN_ne (t := 25) f_164_20 (by decide) (by omega) (by decide) (fun c_2 => ?_) (fun c_2 => ?_)
    · refine x_aload_n f_164_25 rfl ?_
      refine x_getR f_164_26 S.k33 (by decide) S.r37 ?_
      refine x_aload_n f_164_29 rfl ?_
      refine x_getI f_164_30 S.k33 (by decide) ?_
      refine x_topi (w := nI km) e_km ?_
      refine x_iload_n f_164_33 rfl ?_
      refine x_iast (j := km) f_164_34 S.k55 (by decide) (by omega) (by decide) ?_
      refine x_aload_n f_164_35 rfl ?_
      refine x_getR f_164_36 S.k33 (by decide) S.r38 ?_
      refine x_aload_n f_164_39 rfl ?_
      refine x_getI f_164_40 S.k33 (by decide) ?_
      refine x_topi (w := nI km) ((congrFun (mj_I_other (by decide)) _).trans (e_km)) ?_
      refine x_iload_n f_164_43 rfl ?_
      refine x_zast (j := km) f_164_44 S.k56 hg (by omega) (by decide) ?_
      refine x_aload_n f_164_45 rfl ?_
      refine x_getR f_164_46 S.k33 (by decide) S.r39 ?_
      refine x_aload_n f_164_49 rfl ?_
      refine x_getI f_164_50 S.k33 (by decide) ?_
      refine x_topi (w := nI km) ((congrFun (mj_I_other (by decide)) _).trans ((congrFun (mj_I_other (by decide)) _).trans (e_km))) ?_
      refine x_aload_n f_164_53 rfl ?_
      refine x_getI f_164_54 S.k33 (by decide) ?_
      refine x_topi (w := mj_I h 33 0) ((congrFun (mj_I_other (by decide)) _).trans (congrFun (mj_I_other (by decide)) _)) ?_
      refine x_iast (j := km) f_164_57 S.k57 (by decide) (by omega) (by decide) ?_
      refine x_aload_n f_164_58 rfl ?_
      refine x_dup f_164_59 rfl ?_
      refine x_getI f_164_60 S.k33 (by decide) ?_
      refine x_topi (w := nI km) ((congrFun (mj_I_other (by decide)) _).trans ((congrFun (mj_I_other (by decide)) _).trans ((congrFun (mj_I_other (by decide)) _).trans (e_km)))) ?_
      refine x_iconst (v := nI 1) f_164_63 (by decide) ?_
      refine x_iaddN f_164_64 ?_
      refine x_putI f_164_65 S.k33 (by decide) ?_
      refine x_iconst (v := nI 1) f_164_68 (by decide) ?_
      refine x_retZ f_164_69 rfl (by decide) ?_
      exact mj_qT ⟨c_1, c_2⟩ ⟨rfl, rfl⟩
    · refine x_iconst (v := nI 0) f_164_23 (by decide) ?_
      refine x_retZ f_164_24 rfl (by decide) ?_
      exact mj_qF (by first | exact fun q => c_2 (q.2) | exact fun q => (q.2) c_2) ⟨rfl, rfl⟩
set_option maxRecDepth 20000 in
theorem c_work {h : mj_H} (S : SM h) (j s : Int32) {jm em : Nat} (h_jm : jm ≤ 20) (e_jm : mj_I h 33 8 = nI jm) (h_em : em ≤ 8) (e_em : mj_I h 33 46 = nI em) : mxc 3 169 [.ref 33, .int j, .int s] h (fun r h' => if (mIn j jm ∧ mIn s 729) ∧ ¬ em = 8 then r = some (.int (nI em)) ∧ h' = mj_setI (mj_setI (mj_setI h 58 em j) 59 em s) 33 46 (nI (em + 1)) else r = some (.int (-1)) ∧ h' = h) := by
  show mx 3 169 0 [.ref 33, .int j, .int s] [] h _
  refine x_aload_n f_169_0 rfl ?_
  refine x_iload_n f_169_1 rfl ?_
  refine x_iload_n f_169_2 rfl ?_
  refine x_callVe f_169_3 (c_isAsked S _ _ (jm := jm) (by omega) e_jm) (by omega) S.k33 (by decide) rfl rfl (Nat.le_of_ble_eq_true rfl) rfl ?_
  refine x_ifB_eq (t := 18) f_169_6 (by decide) (fun c_1 => ?_) (fun c_1 => ?_)
  · refine x_iconst (v := -1) f_169_18 (by decide) ?_
    refine x_retI f_169_19 rfl ?_
    exact mj_qF (by first | exact fun q => c_1 (q.1) | exact fun q => (q.1) c_1) ⟨rfl, rfl⟩
  · refine x_aload_n f_169_9 rfl ?_
    refine x_getI f_169_10 S.k33 (by decide) ?_
    refine x_topi (w := nI em) e_em ?_
    refine x_bipush (v := nI 8) f_169_13 (by decide) ?_
    refine x_icmpN_ne (t := 20) f_169_15 (by decide) (by omega) (by decide) (fun c_2 => ?_) (fun c_2 => ?_)
    · refine x_aload_n f_169_20 rfl ?_
      refine x_getR f_169_21 S.k33 (by decide) S.r42 ?_
      refine x_aload_n f_169_24 rfl ?_
      refine x_getI f_169_25 S.k33 (by decide) ?_
      refine x_topi (w := nI em) e_em ?_
      refine x_iload_n f_169_28 rfl ?_
      refine x_iast (j := em) f_169_29 S.k58 (by decide) (by omega) (by decide) ?_
      refine x_aload_n f_169_30 rfl ?_
      refine x_getR f_169_31 S.k33 (by decide) S.r43 ?_
      refine x_aload_n f_169_34 rfl ?_
      refine x_getI f_169_35 S.k33 (by decide) ?_
      refine x_topi (w := nI em) ((congrFun (mj_I_other (by decide)) _).trans (e_em)) ?_
      refine x_iload_n f_169_38 rfl ?_
      refine x_iast (j := em) f_169_39 S.k59 (by decide) (by omega) (by decide) ?_
      refine x_aload_n f_169_40 rfl ?_
      refine x_dup f_169_41 rfl ?_
      refine x_getI f_169_42 S.k33 (by decide) ?_
      refine x_topi (w := nI em) ((congrFun (mj_I_other (by decide)) _).trans ((congrFun (mj_I_other (by decide)) _).trans (e_em))) ?_
      refine x_iconst (v := nI 1) f_169_45 (by decide) ?_
      refine x_iaddN f_169_46 ?_
      refine x_putI f_169_47 S.k33 (by decide) ?_
      refine x_aload_n f_169_50 rfl ?_
      refine x_getI f_169_51 S.k33 (by decide) ?_
      refine x_topi (w := nI (em + 1)) (mj_I_at _ _ _ _) ?_
      refine x_iconst (v := nI 1) f_169_54 (by decide) ?_
      refine x_isubN f_169_55 (by omega) ?_
      refine x_retI f_169_56 rfl ?_
      exact mj_qT ⟨c_1, c_2⟩ ⟨by rw [Nat.add_sub_cancel], rfl⟩
    · refine x_iconst (v := -1) f_169_18 (by decide) ?_
      refine x_retI f_169_19 rfl ?_
      exact mj_qF (by first | exact fun q => c_2 (q.2) | exact fun q => (q.2) c_2) ⟨rfl, rfl⟩
end
section
theorem f_119_0 : mj_fetch 119 0 = some (.iload_n 1, 0, 0) := by decide +kernel
theorem f_119_1 : mj_fetch 119 1 = some (.iconst 1, 0, 0) := by decide +kernel
theorem f_119_2 : mj_fetch 119 2 = some (.bipush 100, 0, 0) := by decide +kernel
theorem f_119_4 : mj_fetch 119 4 = some (.invokestatic 100, 112, 0) := by decide +kernel
theorem f_119_7 : mj_fetch 119 7 = some (.ifCond .eq 94, 0, 0) := by decide +kernel
theorem f_119_10 : mj_fetch 119 10 = some (.iload_n 2, 0, 0) := by decide +kernel
theorem f_119_11 : mj_fetch 119 11 = some (.iconst 1, 0, 0) := by decide +kernel
theorem f_119_12 : mj_fetch 119 12 = some (.bipush 100, 0, 0) := by decide +kernel
theorem f_119_14 : mj_fetch 119 14 = some (.invokestatic 100, 112, 0) := by decide +kernel
theorem f_119_17 : mj_fetch 119 17 = some (.ifCond .eq 84, 0, 0) := by decide +kernel
theorem f_119_20 : mj_fetch 119 20 = some (.iload_n 3, 0, 0) := by decide +kernel
theorem f_119_21 : mj_fetch 119 21 = some (.iconst 0, 0, 0) := by decide +kernel
theorem f_119_22 : mj_fetch 119 22 = some (.sipush 300, 0, 0) := by decide +kernel
theorem f_119_25 : mj_fetch 119 25 = some (.invokestatic 100, 112, 0) := by decide +kernel
theorem f_119_28 : mj_fetch 119 28 = some (.ifCond .eq 73, 0, 0) := by decide +kernel
theorem f_119_31 : mj_fetch 119 31 = some (.iload 4, 0, 0) := by decide +kernel
theorem f_119_33 : mj_fetch 119 33 = some (.bipush 50, 0, 0) := by decide +kernel
theorem f_119_35 : mj_fetch 119 35 = some (.sipush 900, 0, 0) := by decide +kernel
theorem f_119_38 : mj_fetch 119 38 = some (.invokestatic 100, 112, 0) := by decide +kernel
theorem f_119_41 : mj_fetch 119 41 = some (.ifCond .eq 60, 0, 0) := by decide +kernel
theorem f_119_44 : mj_fetch 119 44 = some (.iload 5, 0, 0) := by decide +kernel
theorem f_119_46 : mj_fetch 119 46 = some (.iconst 1, 0, 0) := by decide +kernel
theorem f_119_47 : mj_fetch 119 47 = some (.bipush 100, 0, 0) := by decide +kernel
theorem f_119_49 : mj_fetch 119 49 = some (.invokestatic 100, 112, 0) := by decide +kernel
theorem f_119_52 : mj_fetch 119 52 = some (.ifCond .eq 49, 0, 0) := by decide +kernel
theorem f_119_55 : mj_fetch 119 55 = some (.iload 6, 0, 0) := by decide +kernel
theorem f_119_57 : mj_fetch 119 57 = some (.bipush 50, 0, 0) := by decide +kernel
theorem f_119_59 : mj_fetch 119 59 = some (.sipush 999, 0, 0) := by decide +kernel
theorem f_119_62 : mj_fetch 119 62 = some (.invokestatic 100, 112, 0) := by decide +kernel
theorem f_119_65 : mj_fetch 119 65 = some (.ifCond .eq 36, 0, 0) := by decide +kernel
theorem f_119_68 : mj_fetch 119 68 = some (.iload 7, 0, 0) := by decide +kernel
theorem f_119_70 : mj_fetch 119 70 = some (.iconst 0, 0, 0) := by decide +kernel
theorem f_119_71 : mj_fetch 119 71 = some (.sipush 500, 0, 0) := by decide +kernel
theorem f_119_74 : mj_fetch 119 74 = some (.invokestatic 100, 112, 0) := by decide +kernel
theorem f_119_77 : mj_fetch 119 77 = some (.ifCond .eq 24, 0, 0) := by decide +kernel
theorem f_119_80 : mj_fetch 119 80 = some (.iload 8, 0, 0) := by decide +kernel
theorem f_119_82 : mj_fetch 119 82 = some (.iconst 1, 0, 0) := by decide +kernel
theorem f_119_83 : mj_fetch 119 83 = some (.sipush 500, 0, 0) := by decide +kernel
theorem f_119_86 : mj_fetch 119 86 = some (.invokestatic 100, 112, 0) := by decide +kernel
theorem f_119_89 : mj_fetch 119 89 = some (.ifCond .eq 12, 0, 0) := by decide +kernel
theorem f_119_92 : mj_fetch 119 92 = some (.aload_n 0, 0, 0) := by decide +kernel
theorem f_119_93 : mj_fetch 119 93 = some (.getfield 107, 11, 7) := by decide +kernel
theorem f_119_96 : mj_fetch 119 96 = some (.bipush 6, 0, 0) := by decide +kernel
theorem f_119_98 : mj_fetch 119 98 = some (.if_icmp .ne 5, 0, 0) := by decide +kernel
theorem f_119_101 : mj_fetch 119 101 = some (.iconst (-1), 0, 0) := by decide +kernel
theorem f_119_102 : mj_fetch 119 102 = some (.ireturn, 0, 0) := by decide +kernel
theorem f_119_103 : mj_fetch 119 103 = some (.bipush 8, 0, 0) := by decide +kernel
theorem f_119_105 : mj_fetch 119 105 = some (.aload_n 0, 0, 0) := by decide +kernel
theorem f_119_106 : mj_fetch 119 106 = some (.getfield 107, 11, 7) := by decide +kernel
theorem f_119_109 : mj_fetch 119 109 = some (.imul, 0, 0) := by decide +kernel
theorem f_119_110 : mj_fetch 119 110 = some (.istore 9, 0, 0) := by decide +kernel
theorem f_119_112 : mj_fetch 119 112 = some (.aload_n 0, 0, 0) := by decide +kernel
theorem f_119_113 : mj_fetch 119 113 = some (.getfield 9, 11, 2) := by decide +kernel
theorem f_119_116 : mj_fetch 119 116 = some (.iload 9, 0, 0) := by decide +kernel
theorem f_119_118 : mj_fetch 119 118 = some (.iload_n 1, 0, 0) := by decide +kernel
theorem f_119_119 : mj_fetch 119 119 = some (.iastore, 0, 0) := by decide +kernel
theorem f_119_120 : mj_fetch 119 120 = some (.aload_n 0, 0, 0) := by decide +kernel
theorem f_119_121 : mj_fetch 119 121 = some (.getfield 9, 11, 2) := by decide +kernel
theorem f_119_124 : mj_fetch 119 124 = some (.iload 9, 0, 0) := by decide +kernel
theorem f_119_126 : mj_fetch 119 126 = some (.iconst 1, 0, 0) := by decide +kernel
theorem f_119_127 : mj_fetch 119 127 = some (.iadd, 0, 0) := by decide +kernel
theorem f_119_128 : mj_fetch 119 128 = some (.iload_n 2, 0, 0) := by decide +kernel
theorem f_119_129 : mj_fetch 119 129 = some (.iastore, 0, 0) := by decide +kernel
theorem f_119_130 : mj_fetch 119 130 = some (.aload_n 0, 0, 0) := by decide +kernel
theorem f_119_131 : mj_fetch 119 131 = some (.getfield 9, 11, 2) := by decide +kernel
theorem f_119_134 : mj_fetch 119 134 = some (.iload 9, 0, 0) := by decide +kernel
theorem f_119_136 : mj_fetch 119 136 = some (.iconst 2, 0, 0) := by decide +kernel
theorem f_119_137 : mj_fetch 119 137 = some (.iadd, 0, 0) := by decide +kernel
theorem f_119_138 : mj_fetch 119 138 = some (.iload_n 3, 0, 0) := by decide +kernel
theorem f_119_139 : mj_fetch 119 139 = some (.iastore, 0, 0) := by decide +kernel
theorem f_119_140 : mj_fetch 119 140 = some (.aload_n 0, 0, 0) := by decide +kernel
theorem f_119_141 : mj_fetch 119 141 = some (.getfield 9, 11, 2) := by decide +kernel
theorem f_119_144 : mj_fetch 119 144 = some (.iload 9, 0, 0) := by decide +kernel
theorem f_119_146 : mj_fetch 119 146 = some (.iconst 3, 0, 0) := by decide +kernel
theorem f_119_147 : mj_fetch 119 147 = some (.iadd, 0, 0) := by decide +kernel
theorem f_119_148 : mj_fetch 119 148 = some (.iload 4, 0, 0) := by decide +kernel
theorem f_119_150 : mj_fetch 119 150 = some (.iastore, 0, 0) := by decide +kernel
theorem f_119_151 : mj_fetch 119 151 = some (.aload_n 0, 0, 0) := by decide +kernel
theorem f_119_152 : mj_fetch 119 152 = some (.getfield 9, 11, 2) := by decide +kernel
theorem f_119_155 : mj_fetch 119 155 = some (.iload 9, 0, 0) := by decide +kernel
theorem f_119_157 : mj_fetch 119 157 = some (.iconst 4, 0, 0) := by decide +kernel
theorem f_119_158 : mj_fetch 119 158 = some (.iadd, 0, 0) := by decide +kernel
theorem f_119_159 : mj_fetch 119 159 = some (.iload 5, 0, 0) := by decide +kernel
theorem f_119_161 : mj_fetch 119 161 = some (.iastore, 0, 0) := by decide +kernel
theorem f_119_162 : mj_fetch 119 162 = some (.aload_n 0, 0, 0) := by decide +kernel
theorem f_119_163 : mj_fetch 119 163 = some (.getfield 9, 11, 2) := by decide +kernel
theorem f_119_166 : mj_fetch 119 166 = some (.iload 9, 0, 0) := by decide +kernel
theorem f_119_168 : mj_fetch 119 168 = some (.iconst 5, 0, 0) := by decide +kernel
theorem f_119_169 : mj_fetch 119 169 = some (.iadd, 0, 0) := by decide +kernel
theorem f_119_170 : mj_fetch 119 170 = some (.iload 6, 0, 0) := by decide +kernel
theorem f_119_172 : mj_fetch 119 172 = some (.iastore, 0, 0) := by decide +kernel
theorem f_119_173 : mj_fetch 119 173 = some (.aload_n 0, 0, 0) := by decide +kernel
theorem f_119_174 : mj_fetch 119 174 = some (.getfield 9, 11, 2) := by decide +kernel
theorem f_119_177 : mj_fetch 119 177 = some (.iload 9, 0, 0) := by decide +kernel
theorem f_119_179 : mj_fetch 119 179 = some (.bipush 6, 0, 0) := by decide +kernel
theorem f_119_181 : mj_fetch 119 181 = some (.iadd, 0, 0) := by decide +kernel
theorem f_119_182 : mj_fetch 119 182 = some (.iload 7, 0, 0) := by decide +kernel
theorem f_119_184 : mj_fetch 119 184 = some (.iastore, 0, 0) := by decide +kernel
theorem f_119_185 : mj_fetch 119 185 = some (.aload_n 0, 0, 0) := by decide +kernel
theorem f_119_186 : mj_fetch 119 186 = some (.getfield 9, 11, 2) := by decide +kernel
theorem f_119_189 : mj_fetch 119 189 = some (.iload 9, 0, 0) := by decide +kernel
theorem f_119_191 : mj_fetch 119 191 = some (.bipush 7, 0, 0) := by decide +kernel
theorem f_119_193 : mj_fetch 119 193 = some (.iadd, 0, 0) := by decide +kernel
theorem f_119_194 : mj_fetch 119 194 = some (.iload 8, 0, 0) := by decide +kernel
theorem f_119_196 : mj_fetch 119 196 = some (.iastore, 0, 0) := by decide +kernel
theorem f_119_197 : mj_fetch 119 197 = some (.aload_n 0, 0, 0) := by decide +kernel
theorem f_119_198 : mj_fetch 119 198 = some (.dup, 0, 0) := by decide +kernel
theorem f_119_199 : mj_fetch 119 199 = some (.getfield 107, 11, 7) := by decide +kernel
theorem f_119_202 : mj_fetch 119 202 = some (.iconst 1, 0, 0) := by decide +kernel
theorem f_119_203 : mj_fetch 119 203 = some (.iadd, 0, 0) := by decide +kernel
theorem f_119_204 : mj_fetch 119 204 = some (.putfield 107, 11, 7) := by decide +kernel
theorem f_119_207 : mj_fetch 119 207 = some (.aload_n 0, 0, 0) := by decide +kernel
theorem f_119_208 : mj_fetch 119 208 = some (.getfield 107, 11, 7) := by decide +kernel
theorem f_119_211 : mj_fetch 119 211 = some (.iconst 1, 0, 0) := by decide +kernel
theorem f_119_212 : mj_fetch 119 212 = some (.isub, 0, 0) := by decide +kernel
theorem f_119_213 : mj_fetch 119 213 = some (.ireturn, 0, 0) := by decide +kernel
theorem f_174_0 : mj_fetch 174 0 = some (.iload_n 1, 0, 0) := by decide +kernel
theorem f_174_1 : mj_fetch 174 1 = some (.tableswitch 78 0 6 #[43, 48, 53, 58, 63, 68, 73], 0, 0) := by decide +kernel
theorem f_174_44 : mj_fetch 174 44 = some (.aload_n 0, 0, 0) := by decide +kernel
theorem f_174_45 : mj_fetch 174 45 = some (.getfield 104, 11, 0) := by decide +kernel
theorem f_174_48 : mj_fetch 174 48 = some (.ireturn, 0, 0) := by decide +kernel
theorem f_174_49 : mj_fetch 174 49 = some (.aload_n 0, 0, 0) := by decide +kernel
theorem f_174_50 : mj_fetch 174 50 = some (.getfield 107, 11, 7) := by decide +kernel
theorem f_174_53 : mj_fetch 174 53 = some (.ireturn, 0, 0) := by decide +kernel
theorem f_174_54 : mj_fetch 174 54 = some (.aload_n 0, 0, 0) := by decide +kernel
theorem f_174_55 : mj_fetch 174 55 = some (.getfield 110, 11, 8) := by decide +kernel
theorem f_174_58 : mj_fetch 174 58 = some (.ireturn, 0, 0) := by decide +kernel
theorem f_174_59 : mj_fetch 174 59 = some (.aload_n 0, 0, 0) := by decide +kernel
theorem f_174_60 : mj_fetch 174 60 = some (.getfield 176, 11, 21) := by decide +kernel
theorem f_174_63 : mj_fetch 174 63 = some (.ireturn, 0, 0) := by decide +kernel
theorem f_174_64 : mj_fetch 174 64 = some (.aload_n 0, 0, 0) := by decide +kernel
theorem f_174_65 : mj_fetch 174 65 = some (.getfield 222, 11, 28) := by decide +kernel
theorem f_174_68 : mj_fetch 174 68 = some (.ireturn, 0, 0) := by decide +kernel
theorem f_174_69 : mj_fetch 174 69 = some (.aload_n 0, 0, 0) := by decide +kernel
theorem f_174_70 : mj_fetch 174 70 = some (.getfield 252, 11, 40) := by decide +kernel
theorem f_174_73 : mj_fetch 174 73 = some (.ireturn, 0, 0) := by decide +kernel
theorem f_174_74 : mj_fetch 174 74 = some (.aload_n 0, 0, 0) := by decide +kernel
theorem f_174_75 : mj_fetch 174 75 = some (.getfield 261, 11, 46) := by decide +kernel
theorem f_174_78 : mj_fetch 174 78 = some (.ireturn, 0, 0) := by decide +kernel
theorem f_174_79 : mj_fetch 174 79 = some (.iconst (-1), 0, 0) := by decide +kernel
theorem f_174_80 : mj_fetch 174 80 = some (.ireturn, 0, 0) := by decide +kernel
set_option maxRecDepth 20000 in
theorem c_stuff {h : mj_H} (S : SM h) (a1 a2 a3 a4 a5 a6 a7 a8 : Int32) {sm : Nat} (h_sm : sm ≤ 6) (e_sm : mj_I h 33 7 = nI sm) : mxc 1 119 [.ref 33, .int a1, .int a2, .int a3, .int a4, .int a5, .int a6, .int a7, .int a8] h (fun r h' => if (1 ≤ a1 ∧ a1 ≤ 100) ∧ (1 ≤ a2 ∧ a2 ≤ 100) ∧ (0 ≤ a3 ∧ a3 ≤ 300) ∧ (50 ≤ a4 ∧ a4 ≤ 900) ∧ (1 ≤ a5 ∧ a5 ≤ 100) ∧ (50 ≤ a6 ∧ a6 ≤ 999) ∧ (0 ≤ a7 ∧ a7 ≤ 500) ∧ (1 ≤ a8 ∧ a8 ≤ 500) ∧ ¬ sm = 6 then r = some (.int (nI sm)) ∧ h' = mj_setI (mj_setI (mj_setI (mj_setI (mj_setI (mj_setI (mj_setI (mj_setI (mj_setI h 34 (8 * sm) a1) 34 (8 * sm + 1) a2) 34 (8 * sm + 2) a3) 34 (8 * sm + 3) a4) 34 (8 * sm + 4) a5) 34 (8 * sm + 5) a6) 34 (8 * sm + 6) a7) 34 (8 * sm + 7) a8) 33 7 (nI (sm + 1)) else r = some (.int (-1)) ∧ h' = h) := by
  show mx 1 119 0 [.ref 33, .int a1, .int a2, .int a3, .int a4, .int a5, .int a6, .int a7, .int a8, mj_unset] [] h _
  refine x_iload_n f_119_0 rfl ?_
  refine x_iconst (v := nI 1) f_119_1 (by decide) ?_
  refine x_bipush (v := nI 100) f_119_2 (by decide) ?_
  refine x_callSe f_119_4 (c_in _ _ _ _) (by omega) rfl rfl rfl (Nat.le_of_ble_eq_true rfl) rfl ?_
  refine x_ifB_eq (t := 101) f_119_7 (by decide) (fun c_1 => ?_) (fun c_1 => ?_)
  · refine x_iconst (v := -1) f_119_101 (by decide) ?_
    refine x_retI f_119_102 rfl ?_
    exact mj_qF (by first | exact fun q => c_1 (q.1) | exact fun q => (q.1) c_1) ⟨rfl, rfl⟩
  · refine x_iload_n f_119_10 rfl ?_
    refine x_iconst (v := nI 1) f_119_11 (by decide) ?_
    refine x_bipush (v := nI 100) f_119_12 (by decide) ?_
    refine x_callSe f_119_14 (c_in _ _ _ _) (by omega) rfl rfl rfl (Nat.le_of_ble_eq_true rfl) rfl ?_
    refine x_ifB_eq (t := 101) f_119_17 (by decide) (fun c_2 => ?_) (fun c_2 => ?_)
    · refine x_iconst (v := -1) f_119_101 (by decide) ?_
      refine x_retI f_119_102 rfl ?_
      exact mj_qF (by first | exact fun q => c_2 (q.2.1) | exact fun q => (q.2.1) c_2) ⟨rfl, rfl⟩
    · refine x_iload_n f_119_20 rfl ?_
      refine x_iconst (v := nI 0) f_119_21 (by decide) ?_
      refine x_sipush (v := nI 300) f_119_22 (by decide) ?_
      refine x_callSe f_119_25 (c_in _ _ _ _) (by omega) rfl rfl rfl (Nat.le_of_ble_eq_true rfl) rfl ?_
      refine x_ifB_eq (t := 101) f_119_28 (by decide) (fun c_3 => ?_) (fun c_3 => ?_)
      · refine x_iconst (v := -1) f_119_101 (by decide) ?_
        refine x_retI f_119_102 rfl ?_
        exact mj_qF (by first | exact fun q => c_3 (q.2.2.1) | exact fun q => (q.2.2.1) c_3) ⟨rfl, rfl⟩
      · refine x_iload f_119_31 rfl ?_
        refine x_bipush (v := nI 50) f_119_33 (by decide) ?_
        refine x_sipush (v := nI 900) f_119_35 (by decide) ?_
        refine x_callSe f_119_38 (c_in _ _ _ _) (by omega) rfl rfl rfl (Nat.le_of_ble_eq_true rfl) rfl ?_
        refine x_ifB_eq (t := 101) f_119_41 (by decide) (fun c_4 => ?_) (fun c_4 => ?_)
        · refine x_iconst (v := -1) f_119_101 (by decide) ?_
          refine x_retI f_119_102 rfl ?_
          exact mj_qF (by first | exact fun q => c_4 (q.2.2.2.1) | exact fun q => (q.2.2.2.1) c_4) ⟨rfl, rfl⟩
        · refine x_iload f_119_44 rfl ?_
          refine x_iconst (v := nI 1) f_119_46 (by decide) ?_
          refine x_bipush (v := nI 100) f_119_47 (by decide) ?_
          refine x_callSe f_119_49 (c_in _ _ _ _) (by omega) rfl rfl rfl (Nat.le_of_ble_eq_true rfl) rfl ?_
          refine x_ifB_eq (t := 101) f_119_52 (by decide) (fun c_5 => ?_) (fun c_5 => ?_)
          · refine x_iconst (v := -1) f_119_101 (by decide) ?_
            refine x_retI f_119_102 rfl ?_
            exact mj_qF (by first | exact fun q => c_5 (q.2.2.2.2.1) | exact fun q => (q.2.2.2.2.1) c_5) ⟨rfl, rfl⟩
          · refine x_iload f_119_55 rfl ?_
            refine x_bipush (v := nI 50) f_119_57 (by decide) ?_
            refine x_sipush (v := nI 999) f_119_59 (by decide) ?_
            refine x_callSe f_119_62 (c_in _ _ _ _) (by omega) rfl rfl rfl (Nat.le_of_ble_eq_true rfl) rfl ?_
            refine x_ifB_eq (t := 101) f_119_65 (by decide) (fun c_6 => ?_) (fun c_6 => ?_)
            · refine x_iconst (v := -1) f_119_101 (by decide) ?_
              refine x_retI f_119_102 rfl ?_
              exact mj_qF (by first | exact fun q => c_6 (q.2.2.2.2.2.1) | exact fun q => (q.2.2.2.2.2.1) c_6) ⟨rfl, rfl⟩
            · refine x_iload f_119_68 rfl ?_
              refine x_iconst (v := nI 0) f_119_70 (by decide) ?_
              refine x_sipush (v := nI 500) f_119_71 (by decide) ?_
              refine x_callSe f_119_74 (c_in _ _ _ _) (by omega) rfl rfl rfl (Nat.le_of_ble_eq_true rfl) rfl ?_
              refine x_ifB_eq (t := 101) f_119_77 (by decide) (fun c_7 => ?_) (fun c_7 => ?_)
              · refine x_iconst (v := -1) f_119_101 (by decide) ?_
                refine x_retI f_119_102 rfl ?_
                exact mj_qF (by first | exact fun q => c_7 (q.2.2.2.2.2.2.1) | exact fun q => (q.2.2.2.2.2.2.1) c_7) ⟨rfl, rfl⟩
              · refine x_iload f_119_80 rfl ?_
                refine x_iconst (v := nI 1) f_119_82 (by decide) ?_
                refine x_sipush (v := nI 500) f_119_83 (by decide) ?_
                refine x_callSe f_119_86 (c_in _ _ _ _) (by omega) rfl rfl rfl (Nat.le_of_ble_eq_true rfl) rfl ?_
                refine x_ifB_eq (t := 101) f_119_89 (by decide) (fun c_8 => ?_) (fun c_8 => ?_)
                · refine x_iconst (v := -1) f_119_101 (by decide) ?_
                  refine x_retI f_119_102 rfl ?_
                  exact mj_qF (by first | exact fun q => c_8 (q.2.2.2.2.2.2.2.1) | exact fun q => (q.2.2.2.2.2.2.2.1) c_8) ⟨rfl, rfl⟩
                · refine x_aload_n f_119_92 rfl ?_
                  refine x_getI f_119_93 S.k33 (by decide) ?_
                  refine x_topi (w := nI sm) e_sm ?_
                  refine x_bipush (v := nI 6) f_119_96 (by decide) ?_
                  refine x_icmpN_ne (t := 103) f_119_98 (by decide) (by omega) (by decide) (fun c_9 => ?_) (fun c_9 => ?_)
                  · refine x_bipush (v := nI 8) f_119_103 (by decide) ?_
                    refine x_aload_n f_119_105 rfl ?_
                    refine x_getI f_119_106 S.k33 (by decide) ?_
                    refine x_topi (w := nI sm) e_sm ?_
                    refine x_imulN f_119_109 ?_
                    refine x_istore (ls1 := [.ref 33, .int a1, .int a2, .int a3, .int a4, .int a5, .int a6, .int a7, .int a8, .int (nI (8 * sm))]) f_119_110 (Nat.le_of_ble_eq_true rfl) rfl ?_
                    refine x_aload_n f_119_112 rfl ?_
                    refine x_getR f_119_113 S.k33 (by decide) S.r2 ?_
                    refine x_iload f_119_116 rfl ?_
                    refine x_iload_n f_119_118 rfl ?_
                    refine x_iast (j := (8 * sm)) f_119_119 S.k34 (by decide) (by omega) (by decide) ?_
                    refine x_aload_n f_119_120 rfl ?_
                    refine x_getR f_119_121 S.k33 (by decide) S.r2 ?_
                    refine x_iload f_119_124 rfl ?_
                    refine x_iconst (v := nI 1) f_119_126 (by decide) ?_
                    refine x_iaddN f_119_127 ?_
                    refine x_iload_n f_119_128 rfl ?_
                    refine x_iast (j := ((8 * sm) + 1)) f_119_129 S.k34 (by decide) (by omega) (by decide) ?_
                    refine x_aload_n f_119_130 rfl ?_
                    refine x_getR f_119_131 S.k33 (by decide) S.r2 ?_
                    refine x_iload f_119_134 rfl ?_
                    refine x_iconst (v := nI 2) f_119_136 (by decide) ?_
                    refine x_iaddN f_119_137 ?_
                    refine x_iload_n f_119_138 rfl ?_
                    refine x_iast (j := ((8 * sm) + 2)) f_119_139 S.k34 (by decide) (by omega) (by decide) ?_
                    refine x_aload_n f_119_140 rfl ?_
                    refine x_getR f_119_141 S.k33 (by decide) S.r2 ?_
                    refine x_iload f_119_144 rfl ?_
                    refine x_iconst (v := nI 3) f_119_146 (by decide) ?_
                    refine x_iaddN f_119_147 ?_
                    refine x_iload f_119_148 rfl ?_
                    refine x_iast (j := ((8 * sm) + 3)) f_119_150 S.k34 (by decide) (by omega) (by decide) ?_
                    refine x_aload_n f_119_151 rfl ?_
                    refine x_getR f_119_152 S.k33 (by decide) S.r2 ?_
                    refine x_iload f_119_155 rfl ?_
                    refine x_iconst (v := nI 4) f_119_157 (by decide) ?_
                    refine x_iaddN f_119_158 ?_
                    refine x_iload f_119_159 rfl ?_
                    refine x_iast (j := ((8 * sm) + 4)) f_119_161 S.k34 (by decide) (by omega) (by decide) ?_
                    refine x_aload_n f_119_162 rfl ?_
                    refine x_getR f_119_163 S.k33 (by decide) S.r2 ?_
                    refine x_iload f_119_166 rfl ?_
                    refine x_iconst (v := nI 5) f_119_168 (by decide) ?_
                    refine x_iaddN f_119_169 ?_
                    refine x_iload f_119_170 rfl ?_
                    refine x_iast (j := ((8 * sm) + 5)) f_119_172 S.k34 (by decide) (by omega) (by decide) ?_
                    refine x_aload_n f_119_173 rfl ?_
                    refine x_getR f_119_174 S.k33 (by decide) S.r2 ?_
                    refine x_iload f_119_177 rfl ?_
                    refine x_bipush (v := nI 6) f_119_179 (by decide) ?_
                    refine x_iaddN f_119_181 ?_
                    refine x_iload f_119_182 rfl ?_
                    refine x_iast (j := ((8 * sm) + 6)) f_119_184 S.k34 (by decide) (by omega) (by decide) ?_
                    refine x_aload_n f_119_185 rfl ?_
                    refine x_getR f_119_186 S.k33 (by decide) S.r2 ?_
                    refine x_iload f_119_189 rfl ?_
                    refine x_bipush (v := nI 7) f_119_191 (by decide) ?_
                    refine x_iaddN f_119_193 ?_
                    refine x_iload f_119_194 rfl ?_
                    refine x_iast (j := ((8 * sm) + 7)) f_119_196 S.k34 (by decide) (by omega) (by decide) ?_
                    refine x_aload_n f_119_197 rfl ?_
                    refine x_dup f_119_198 rfl ?_
                    refine x_getI f_119_199 S.k33 (by decide) ?_
                    refine x_topi (w := nI sm) ((congrFun (mj_I_other (by decide)) _).trans ((congrFun (mj_I_other (by decide)) _).trans ((congrFun (mj_I_other (by decide)) _).trans ((congrFun (mj_I_other (by decide)) _).trans ((congrFun (mj_I_other (by decide)) _).trans ((congrFun (mj_I_other (by decide)) _).trans ((congrFun (mj_I_other (by decide)) _).trans ((congrFun (mj_I_other (by decide)) _).trans (e_sm))))))))) ?_
                    refine x_iconst (v := nI 1) f_119_202 (by decide) ?_
                    refine x_iaddN f_119_203 ?_
                    refine x_putI f_119_204 S.k33 (by decide) ?_
                    refine x_aload_n f_119_207 rfl ?_
                    refine x_getI f_119_208 S.k33 (by decide) ?_
                    refine x_topi (w := nI (sm + 1)) (mj_I_at _ _ _ _) ?_
                    refine x_iconst (v := nI 1) f_119_211 (by decide) ?_
                    refine x_isubN f_119_212 (by omega) ?_
                    refine x_retI f_119_213 rfl ?_
                    exact mj_qT ⟨c_1, c_2, c_3, c_4, c_5, c_6, c_7, c_8, c_9⟩ ⟨by rw [Nat.add_sub_cancel], rfl⟩
                  · refine x_iconst (v := -1) f_119_101 (by decide) ?_
                    refine x_retI f_119_102 rfl ?_
                    exact mj_qF (by first | exact fun q => c_9 (q.2.2.2.2.2.2.2.2) | exact fun q => (q.2.2.2.2.2.2.2.2) c_9) ⟨rfl, rfl⟩
theorem c_count {h : mj_H} (S : SM h) (w : Int32) : mxc 0 174 [.ref 33, .int w] h (fun r h' => r = some (.int (if w = 0 then mj_I h 33 0 else if w = 1 then mj_I h 33 7 else if w = 2 then mj_I h 33 8 else if w = 3 then mj_I h 33 21 else if w = 4 then mj_I h 33 28 else if w = 5 then mj_I h 33 40 else if w = 6 then mj_I h 33 46 else -1)) ∧ h' = h) := by
  show mx 0 174 0 [.ref 33, .int w] [] h _
  refine x_iload_n f_174_0 rfl ?_
  by_cases hw : w.toInt < 0 ∨ 6 < w.toInt
  · refine x_tswD (t := 79) f_174_1 hw (by decide) ?_
    refine x_iconst (v := -1) f_174_79 (by decide) ?_
    refine x_retI f_174_80 rfl ?_
    refine ⟨?_, rfl⟩
    have k : ∀ v : Int32, 0 ≤ v.toInt ∧ v.toInt ≤ 6 → ¬ w = v := fun v hv q => by subst q; omega
    rw [if_neg (k 0 (by decide)), if_neg (k 1 (by decide)), if_neg (k 2 (by decide)), if_neg (k 3 (by decide)), if_neg (k 4 (by decide)), if_neg (k 5 (by decide)), if_neg (k 6 (by decide))]
  · have k : w = 0 ∨ w = 1 ∨ w = 2 ∨ w = 3 ∨ w = 4 ∨ w = 5 ∨ w = 6 := by
      simp only [← Int32.toInt_inj, show (0 : Int32).toInt = 0 from rfl, show (1 : Int32).toInt = 1 from rfl, show (2 : Int32).toInt = 2 from rfl, show (3 : Int32).toInt = 3 from rfl, show (4 : Int32).toInt = 4 from rfl, show (5 : Int32).toInt = 5 from rfl, show (6 : Int32).toInt = 6 from rfl]
      omega
    rcases k with rfl | rfl | rfl | rfl | rfl | rfl | rfl
    · refine x_tsw (t := 44) f_174_1 (by decide) (off := 43) (by decide) (by decide) ?_
      refine x_aload_n f_174_44 rfl ?_
      refine x_getI f_174_45 S.k33 (by decide) ?_
      refine x_retI f_174_48 rfl ?_
      exact ⟨rfl, rfl⟩
    · refine x_tsw (t := 49) f_174_1 (by decide) (off := 48) (by decide) (by decide) ?_
      refine x_aload_n f_174_49 rfl ?_
      refine x_getI f_174_50 S.k33 (by decide) ?_
      refine x_retI f_174_53 rfl ?_
      exact ⟨rfl, rfl⟩
    · refine x_tsw (t := 54) f_174_1 (by decide) (off := 53) (by decide) (by decide) ?_
      refine x_aload_n f_174_54 rfl ?_
      refine x_getI f_174_55 S.k33 (by decide) ?_
      refine x_retI f_174_58 rfl ?_
      exact ⟨rfl, rfl⟩
    · refine x_tsw (t := 59) f_174_1 (by decide) (off := 58) (by decide) (by decide) ?_
      refine x_aload_n f_174_59 rfl ?_
      refine x_getI f_174_60 S.k33 (by decide) ?_
      refine x_retI f_174_63 rfl ?_
      exact ⟨rfl, rfl⟩
    · refine x_tsw (t := 64) f_174_1 (by decide) (off := 63) (by decide) (by decide) ?_
      refine x_aload_n f_174_64 rfl ?_
      refine x_getI f_174_65 S.k33 (by decide) ?_
      refine x_retI f_174_68 rfl ?_
      exact ⟨rfl, rfl⟩
    · refine x_tsw (t := 69) f_174_1 (by decide) (off := 68) (by decide) (by decide) ?_
      refine x_aload_n f_174_69 rfl ?_
      refine x_getI f_174_70 S.k33 (by decide) ?_
      refine x_retI f_174_73 rfl ?_
      exact ⟨rfl, rfl⟩
    · refine x_tsw (t := 74) f_174_1 (by decide) (off := 73) (by decide) (by decide) ?_
      refine x_aload_n f_174_74 rfl ?_
      refine x_getI f_174_75 S.k33 (by decide) ?_
      refine x_retI f_174_78 rfl ?_
      exact ⟨rfl, rfl⟩
end
section
theorem f_127_32 : mj_fetch 127 32 = some (.iload 8, 0, 0) := by decide +kernel
theorem f_127_34 : mj_fetch 127 34 = some (.iload 6, 0, 0) := by decide +kernel
theorem f_127_36 : mj_fetch 127 36 = some (.if_icmp .ge 221, 0, 0) := by decide +kernel
theorem f_127_39 : mj_fetch 127 39 = some (.aload_n 0, 0, 0) := by decide +kernel
theorem f_127_40 : mj_fetch 127 40 = some (.getfield 26, 11, 9) := by decide +kernel
theorem f_127_43 : mj_fetch 127 43 = some (.iload 8, 0, 0) := by decide +kernel
theorem f_127_45 : mj_fetch 127 45 = some (.iaload, 0, 0) := by decide +kernel
theorem f_127_46 : mj_fetch 127 46 = some (.istore 9, 0, 0) := by decide +kernel
theorem f_127_48 : mj_fetch 127 48 = some (.iload 9, 0, 0) := by decide +kernel
theorem f_127_50 : mj_fetch 127 50 = some (.aload_n 0, 0, 0) := by decide +kernel
theorem f_127_51 : mj_fetch 127 51 = some (.getfield 17, 11, 4) := by decide +kernel
theorem f_127_54 : mj_fetch 127 54 = some (.iload 5, 0, 0) := by decide +kernel
theorem f_127_56 : mj_fetch 127 56 = some (.iconst 3, 0, 0) := by decide +kernel
theorem f_127_57 : mj_fetch 127 57 = some (.iadd, 0, 0) := by decide +kernel
theorem f_127_58 : mj_fetch 127 58 = some (.iaload, 0, 0) := by decide +kernel
theorem f_127_59 : mj_fetch 127 59 = some (.if_icmp .lt 7, 0, 0) := by decide +kernel
theorem f_127_62 : mj_fetch 127 62 = some (.iconst 1, 0, 0) := by decide +kernel
theorem f_127_63 : mj_fetch 127 63 = some (.goto 4, 0, 0) := by decide +kernel
theorem f_127_66 : mj_fetch 127 66 = some (.iconst 0, 0, 0) := by decide +kernel
theorem f_127_67 : mj_fetch 127 67 = some (.istore 10, 0, 0) := by decide +kernel
theorem f_127_69 : mj_fetch 127 69 = some (.iload 8, 0, 0) := by decide +kernel
theorem f_127_71 : mj_fetch 127 71 = some (.ifCond .le 23, 0, 0) := by decide +kernel
theorem f_127_74 : mj_fetch 127 74 = some (.aload_n 0, 0, 0) := by decide +kernel
theorem f_127_75 : mj_fetch 127 75 = some (.iload 9, 0, 0) := by decide +kernel
theorem f_127_77 : mj_fetch 127 77 = some (.aload_n 0, 0, 0) := by decide +kernel
theorem f_127_78 : mj_fetch 127 78 = some (.getfield 26, 11, 9) := by decide +kernel
theorem f_127_81 : mj_fetch 127 81 = some (.iload 8, 0, 0) := by decide +kernel
theorem f_127_83 : mj_fetch 127 83 = some (.iconst 1, 0, 0) := by decide +kernel
theorem f_127_84 : mj_fetch 127 84 = some (.isub, 0, 0) := by decide +kernel
theorem f_127_85 : mj_fetch 127 85 = some (.iaload, 0, 0) := by decide +kernel
theorem f_127_86 : mj_fetch 127 86 = some (.iload 7, 0, 0) := by decide +kernel
theorem f_127_88 : mj_fetch 127 88 = some (.invokevirtual 133, 126, 0) := by decide +kernel
theorem f_127_91 : mj_fetch 127 91 = some (.goto 4, 0, 0) := by decide +kernel
theorem f_127_94 : mj_fetch 127 94 = some (.iconst 0, 0, 0) := by decide +kernel
theorem f_127_95 : mj_fetch 127 95 = some (.istore 11, 0, 0) := by decide +kernel
theorem f_127_97 : mj_fetch 127 97 = some (.iload 11, 0, 0) := by decide +kernel
theorem f_127_99 : mj_fetch 127 99 = some (.iload 8, 0, 0) := by decide +kernel
theorem f_127_101 : mj_fetch 127 101 = some (.iload 6, 0, 0) := by decide +kernel
theorem f_127_103 : mj_fetch 127 103 = some (.iconst 1, 0, 0) := by decide +kernel
theorem f_127_104 : mj_fetch 127 104 = some (.isub, 0, 0) := by decide +kernel
theorem f_127_105 : mj_fetch 127 105 = some (.if_icmp .ge 23, 0, 0) := by decide +kernel
theorem f_127_108 : mj_fetch 127 108 = some (.aload_n 0, 0, 0) := by decide +kernel
theorem f_127_109 : mj_fetch 127 109 = some (.iload 9, 0, 0) := by decide +kernel
theorem f_127_111 : mj_fetch 127 111 = some (.aload_n 0, 0, 0) := by decide +kernel
theorem f_127_112 : mj_fetch 127 112 = some (.getfield 26, 11, 9) := by decide +kernel
theorem f_127_115 : mj_fetch 127 115 = some (.iload 8, 0, 0) := by decide +kernel
theorem f_127_117 : mj_fetch 127 117 = some (.iconst 1, 0, 0) := by decide +kernel
theorem f_127_118 : mj_fetch 127 118 = some (.iadd, 0, 0) := by decide +kernel
theorem f_127_119 : mj_fetch 127 119 = some (.iaload, 0, 0) := by decide +kernel
theorem f_127_120 : mj_fetch 127 120 = some (.iload 7, 0, 0) := by decide +kernel
theorem f_127_122 : mj_fetch 127 122 = some (.invokevirtual 133, 126, 0) := by decide +kernel
theorem f_127_125 : mj_fetch 127 125 = some (.goto 13, 0, 0) := by decide +kernel
theorem f_127_128 : mj_fetch 127 128 = some (.aload_n 0, 0, 0) := by decide +kernel
theorem f_127_129 : mj_fetch 127 129 = some (.iload 9, 0, 0) := by decide +kernel
theorem f_127_131 : mj_fetch 127 131 = some (.bipush 20, 0, 0) := by decide +kernel
theorem f_127_133 : mj_fetch 127 133 = some (.iload 7, 0, 0) := by decide +kernel
theorem f_127_135 : mj_fetch 127 135 = some (.invokevirtual 133, 126, 0) := by decide +kernel
theorem f_127_138 : mj_fetch 127 138 = some (.iadd, 0, 0) := by decide +kernel
theorem f_127_139 : mj_fetch 127 139 = some (.istore 11, 0, 0) := by decide +kernel
theorem f_127_141 : mj_fetch 127 141 = some (.iload_n 2, 0, 0) := by decide +kernel
theorem f_127_142 : mj_fetch 127 142 = some (.iload 8, 0, 0) := by decide +kernel
theorem f_127_144 : mj_fetch 127 144 = some (.iconst 1, 0, 0) := by decide +kernel
theorem f_127_145 : mj_fetch 127 145 = some (.iadd, 0, 0) := by decide +kernel
theorem f_127_146 : mj_fetch 127 146 = some (.imul, 0, 0) := by decide +kernel
theorem f_127_147 : mj_fetch 127 147 = some (.aload_n 0, 0, 0) := by decide +kernel
theorem f_127_148 : mj_fetch 127 148 = some (.getfield 17, 11, 4) := by decide +kernel
theorem f_127_151 : mj_fetch 127 151 = some (.iload 5, 0, 0) := by decide +kernel
theorem f_127_153 : mj_fetch 127 153 = some (.iaload, 0, 0) := by decide +kernel
theorem f_127_154 : mj_fetch 127 154 = some (.imul, 0, 0) := by decide +kernel
theorem f_127_155 : mj_fetch 127 155 = some (.aload_n 0, 0, 0) := by decide +kernel
theorem f_127_156 : mj_fetch 127 156 = some (.getfield 17, 11, 4) := by decide +kernel
theorem f_127_159 : mj_fetch 127 159 = some (.iload 5, 0, 0) := by decide +kernel
theorem f_127_161 : mj_fetch 127 161 = some (.iconst 1, 0, 0) := by decide +kernel
theorem f_127_162 : mj_fetch 127 162 = some (.iadd, 0, 0) := by decide +kernel
theorem f_127_163 : mj_fetch 127 163 = some (.iaload, 0, 0) := by decide +kernel
theorem f_127_164 : mj_fetch 127 164 = some (.idiv, 0, 0) := by decide +kernel
theorem f_127_165 : mj_fetch 127 165 = some (.istore 12, 0, 0) := by decide +kernel
theorem f_127_167 : mj_fetch 127 167 = some (.aload_n 0, 0, 0) := by decide +kernel
theorem f_127_168 : mj_fetch 127 168 = some (.getfield 29, 11, 10) := by decide +kernel
theorem f_127_171 : mj_fetch 127 171 = some (.iload 8, 0, 0) := by decide +kernel
theorem f_127_173 : mj_fetch 127 173 = some (.sipush 5000, 0, 0) := by decide +kernel
theorem f_127_176 : mj_fetch 127 176 = some (.iload 9, 0, 0) := by decide +kernel
theorem f_127_178 : mj_fetch 127 178 = some (.iload 11, 0, 0) := by decide +kernel
theorem f_127_180 : mj_fetch 127 180 = some (.isub, 0, 0) := by decide +kernel
theorem f_127_181 : mj_fetch 127 181 = some (.iload 10, 0, 0) := by decide +kernel
theorem f_127_183 : mj_fetch 127 183 = some (.ifCond .eq 10, 0, 0) := by decide +kernel
theorem f_127_186 : mj_fetch 127 186 = some (.iload 12, 0, 0) := by decide +kernel
theorem f_127_188 : mj_fetch 127 188 = some (.iconst 2, 0, 0) := by decide +kernel
theorem f_127_189 : mj_fetch 127 189 = some (.idiv, 0, 0) := by decide +kernel
theorem f_127_190 : mj_fetch 127 190 = some (.goto 5, 0, 0) := by decide +kernel
theorem f_127_193 : mj_fetch 127 193 = some (.iload 12, 0, 0) := by decide +kernel
theorem f_127_195 : mj_fetch 127 195 = some (.iadd, 0, 0) := by decide +kernel
theorem f_127_196 : mj_fetch 127 196 = some (.invokestatic 117, 0, 2) := by decide +kernel
theorem f_127_199 : mj_fetch 127 199 = some (.iastore, 0, 0) := by decide +kernel
theorem f_127_200 : mj_fetch 127 200 = some (.iload 10, 0, 0) := by decide +kernel
theorem f_127_202 : mj_fetch 127 202 = some (.ifCond .eq 49, 0, 0) := by decide +kernel
theorem f_127_205 : mj_fetch 127 205 = some (.aload_n 0, 0, 0) := by decide +kernel
theorem f_127_206 : mj_fetch 127 206 = some (.getfield 35, 11, 12) := by decide +kernel
theorem f_127_209 : mj_fetch 127 209 = some (.iload 8, 0, 0) := by decide +kernel
theorem f_127_211 : mj_fetch 127 211 = some (.ldc 136, 100000, 0) := by decide +kernel
theorem f_127_213 : mj_fetch 127 213 = some (.aload_n 0, 0, 0) := by decide +kernel
theorem f_127_214 : mj_fetch 127 214 = some (.getfield 35, 11, 12) := by decide +kernel
theorem f_127_217 : mj_fetch 127 217 = some (.iload 8, 0, 0) := by decide +kernel
theorem f_127_219 : mj_fetch 127 219 = some (.iaload, 0, 0) := by decide +kernel
theorem f_127_220 : mj_fetch 127 220 = some (.iload_n 3, 0, 0) := by decide +kernel
theorem f_127_221 : mj_fetch 127 221 = some (.iload 9, 0, 0) := by decide +kernel
theorem f_127_223 : mj_fetch 127 223 = some (.aload_n 0, 0, 0) := by decide +kernel
theorem f_127_224 : mj_fetch 127 224 = some (.getfield 17, 11, 4) := by decide +kernel
theorem f_127_227 : mj_fetch 127 227 = some (.iload 5, 0, 0) := by decide +kernel
theorem f_127_229 : mj_fetch 127 229 = some (.iconst 3, 0, 0) := by decide +kernel
theorem f_127_230 : mj_fetch 127 230 = some (.iadd, 0, 0) := by decide +kernel
theorem f_127_231 : mj_fetch 127 231 = some (.iaload, 0, 0) := by decide +kernel
theorem f_127_232 : mj_fetch 127 232 = some (.isub, 0, 0) := by decide +kernel
theorem f_127_233 : mj_fetch 127 233 = some (.iconst 1, 0, 0) := by decide +kernel
theorem f_127_234 : mj_fetch 127 234 = some (.iadd, 0, 0) := by decide +kernel
theorem f_127_235 : mj_fetch 127 235 = some (.imul, 0, 0) := by decide +kernel
theorem f_127_236 : mj_fetch 127 236 = some (.aload_n 0, 0, 0) := by decide +kernel
theorem f_127_237 : mj_fetch 127 237 = some (.getfield 17, 11, 4) := by decide +kernel
theorem f_127_240 : mj_fetch 127 240 = some (.iload 5, 0, 0) := by decide +kernel
theorem f_127_242 : mj_fetch 127 242 = some (.iconst 4, 0, 0) := by decide +kernel
theorem f_127_243 : mj_fetch 127 243 = some (.iadd, 0, 0) := by decide +kernel
theorem f_127_244 : mj_fetch 127 244 = some (.iaload, 0, 0) := by decide +kernel
theorem f_127_245 : mj_fetch 127 245 = some (.idiv, 0, 0) := by decide +kernel
theorem f_127_246 : mj_fetch 127 246 = some (.iadd, 0, 0) := by decide +kernel
theorem f_127_247 : mj_fetch 127 247 = some (.invokestatic 117, 0, 2) := by decide +kernel
theorem f_127_250 : mj_fetch 127 250 = some (.iastore, 0, 0) := by decide +kernel
theorem f_127_251 : mj_fetch 127 251 = some (.iinc 8 1, 0, 0) := by decide +kernel
theorem f_127_254 : mj_fetch 127 254 = some (.goto (-222), 0, 0) := by decide +kernel
/-- only the int rows of the list are written -/
def Rw (h h' : mj_H) (as : List Nat) : Prop := h'.1 = h.1 ∧ h'.2.1 = h.2.1 ∧ mj_K h' = mj_K h ∧ mj_J h' = mj_J h ∧ mj_R h' = mj_R h ∧ ∀ a, a ∉ as → mj_I h' a = mj_I h a
theorem Rw.rf (h : mj_H) (as : List Nat) : Rw h h as := ⟨rfl, rfl, rfl, rfl, rfl, fun _ _ => rfl⟩
theorem Rw.set {h g : mj_H} {as : List Nat} (r : Rw h g as) {a j : Nat} {x : Int32} (ha : a ∈ as) : Rw h (mj_setI g a j x) as :=
  ⟨r.1, r.2.1, r.2.2.1, r.2.2.2.1, r.2.2.2.2.1, fun b hb => by rw [mj_I_other (fun q => hb (by rw [q]; exact ha))]; exact r.2.2.2.2.2 b hb⟩
theorem Rw.i {h g : mj_H} {as : List Nat} (r : Rw h g as) {a : Nat} (ha : a ∉ as) : mj_I g a = mj_I h a := r.2.2.2.2.2 a ha
theorem Rw.trans {h g k : mj_H} {as : List Nat} (r : Rw h g as) (t : Rw g k as) : Rw h k as :=
  ⟨t.1.trans r.1, t.2.1.trans r.2.1, t.2.2.1.trans r.2.2.1, t.2.2.2.1.trans r.2.2.2.1, t.2.2.2.2.1.trans r.2.2.2.2.1, fun a ha => (t.i ha).trans (r.i ha)⟩
theorem Rw.mono {h g : mj_H} {as bs : List Nat} (r : Rw h g as) (hs : ∀ a, a ∈ as → a ∈ bs) : Rw h g bs :=
  ⟨r.1, r.2.1, r.2.2.1, r.2.2.2.1, r.2.2.2.2.1, fun a ha => r.i (fun q => ha (hs a q))⟩
theorem Rw.sm {h g : mj_H} {as : List Nat} (r : Rw h g as) (S : SM h) : SM g := S.to r.2.2.1 r.2.2.2.2.1
/-! ONE TICK of all rings, as the reference reckons it -/
def tk_led (x y z : Int32) : Int32 := (x - y) * z / 1000
def tk_go (M : Nat → Int32) (rg : Nat) (w : Nat → Int32) (r : Nat) : Int32 := (if r = 0 then nI 0 else tk_led (w r) (w (r - 1)) (M 2)) + (if rg - 1 ≤ r then tk_led (w r) (nI 20) (M 2) else tk_led (w r) (w (r + 1)) (M 2))
def tk_co (M : Nat → Int32) (work : Int32) (r : Nat) : Int32 := work * nI (r + 1) * M 0 / M 1
def tk_cap (e m : Int32) : Int32 := if e < m then e else m
def tk_nx (M : Nat → Int32) (rg : Nat) (w : Nat → Int32) (work : Int32) (r : Nat) : Int32 := tk_cap (w r - tk_go M rg w r + (if w r < M 3 then tk_co M work r else tk_co M work r / nI 2)) (nI 5000)
def tk_ot (M : Nat → Int32) (w o : Nat → Int32) (push : Int32) (r : Nat) : Int32 := if w r < M 3 then o r else tk_cap (o r + push * (w r - M 3 + nI 1) / M 4) (nI 100000)
def tk_max (x y : Int32) : Int32 := if x < y then y else x
abbrev tk_R : Type := (Nat → Int32) × (Nat → Int32) × (Nat → Int32) × (Nat → Int32)
def tk (M : Nat → Int32) (rg : Nat) (work push : Int32) (c : Nat) (T : tk_R) : tk_R :=
  (fun r => if r < rg then tk_nx M rg T.1 work r else T.1 r, fun r => if r < rg then tk_max (T.2.1 r) (tk_nx M rg T.1 work r) else T.2.1 r, fun r => if r < rg then tk_ot M T.1 T.2.2.1 push r else T.2.2.1 r,
   fun r => if r < rg then (if c = 0 then nI 0 else tk_max (T.2.2.2 r) (T.1 r - tk_nx M rg T.1 work r)) else T.2.2.2 r)
def mM (h : mj_H) (j : Nat) : Nat → Int32 := fun i => mj_I h 36 (9 * j + i)
def mT (h : mj_H) : tk_R := (mj_I h 39, mj_I h 41, mj_I h 42, mj_I h 43)

set_option maxRecDepth 20000 in
set_option maxHeartbeats 4000000 in
theorem tick_l1 {h : mj_H} {j rg : Nat} (hj : j < 20) (e_rg : mj_I h 36 (9 * j + 8) = nI rg) (hrg : 2 ≤ rg ∧ rg ≤ 6) (h1 : ¬ mj_I h 36 (9 * j + 1) = 0) (h4 : ¬ mj_I h 36 (9 * j + 4) = 0) (work push : Int32) (c : Nat) {Q : Option Value → mj_H → Prop}
    (K : ∀ (g : mj_H) (v9 v10 v11 v12 : Value), SM g → Rw h g [40, 42] → (∀ q, q < rg → mj_I g 40 q = tk_nx (mM h j) rg (mj_I h 39) work q) → (∀ q, mj_I g 42 q = if q < rg then tk_ot (mM h j) (mj_I h 39) (mj_I h 42) push q else mj_I h 42 q) → mx 1 127 257 [.ref 33, .int (nI j), .int work, .int push, .int (nI c), .int (nI (9 * j)), .int (nI rg), .int (mj_I h 36 (9 * j + 2)), .int (nI rg), v9, v10, v11, v12] [] g Q) :
    ∀ (n r : Nat) (g : mj_H) (v9 v10 v11 v12 : Value), r + n = rg → SM g → Rw h g [40, 42] → (∀ q, q < r → mj_I g 40 q = tk_nx (mM h j) rg (mj_I h 39) work q) → (∀ q, mj_I g 42 q = if q < r then tk_ot (mM h j) (mj_I h 39) (mj_I h 42) push q else mj_I h 42 q) →
      mx 1 127 32 [.ref 33, .int (nI j), .int work, .int push, .int (nI c), .int (nI (9 * j)), .int (nI rg), .int (mj_I h 36 (9 * j + 2)), .int (nI r), v9, v10, v11, v12] [] g Q := by
  intro n
  induction n with
  | zero =>
    intro r g v9 v10 v11 v12 hr S hR i40 i42
    have hrr : r = rg := by omega
    subst hrr
    refine x_iload f_127_32 rfl ?_
    refine x_iload f_127_34 rfl ?_
    refine x_icmpN_ge (t := 257) f_127_36 (by decide) (by omega) (by omega) (fun c_1 => ?_) (fun c_1 => by omega)
    exact K g v9 v10 v11 v12 S hR i40 i42
  | succ n ih =>
    intro r g v9 v10 v11 v12 hr S hR i40 i42
    have e36 : mj_I g 36 = mj_I h 36 := hR.i (by decide)
    have e39 : mj_I g 39 = mj_I h 39 := hR.i (by decide)
    have i42r : mj_I g 42 r = mj_I h 42 r := by rw [i42, if_neg (by omega)]
    refine x_iload f_127_32 rfl ?_
    refine x_iload f_127_34 rfl ?_
    refine x_icmpN_ge (t := 257) f_127_36 (by decide) (by omega) (by omega) (fun c_1 => by omega) (fun c_1 => ?_)
    refine x_aload_n f_127_39 rfl ?_
    refine x_getR f_127_40 S.k33 (by decide) S.r9 ?_
    refine x_iload f_127_43 rfl ?_
    refine x_iald (j := r) f_127_45 S.k39 (by omega) (by decide) ?_
    refine x_topi (w := mj_I h 39 r) (congrFun e39 _) ?_
    refine x_istore (ls1 := [.ref 33, .int (nI j), .int work, .int push, .int (nI c), .int (nI (9 * j)), .int (nI rg), .int (mj_I h 36 (9 * j + 2)), .int (nI r), .int (mj_I h 39 r), v10, v11, v12]) f_127_46 (Nat.le_of_ble_eq_true rfl) rfl ?_
    refine x_iload f_127_48 rfl ?_
    refine x_aload_n f_127_50 rfl ?_
    refine x_getR f_127_51 S.k33 (by decide) S.r4 ?_
    refine x_iload f_127_54 rfl ?_
    refine x_iconst (v := nI 3) f_127_56 (by decide) ?_
    refine x_iaddN f_127_57 ?_
    refine x_iald (j := ((9 * j) + 3)) f_127_58 S.k36 (by omega) (by decide) ?_
    refine x_topi (w := mj_I h 36 (9 * j + 3)) (congrFun e36 _) ?_
    refine x_icmp_lt (t := 66) f_127_59 (by decide) (fun c_s => ?_) (fun c_s => ?_)
    · refine x_iconst (v := nI 0) f_127_66 (by decide) ?_
      refine x_istore (ls1 := [.ref 33, .int (nI j), .int work, .int push, .int (nI c), .int (nI (9 * j)), .int (nI rg), .int (mj_I h 36 (9 * j + 2)), .int (nI r), .int (mj_I h 39 r), .int (nI 0), v11, v12]) f_127_67 (Nat.le_of_ble_eq_true rfl) rfl ?_
      refine x_iload f_127_69 rfl ?_
      refine x_ifN_le (t := 94) f_127_71 (by decide) (by omega) (fun c_0 => ?_) (fun c_0 => ?_)
      · refine x_iconst (v := nI 0) f_127_94 (by decide) ?_
        refine x_istore (ls1 := [.ref 33, .int (nI j), .int work, .int push, .int (nI c), .int (nI (9 * j)), .int (nI rg), .int (mj_I h 36 (9 * j + 2)), .int (nI r), .int (mj_I h 39 r), .int (nI 0), .int (nI 0), v12]) f_127_95 (Nat.le_of_ble_eq_true rfl) rfl ?_
        refine x_iload f_127_97 rfl ?_
        refine x_iload f_127_99 rfl ?_
        refine x_iload f_127_101 rfl ?_
        refine x_iconst (v := nI 1) f_127_103 (by decide) ?_
        refine x_isubN f_127_104 (by omega) ?_
        refine x_icmpN_ge (t := 128) f_127_105 (by decide) (by omega) (by omega) (fun c_e => ?_) (fun c_e => ?_)
        · refine x_aload_n f_127_128 rfl ?_
          refine x_iload f_127_129 rfl ?_
          refine x_bipush (v := nI 20) f_127_131 (by decide) ?_
          refine x_iload f_127_133 rfl ?_
          refine x_callVe f_127_135 (c_led3 _ _ _ 0) (by omega) S.k33 (by decide) rfl rfl (Nat.le_of_ble_eq_true rfl) rfl ?_
          refine x_iadd f_127_138 ?_
          refine x_istore (ls1 := [.ref 33, .int (nI j), .int work, .int push, .int (nI c), .int (nI (9 * j)), .int (nI rg), .int (mj_I h 36 (9 * j + 2)), .int (nI r), .int (mj_I h 39 r), .int (nI 0), .int ((nI 0) + (((mj_I h 39 r) - (nI 20)) * (mj_I h 36 (9 * j + 2)) / 1000)), v12]) f_127_139 (Nat.le_of_ble_eq_true rfl) rfl ?_
          refine x_iload_n f_127_141 rfl ?_
          refine x_iload f_127_142 rfl ?_
          refine x_iconst (v := nI 1) f_127_144 (by decide) ?_
          refine x_iaddN f_127_145 ?_
          refine x_imul f_127_146 ?_
          refine x_aload_n f_127_147 rfl ?_
          refine x_getR f_127_148 S.k33 (by decide) S.r4 ?_
          refine x_iload f_127_151 rfl ?_
          refine x_iald (j := (9 * j)) f_127_153 S.k36 (by omega) (by decide) ?_
          refine x_topi (w := mj_I h 36 (9 * j)) (congrFun e36 _) ?_
          refine x_imul f_127_154 ?_
          refine x_aload_n f_127_155 rfl ?_
          refine x_getR f_127_156 S.k33 (by decide) S.r4 ?_
          refine x_iload f_127_159 rfl ?_
          refine x_iconst (v := nI 1) f_127_161 (by decide) ?_
          refine x_iaddN f_127_162 ?_
          refine x_iald (j := ((9 * j) + 1)) f_127_163 S.k36 (by omega) (by decide) ?_
          refine x_topi (w := mj_I h 36 (9 * j + 1)) (congrFun e36 _) ?_
          refine x_idiv f_127_164 h1 ?_
          refine x_istore (ls1 := [.ref 33, .int (nI j), .int work, .int push, .int (nI c), .int (nI (9 * j)), .int (nI rg), .int (mj_I h 36 (9 * j + 2)), .int (nI r), .int (mj_I h 39 r), .int (nI 0), .int ((nI 0) + (((mj_I h 39 r) - (nI 20)) * (mj_I h 36 (9 * j + 2)) / 1000)), .int (((work * (nI (r + 1))) * (mj_I h 36 (9 * j))) / (mj_I h 36 (9 * j + 1)))]) f_127_165 (Nat.le_of_ble_eq_true rfl) rfl ?_
          refine x_aload_n f_127_167 rfl ?_
          refine x_getR f_127_168 S.k33 (by decide) S.r10 ?_
          refine x_iload f_127_171 rfl ?_
          refine x_sipush (v := nI 5000) f_127_173 (by decide) ?_
          refine x_iload f_127_176 rfl ?_
          refine x_iload f_127_178 rfl ?_
          refine x_isub f_127_180 ?_
          refine x_iload f_127_181 rfl ?_
          refine x_ifN_eq (t := 193) f_127_183 (by decide) (by decide) (fun c_2 => ?_) (fun c_2 => by omega)
          refine x_iload f_127_193 rfl ?_
          refine x_iadd f_127_195 ?_
          refine x_min f_127_196 (Nat.le_of_ble_eq_true rfl) ?_
          refine x_iast (j := r) f_127_199 S.k40 (by decide) (by omega) (by decide) ?_
          refine x_iload f_127_200 rfl ?_
          refine x_ifN_eq (t := 251) f_127_202 (by decide) (by decide) (fun c_3 => ?_) (fun c_3 => by omega)
          refine x_iinc (v := nI (r + 1)) (ls1 := [.ref 33, .int (nI j), .int work, .int push, .int (nI c), .int (nI (9 * j)), .int (nI rg), .int (mj_I h 36 (9 * j + 2)), .int (nI (r + 1)), .int (mj_I h 39 r), .int (nI 0), .int ((nI 0) + (((mj_I h 39 r) - (nI 20)) * (mj_I h 36 (9 * j + 2)) / 1000)), .int (((work * (nI (r + 1))) * (mj_I h 36 (9 * j))) / (mj_I h 36 (9 * j + 1)))]) f_127_251 rfl (by exact nI_add _ 1) rfl ?_
          refine x_goto (t := 32) f_127_254 (by decide) ?_
          have hnx : (if (((mj_I h 39 r) - ((nI 0) + (((mj_I h 39 r) - (nI 20)) * (mj_I h 36 (9 * j + 2)) / 1000))) + (((work * (nI (r + 1))) * (mj_I h 36 (9 * j))) / (mj_I h 36 (9 * j + 1)))) < (nI 5000) then (((mj_I h 39 r) - ((nI 0) + (((mj_I h 39 r) - (nI 20)) * (mj_I h 36 (9 * j + 2)) / 1000))) + (((work * (nI (r + 1))) * (mj_I h 36 (9 * j))) / (mj_I h 36 (9 * j + 1)))) else (nI 5000)) = tk_nx (mM h j) rg (mj_I h 39) work r := by
            unfold tk_nx tk_go
            rw [if_pos (show mj_I h 39 r < mM h j 3 from c_s), if_pos c_0, if_pos c_e]
            rfl
          have hot : mj_I h 42 r = tk_ot (mM h j) (mj_I h 39) (mj_I h 42) push r := by
            unfold tk_ot
            rw [if_pos (show mj_I h 39 r < mM h j 3 from c_s)]
          refine ih (r + 1) (mj_setI g 40 r (if (((mj_I h 39 r) - ((nI 0) + (((mj_I h 39 r) - (nI 20)) * (mj_I h 36 (9 * j + 2)) / 1000))) + (((work * (nI (r + 1))) * (mj_I h 36 (9 * j))) / (mj_I h 36 (9 * j + 1)))) < (nI 5000) then (((mj_I h 39 r) - ((nI 0) + (((mj_I h 39 r) - (nI 20)) * (mj_I h 36 (9 * j + 2)) / 1000))) + (((work * (nI (r + 1))) * (mj_I h 36 (9 * j))) / (mj_I h 36 (9 * j + 1)))) else (nI 5000))) _ _ _ _ (by omega) S (hR.set (by decide)) (fun q hq => ?_) (fun q => ?_)
          · by_cases hqr : q = r
            · subst hqr
              exact ((mj_I_at g 40 q _).trans hnx)
            · exact ((mj_I_ne (h := g) (a := 40) hqr).trans (i40 q (by omega)))
          · by_cases hqr : q = r
            · subst hqr
              exact ((congrFun (mj_I_other (a := 40) (b := 42) (by decide)) q).trans (i42r.trans hot)).trans (if_pos (Nat.lt_succ_self q)).symm
            · rw [mj_ifs hqr]
              exact (congrFun (mj_I_other (a := 40) (b := 42) (by decide)) q).trans (i42 q)
        · refine x_aload_n f_127_108 rfl ?_
          refine x_iload f_127_109 rfl ?_
          refine x_aload_n f_127_111 rfl ?_
          refine x_getR f_127_112 S.k33 (by decide) S.r9 ?_
          refine x_iload f_127_115 rfl ?_
          refine x_iconst (v := nI 1) f_127_117 (by decide) ?_
          refine x_iaddN f_127_118 ?_
          refine x_iald (j := (r + 1)) f_127_119 S.k39 (by omega) (by decide) ?_
          refine x_topi (w := mj_I h 39 (r + 1)) (congrFun e39 _) ?_
          refine x_iload f_127_120 rfl ?_
          refine x_callVe f_127_122 (c_led3 _ _ _ 0) (by omega) S.k33 (by decide) rfl rfl (Nat.le_of_ble_eq_true rfl) rfl ?_
          refine x_goto (t := 138) f_127_125 (by decide) ?_
          refine x_iadd f_127_138 ?_
          refine x_istore (ls1 := [.ref 33, .int (nI j), .int work, .int push, .int (nI c), .int (nI (9 * j)), .int (nI rg), .int (mj_I h 36 (9 * j + 2)), .int (nI r), .int (mj_I h 39 r), .int (nI 0), .int ((nI 0) + (((mj_I h 39 r) - (mj_I h 39 (r + 1))) * (mj_I h 36 (9 * j + 2)) / 1000)), v12]) f_127_139 (Nat.le_of_ble_eq_true rfl) rfl ?_
          refine x_iload_n f_127_141 rfl ?_
          refine x_iload f_127_142 rfl ?_
          refine x_iconst (v := nI 1) f_127_144 (by decide) ?_
          refine x_iaddN f_127_145 ?_
          refine x_imul f_127_146 ?_
          refine x_aload_n f_127_147 rfl ?_
          refine x_getR f_127_148 S.k33 (by decide) S.r4 ?_
          refine x_iload f_127_151 rfl ?_
          refine x_iald (j := (9 * j)) f_127_153 S.k36 (by omega) (by decide) ?_
          refine x_topi (w := mj_I h 36 (9 * j)) (congrFun e36 _) ?_
          refine x_imul f_127_154 ?_
          refine x_aload_n f_127_155 rfl ?_
          refine x_getR f_127_156 S.k33 (by decide) S.r4 ?_
          refine x_iload f_127_159 rfl ?_
          refine x_iconst (v := nI 1) f_127_161 (by decide) ?_
          refine x_iaddN f_127_162 ?_
          refine x_iald (j := ((9 * j) + 1)) f_127_163 S.k36 (by omega) (by decide) ?_
          refine x_topi (w := mj_I h 36 (9 * j + 1)) (congrFun e36 _) ?_
          refine x_idiv f_127_164 h1 ?_
          refine x_istore (ls1 := [.ref 33, .int (nI j), .int work, .int push, .int (nI c), .int (nI (9 * j)), .int (nI rg), .int (mj_I h 36 (9 * j + 2)), .int (nI r), .int (mj_I h 39 r), .int (nI 0), .int ((nI 0) + (((mj_I h 39 r) - (mj_I h 39 (r + 1))) * (mj_I h 36 (9 * j + 2)) / 1000)), .int (((work * (nI (r + 1))) * (mj_I h 36 (9 * j))) / (mj_I h 36 (9 * j + 1)))]) f_127_165 (Nat.le_of_ble_eq_true rfl) rfl ?_
          refine x_aload_n f_127_167 rfl ?_
          refine x_getR f_127_168 S.k33 (by decide) S.r10 ?_
          refine x_iload f_127_171 rfl ?_
          refine x_sipush (v := nI 5000) f_127_173 (by decide) ?_
          refine x_iload f_127_176 rfl ?_
          refine x_iload f_127_178 rfl ?_
          refine x_isub f_127_180 ?_
          refine x_iload f_127_181 rfl ?_
          refine x_ifN_eq (t := 193) f_127_183 (by decide) (by decide) (fun c_4 => ?_) (fun c_4 => by omega)
          refine x_iload f_127_193 rfl ?_
          refine x_iadd f_127_195 ?_
          refine x_min f_127_196 (Nat.le_of_ble_eq_true rfl) ?_
          refine x_iast (j := r) f_127_199 S.k40 (by decide) (by omega) (by decide) ?_
          refine x_iload f_127_200 rfl ?_
          refine x_ifN_eq (t := 251) f_127_202 (by decide) (by decide) (fun c_5 => ?_) (fun c_5 => by omega)
          refine x_iinc (v := nI (r + 1)) (ls1 := [.ref 33, .int (nI j), .int work, .int push, .int (nI c), .int (nI (9 * j)), .int (nI rg), .int (mj_I h 36 (9 * j + 2)), .int (nI (r + 1)), .int (mj_I h 39 r), .int (nI 0), .int ((nI 0) + (((mj_I h 39 r) - (mj_I h 39 (r + 1))) * (mj_I h 36 (9 * j + 2)) / 1000)), .int (((work * (nI (r + 1))) * (mj_I h 36 (9 * j))) / (mj_I h 36 (9 * j + 1)))]) f_127_251 rfl (by exact nI_add _ 1) rfl ?_
          refine x_goto (t := 32) f_127_254 (by decide) ?_
          have hnx : (if (((mj_I h 39 r) - ((nI 0) + (((mj_I h 39 r) - (mj_I h 39 (r + 1))) * (mj_I h 36 (9 * j + 2)) / 1000))) + (((work * (nI (r + 1))) * (mj_I h 36 (9 * j))) / (mj_I h 36 (9 * j + 1)))) < (nI 5000) then (((mj_I h 39 r) - ((nI 0) + (((mj_I h 39 r) - (mj_I h 39 (r + 1))) * (mj_I h 36 (9 * j + 2)) / 1000))) + (((work * (nI (r + 1))) * (mj_I h 36 (9 * j))) / (mj_I h 36 (9 * j + 1)))) else (nI 5000)) = tk_nx (mM h j) rg (mj_I h 39) work r := by
            unfold tk_nx tk_go
            rw [if_pos (show mj_I h 39 r < mM h j 3 from c_s), if_pos c_0, if_neg c_e]
            rfl
          have hot : mj_I h 42 r = tk_ot (mM h j) (mj_I h 39) (mj_I h 42) push r := by
            unfold tk_ot
            rw [if_pos (show mj_I h 39 r < mM h j 3 from c_s)]
          refine ih (r + 1) (mj_setI g 40 r (if (((mj_I h 39 r) - ((nI 0) + (((mj_I h 39 r) - (mj_I h 39 (r + 1))) * (mj_I h 36 (9 * j + 2)) / 1000))) + (((work * (nI (r + 1))) * (mj_I h 36 (9 * j))) / (mj_I h 36 (9 * j + 1)))) < (nI 5000) then (((mj_I h 39 r) - ((nI 0) + (((mj_I h 39 r) - (mj_I h 39 (r + 1))) * (mj_I h 36 (9 * j + 2)) / 1000))) + (((work * (nI (r + 1))) * (mj_I h 36 (9 * j))) / (mj_I h 36 (9 * j + 1)))) else (nI 5000))) _ _ _ _ (by omega) S (hR.set (by decide)) (fun q hq => ?_) (fun q => ?_)
          · by_cases hqr : q = r
            · subst hqr
              exact ((mj_I_at g 40 q _).trans hnx)
            · exact ((mj_I_ne (h := g) (a := 40) hqr).trans (i40 q (by omega)))
          · by_cases hqr : q = r
            · subst hqr
              exact ((congrFun (mj_I_other (a := 40) (b := 42) (by decide)) q).trans (i42r.trans hot)).trans (if_pos (Nat.lt_succ_self q)).symm
            · rw [mj_ifs hqr]
              exact (congrFun (mj_I_other (a := 40) (b := 42) (by decide)) q).trans (i42 q)
      · refine x_aload_n f_127_74 rfl ?_
        refine x_iload f_127_75 rfl ?_
        refine x_aload_n f_127_77 rfl ?_
        refine x_getR f_127_78 S.k33 (by decide) S.r9 ?_
        refine x_iload f_127_81 rfl ?_
        refine x_iconst (v := nI 1) f_127_83 (by decide) ?_
        refine x_isubN f_127_84 (by omega) ?_
        refine x_iald (j := (r - 1)) f_127_85 S.k39 (by omega) (by decide) ?_
        refine x_topi (w := mj_I h 39 (r - 1)) (congrFun e39 _) ?_
        refine x_iload f_127_86 rfl ?_
        refine x_callVe f_127_88 (c_led3 _ _ _ 0) (by omega) S.k33 (by decide) rfl rfl (Nat.le_of_ble_eq_true rfl) rfl ?_
        refine x_goto (t := 95) f_127_91 (by decide) ?_
        refine x_istore (ls1 := [.ref 33, .int (nI j), .int work, .int push, .int (nI c), .int (nI (9 * j)), .int (nI rg), .int (mj_I h 36 (9 * j + 2)), .int (nI r), .int (mj_I h 39 r), .int (nI 0), .int (((mj_I h 39 r) - (mj_I h 39 (r - 1))) * (mj_I h 36 (9 * j + 2)) / 1000), v12]) f_127_95 (Nat.le_of_ble_eq_true rfl) rfl ?_
        refine x_iload f_127_97 rfl ?_
        refine x_iload f_127_99 rfl ?_
        refine x_iload f_127_101 rfl ?_
        refine x_iconst (v := nI 1) f_127_103 (by decide) ?_
        refine x_isubN f_127_104 (by omega) ?_
        refine x_icmpN_ge (t := 128) f_127_105 (by decide) (by omega) (by omega) (fun c_e => ?_) (fun c_e => ?_)
        · refine x_aload_n f_127_128 rfl ?_
          refine x_iload f_127_129 rfl ?_
          refine x_bipush (v := nI 20) f_127_131 (by decide) ?_
          refine x_iload f_127_133 rfl ?_
          refine x_callVe f_127_135 (c_led3 _ _ _ 0) (by omega) S.k33 (by decide) rfl rfl (Nat.le_of_ble_eq_true rfl) rfl ?_
          refine x_iadd f_127_138 ?_
          refine x_istore (ls1 := [.ref 33, .int (nI j), .int work, .int push, .int (nI c), .int (nI (9 * j)), .int (nI rg), .int (mj_I h 36 (9 * j + 2)), .int (nI r), .int (mj_I h 39 r), .int (nI 0), .int ((((mj_I h 39 r) - (mj_I h 39 (r - 1))) * (mj_I h 36 (9 * j + 2)) / 1000) + (((mj_I h 39 r) - (nI 20)) * (mj_I h 36 (9 * j + 2)) / 1000)), v12]) f_127_139 (Nat.le_of_ble_eq_true rfl) rfl ?_
          refine x_iload_n f_127_141 rfl ?_
          refine x_iload f_127_142 rfl ?_
          refine x_iconst (v := nI 1) f_127_144 (by decide) ?_
          refine x_iaddN f_127_145 ?_
          refine x_imul f_127_146 ?_
          refine x_aload_n f_127_147 rfl ?_
          refine x_getR f_127_148 S.k33 (by decide) S.r4 ?_
          refine x_iload f_127_151 rfl ?_
          refine x_iald (j := (9 * j)) f_127_153 S.k36 (by omega) (by decide) ?_
          refine x_topi (w := mj_I h 36 (9 * j)) (congrFun e36 _) ?_
          refine x_imul f_127_154 ?_
          refine x_aload_n f_127_155 rfl ?_
          refine x_getR f_127_156 S.k33 (by decide) S.r4 ?_
          refine x_iload f_127_159 rfl ?_
          refine x_iconst (v := nI 1) f_127_161 (by decide) ?_
          refine x_iaddN f_127_162 ?_
          refine x_iald (j := ((9 * j) + 1)) f_127_163 S.k36 (by omega) (by decide) ?_
          refine x_topi (w := mj_I h 36 (9 * j + 1)) (congrFun e36 _) ?_
          refine x_idiv f_127_164 h1 ?_
          refine x_istore (ls1 := [.ref 33, .int (nI j), .int work, .int push, .int (nI c), .int (nI (9 * j)), .int (nI rg), .int (mj_I h 36 (9 * j + 2)), .int (nI r), .int (mj_I h 39 r), .int (nI 0), .int ((((mj_I h 39 r) - (mj_I h 39 (r - 1))) * (mj_I h 36 (9 * j + 2)) / 1000) + (((mj_I h 39 r) - (nI 20)) * (mj_I h 36 (9 * j + 2)) / 1000)), .int (((work * (nI (r + 1))) * (mj_I h 36 (9 * j))) / (mj_I h 36 (9 * j + 1)))]) f_127_165 (Nat.le_of_ble_eq_true rfl) rfl ?_
          refine x_aload_n f_127_167 rfl ?_
          refine x_getR f_127_168 S.k33 (by decide) S.r10 ?_
          refine x_iload f_127_171 rfl ?_
          refine x_sipush (v := nI 5000) f_127_173 (by decide) ?_
          refine x_iload f_127_176 rfl ?_
          refine x_iload f_127_178 rfl ?_
          refine x_isub f_127_180 ?_
          refine x_iload f_127_181 rfl ?_
          refine x_ifN_eq (t := 193) f_127_183 (by decide) (by decide) (fun c_6 => ?_) (fun c_6 => by omega)
          refine x_iload f_127_193 rfl ?_
          refine x_iadd f_127_195 ?_
          refine x_min f_127_196 (Nat.le_of_ble_eq_true rfl) ?_
          refine x_iast (j := r) f_127_199 S.k40 (by decide) (by omega) (by decide) ?_
          refine x_iload f_127_200 rfl ?_
          refine x_ifN_eq (t := 251) f_127_202 (by decide) (by decide) (fun c_7 => ?_) (fun c_7 => by omega)
          refine x_iinc (v := nI (r + 1)) (ls1 := [.ref 33, .int (nI j), .int work, .int push, .int (nI c), .int (nI (9 * j)), .int (nI rg), .int (mj_I h 36 (9 * j + 2)), .int (nI (r + 1)), .int (mj_I h 39 r), .int (nI 0), .int ((((mj_I h 39 r) - (mj_I h 39 (r - 1))) * (mj_I h 36 (9 * j + 2)) / 1000) + (((mj_I h 39 r) - (nI 20)) * (mj_I h 36 (9 * j + 2)) / 1000)), .int (((work * (nI (r + 1))) * (mj_I h 36 (9 * j))) / (mj_I h 36 (9 * j + 1)))]) f_127_251 rfl (by exact nI_add _ 1) rfl ?_
          refine x_goto (t := 32) f_127_254 (by decide) ?_
          have hnx : (if (((mj_I h 39 r) - ((((mj_I h 39 r) - (mj_I h 39 (r - 1))) * (mj_I h 36 (9 * j + 2)) / 1000) + (((mj_I h 39 r) - (nI 20)) * (mj_I h 36 (9 * j + 2)) / 1000))) + (((work * (nI (r + 1))) * (mj_I h 36 (9 * j))) / (mj_I h 36 (9 * j + 1)))) < (nI 5000) then (((mj_I h 39 r) - ((((mj_I h 39 r) - (mj_I h 39 (r - 1))) * (mj_I h 36 (9 * j + 2)) / 1000) + (((mj_I h 39 r) - (nI 20)) * (mj_I h 36 (9 * j + 2)) / 1000))) + (((work * (nI (r + 1))) * (mj_I h 36 (9 * j))) / (mj_I h 36 (9 * j + 1)))) else (nI 5000)) = tk_nx (mM h j) rg (mj_I h 39) work r := by
            unfold tk_nx tk_go
            rw [if_pos (show mj_I h 39 r < mM h j 3 from c_s), if_neg c_0, if_pos c_e]
            rfl
          have hot : mj_I h 42 r = tk_ot (mM h j) (mj_I h 39) (mj_I h 42) push r := by
            unfold tk_ot
            rw [if_pos (show mj_I h 39 r < mM h j 3 from c_s)]
          refine ih (r + 1) (mj_setI g 40 r (if (((mj_I h 39 r) - ((((mj_I h 39 r) - (mj_I h 39 (r - 1))) * (mj_I h 36 (9 * j + 2)) / 1000) + (((mj_I h 39 r) - (nI 20)) * (mj_I h 36 (9 * j + 2)) / 1000))) + (((work * (nI (r + 1))) * (mj_I h 36 (9 * j))) / (mj_I h 36 (9 * j + 1)))) < (nI 5000) then (((mj_I h 39 r) - ((((mj_I h 39 r) - (mj_I h 39 (r - 1))) * (mj_I h 36 (9 * j + 2)) / 1000) + (((mj_I h 39 r) - (nI 20)) * (mj_I h 36 (9 * j + 2)) / 1000))) + (((work * (nI (r + 1))) * (mj_I h 36 (9 * j))) / (mj_I h 36 (9 * j + 1)))) else (nI 5000))) _ _ _ _ (by omega) S (hR.set (by decide)) (fun q hq => ?_) (fun q => ?_)
          · by_cases hqr : q = r
            · subst hqr
              exact ((mj_I_at g 40 q _).trans hnx)
            · exact ((mj_I_ne (h := g) (a := 40) hqr).trans (i40 q (by omega)))
          · by_cases hqr : q = r
            · subst hqr
              exact ((congrFun (mj_I_other (a := 40) (b := 42) (by decide)) q).trans (i42r.trans hot)).trans (if_pos (Nat.lt_succ_self q)).symm
            · rw [mj_ifs hqr]
              exact (congrFun (mj_I_other (a := 40) (b := 42) (by decide)) q).trans (i42 q)
        · refine x_aload_n f_127_108 rfl ?_
          refine x_iload f_127_109 rfl ?_
          refine x_aload_n f_127_111 rfl ?_
          refine x_getR f_127_112 S.k33 (by decide) S.r9 ?_
          refine x_iload f_127_115 rfl ?_
          refine x_iconst (v := nI 1) f_127_117 (by decide) ?_
          refine x_iaddN f_127_118 ?_
          refine x_iald (j := (r + 1)) f_127_119 S.k39 (by omega) (by decide) ?_
          refine x_topi (w := mj_I h 39 (r + 1)) (congrFun e39 _) ?_
          refine x_iload f_127_120 rfl ?_
          refine x_callVe f_127_122 (c_led3 _ _ _ 0) (by omega) S.k33 (by decide) rfl rfl (Nat.le_of_ble_eq_true rfl) rfl ?_
          refine x_goto (t := 138) f_127_125 (by decide) ?_
          refine x_iadd f_127_138 ?_
          refine x_istore (ls1 := [.ref 33, .int (nI j), .int work, .int push, .int (nI c), .int (nI (9 * j)), .int (nI rg), .int (mj_I h 36 (9 * j + 2)), .int (nI r), .int (mj_I h 39 r), .int (nI 0), .int ((((mj_I h 39 r) - (mj_I h 39 (r - 1))) * (mj_I h 36 (9 * j + 2)) / 1000) + (((mj_I h 39 r) - (mj_I h 39 (r + 1))) * (mj_I h 36 (9 * j + 2)) / 1000)), v12]) f_127_139 (Nat.le_of_ble_eq_true rfl) rfl ?_
          refine x_iload_n f_127_141 rfl ?_
          refine x_iload f_127_142 rfl ?_
          refine x_iconst (v := nI 1) f_127_144 (by decide) ?_
          refine x_iaddN f_127_145 ?_
          refine x_imul f_127_146 ?_
          refine x_aload_n f_127_147 rfl ?_
          refine x_getR f_127_148 S.k33 (by decide) S.r4 ?_
          refine x_iload f_127_151 rfl ?_
          refine x_iald (j := (9 * j)) f_127_153 S.k36 (by omega) (by decide) ?_
          refine x_topi (w := mj_I h 36 (9 * j)) (congrFun e36 _) ?_
          refine x_imul f_127_154 ?_
          refine x_aload_n f_127_155 rfl ?_
          refine x_getR f_127_156 S.k33 (by decide) S.r4 ?_
          refine x_iload f_127_159 rfl ?_
          refine x_iconst (v := nI 1) f_127_161 (by decide) ?_
          refine x_iaddN f_127_162 ?_
          refine x_iald (j := ((9 * j) + 1)) f_127_163 S.k36 (by omega) (by decide) ?_
          refine x_topi (w := mj_I h 36 (9 * j + 1)) (congrFun e36 _) ?_
          refine x_idiv f_127_164 h1 ?_
          refine x_istore (ls1 := [.ref 33, .int (nI j), .int work, .int push, .int (nI c), .int (nI (9 * j)), .int (nI rg), .int (mj_I h 36 (9 * j + 2)), .int (nI r), .int (mj_I h 39 r), .int (nI 0), .int ((((mj_I h 39 r) - (mj_I h 39 (r - 1))) * (mj_I h 36 (9 * j + 2)) / 1000) + (((mj_I h 39 r) - (mj_I h 39 (r + 1))) * (mj_I h 36 (9 * j + 2)) / 1000)), .int (((work * (nI (r + 1))) * (mj_I h 36 (9 * j))) / (mj_I h 36 (9 * j + 1)))]) f_127_165 (Nat.le_of_ble_eq_true rfl) rfl ?_
          refine x_aload_n f_127_167 rfl ?_
          refine x_getR f_127_168 S.k33 (by decide) S.r10 ?_
          refine x_iload f_127_171 rfl ?_
          refine x_sipush (v := nI 5000) f_127_173 (by decide) ?_
          refine x_iload f_127_176 rfl ?_
          refine x_iload f_127_178 rfl ?_
          refine x_isub f_127_180 ?_
          refine x_iload f_127_181 rfl ?_
          refine x_ifN_eq (t := 193) f_127_183 (by decide) (by decide) (fun c_8 => ?_) (fun c_8 => by omega)
          refine x_iload f_127_193 rfl ?_
          refine x_iadd f_127_195 ?_
          refine x_min f_127_196 (Nat.le_of_ble_eq_true rfl) ?_
          refine x_iast (j := r) f_127_199 S.k40 (by decide) (by omega) (by decide) ?_
          refine x_iload f_127_200 rfl ?_
          refine x_ifN_eq (t := 251) f_127_202 (by decide) (by decide) (fun c_9 => ?_) (fun c_9 => by omega)
          refine x_iinc (v := nI (r + 1)) (ls1 := [.ref 33, .int (nI j), .int work, .int push, .int (nI c), .int (nI (9 * j)), .int (nI rg), .int (mj_I h 36 (9 * j + 2)), .int (nI (r + 1)), .int (mj_I h 39 r), .int (nI 0), .int ((((mj_I h 39 r) - (mj_I h 39 (r - 1))) * (mj_I h 36 (9 * j + 2)) / 1000) + (((mj_I h 39 r) - (mj_I h 39 (r + 1))) * (mj_I h 36 (9 * j + 2)) / 1000)), .int (((work * (nI (r + 1))) * (mj_I h 36 (9 * j))) / (mj_I h 36 (9 * j + 1)))]) f_127_251 rfl (by exact nI_add _ 1) rfl ?_
          refine x_goto (t := 32) f_127_254 (by decide) ?_
          have hnx : (if (((mj_I h 39 r) - ((((mj_I h 39 r) - (mj_I h 39 (r - 1))) * (mj_I h 36 (9 * j + 2)) / 1000) + (((mj_I h 39 r) - (mj_I h 39 (r + 1))) * (mj_I h 36 (9 * j + 2)) / 1000))) + (((work * (nI (r + 1))) * (mj_I h 36 (9 * j))) / (mj_I h 36 (9 * j + 1)))) < (nI 5000) then (((mj_I h 39 r) - ((((mj_I h 39 r) - (mj_I h 39 (r - 1))) * (mj_I h 36 (9 * j + 2)) / 1000) + (((mj_I h 39 r) - (mj_I h 39 (r + 1))) * (mj_I h 36 (9 * j + 2)) / 1000))) + (((work * (nI (r + 1))) * (mj_I h 36 (9 * j))) / (mj_I h 36 (9 * j + 1)))) else (nI 5000)) = tk_nx (mM h j) rg (mj_I h 39) work r := by
            unfold tk_nx tk_go
            rw [if_pos (show mj_I h 39 r < mM h j 3 from c_s), if_neg c_0, if_neg c_e]
            rfl
          have hot : mj_I h 42 r = tk_ot (mM h j) (mj_I h 39) (mj_I h 42) push r := by
            unfold tk_ot
            rw [if_pos (show mj_I h 39 r < mM h j 3 from c_s)]
          refine ih (r + 1) (mj_setI g 40 r (if (((mj_I h 39 r) - ((((mj_I h 39 r) - (mj_I h 39 (r - 1))) * (mj_I h 36 (9 * j + 2)) / 1000) + (((mj_I h 39 r) - (mj_I h 39 (r + 1))) * (mj_I h 36 (9 * j + 2)) / 1000))) + (((work * (nI (r + 1))) * (mj_I h 36 (9 * j))) / (mj_I h 36 (9 * j + 1)))) < (nI 5000) then (((mj_I h 39 r) - ((((mj_I h 39 r) - (mj_I h 39 (r - 1))) * (mj_I h 36 (9 * j + 2)) / 1000) + (((mj_I h 39 r) - (mj_I h 39 (r + 1))) * (mj_I h 36 (9 * j + 2)) / 1000))) + (((work * (nI (r + 1))) * (mj_I h 36 (9 * j))) / (mj_I h 36 (9 * j + 1)))) else (nI 5000))) _ _ _ _ (by omega) S (hR.set (by decide)) (fun q hq => ?_) (fun q => ?_)
          · by_cases hqr : q = r
            · subst hqr
              exact ((mj_I_at g 40 q _).trans hnx)
            · exact ((mj_I_ne (h := g) (a := 40) hqr).trans (i40 q (by omega)))
          · by_cases hqr : q = r
            · subst hqr
              exact ((congrFun (mj_I_other (a := 40) (b := 42) (by decide)) q).trans (i42r.trans hot)).trans (if_pos (Nat.lt_succ_self q)).symm
            · rw [mj_ifs hqr]
              exact (congrFun (mj_I_other (a := 40) (b := 42) (by decide)) q).trans (i42 q)
    · refine x_iconst (v := nI 1) f_127_62 (by decide) ?_
      refine x_goto (t := 67) f_127_63 (by decide) ?_
      refine x_istore (ls1 := [.ref 33, .int (nI j), .int work, .int push, .int (nI c), .int (nI (9 * j)), .int (nI rg), .int (mj_I h 36 (9 * j + 2)), .int (nI r), .int (mj_I h 39 r), .int (nI 1), v11, v12]) f_127_67 (Nat.le_of_ble_eq_true rfl) rfl ?_
      refine x_iload f_127_69 rfl ?_
      refine x_ifN_le (t := 94) f_127_71 (by decide) (by omega) (fun c_0 => ?_) (fun c_0 => ?_)
      · refine x_iconst (v := nI 0) f_127_94 (by decide) ?_
        refine x_istore (ls1 := [.ref 33, .int (nI j), .int work, .int push, .int (nI c), .int (nI (9 * j)), .int (nI rg), .int (mj_I h 36 (9 * j + 2)), .int (nI r), .int (mj_I h 39 r), .int (nI 1), .int (nI 0), v12]) f_127_95 (Nat.le_of_ble_eq_true rfl) rfl ?_
        refine x_iload f_127_97 rfl ?_
        refine x_iload f_127_99 rfl ?_
        refine x_iload f_127_101 rfl ?_
        refine x_iconst (v := nI 1) f_127_103 (by decide) ?_
        refine x_isubN f_127_104 (by omega) ?_
        refine x_icmpN_ge (t := 128) f_127_105 (by decide) (by omega) (by omega) (fun c_e => ?_) (fun c_e => ?_)
        · refine x_aload_n f_127_128 rfl ?_
          refine x_iload f_127_129 rfl ?_
          refine x_bipush (v := nI 20) f_127_131 (by decide) ?_
          refine x_iload f_127_133 rfl ?_
          refine x_callVe f_127_135 (c_led3 _ _ _ 0) (by omega) S.k33 (by decide) rfl rfl (Nat.le_of_ble_eq_true rfl) rfl ?_
          refine x_iadd f_127_138 ?_
          refine x_istore (ls1 := [.ref 33, .int (nI j), .int work, .int push, .int (nI c), .int (nI (9 * j)), .int (nI rg), .int (mj_I h 36 (9 * j + 2)), .int (nI r), .int (mj_I h 39 r), .int (nI 1), .int ((nI 0) + (((mj_I h 39 r) - (nI 20)) * (mj_I h 36 (9 * j + 2)) / 1000)), v12]) f_127_139 (Nat.le_of_ble_eq_true rfl) rfl ?_
          refine x_iload_n f_127_141 rfl ?_
          refine x_iload f_127_142 rfl ?_
          refine x_iconst (v := nI 1) f_127_144 (by decide) ?_
          refine x_iaddN f_127_145 ?_
          refine x_imul f_127_146 ?_
          refine x_aload_n f_127_147 rfl ?_
          refine x_getR f_127_148 S.k33 (by decide) S.r4 ?_
          refine x_iload f_127_151 rfl ?_
          refine x_iald (j := (9 * j)) f_127_153 S.k36 (by omega) (by decide) ?_
          refine x_topi (w := mj_I h 36 (9 * j)) (congrFun e36 _) ?_
          refine x_imul f_127_154 ?_
          refine x_aload_n f_127_155 rfl ?_
          refine x_getR f_127_156 S.k33 (by decide) S.r4 ?_
          refine x_iload f_127_159 rfl ?_
          refine x_iconst (v := nI 1) f_127_161 (by decide) ?_
          refine x_iaddN f_127_162 ?_
          refine x_iald (j := ((9 * j) + 1)) f_127_163 S.k36 (by omega) (by decide) ?_
          refine x_topi (w := mj_I h 36 (9 * j + 1)) (congrFun e36 _) ?_
          refine x_idiv f_127_164 h1 ?_
          refine x_istore (ls1 := [.ref 33, .int (nI j), .int work, .int push, .int (nI c), .int (nI (9 * j)), .int (nI rg), .int (mj_I h 36 (9 * j + 2)), .int (nI r), .int (mj_I h 39 r), .int (nI 1), .int ((nI 0) + (((mj_I h 39 r) - (nI 20)) * (mj_I h 36 (9 * j + 2)) / 1000)), .int (((work * (nI (r + 1))) * (mj_I h 36 (9 * j))) / (mj_I h 36 (9 * j + 1)))]) f_127_165 (Nat.le_of_ble_eq_true rfl) rfl ?_
          refine x_aload_n f_127_167 rfl ?_
          refine x_getR f_127_168 S.k33 (by decide) S.r10 ?_
          refine x_iload f_127_171 rfl ?_
          refine x_sipush (v := nI 5000) f_127_173 (by decide) ?_
          refine x_iload f_127_176 rfl ?_
          refine x_iload f_127_178 rfl ?_
          refine x_isub f_127_180 ?_
          refine x_iload f_127_181 rfl ?_
          refine x_ifN_eq (t := 193) f_127_183 (by decide) (by decide) (fun c_10 => by omega) (fun c_10 => ?_)
          refine x_iload f_127_186 rfl ?_
          refine x_iconst (v := nI 2) f_127_188 (by decide) ?_
          refine x_idiv f_127_189 (by decide) ?_
          refine x_goto (t := 195) f_127_190 (by decide) ?_
          refine x_iadd f_127_195 ?_
          refine x_min f_127_196 (Nat.le_of_ble_eq_true rfl) ?_
          refine x_iast (j := r) f_127_199 S.k40 (by decide) (by omega) (by decide) ?_
          refine x_iload f_127_200 rfl ?_
          refine x_ifN_eq (t := 251) f_127_202 (by decide) (by decide) (fun c_11 => by omega) (fun c_11 => ?_)
          refine x_aload_n f_127_205 rfl ?_
          refine x_getR f_127_206 S.k33 (by decide) S.r12 ?_
          refine x_iload f_127_209 rfl ?_
          refine x_ldc (v := nI 100000) f_127_211 (by decide) ?_
          refine x_aload_n f_127_213 rfl ?_
          refine x_getR f_127_214 S.k33 (by decide) S.r12 ?_
          refine x_iload f_127_217 rfl ?_
          refine x_iald (j := r) f_127_219 S.k42 (by omega) (by decide) ?_
          refine x_topi (w := mj_I h 42 r) ((congrFun (mj_I_other (by decide)) _).trans (i42r)) ?_
          refine x_iload_n f_127_220 rfl ?_
          refine x_iload f_127_221 rfl ?_
          refine x_aload_n f_127_223 rfl ?_
          refine x_getR f_127_224 S.k33 (by decide) S.r4 ?_
          refine x_iload f_127_227 rfl ?_
          refine x_iconst (v := nI 3) f_127_229 (by decide) ?_
          refine x_iaddN f_127_230 ?_
          refine x_iald (j := ((9 * j) + 3)) f_127_231 S.k36 (by omega) (by decide) ?_
          refine x_topi (w := mj_I h 36 (9 * j + 3)) ((congrFun (mj_I_other (by decide)) _).trans (congrFun e36 _)) ?_
          refine x_isub f_127_232 ?_
          refine x_iconst (v := nI 1) f_127_233 (by decide) ?_
          refine x_iadd f_127_234 ?_
          refine x_imul f_127_235 ?_
          refine x_aload_n f_127_236 rfl ?_
          refine x_getR f_127_237 S.k33 (by decide) S.r4 ?_
          refine x_iload f_127_240 rfl ?_
          refine x_iconst (v := nI 4) f_127_242 (by decide) ?_
          refine x_iaddN f_127_243 ?_
          refine x_iald (j := ((9 * j) + 4)) f_127_244 S.k36 (by omega) (by decide) ?_
          refine x_topi (w := mj_I h 36 (9 * j + 4)) ((congrFun (mj_I_other (by decide)) _).trans (congrFun e36 _)) ?_
          refine x_idiv f_127_245 h4 ?_
          refine x_iadd f_127_246 ?_
          refine x_min f_127_247 (Nat.le_of_ble_eq_true rfl) ?_
          refine x_iast (j := r) f_127_250 S.k42 (by decide) (by omega) (by decide) ?_
          refine x_iinc (v := nI (r + 1)) (ls1 := [.ref 33, .int (nI j), .int work, .int push, .int (nI c), .int (nI (9 * j)), .int (nI rg), .int (mj_I h 36 (9 * j + 2)), .int (nI (r + 1)), .int (mj_I h 39 r), .int (nI 1), .int ((nI 0) + (((mj_I h 39 r) - (nI 20)) * (mj_I h 36 (9 * j + 2)) / 1000)), .int (((work * (nI (r + 1))) * (mj_I h 36 (9 * j))) / (mj_I h 36 (9 * j + 1)))]) f_127_251 rfl (by exact nI_add _ 1) rfl ?_
          refine x_goto (t := 32) f_127_254 (by decide) ?_
          have hnx : (if (((mj_I h 39 r) - ((nI 0) + (((mj_I h 39 r) - (nI 20)) * (mj_I h 36 (9 * j + 2)) / 1000))) + ((((work * (nI (r + 1))) * (mj_I h 36 (9 * j))) / (mj_I h 36 (9 * j + 1))) / (nI 2))) < (nI 5000) then (((mj_I h 39 r) - ((nI 0) + (((mj_I h 39 r) - (nI 20)) * (mj_I h 36 (9 * j + 2)) / 1000))) + ((((work * (nI (r + 1))) * (mj_I h 36 (9 * j))) / (mj_I h 36 (9 * j + 1))) / (nI 2))) else (nI 5000)) = tk_nx (mM h j) rg (mj_I h 39) work r := by
            unfold tk_nx tk_go
            rw [if_neg (show ¬ mj_I h 39 r < mM h j 3 from c_s), if_pos c_0, if_pos c_e]
            rfl
          have hot : (if ((mj_I h 42 r) + ((push * (((mj_I h 39 r) - (mj_I h 36 (9 * j + 3))) + (nI 1))) / (mj_I h 36 (9 * j + 4)))) < (nI 100000) then ((mj_I h 42 r) + ((push * (((mj_I h 39 r) - (mj_I h 36 (9 * j + 3))) + (nI 1))) / (mj_I h 36 (9 * j + 4)))) else (nI 100000)) = tk_ot (mM h j) (mj_I h 39) (mj_I h 42) push r := by
            unfold tk_ot
            rw [if_neg (show ¬ mj_I h 39 r < mM h j 3 from c_s)]
            rfl
          refine ih (r + 1) (mj_setI (mj_setI g 40 r (if (((mj_I h 39 r) - ((nI 0) + (((mj_I h 39 r) - (nI 20)) * (mj_I h 36 (9 * j + 2)) / 1000))) + ((((work * (nI (r + 1))) * (mj_I h 36 (9 * j))) / (mj_I h 36 (9 * j + 1))) / (nI 2))) < (nI 5000) then (((mj_I h 39 r) - ((nI 0) + (((mj_I h 39 r) - (nI 20)) * (mj_I h 36 (9 * j + 2)) / 1000))) + ((((work * (nI (r + 1))) * (mj_I h 36 (9 * j))) / (mj_I h 36 (9 * j + 1))) / (nI 2))) else (nI 5000))) 42 r (if ((mj_I h 42 r) + ((push * (((mj_I h 39 r) - (mj_I h 36 (9 * j + 3))) + (nI 1))) / (mj_I h 36 (9 * j + 4)))) < (nI 100000) then ((mj_I h 42 r) + ((push * (((mj_I h 39 r) - (mj_I h 36 (9 * j + 3))) + (nI 1))) / (mj_I h 36 (9 * j + 4)))) else (nI 100000))) _ _ _ _ (by omega) S ((hR.set (by decide)).set (by decide)) (fun q hq => ?_) (fun q => ?_)
          · by_cases hqr : q = r
            · subst hqr
              exact (congrFun (mj_I_other (a := 42) (b := 40) (by decide)) q).trans ((mj_I_at g 40 q _).trans hnx)
            · exact (congrFun (mj_I_other (a := 42) (b := 40) (by decide)) q).trans ((mj_I_ne (h := g) (a := 40) hqr).trans (i40 q (by omega)))
          · by_cases hqr : q = r
            · subst hqr
              exact ((mj_I_at _ 42 q _).trans hot).trans (if_pos (Nat.lt_succ_self q)).symm
            · rw [mj_ifs hqr]
              exact (mj_I_ne hqr).trans ((congrFun (mj_I_other (a := 40) (b := 42) (by decide)) q).trans (i42 q))
        · refine x_aload_n f_127_108 rfl ?_
          refine x_iload f_127_109 rfl ?_
          refine x_aload_n f_127_111 rfl ?_
          refine x_getR f_127_112 S.k33 (by decide) S.r9 ?_
          refine x_iload f_127_115 rfl ?_
          refine x_iconst (v := nI 1) f_127_117 (by decide) ?_
          refine x_iaddN f_127_118 ?_
          refine x_iald (j := (r + 1)) f_127_119 S.k39 (by omega) (by decide) ?_
          refine x_topi (w := mj_I h 39 (r + 1)) (congrFun e39 _) ?_
          refine x_iload f_127_120 rfl ?_
          refine x_callVe f_127_122 (c_led3 _ _ _ 0) (by omega) S.k33 (by decide) rfl rfl (Nat.le_of_ble_eq_true rfl) rfl ?_
          refine x_goto (t := 138) f_127_125 (by decide) ?_
          refine x_iadd f_127_138 ?_
          refine x_istore (ls1 := [.ref 33, .int (nI j), .int work, .int push, .int (nI c), .int (nI (9 * j)), .int (nI rg), .int (mj_I h 36 (9 * j + 2)), .int (nI r), .int (mj_I h 39 r), .int (nI 1), .int ((nI 0) + (((mj_I h 39 r) - (mj_I h 39 (r + 1))) * (mj_I h 36 (9 * j + 2)) / 1000)), v12]) f_127_139 (Nat.le_of_ble_eq_true rfl) rfl ?_
          refine x_iload_n f_127_141 rfl ?_
          refine x_iload f_127_142 rfl ?_
          refine x_iconst (v := nI 1) f_127_144 (by decide) ?_
          refine x_iaddN f_127_145 ?_
          refine x_imul f_127_146 ?_
          refine x_aload_n f_127_147 rfl ?_
          refine x_getR f_127_148 S.k33 (by decide) S.r4 ?_
          refine x_iload f_127_151 rfl ?_
          refine x_iald (j := (9 * j)) f_127_153 S.k36 (by omega) (by decide) ?_
          refine x_topi (w := mj_I h 36 (9 * j)) (congrFun e36 _) ?_
          refine x_imul f_127_154 ?_
          refine x_aload_n f_127_155 rfl ?_
          refine x_getR f_127_156 S.k33 (by decide) S.r4 ?_
          refine x_iload f_127_159 rfl ?_
          refine x_iconst (v := nI 1) f_127_161 (by decide) ?_
          refine x_iaddN f_127_162 ?_
          refine x_iald (j := ((9 * j) + 1)) f_127_163 S.k36 (by omega) (by decide) ?_
          refine x_topi (w := mj_I h 36 (9 * j + 1)) (congrFun e36 _) ?_
          refine x_idiv f_127_164 h1 ?_
          refine x_istore (ls1 := [.ref 33, .int (nI j), .int work, .int push, .int (nI c), .int (nI (9 * j)), .int (nI rg), .int (mj_I h 36 (9 * j + 2)), .int (nI r), .int (mj_I h 39 r), .int (nI 1), .int ((nI 0) + (((mj_I h 39 r) - (mj_I h 39 (r + 1))) * (mj_I h 36 (9 * j + 2)) / 1000)), .int (((work * (nI (r + 1))) * (mj_I h 36 (9 * j))) / (mj_I h 36 (9 * j + 1)))]) f_127_165 (Nat.le_of_ble_eq_true rfl) rfl ?_
          refine x_aload_n f_127_167 rfl ?_
          refine x_getR f_127_168 S.k33 (by decide) S.r10 ?_
          refine x_iload f_127_171 rfl ?_
          refine x_sipush (v := nI 5000) f_127_173 (by decide) ?_
          refine x_iload f_127_176 rfl ?_
          refine x_iload f_127_178 rfl ?_
          refine x_isub f_127_180 ?_
          refine x_iload f_127_181 rfl ?_
          refine x_ifN_eq (t := 193) f_127_183 (by decide) (by decide) (fun c_12 => by omega) (fun c_12 => ?_)
          refine x_iload f_127_186 rfl ?_
          refine x_iconst (v := nI 2) f_127_188 (by decide) ?_
          refine x_idiv f_127_189 (by decide) ?_
          refine x_goto (t := 195) f_127_190 (by decide) ?_
          refine x_iadd f_127_195 ?_
          refine x_min f_127_196 (Nat.le_of_ble_eq_true rfl) ?_
          refine x_iast (j := r) f_127_199 S.k40 (by decide) (by omega) (by decide) ?_
          refine x_iload f_127_200 rfl ?_
          refine x_ifN_eq (t := 251) f_127_202 (by decide) (by decide) (fun c_13 => by omega) (fun c_13 => ?_)
          refine x_aload_n f_127_205 rfl ?_
          refine x_getR f_127_206 S.k33 (by decide) S.r12 ?_
          refine x_iload f_127_209 rfl ?_
          refine x_ldc (v := nI 100000) f_127_211 (by decide) ?_
          refine x_aload_n f_127_213 rfl ?_
          refine x_getR f_127_214 S.k33 (by decide) S.r12 ?_
          refine x_iload f_127_217 rfl ?_
          refine x_iald (j := r) f_127_219 S.k42 (by omega) (by decide) ?_
          refine x_topi (w := mj_I h 42 r) ((congrFun (mj_I_other (by decide)) _).trans (i42r)) ?_
          refine x_iload_n f_127_220 rfl ?_
          refine x_iload f_127_221 rfl ?_
          refine x_aload_n f_127_223 rfl ?_
          refine x_getR f_127_224 S.k33 (by decide) S.r4 ?_
          refine x_iload f_127_227 rfl ?_
          refine x_iconst (v := nI 3) f_127_229 (by decide) ?_
          refine x_iaddN f_127_230 ?_
          refine x_iald (j := ((9 * j) + 3)) f_127_231 S.k36 (by omega) (by decide) ?_
          refine x_topi (w := mj_I h 36 (9 * j + 3)) ((congrFun (mj_I_other (by decide)) _).trans (congrFun e36 _)) ?_
          refine x_isub f_127_232 ?_
          refine x_iconst (v := nI 1) f_127_233 (by decide) ?_
          refine x_iadd f_127_234 ?_
          refine x_imul f_127_235 ?_
          refine x_aload_n f_127_236 rfl ?_
          refine x_getR f_127_237 S.k33 (by decide) S.r4 ?_
          refine x_iload f_127_240 rfl ?_
          refine x_iconst (v := nI 4) f_127_242 (by decide) ?_
          refine x_iaddN f_127_243 ?_
          refine x_iald (j := ((9 * j) + 4)) f_127_244 S.k36 (by omega) (by decide) ?_
          refine x_topi (w := mj_I h 36 (9 * j + 4)) ((congrFun (mj_I_other (by decide)) _).trans (congrFun e36 _)) ?_
          refine x_idiv f_127_245 h4 ?_
          refine x_iadd f_127_246 ?_
          refine x_min f_127_247 (Nat.le_of_ble_eq_true rfl) ?_
          refine x_iast (j := r) f_127_250 S.k42 (by decide) (by omega) (by decide) ?_
          refine x_iinc (v := nI (r + 1)) (ls1 := [.ref 33, .int (nI j), .int work, .int push, .int (nI c), .int (nI (9 * j)), .int (nI rg), .int (mj_I h 36 (9 * j + 2)), .int (nI (r + 1)), .int (mj_I h 39 r), .int (nI 1), .int ((nI 0) + (((mj_I h 39 r) - (mj_I h 39 (r + 1))) * (mj_I h 36 (9 * j + 2)) / 1000)), .int (((work * (nI (r + 1))) * (mj_I h 36 (9 * j))) / (mj_I h 36 (9 * j + 1)))]) f_127_251 rfl (by exact nI_add _ 1) rfl ?_
          refine x_goto (t := 32) f_127_254 (by decide) ?_
          have hnx : (if (((mj_I h 39 r) - ((nI 0) + (((mj_I h 39 r) - (mj_I h 39 (r + 1))) * (mj_I h 36 (9 * j + 2)) / 1000))) + ((((work * (nI (r + 1))) * (mj_I h 36 (9 * j))) / (mj_I h 36 (9 * j + 1))) / (nI 2))) < (nI 5000) then (((mj_I h 39 r) - ((nI 0) + (((mj_I h 39 r) - (mj_I h 39 (r + 1))) * (mj_I h 36 (9 * j + 2)) / 1000))) + ((((work * (nI (r + 1))) * (mj_I h 36 (9 * j))) / (mj_I h 36 (9 * j + 1))) / (nI 2))) else (nI 5000)) = tk_nx (mM h j) rg (mj_I h 39) work r := by
            unfold tk_nx tk_go
            rw [if_neg (show ¬ mj_I h 39 r < mM h j 3 from c_s), if_pos c_0, if_neg c_e]
            rfl
          have hot : (if ((mj_I h 42 r) + ((push * (((mj_I h 39 r) - (mj_I h 36 (9 * j + 3))) + (nI 1))) / (mj_I h 36 (9 * j + 4)))) < (nI 100000) then ((mj_I h 42 r) + ((push * (((mj_I h 39 r) - (mj_I h 36 (9 * j + 3))) + (nI 1))) / (mj_I h 36 (9 * j + 4)))) else (nI 100000)) = tk_ot (mM h j) (mj_I h 39) (mj_I h 42) push r := by
            unfold tk_ot
            rw [if_neg (show ¬ mj_I h 39 r < mM h j 3 from c_s)]
            rfl
          refine ih (r + 1) (mj_setI (mj_setI g 40 r (if (((mj_I h 39 r) - ((nI 0) + (((mj_I h 39 r) - (mj_I h 39 (r + 1))) * (mj_I h 36 (9 * j + 2)) / 1000))) + ((((work * (nI (r + 1))) * (mj_I h 36 (9 * j))) / (mj_I h 36 (9 * j + 1))) / (nI 2))) < (nI 5000) then (((mj_I h 39 r) - ((nI 0) + (((mj_I h 39 r) - (mj_I h 39 (r + 1))) * (mj_I h 36 (9 * j + 2)) / 1000))) + ((((work * (nI (r + 1))) * (mj_I h 36 (9 * j))) / (mj_I h 36 (9 * j + 1))) / (nI 2))) else (nI 5000))) 42 r (if ((mj_I h 42 r) + ((push * (((mj_I h 39 r) - (mj_I h 36 (9 * j + 3))) + (nI 1))) / (mj_I h 36 (9 * j + 4)))) < (nI 100000) then ((mj_I h 42 r) + ((push * (((mj_I h 39 r) - (mj_I h 36 (9 * j + 3))) + (nI 1))) / (mj_I h 36 (9 * j + 4)))) else (nI 100000))) _ _ _ _ (by omega) S ((hR.set (by decide)).set (by decide)) (fun q hq => ?_) (fun q => ?_)
          · by_cases hqr : q = r
            · subst hqr
              exact (congrFun (mj_I_other (a := 42) (b := 40) (by decide)) q).trans ((mj_I_at g 40 q _).trans hnx)
            · exact (congrFun (mj_I_other (a := 42) (b := 40) (by decide)) q).trans ((mj_I_ne (h := g) (a := 40) hqr).trans (i40 q (by omega)))
          · by_cases hqr : q = r
            · subst hqr
              exact ((mj_I_at _ 42 q _).trans hot).trans (if_pos (Nat.lt_succ_self q)).symm
            · rw [mj_ifs hqr]
              exact (mj_I_ne hqr).trans ((congrFun (mj_I_other (a := 40) (b := 42) (by decide)) q).trans (i42 q))
      · refine x_aload_n f_127_74 rfl ?_
        refine x_iload f_127_75 rfl ?_
        refine x_aload_n f_127_77 rfl ?_
        refine x_getR f_127_78 S.k33 (by decide) S.r9 ?_
        refine x_iload f_127_81 rfl ?_
        refine x_iconst (v := nI 1) f_127_83 (by decide) ?_
        refine x_isubN f_127_84 (by omega) ?_
        refine x_iald (j := (r - 1)) f_127_85 S.k39 (by omega) (by decide) ?_
        refine x_topi (w := mj_I h 39 (r - 1)) (congrFun e39 _) ?_
        refine x_iload f_127_86 rfl ?_
        refine x_callVe f_127_88 (c_led3 _ _ _ 0) (by omega) S.k33 (by decide) rfl rfl (Nat.le_of_ble_eq_true rfl) rfl ?_
        refine x_goto (t := 95) f_127_91 (by decide) ?_
        refine x_istore (ls1 := [.ref 33, .int (nI j), .int work, .int push, .int (nI c), .int (nI (9 * j)), .int (nI rg), .int (mj_I h 36 (9 * j + 2)), .int (nI r), .int (mj_I h 39 r), .int (nI 1), .int (((mj_I h 39 r) - (mj_I h 39 (r - 1))) * (mj_I h 36 (9 * j + 2)) / 1000), v12]) f_127_95 (Nat.le_of_ble_eq_true rfl) rfl ?_
        refine x_iload f_127_97 rfl ?_
        refine x_iload f_127_99 rfl ?_
        refine x_iload f_127_101 rfl ?_
        refine x_iconst (v := nI 1) f_127_103 (by decide) ?_
        refine x_isubN f_127_104 (by omega) ?_
        refine x_icmpN_ge (t := 128) f_127_105 (by decide) (by omega) (by omega) (fun c_e => ?_) (fun c_e => ?_)
        · refine x_aload_n f_127_128 rfl ?_
          refine x_iload f_127_129 rfl ?_
          refine x_bipush (v := nI 20) f_127_131 (by decide) ?_
          refine x_iload f_127_133 rfl ?_
          refine x_callVe f_127_135 (c_led3 _ _ _ 0) (by omega) S.k33 (by decide) rfl rfl (Nat.le_of_ble_eq_true rfl) rfl ?_
          refine x_iadd f_127_138 ?_
          refine x_istore (ls1 := [.ref 33, .int (nI j), .int work, .int push, .int (nI c), .int (nI (9 * j)), .int (nI rg), .int (mj_I h 36 (9 * j + 2)), .int (nI r), .int (mj_I h 39 r), .int (nI 1), .int ((((mj_I h 39 r) - (mj_I h 39 (r - 1))) * (mj_I h 36 (9 * j + 2)) / 1000) + (((mj_I h 39 r) - (nI 20)) * (mj_I h 36 (9 * j + 2)) / 1000)), v12]) f_127_139 (Nat.le_of_ble_eq_true rfl) rfl ?_
          refine x_iload_n f_127_141 rfl ?_
          refine x_iload f_127_142 rfl ?_
          refine x_iconst (v := nI 1) f_127_144 (by decide) ?_
          refine x_iaddN f_127_145 ?_
          refine x_imul f_127_146 ?_
          refine x_aload_n f_127_147 rfl ?_
          refine x_getR f_127_148 S.k33 (by decide) S.r4 ?_
          refine x_iload f_127_151 rfl ?_
          refine x_iald (j := (9 * j)) f_127_153 S.k36 (by omega) (by decide) ?_
          refine x_topi (w := mj_I h 36 (9 * j)) (congrFun e36 _) ?_
          refine x_imul f_127_154 ?_
          refine x_aload_n f_127_155 rfl ?_
          refine x_getR f_127_156 S.k33 (by decide) S.r4 ?_
          refine x_iload f_127_159 rfl ?_
          refine x_iconst (v := nI 1) f_127_161 (by decide) ?_
          refine x_iaddN f_127_162 ?_
          refine x_iald (j := ((9 * j) + 1)) f_127_163 S.k36 (by omega) (by decide) ?_
          refine x_topi (w := mj_I h 36 (9 * j + 1)) (congrFun e36 _) ?_
          refine x_idiv f_127_164 h1 ?_
          refine x_istore (ls1 := [.ref 33, .int (nI j), .int work, .int push, .int (nI c), .int (nI (9 * j)), .int (nI rg), .int (mj_I h 36 (9 * j + 2)), .int (nI r), .int (mj_I h 39 r), .int (nI 1), .int ((((mj_I h 39 r) - (mj_I h 39 (r - 1))) * (mj_I h 36 (9 * j + 2)) / 1000) + (((mj_I h 39 r) - (nI 20)) * (mj_I h 36 (9 * j + 2)) / 1000)), .int (((work * (nI (r + 1))) * (mj_I h 36 (9 * j))) / (mj_I h 36 (9 * j + 1)))]) f_127_165 (Nat.le_of_ble_eq_true rfl) rfl ?_
          refine x_aload_n f_127_167 rfl ?_
          refine x_getR f_127_168 S.k33 (by decide) S.r10 ?_
          refine x_iload f_127_171 rfl ?_
          refine x_sipush (v := nI 5000) f_127_173 (by decide) ?_
          refine x_iload f_127_176 rfl ?_
          refine x_iload f_127_178 rfl ?_
          refine x_isub f_127_180 ?_
          refine x_iload f_127_181 rfl ?_
          refine x_ifN_eq (t := 193) f_127_183 (by decide) (by decide) (fun c_14 => by omega) (fun c_14 => ?_)
          refine x_iload f_127_186 rfl ?_
          refine x_iconst (v := nI 2) f_127_188 (by decide) ?_
          refine x_idiv f_127_189 (by decide) ?_
          refine x_goto (t := 195) f_127_190 (by decide) ?_
          refine x_iadd f_127_195 ?_
          refine x_min f_127_196 (Nat.le_of_ble_eq_true rfl) ?_
          refine x_iast (j := r) f_127_199 S.k40 (by decide) (by omega) (by decide) ?_
          refine x_iload f_127_200 rfl ?_
          refine x_ifN_eq (t := 251) f_127_202 (by decide) (by decide) (fun c_15 => by omega) (fun c_15 => ?_)
          refine x_aload_n f_127_205 rfl ?_
          refine x_getR f_127_206 S.k33 (by decide) S.r12 ?_
          refine x_iload f_127_209 rfl ?_
          refine x_ldc (v := nI 100000) f_127_211 (by decide) ?_
          refine x_aload_n f_127_213 rfl ?_
          refine x_getR f_127_214 S.k33 (by decide) S.r12 ?_
          refine x_iload f_127_217 rfl ?_
          refine x_iald (j := r) f_127_219 S.k42 (by omega) (by decide) ?_
          refine x_topi (w := mj_I h 42 r) ((congrFun (mj_I_other (by decide)) _).trans (i42r)) ?_
          refine x_iload_n f_127_220 rfl ?_
          refine x_iload f_127_221 rfl ?_
          refine x_aload_n f_127_223 rfl ?_
          refine x_getR f_127_224 S.k33 (by decide) S.r4 ?_
          refine x_iload f_127_227 rfl ?_
          refine x_iconst (v := nI 3) f_127_229 (by decide) ?_
          refine x_iaddN f_127_230 ?_
          refine x_iald (j := ((9 * j) + 3)) f_127_231 S.k36 (by omega) (by decide) ?_
          refine x_topi (w := mj_I h 36 (9 * j + 3)) ((congrFun (mj_I_other (by decide)) _).trans (congrFun e36 _)) ?_
          refine x_isub f_127_232 ?_
          refine x_iconst (v := nI 1) f_127_233 (by decide) ?_
          refine x_iadd f_127_234 ?_
          refine x_imul f_127_235 ?_
          refine x_aload_n f_127_236 rfl ?_
          refine x_getR f_127_237 S.k33 (by decide) S.r4 ?_
          refine x_iload f_127_240 rfl ?_
          refine x_iconst (v := nI 4) f_127_242 (by decide) ?_
          refine x_iaddN f_127_243 ?_
          refine x_iald (j := ((9 * j) + 4)) f_127_244 S.k36 (by omega) (by decide) ?_
          refine x_topi (w := mj_I h 36 (9 * j + 4)) ((congrFun (mj_I_other (by decide)) _).trans (congrFun e36 _)) ?_
          refine x_idiv f_127_245 h4 ?_
          refine x_iadd f_127_246 ?_
          refine x_min f_127_247 (Nat.le_of_ble_eq_true rfl) ?_
          refine x_iast (j := r) f_127_250 S.k42 (by decide) (by omega) (by decide) ?_
          refine x_iinc (v := nI (r + 1)) (ls1 := [.ref 33, .int (nI j), .int work, .int push, .int (nI c), .int (nI (9 * j)), .int (nI rg), .int (mj_I h 36 (9 * j + 2)), .int (nI (r + 1)), .int (mj_I h 39 r), .int (nI 1), .int ((((mj_I h 39 r) - (mj_I h 39 (r - 1))) * (mj_I h 36 (9 * j + 2)) / 1000) + (((mj_I h 39 r) - (nI 20)) * (mj_I h 36 (9 * j + 2)) / 1000)), .int (((work * (nI (r + 1))) * (mj_I h 36 (9 * j))) / (mj_I h 36 (9 * j + 1)))]) f_127_251 rfl (by exact nI_add _ 1) rfl ?_
          refine x_goto (t := 32) f_127_254 (by decide) ?_
          have hnx : (if (((mj_I h 39 r) - ((((mj_I h 39 r) - (mj_I h 39 (r - 1))) * (mj_I h 36 (9 * j + 2)) / 1000) + (((mj_I h 39 r) - (nI 20)) * (mj_I h 36 (9 * j + 2)) / 1000))) + ((((work * (nI (r + 1))) * (mj_I h 36 (9 * j))) / (mj_I h 36 (9 * j + 1))) / (nI 2))) < (nI 5000) then (((mj_I h 39 r) - ((((mj_I h 39 r) - (mj_I h 39 (r - 1))) * (mj_I h 36 (9 * j + 2)) / 1000) + (((mj_I h 39 r) - (nI 20)) * (mj_I h 36 (9 * j + 2)) / 1000))) + ((((work * (nI (r + 1))) * (mj_I h 36 (9 * j))) / (mj_I h 36 (9 * j + 1))) / (nI 2))) else (nI 5000)) = tk_nx (mM h j) rg (mj_I h 39) work r := by
            unfold tk_nx tk_go
            rw [if_neg (show ¬ mj_I h 39 r < mM h j 3 from c_s), if_neg c_0, if_pos c_e]
            rfl
          have hot : (if ((mj_I h 42 r) + ((push * (((mj_I h 39 r) - (mj_I h 36 (9 * j + 3))) + (nI 1))) / (mj_I h 36 (9 * j + 4)))) < (nI 100000) then ((mj_I h 42 r) + ((push * (((mj_I h 39 r) - (mj_I h 36 (9 * j + 3))) + (nI 1))) / (mj_I h 36 (9 * j + 4)))) else (nI 100000)) = tk_ot (mM h j) (mj_I h 39) (mj_I h 42) push r := by
            unfold tk_ot
            rw [if_neg (show ¬ mj_I h 39 r < mM h j 3 from c_s)]
            rfl
          refine ih (r + 1) (mj_setI (mj_setI g 40 r (if (((mj_I h 39 r) - ((((mj_I h 39 r) - (mj_I h 39 (r - 1))) * (mj_I h 36 (9 * j + 2)) / 1000) + (((mj_I h 39 r) - (nI 20)) * (mj_I h 36 (9 * j + 2)) / 1000))) + ((((work * (nI (r + 1))) * (mj_I h 36 (9 * j))) / (mj_I h 36 (9 * j + 1))) / (nI 2))) < (nI 5000) then (((mj_I h 39 r) - ((((mj_I h 39 r) - (mj_I h 39 (r - 1))) * (mj_I h 36 (9 * j + 2)) / 1000) + (((mj_I h 39 r) - (nI 20)) * (mj_I h 36 (9 * j + 2)) / 1000))) + ((((work * (nI (r + 1))) * (mj_I h 36 (9 * j))) / (mj_I h 36 (9 * j + 1))) / (nI 2))) else (nI 5000))) 42 r (if ((mj_I h 42 r) + ((push * (((mj_I h 39 r) - (mj_I h 36 (9 * j + 3))) + (nI 1))) / (mj_I h 36 (9 * j + 4)))) < (nI 100000) then ((mj_I h 42 r) + ((push * (((mj_I h 39 r) - (mj_I h 36 (9 * j + 3))) + (nI 1))) / (mj_I h 36 (9 * j + 4)))) else (nI 100000))) _ _ _ _ (by omega) S ((hR.set (by decide)).set (by decide)) (fun q hq => ?_) (fun q => ?_)
          · by_cases hqr : q = r
            · subst hqr
              exact (congrFun (mj_I_other (a := 42) (b := 40) (by decide)) q).trans ((mj_I_at g 40 q _).trans hnx)
            · exact (congrFun (mj_I_other (a := 42) (b := 40) (by decide)) q).trans ((mj_I_ne (h := g) (a := 40) hqr).trans (i40 q (by omega)))
          · by_cases hqr : q = r
            · subst hqr
              exact ((mj_I_at _ 42 q _).trans hot).trans (if_pos (Nat.lt_succ_self q)).symm
            · rw [mj_ifs hqr]
              exact (mj_I_ne hqr).trans ((congrFun (mj_I_other (a := 40) (b := 42) (by decide)) q).trans (i42 q))
        · refine x_aload_n f_127_108 rfl ?_
          refine x_iload f_127_109 rfl ?_
          refine x_aload_n f_127_111 rfl ?_
          refine x_getR f_127_112 S.k33 (by decide) S.r9 ?_
          refine x_iload f_127_115 rfl ?_
          refine x_iconst (v := nI 1) f_127_117 (by decide) ?_
          refine x_iaddN f_127_118 ?_
          refine x_iald (j := (r + 1)) f_127_119 S.k39 (by omega) (by decide) ?_
          refine x_topi (w := mj_I h 39 (r + 1)) (congrFun e39 _) ?_
          refine x_iload f_127_120 rfl ?_
          refine x_callVe f_127_122 (c_led3 _ _ _ 0) (by omega) S.k33 (by decide) rfl rfl (Nat.le_of_ble_eq_true rfl) rfl ?_
          refine x_goto (t := 138) f_127_125 (by decide) ?_
          refine x_iadd f_127_138 ?_
          refine x_istore (ls1 := [.ref 33, .int (nI j), .int work, .int push, .int (nI c), .int (nI (9 * j)), .int (nI rg), .int (mj_I h 36 (9 * j + 2)), .int (nI r), .int (mj_I h 39 r), .int (nI 1), .int ((((mj_I h 39 r) - (mj_I h 39 (r - 1))) * (mj_I h 36 (9 * j + 2)) / 1000) + (((mj_I h 39 r) - (mj_I h 39 (r + 1))) * (mj_I h 36 (9 * j + 2)) / 1000)), v12]) f_127_139 (Nat.le_of_ble_eq_true rfl) rfl ?_
          refine x_iload_n f_127_141 rfl ?_
          refine x_iload f_127_142 rfl ?_
          refine x_iconst (v := nI 1) f_127_144 (by decide) ?_
          refine x_iaddN f_127_145 ?_
          refine x_imul f_127_146 ?_
          refine x_aload_n f_127_147 rfl ?_
          refine x_getR f_127_148 S.k33 (by decide) S.r4 ?_
          refine x_iload f_127_151 rfl ?_
          refine x_iald (j := (9 * j)) f_127_153 S.k36 (by omega) (by decide) ?_
          refine x_topi (w := mj_I h 36 (9 * j)) (congrFun e36 _) ?_
          refine x_imul f_127_154 ?_
          refine x_aload_n f_127_155 rfl ?_
          refine x_getR f_127_156 S.k33 (by decide) S.r4 ?_
          refine x_iload f_127_159 rfl ?_
          refine x_iconst (v := nI 1) f_127_161 (by decide) ?_
          refine x_iaddN f_127_162 ?_
          refine x_iald (j := ((9 * j) + 1)) f_127_163 S.k36 (by omega) (by decide) ?_
          refine x_topi (w := mj_I h 36 (9 * j + 1)) (congrFun e36 _) ?_
          refine x_idiv f_127_164 h1 ?_
          refine x_istore (ls1 := [.ref 33, .int (nI j), .int work, .int push, .int (nI c), .int (nI (9 * j)), .int (nI rg), .int (mj_I h 36 (9 * j + 2)), .int (nI r), .int (mj_I h 39 r), .int (nI 1), .int ((((mj_I h 39 r) - (mj_I h 39 (r - 1))) * (mj_I h 36 (9 * j + 2)) / 1000) + (((mj_I h 39 r) - (mj_I h 39 (r + 1))) * (mj_I h 36 (9 * j + 2)) / 1000)), .int (((work * (nI (r + 1))) * (mj_I h 36 (9 * j))) / (mj_I h 36 (9 * j + 1)))]) f_127_165 (Nat.le_of_ble_eq_true rfl) rfl ?_
          refine x_aload_n f_127_167 rfl ?_
          refine x_getR f_127_168 S.k33 (by decide) S.r10 ?_
          refine x_iload f_127_171 rfl ?_
          refine x_sipush (v := nI 5000) f_127_173 (by decide) ?_
          refine x_iload f_127_176 rfl ?_
          refine x_iload f_127_178 rfl ?_
          refine x_isub f_127_180 ?_
          refine x_iload f_127_181 rfl ?_
          refine x_ifN_eq (t := 193) f_127_183 (by decide) (by decide) (fun c_16 => by omega) (fun c_16 => ?_)
          refine x_iload f_127_186 rfl ?_
          refine x_iconst (v := nI 2) f_127_188 (by decide) ?_
          refine x_idiv f_127_189 (by decide) ?_
          refine x_goto (t := 195) f_127_190 (by decide) ?_
          refine x_iadd f_127_195 ?_
          refine x_min f_127_196 (Nat.le_of_ble_eq_true rfl) ?_
          refine x_iast (j := r) f_127_199 S.k40 (by decide) (by omega) (by decide) ?_
          refine x_iload f_127_200 rfl ?_
          refine x_ifN_eq (t := 251) f_127_202 (by decide) (by decide) (fun c_17 => by omega) (fun c_17 => ?_)
          refine x_aload_n f_127_205 rfl ?_
          refine x_getR f_127_206 S.k33 (by decide) S.r12 ?_
          refine x_iload f_127_209 rfl ?_
          refine x_ldc (v := nI 100000) f_127_211 (by decide) ?_
          refine x_aload_n f_127_213 rfl ?_
          refine x_getR f_127_214 S.k33 (by decide) S.r12 ?_
          refine x_iload f_127_217 rfl ?_
          refine x_iald (j := r) f_127_219 S.k42 (by omega) (by decide) ?_
          refine x_topi (w := mj_I h 42 r) ((congrFun (mj_I_other (by decide)) _).trans (i42r)) ?_
          refine x_iload_n f_127_220 rfl ?_
          refine x_iload f_127_221 rfl ?_
          refine x_aload_n f_127_223 rfl ?_
          refine x_getR f_127_224 S.k33 (by decide) S.r4 ?_
          refine x_iload f_127_227 rfl ?_
          refine x_iconst (v := nI 3) f_127_229 (by decide) ?_
          refine x_iaddN f_127_230 ?_
          refine x_iald (j := ((9 * j) + 3)) f_127_231 S.k36 (by omega) (by decide) ?_
          refine x_topi (w := mj_I h 36 (9 * j + 3)) ((congrFun (mj_I_other (by decide)) _).trans (congrFun e36 _)) ?_
          refine x_isub f_127_232 ?_
          refine x_iconst (v := nI 1) f_127_233 (by decide) ?_
          refine x_iadd f_127_234 ?_
          refine x_imul f_127_235 ?_
          refine x_aload_n f_127_236 rfl ?_
          refine x_getR f_127_237 S.k33 (by decide) S.r4 ?_
          refine x_iload f_127_240 rfl ?_
          refine x_iconst (v := nI 4) f_127_242 (by decide) ?_
          refine x_iaddN f_127_243 ?_
          refine x_iald (j := ((9 * j) + 4)) f_127_244 S.k36 (by omega) (by decide) ?_
          refine x_topi (w := mj_I h 36 (9 * j + 4)) ((congrFun (mj_I_other (by decide)) _).trans (congrFun e36 _)) ?_
          refine x_idiv f_127_245 h4 ?_
          refine x_iadd f_127_246 ?_
          refine x_min f_127_247 (Nat.le_of_ble_eq_true rfl) ?_
          refine x_iast (j := r) f_127_250 S.k42 (by decide) (by omega) (by decide) ?_
          refine x_iinc (v := nI (r + 1)) (ls1 := [.ref 33, .int (nI j), .int work, .int push, .int (nI c), .int (nI (9 * j)), .int (nI rg), .int (mj_I h 36 (9 * j + 2)), .int (nI (r + 1)), .int (mj_I h 39 r), .int (nI 1), .int ((((mj_I h 39 r) - (mj_I h 39 (r - 1))) * (mj_I h 36 (9 * j + 2)) / 1000) + (((mj_I h 39 r) - (mj_I h 39 (r + 1))) * (mj_I h 36 (9 * j + 2)) / 1000)), .int (((work * (nI (r + 1))) * (mj_I h 36 (9 * j))) / (mj_I h 36 (9 * j + 1)))]) f_127_251 rfl (by exact nI_add _ 1) rfl ?_
          refine x_goto (t := 32) f_127_254 (by decide) ?_
          have hnx : (if (((mj_I h 39 r) - ((((mj_I h 39 r) - (mj_I h 39 (r - 1))) * (mj_I h 36 (9 * j + 2)) / 1000) + (((mj_I h 39 r) - (mj_I h 39 (r + 1))) * (mj_I h 36 (9 * j + 2)) / 1000))) + ((((work * (nI (r + 1))) * (mj_I h 36 (9 * j))) / (mj_I h 36 (9 * j + 1))) / (nI 2))) < (nI 5000) then (((mj_I h 39 r) - ((((mj_I h 39 r) - (mj_I h 39 (r - 1))) * (mj_I h 36 (9 * j + 2)) / 1000) + (((mj_I h 39 r) - (mj_I h 39 (r + 1))) * (mj_I h 36 (9 * j + 2)) / 1000))) + ((((work * (nI (r + 1))) * (mj_I h 36 (9 * j))) / (mj_I h 36 (9 * j + 1))) / (nI 2))) else (nI 5000)) = tk_nx (mM h j) rg (mj_I h 39) work r := by
            unfold tk_nx tk_go
            rw [if_neg (show ¬ mj_I h 39 r < mM h j 3 from c_s), if_neg c_0, if_neg c_e]
            rfl
          have hot : (if ((mj_I h 42 r) + ((push * (((mj_I h 39 r) - (mj_I h 36 (9 * j + 3))) + (nI 1))) / (mj_I h 36 (9 * j + 4)))) < (nI 100000) then ((mj_I h 42 r) + ((push * (((mj_I h 39 r) - (mj_I h 36 (9 * j + 3))) + (nI 1))) / (mj_I h 36 (9 * j + 4)))) else (nI 100000)) = tk_ot (mM h j) (mj_I h 39) (mj_I h 42) push r := by
            unfold tk_ot
            rw [if_neg (show ¬ mj_I h 39 r < mM h j 3 from c_s)]
            rfl
          refine ih (r + 1) (mj_setI (mj_setI g 40 r (if (((mj_I h 39 r) - ((((mj_I h 39 r) - (mj_I h 39 (r - 1))) * (mj_I h 36 (9 * j + 2)) / 1000) + (((mj_I h 39 r) - (mj_I h 39 (r + 1))) * (mj_I h 36 (9 * j + 2)) / 1000))) + ((((work * (nI (r + 1))) * (mj_I h 36 (9 * j))) / (mj_I h 36 (9 * j + 1))) / (nI 2))) < (nI 5000) then (((mj_I h 39 r) - ((((mj_I h 39 r) - (mj_I h 39 (r - 1))) * (mj_I h 36 (9 * j + 2)) / 1000) + (((mj_I h 39 r) - (mj_I h 39 (r + 1))) * (mj_I h 36 (9 * j + 2)) / 1000))) + ((((work * (nI (r + 1))) * (mj_I h 36 (9 * j))) / (mj_I h 36 (9 * j + 1))) / (nI 2))) else (nI 5000))) 42 r (if ((mj_I h 42 r) + ((push * (((mj_I h 39 r) - (mj_I h 36 (9 * j + 3))) + (nI 1))) / (mj_I h 36 (9 * j + 4)))) < (nI 100000) then ((mj_I h 42 r) + ((push * (((mj_I h 39 r) - (mj_I h 36 (9 * j + 3))) + (nI 1))) / (mj_I h 36 (9 * j + 4)))) else (nI 100000))) _ _ _ _ (by omega) S ((hR.set (by decide)).set (by decide)) (fun q hq => ?_) (fun q => ?_)
          · by_cases hqr : q = r
            · subst hqr
              exact (congrFun (mj_I_other (a := 42) (b := 40) (by decide)) q).trans ((mj_I_at g 40 q _).trans hnx)
            · exact (congrFun (mj_I_other (a := 42) (b := 40) (by decide)) q).trans ((mj_I_ne (h := g) (a := 40) hqr).trans (i40 q (by omega)))
          · by_cases hqr : q = r
            · subst hqr
              exact ((mj_I_at _ 42 q _).trans hot).trans (if_pos (Nat.lt_succ_self q)).symm
            · rw [mj_ifs hqr]
              exact (mj_I_ne hqr).trans ((congrFun (mj_I_other (a := 40) (b := 42) (by decide)) q).trans (i42 q))
end
section
theorem f_127_257 : mj_fetch 127 257 = some (.iconst 0, 0, 0) := by decide +kernel
theorem f_127_258 : mj_fetch 127 258 = some (.istore 8, 0, 0) := by decide +kernel
theorem f_127_260 : mj_fetch 127 260 = some (.iload 8, 0, 0) := by decide +kernel
theorem f_127_262 : mj_fetch 127 262 = some (.iload 6, 0, 0) := by decide +kernel
theorem f_127_264 : mj_fetch 127 264 = some (.if_icmp .ge 88, 0, 0) := by decide +kernel
theorem f_127_267 : mj_fetch 127 267 = some (.aload_n 0, 0, 0) := by decide +kernel
theorem f_127_268 : mj_fetch 127 268 = some (.getfield 38, 11, 13) := by decide +kernel
theorem f_127_271 : mj_fetch 127 271 = some (.iload 8, 0, 0) := by decide +kernel
theorem f_127_273 : mj_fetch 127 273 = some (.iload 4, 0, 0) := by decide +kernel
theorem f_127_275 : mj_fetch 127 275 = some (.ifCond .eq 31, 0, 0) := by decide +kernel
theorem f_127_278 : mj_fetch 127 278 = some (.aload_n 0, 0, 0) := by decide +kernel
theorem f_127_279 : mj_fetch 127 279 = some (.getfield 38, 11, 13) := by decide +kernel
theorem f_127_282 : mj_fetch 127 282 = some (.iload 8, 0, 0) := by decide +kernel
theorem f_127_284 : mj_fetch 127 284 = some (.iaload, 0, 0) := by decide +kernel
theorem f_127_285 : mj_fetch 127 285 = some (.aload_n 0, 0, 0) := by decide +kernel
theorem f_127_286 : mj_fetch 127 286 = some (.getfield 26, 11, 9) := by decide +kernel
theorem f_127_289 : mj_fetch 127 289 = some (.iload 8, 0, 0) := by decide +kernel
theorem f_127_291 : mj_fetch 127 291 = some (.iaload, 0, 0) := by decide +kernel
theorem f_127_292 : mj_fetch 127 292 = some (.aload_n 0, 0, 0) := by decide +kernel
theorem f_127_293 : mj_fetch 127 293 = some (.getfield 29, 11, 10) := by decide +kernel
theorem f_127_296 : mj_fetch 127 296 = some (.iload 8, 0, 0) := by decide +kernel
theorem f_127_298 : mj_fetch 127 298 = some (.iaload, 0, 0) := by decide +kernel
theorem f_127_299 : mj_fetch 127 299 = some (.isub, 0, 0) := by decide +kernel
theorem f_127_300 : mj_fetch 127 300 = some (.invokestatic 123, 0, 3) := by decide +kernel
theorem f_127_303 : mj_fetch 127 303 = some (.goto 4, 0, 0) := by decide +kernel
theorem f_127_306 : mj_fetch 127 306 = some (.iconst 0, 0, 0) := by decide +kernel
theorem f_127_307 : mj_fetch 127 307 = some (.iastore, 0, 0) := by decide +kernel
theorem f_127_308 : mj_fetch 127 308 = some (.aload_n 0, 0, 0) := by decide +kernel
theorem f_127_309 : mj_fetch 127 309 = some (.getfield 26, 11, 9) := by decide +kernel
theorem f_127_312 : mj_fetch 127 312 = some (.iload 8, 0, 0) := by decide +kernel
theorem f_127_314 : mj_fetch 127 314 = some (.aload_n 0, 0, 0) := by decide +kernel
theorem f_127_315 : mj_fetch 127 315 = some (.getfield 29, 11, 10) := by decide +kernel
theorem f_127_318 : mj_fetch 127 318 = some (.iload 8, 0, 0) := by decide +kernel
theorem f_127_320 : mj_fetch 127 320 = some (.iaload, 0, 0) := by decide +kernel
theorem f_127_321 : mj_fetch 127 321 = some (.iastore, 0, 0) := by decide +kernel
theorem f_127_322 : mj_fetch 127 322 = some (.aload_n 0, 0, 0) := by decide +kernel
theorem f_127_323 : mj_fetch 127 323 = some (.getfield 32, 11, 11) := by decide +kernel
theorem f_127_326 : mj_fetch 127 326 = some (.iload 8, 0, 0) := by decide +kernel
theorem f_127_328 : mj_fetch 127 328 = some (.aload_n 0, 0, 0) := by decide +kernel
theorem f_127_329 : mj_fetch 127 329 = some (.getfield 32, 11, 11) := by decide +kernel
theorem f_127_332 : mj_fetch 127 332 = some (.iload 8, 0, 0) := by decide +kernel
theorem f_127_334 : mj_fetch 127 334 = some (.iaload, 0, 0) := by decide +kernel
theorem f_127_335 : mj_fetch 127 335 = some (.aload_n 0, 0, 0) := by decide +kernel
theorem f_127_336 : mj_fetch 127 336 = some (.getfield 26, 11, 9) := by decide +kernel
theorem f_127_339 : mj_fetch 127 339 = some (.iload 8, 0, 0) := by decide +kernel
theorem f_127_341 : mj_fetch 127 341 = some (.iaload, 0, 0) := by decide +kernel
theorem f_127_342 : mj_fetch 127 342 = some (.invokestatic 123, 0, 3) := by decide +kernel
theorem f_127_345 : mj_fetch 127 345 = some (.iastore, 0, 0) := by decide +kernel
theorem f_127_346 : mj_fetch 127 346 = some (.iinc 8 1, 0, 0) := by decide +kernel
theorem f_127_349 : mj_fetch 127 349 = some (.goto (-89), 0, 0) := by decide +kernel
theorem f_127_352 : mj_fetch 127 352 = some (.return_, 0, 0) := by decide +kernel
theorem f_127_0 : mj_fetch 127 0 = some (.bipush 9, 0, 0) := by decide +kernel
theorem f_127_2 : mj_fetch 127 2 = some (.iload_n 1, 0, 0) := by decide +kernel
theorem f_127_3 : mj_fetch 127 3 = some (.imul, 0, 0) := by decide +kernel
theorem f_127_4 : mj_fetch 127 4 = some (.istore 5, 0, 0) := by decide +kernel
theorem f_127_6 : mj_fetch 127 6 = some (.aload_n 0, 0, 0) := by decide +kernel
theorem f_127_7 : mj_fetch 127 7 = some (.getfield 17, 11, 4) := by decide +kernel
theorem f_127_10 : mj_fetch 127 10 = some (.iload 5, 0, 0) := by decide +kernel
theorem f_127_12 : mj_fetch 127 12 = some (.bipush 8, 0, 0) := by decide +kernel
theorem f_127_14 : mj_fetch 127 14 = some (.iadd, 0, 0) := by decide +kernel
theorem f_127_15 : mj_fetch 127 15 = some (.iaload, 0, 0) := by decide +kernel
theorem f_127_16 : mj_fetch 127 16 = some (.istore 6, 0, 0) := by decide +kernel
theorem f_127_18 : mj_fetch 127 18 = some (.aload_n 0, 0, 0) := by decide +kernel
theorem f_127_19 : mj_fetch 127 19 = some (.getfield 17, 11, 4) := by decide +kernel
theorem f_127_22 : mj_fetch 127 22 = some (.iload 5, 0, 0) := by decide +kernel
theorem f_127_24 : mj_fetch 127 24 = some (.iconst 2, 0, 0) := by decide +kernel
theorem f_127_25 : mj_fetch 127 25 = some (.iadd, 0, 0) := by decide +kernel
theorem f_127_26 : mj_fetch 127 26 = some (.iaload, 0, 0) := by decide +kernel
theorem f_127_27 : mj_fetch 127 27 = some (.istore 7, 0, 0) := by decide +kernel
theorem f_127_29 : mj_fetch 127 29 = some (.iconst 0, 0, 0) := by decide +kernel
theorem f_127_30 : mj_fetch 127 30 = some (.istore 8, 0, 0) := by decide +kernel
set_option maxRecDepth 20000 in
set_option maxHeartbeats 4000000 in
theorem tick_l2 {h : mj_H} {j rg : Nat} (hj : j < 20) (hrg : 2 ≤ rg ∧ rg ≤ 6) (work push : Int32) {c : Nat} (hc : c ≤ 1) (nx ot : Nat → Int32) (v9 v10 v11 v12 : Value) {Q : Option Value → mj_H → Prop}
    (K : ∀ g : mj_H, SM g → Rw h g [39, 40, 41, 42, 43] → (∀ q, q < rg → mj_I g 40 q = nx q) → (∀ q, mj_I g 39 q = if q < rg then nx q else mj_I h 39 q) → (∀ q, mj_I g 41 q = if q < rg then tk_max (mj_I h 41 q) (nx q) else mj_I h 41 q) → (∀ q, mj_I g 42 q = ot q) → (∀ q, mj_I g 43 q = if q < rg then (if c = 0 then nI 0 else tk_max (mj_I h 43 q) (mj_I h 39 q - nx q)) else mj_I h 43 q) → Q none g) :
    ∀ (n r : Nat) (g : mj_H), r + n = rg → SM g → Rw h g [39, 40, 41, 42, 43] → (∀ q, q < rg → mj_I g 40 q = nx q) → (∀ q, mj_I g 39 q = if q < r then nx q else mj_I h 39 q) → (∀ q, mj_I g 41 q = if q < r then tk_max (mj_I h 41 q) (nx q) else mj_I h 41 q) → (∀ q, mj_I g 42 q = ot q) → (∀ q, mj_I g 43 q = if q < r then (if c = 0 then nI 0 else tk_max (mj_I h 43 q) (mj_I h 39 q - nx q)) else mj_I h 43 q) → mx 1 127 260 [.ref 33, .int (nI j), .int work, .int push, .int (nI c), .int (nI (9 * j)), .int (nI rg), .int (mj_I h 36 (9 * j + 2)), .int (nI r), v9, v10, v11, v12] [] g Q := by
  intro n
  induction n with
  | zero =>
    intro r g hr S hR i40 i39 i41 i42 i43
    have hrr : r = rg := by omega
    subst hrr
    refine x_iload f_127_260 rfl ?_
    refine x_iload f_127_262 rfl ?_
    refine x_icmpN_ge (t := 352) f_127_264 (by decide) (by omega) (by omega) (fun c_1 => ?_) (fun c_1 => by omega)
    refine x_retV f_127_352 rfl ?_
    exact K g S hR i40 i39 i41 i42 i43
  | succ n ih =>
    intro r g hr S hR i40 i39 i41 i42 i43
    have i39r : mj_I g 39 r = mj_I h 39 r := by rw [i39, if_neg (by omega)]
    have i41r : mj_I g 41 r = mj_I h 41 r := by rw [i41, if_neg (by omega)]
    have i43r : mj_I g 43 r = mj_I h 43 r := by rw [i43, if_neg (by omega)]
    refine x_iload f_127_260 rfl ?_
    refine x_iload f_127_262 rfl ?_
    refine x_icmpN_ge (t := 352) f_127_264 (by decide) (by omega) (by omega) (fun c_1 => by omega) (fun c_1 => ?_)
    refine x_aload_n f_127_267 rfl ?_
    refine x_getR f_127_268 S.k33 (by decide) S.r13 ?_
    refine x_iload f_127_271 rfl ?_
    refine x_iload f_127_273 rfl ?_
    refine x_ifN_eq (t := 306) f_127_275 (by decide) (by omega) (fun c_c => ?_) (fun c_c => ?_)
    · refine x_iconst (v := nI 0) f_127_306 (by decide) ?_
      refine x_iast (j := r) f_127_307 S.k43 (by decide) (by omega) (by decide) ?_
      refine x_aload_n f_127_308 rfl ?_
      refine x_getR f_127_309 S.k33 (by decide) S.r9 ?_
      refine x_iload f_127_312 rfl ?_
      refine x_aload_n f_127_314 rfl ?_
      refine x_getR f_127_315 S.k33 (by decide) S.r10 ?_
      refine x_iload f_127_318 rfl ?_
      refine x_iald (j := r) f_127_320 S.k40 (by omega) (by decide) ?_
      refine x_topi (w := nx r) ((congrFun (mj_I_other (by decide)) _).trans (i40 r (by omega))) ?_
      refine x_iast (j := r) f_127_321 S.k39 (by decide) (by omega) (by decide) ?_
      refine x_aload_n f_127_322 rfl ?_
      refine x_getR f_127_323 S.k33 (by decide) S.r11 ?_
      refine x_iload f_127_326 rfl ?_
      refine x_aload_n f_127_328 rfl ?_
      refine x_getR f_127_329 S.k33 (by decide) S.r11 ?_
      refine x_iload f_127_332 rfl ?_
      refine x_iald (j := r) f_127_334 S.k41 (by omega) (by decide) ?_
      refine x_topi (w := mj_I h 41 r) ((congrFun (mj_I_other (by decide)) _).trans ((congrFun (mj_I_other (by decide)) _).trans (i41r))) ?_
      refine x_aload_n f_127_335 rfl ?_
      refine x_getR f_127_336 S.k33 (by decide) S.r9 ?_
      refine x_iload f_127_339 rfl ?_
      refine x_iald (j := r) f_127_341 S.k39 (by omega) (by decide) ?_
      refine x_topi (w := nx r) (mj_I_at _ _ _ _) ?_
      refine x_max f_127_342 (Nat.le_of_ble_eq_true rfl) ?_
      refine x_iast (j := r) f_127_345 S.k41 (by decide) (by omega) (by decide) ?_
      refine x_iinc (v := nI (r + 1)) (ls1 := [.ref 33, .int (nI j), .int work, .int push, .int (nI c), .int (nI (9 * j)), .int (nI rg), .int (mj_I h 36 (9 * j + 2)), .int (nI (r + 1)), v9, v10, v11, v12]) f_127_346 rfl (by exact nI_add _ 1) rfl ?_
      refine x_goto (t := 260) f_127_349 (by decide) ?_
      refine ih (r + 1) (mj_setI (mj_setI (mj_setI g 43 r (nI 0)) 39 r (nx r)) 41 r (if (mj_I h 41 r) < (nx r) then (nx r) else (mj_I h 41 r))) (by omega) S (((hR.set (by decide)).set (by decide)).set (by decide)) (fun q hq => ?_) (fun q => ?_) (fun q => ?_) (fun q => ?_) (fun q => ?_)
      · exact (congrFun (mj_I_other (a := 41) (b := 40) (by decide)) q).trans ((congrFun (mj_I_other (a := 39) (b := 40) (by decide)) q).trans ((congrFun (mj_I_other (a := 43) (b := 40) (by decide)) q).trans (i40 q hq)))
      · by_cases hqr : q = r
        · subst hqr
          exact ((congrFun (mj_I_other (a := 41) (b := 39) (by decide)) q).trans (mj_I_at _ 39 q _)).trans (if_pos (Nat.lt_succ_self q)).symm
        · rw [mj_ifs hqr]
          exact (congrFun (mj_I_other (a := 41) (b := 39) (by decide)) q).trans ((mj_I_ne (a := 39) hqr).trans ((congrFun (mj_I_other (a := 43) (b := 39) (by decide)) q).trans (i39 q)))
      · by_cases hqr : q = r
        · subst hqr
          exact (mj_I_at _ 41 q _).trans (if_pos (Nat.lt_succ_self q)).symm
        · rw [mj_ifs hqr]
          exact (mj_I_ne (a := 41) hqr).trans ((congrFun (mj_I_other (a := 39) (b := 41) (by decide)) q).trans ((congrFun (mj_I_other (a := 43) (b := 41) (by decide)) q).trans (i41 q)))
      · exact (congrFun (mj_I_other (a := 41) (b := 42) (by decide)) q).trans ((congrFun (mj_I_other (a := 39) (b := 42) (by decide)) q).trans ((congrFun (mj_I_other (a := 43) (b := 42) (by decide)) q).trans (i42 q)))
      · by_cases hqr : q = r
        · subst hqr
          refine ((congrFun (mj_I_other (a := 41) (b := 43) (by decide)) q).trans ((congrFun (mj_I_other (a := 39) (b := 43) (by decide)) q).trans (mj_I_at _ 43 q _))).trans ?_
          rw [if_pos (Nat.lt_succ_self q), if_pos c_c]
        · rw [mj_ifs hqr]
          exact (congrFun (mj_I_other (a := 41) (b := 43) (by decide)) q).trans ((congrFun (mj_I_other (a := 39) (b := 43) (by decide)) q).trans ((mj_I_ne (a := 43) hqr).trans (i43 q)))
    · refine x_aload_n f_127_278 rfl ?_
      refine x_getR f_127_279 S.k33 (by decide) S.r13 ?_
      refine x_iload f_127_282 rfl ?_
      refine x_iald (j := r) f_127_284 S.k43 (by omega) (by decide) ?_
      refine x_topi (w := mj_I h 43 r) i43r ?_
      refine x_aload_n f_127_285 rfl ?_
      refine x_getR f_127_286 S.k33 (by decide) S.r9 ?_
      refine x_iload f_127_289 rfl ?_
      refine x_iald (j := r) f_127_291 S.k39 (by omega) (by decide) ?_
      refine x_topi (w := mj_I h 39 r) i39r ?_
      refine x_aload_n f_127_292 rfl ?_
      refine x_getR f_127_293 S.k33 (by decide) S.r10 ?_
      refine x_iload f_127_296 rfl ?_
      refine x_iald (j := r) f_127_298 S.k40 (by omega) (by decide) ?_
      refine x_topi (w := nx r) (i40 r (by omega)) ?_
      refine x_isub f_127_299 ?_
      refine x_max f_127_300 (Nat.le_of_ble_eq_true rfl) ?_
      refine x_goto (t := 307) f_127_303 (by decide) ?_
      refine x_iast (j := r) f_127_307 S.k43 (by decide) (by omega) (by decide) ?_
      refine x_aload_n f_127_308 rfl ?_
      refine x_getR f_127_309 S.k33 (by decide) S.r9 ?_
      refine x_iload f_127_312 rfl ?_
      refine x_aload_n f_127_314 rfl ?_
      refine x_getR f_127_315 S.k33 (by decide) S.r10 ?_
      refine x_iload f_127_318 rfl ?_
      refine x_iald (j := r) f_127_320 S.k40 (by omega) (by decide) ?_
      refine x_topi (w := nx r) ((congrFun (mj_I_other (by decide)) _).trans (i40 r (by omega))) ?_
      refine x_iast (j := r) f_127_321 S.k39 (by decide) (by omega) (by decide) ?_
      refine x_aload_n f_127_322 rfl ?_
      refine x_getR f_127_323 S.k33 (by decide) S.r11 ?_
      refine x_iload f_127_326 rfl ?_
      refine x_aload_n f_127_328 rfl ?_
      refine x_getR f_127_329 S.k33 (by decide) S.r11 ?_
      refine x_iload f_127_332 rfl ?_
      refine x_iald (j := r) f_127_334 S.k41 (by omega) (by decide) ?_
      refine x_topi (w := mj_I h 41 r) ((congrFun (mj_I_other (by decide)) _).trans ((congrFun (mj_I_other (by decide)) _).trans (i41r))) ?_
      refine x_aload_n f_127_335 rfl ?_
      refine x_getR f_127_336 S.k33 (by decide) S.r9 ?_
      refine x_iload f_127_339 rfl ?_
      refine x_iald (j := r) f_127_341 S.k39 (by omega) (by decide) ?_
      refine x_topi (w := nx r) (mj_I_at _ _ _ _) ?_
      refine x_max f_127_342 (Nat.le_of_ble_eq_true rfl) ?_
      refine x_iast (j := r) f_127_345 S.k41 (by decide) (by omega) (by decide) ?_
      refine x_iinc (v := nI (r + 1)) (ls1 := [.ref 33, .int (nI j), .int work, .int push, .int (nI c), .int (nI (9 * j)), .int (nI rg), .int (mj_I h 36 (9 * j + 2)), .int (nI (r + 1)), v9, v10, v11, v12]) f_127_346 rfl (by exact nI_add _ 1) rfl ?_
      refine x_goto (t := 260) f_127_349 (by decide) ?_
      refine ih (r + 1) (mj_setI (mj_setI (mj_setI g 43 r (if (mj_I h 43 r) < ((mj_I h 39 r) - (nx r)) then ((mj_I h 39 r) - (nx r)) else (mj_I h 43 r))) 39 r (nx r)) 41 r (if (mj_I h 41 r) < (nx r) then (nx r) else (mj_I h 41 r))) (by omega) S (((hR.set (by decide)).set (by decide)).set (by decide)) (fun q hq => ?_) (fun q => ?_) (fun q => ?_) (fun q => ?_) (fun q => ?_)
      · exact (congrFun (mj_I_other (a := 41) (b := 40) (by decide)) q).trans ((congrFun (mj_I_other (a := 39) (b := 40) (by decide)) q).trans ((congrFun (mj_I_other (a := 43) (b := 40) (by decide)) q).trans (i40 q hq)))
      · by_cases hqr : q = r
        · subst hqr
          exact ((congrFun (mj_I_other (a := 41) (b := 39) (by decide)) q).trans (mj_I_at _ 39 q _)).trans (if_pos (Nat.lt_succ_self q)).symm
        · rw [mj_ifs hqr]
          exact (congrFun (mj_I_other (a := 41) (b := 39) (by decide)) q).trans ((mj_I_ne (a := 39) hqr).trans ((congrFun (mj_I_other (a := 43) (b := 39) (by decide)) q).trans (i39 q)))
      · by_cases hqr : q = r
        · subst hqr
          exact (mj_I_at _ 41 q _).trans (if_pos (Nat.lt_succ_self q)).symm
        · rw [mj_ifs hqr]
          exact (mj_I_ne (a := 41) hqr).trans ((congrFun (mj_I_other (a := 39) (b := 41) (by decide)) q).trans ((congrFun (mj_I_other (a := 43) (b := 41) (by decide)) q).trans (i41 q)))
      · exact (congrFun (mj_I_other (a := 41) (b := 42) (by decide)) q).trans ((congrFun (mj_I_other (a := 39) (b := 42) (by decide)) q).trans ((congrFun (mj_I_other (a := 43) (b := 42) (by decide)) q).trans (i42 q)))
      · by_cases hqr : q = r
        · subst hqr
          refine ((congrFun (mj_I_other (a := 41) (b := 43) (by decide)) q).trans ((congrFun (mj_I_other (a := 39) (b := 43) (by decide)) q).trans (mj_I_at _ 43 q _))).trans ?_
          rw [if_pos (Nat.lt_succ_self q), if_neg c_c]
          rfl
        · rw [mj_ifs hqr]
          exact (congrFun (mj_I_other (a := 41) (b := 43) (by decide)) q).trans ((congrFun (mj_I_other (a := 39) (b := 43) (by decide)) q).trans ((mj_I_ne (a := 43) hqr).trans (i43 q)))
set_option maxRecDepth 20000 in
theorem c_tick {h : mj_H} (S : SM h) {j rg : Nat} (hj : j < 20) (e_rg : mj_I h 36 (9 * j + 8) = nI rg) (hrg : 2 ≤ rg ∧ rg ≤ 6) (h1 : ¬ mj_I h 36 (9 * j + 1) = 0) (h4 : ¬ mj_I h 36 (9 * j + 4) = 0) (work push : Int32) {c : Nat} (hc : c ≤ 1) : mxc 1 127 [.ref 33, .int (nI j), .int work, .int push, .int (nI c)] h (fun r h' => r = none ∧ Rw h h' [39, 40, 41, 42, 43] ∧ mT h' = tk (mM h j) rg work push c (mT h)) := by
  show mx 1 127 0 [.ref 33, .int (nI j), .int work, .int push, .int (nI c), mj_unset, mj_unset, mj_unset, mj_unset, mj_unset, mj_unset, mj_unset, mj_unset] [] h _
  refine x_bipush (v := nI 9) f_127_0 (by decide) ?_
  refine x_iload_n f_127_2 rfl ?_
  refine x_imulN f_127_3 ?_
  refine x_istore (ls1 := [.ref 33, .int (nI j), .int work, .int push, .int (nI c), .int (nI (9 * j)), mj_unset, mj_unset, mj_unset, mj_unset, mj_unset, mj_unset, mj_unset]) f_127_4 (Nat.le_of_ble_eq_true rfl) rfl ?_
  refine x_aload_n f_127_6 rfl ?_
  refine x_getR f_127_7 S.k33 (by decide) S.r4 ?_
  refine x_iload f_127_10 rfl ?_
  refine x_bipush (v := nI 8) f_127_12 (by decide) ?_
  refine x_iaddN f_127_14 ?_
  refine x_iald (j := ((9 * j) + 8)) f_127_15 S.k36 (by omega) (by decide) ?_
  refine x_topi (w := nI rg) e_rg ?_
  refine x_istore (ls1 := [.ref 33, .int (nI j), .int work, .int push, .int (nI c), .int (nI (9 * j)), .int (nI rg), mj_unset, mj_unset, mj_unset, mj_unset, mj_unset, mj_unset]) f_127_16 (Nat.le_of_ble_eq_true rfl) rfl ?_
  refine x_aload_n f_127_18 rfl ?_
  refine x_getR f_127_19 S.k33 (by decide) S.r4 ?_
  refine x_iload f_127_22 rfl ?_
  refine x_iconst (v := nI 2) f_127_24 (by decide) ?_
  refine x_iaddN f_127_25 ?_
  refine x_iald (j := ((9 * j) + 2)) f_127_26 S.k36 (by omega) (by decide) ?_
  refine x_istore (ls1 := [.ref 33, .int (nI j), .int work, .int push, .int (nI c), .int (nI (9 * j)), .int (nI rg), .int (mj_I h 36 ((9 * j) + 2)), mj_unset, mj_unset, mj_unset, mj_unset, mj_unset]) f_127_27 (Nat.le_of_ble_eq_true rfl) rfl ?_
  refine x_iconst (v := nI 0) f_127_29 (by decide) ?_
  refine x_istore (ls1 := [.ref 33, .int (nI j), .int work, .int push, .int (nI c), .int (nI (9 * j)), .int (nI rg), .int (mj_I h 36 ((9 * j) + 2)), .int (nI 0), mj_unset, mj_unset, mj_unset, mj_unset]) f_127_30 (Nat.le_of_ble_eq_true rfl) rfl ?_
  refine tick_l1 hj e_rg hrg h1 h4 work push c ?_ rg 0 h _ _ _ _ (by omega) S (Rw.rf _ _) (fun q hq => by omega) (fun q => by rw [if_neg (by omega)])
  intro g v9 v10 v11 v12 S1 hR1 i40 i42
  refine x_iconst (v := nI 0) f_127_257 (by decide) ?_
  refine x_istore (ls1 := [.ref 33, .int (nI j), .int work, .int push, .int (nI c), .int (nI (9 * j)), .int (nI rg), .int (mj_I h 36 (9 * j + 2)), .int (nI 0), v9, v10, v11, v12]) f_127_258 (Nat.le_of_ble_eq_true rfl) rfl ?_
  refine tick_l2 hj hrg work push hc (tk_nx (mM h j) rg (mj_I h 39) work) (fun q => if q < rg then tk_ot (mM h j) (mj_I h 39) (mj_I h 42) push q else mj_I h 42 q) v9 v10 v11 v12 ?_ rg 0 g (by omega) S1 (hR1.mono (by decide)) i40 (fun q => by rw [if_neg (by omega)]; exact congrFun (hR1.i (by decide)) q) (fun q => by rw [if_neg (by omega)]; exact congrFun (hR1.i (by decide)) q) i42 (fun q => by rw [if_neg (by omega)]; exact congrFun (hR1.i (by decide)) q)
  intro g2 S2 hR2 j40 j39 j41 j42 j43
  refine ⟨rfl, hR2, ?_⟩
  unfold mT tk
  exact Prod.ext (funext j39) (Prod.ext (funext j41) (Prod.ext (funext j42) (funext j43)))
end
section
theorem f_128_4 : mj_fetch 128 4 = some (.iload_n 3, 0, 0) := by decide +kernel
theorem f_128_5 : mj_fetch 128 5 = some (.iload_n 1, 0, 0) := by decide +kernel
theorem f_128_6 : mj_fetch 128 6 = some (.if_icmp .ge 18, 0, 0) := by decide +kernel
theorem f_128_9 : mj_fetch 128 9 = some (.iload_n 2, 0, 0) := by decide +kernel
theorem f_128_10 : mj_fetch 128 10 = some (.aload_n 0, 0, 0) := by decide +kernel
theorem f_128_11 : mj_fetch 128 11 = some (.getfield 35, 11, 12) := by decide +kernel
theorem f_128_14 : mj_fetch 128 14 = some (.iload_n 3, 0, 0) := by decide +kernel
theorem f_128_15 : mj_fetch 128 15 = some (.iaload, 0, 0) := by decide +kernel
theorem f_128_16 : mj_fetch 128 16 = some (.iadd, 0, 0) := by decide +kernel
theorem f_128_17 : mj_fetch 128 17 = some (.istore_n 2, 0, 0) := by decide +kernel
theorem f_128_18 : mj_fetch 128 18 = some (.iinc 3 1, 0, 0) := by decide +kernel
theorem f_128_21 : mj_fetch 128 21 = some (.goto (-17), 0, 0) := by decide +kernel
theorem f_128_24 : mj_fetch 128 24 = some (.iload_n 2, 0, 0) := by decide +kernel
theorem f_128_25 : mj_fetch 128 25 = some (.ireturn, 0, 0) := by decide +kernel
theorem f_128_0 : mj_fetch 128 0 = some (.iconst 0, 0, 0) := by decide +kernel
theorem f_128_1 : mj_fetch 128 1 = some (.istore_n 2, 0, 0) := by decide +kernel
theorem f_128_2 : mj_fetch 128 2 = some (.iconst 0, 0, 0) := by decide +kernel
theorem f_128_3 : mj_fetch 128 3 = some (.istore_n 3, 0, 0) := by decide +kernel
theorem f_129_30 : mj_fetch 129 30 = some (.iload 6, 0, 0) := by decide +kernel
theorem f_129_32 : mj_fetch 129 32 = some (.bipush 6, 0, 0) := by decide +kernel
theorem f_129_34 : mj_fetch 129 34 = some (.if_icmp .ge 43, 0, 0) := by decide +kernel
theorem f_129_37 : mj_fetch 129 37 = some (.aload_n 0, 0, 0) := by decide +kernel
theorem f_129_38 : mj_fetch 129 38 = some (.getfield 26, 11, 9) := by decide +kernel
theorem f_129_41 : mj_fetch 129 41 = some (.iload 6, 0, 0) := by decide +kernel
theorem f_129_43 : mj_fetch 129 43 = some (.bipush 20, 0, 0) := by decide +kernel
theorem f_129_45 : mj_fetch 129 45 = some (.iastore, 0, 0) := by decide +kernel
theorem f_129_46 : mj_fetch 129 46 = some (.aload_n 0, 0, 0) := by decide +kernel
theorem f_129_47 : mj_fetch 129 47 = some (.getfield 32, 11, 11) := by decide +kernel
theorem f_129_50 : mj_fetch 129 50 = some (.iload 6, 0, 0) := by decide +kernel
theorem f_129_52 : mj_fetch 129 52 = some (.bipush 20, 0, 0) := by decide +kernel
theorem f_129_54 : mj_fetch 129 54 = some (.iastore, 0, 0) := by decide +kernel
theorem f_129_55 : mj_fetch 129 55 = some (.aload_n 0, 0, 0) := by decide +kernel
theorem f_129_56 : mj_fetch 129 56 = some (.getfield 35, 11, 12) := by decide +kernel
theorem f_129_59 : mj_fetch 129 59 = some (.iload 6, 0, 0) := by decide +kernel
theorem f_129_61 : mj_fetch 129 61 = some (.iconst 0, 0, 0) := by decide +kernel
theorem f_129_62 : mj_fetch 129 62 = some (.iastore, 0, 0) := by decide +kernel
theorem f_129_63 : mj_fetch 129 63 = some (.aload_n 0, 0, 0) := by decide +kernel
theorem f_129_64 : mj_fetch 129 64 = some (.getfield 38, 11, 13) := by decide +kernel
theorem f_129_67 : mj_fetch 129 67 = some (.iload 6, 0, 0) := by decide +kernel
theorem f_129_69 : mj_fetch 129 69 = some (.iconst 0, 0, 0) := by decide +kernel
theorem f_129_70 : mj_fetch 129 70 = some (.iastore, 0, 0) := by decide +kernel
theorem f_129_71 : mj_fetch 129 71 = some (.iinc 6 1, 0, 0) := by decide +kernel
theorem f_129_74 : mj_fetch 129 74 = some (.goto (-44), 0, 0) := by decide +kernel
def mm_sum (f : Nat → Int32) : Nat → Int32
  | 0 => nI 0
  | n + 1 => mm_sum f n + f n
def wd_rub (st : tk_R → tk_R) (lt : tk_R → Bool) : Nat → Nat → tk_R → Nat × tk_R
  | 0, k, T => (k, T)
  | n + 1, k, T => if k = 0 ∨ lt T = true then wd_rub st lt n (k + 1) (st T) else (k, T)
def wd_it (st : tk_R → tk_R) : Nat → tk_R → tk_R
  | 0, T => T
  | n + 1, T => wd_it st n (st T)
def wd_lt (rg z : Nat) (T : tk_R) : Bool := decide (mm_sum T.2.2.1 rg < nI (20 * (mm_pt z 2 + 1)))
def wd_0 : tk_R := (fun r => if r < 6 then nI 20 else 0, fun r => if r < 6 then nI 20 else 0, fun _ => 0, fun _ => 0)
/-- the rubbing: ticks, and the rings behind it -/
def wd_1 (M : Nat → Int32) (rg z : Nat) : Nat × tk_R := wd_rub (tk M rg (nI ((mm_pt z 0 + 1) * (mm_pt z 1 + 1))) (nI (mm_pt z 1 + 1)) 0) (wd_lt rg z) 60 0 wd_0
/-- the rings behind pressing and cooling -/
def wd_T (M : Nat → Int32) (rg z : Nat) : tk_R := wd_it (tk M rg (nI 0) (nI 0) 1) 30 (wd_it (tk M rg (nI 0) (nI (2 * (mm_pt z 1 + 1))) 0) 5 (wd_1 M rg z).2)
theorem mm_pt_lt (z a : Nat) (hz : z < 729) : mm_pt z a < 9 := by
  unfold mm_pt
  split
  · omega
  · split <;> omega

set_option maxRecDepth 20000 in
theorem outAll_l {h : mj_H} (S : SM h) {m : Nat} (hm : m ≤ 6) : ∀ (n r : Nat), r + n = m → mx 0 128 4 [.ref 33, .int (nI m), .int (mm_sum (mj_I h 42) r), .int (nI r)] [] h (fun r h' => r = some (.int (mm_sum (mj_I h 42) m)) ∧ h' = h) := by
  intro n
  induction n with
  | zero =>
    intro r hr
    have hrr : r = m := by omega
    subst hrr
    refine x_iload_n f_128_4 rfl ?_
    refine x_iload_n f_128_5 rfl ?_
    refine x_icmpN_ge (t := 24) f_128_6 (by decide) (by omega) (by omega) (fun c_1 => ?_) (fun c_1 => by omega)
    refine x_iload_n f_128_24 rfl ?_
    refine x_retI f_128_25 rfl ?_
    exact ⟨rfl, rfl⟩
  | succ n ih =>
    intro r hr
    refine x_iload_n f_128_4 rfl ?_
    refine x_iload_n f_128_5 rfl ?_
    refine x_icmpN_ge (t := 24) f_128_6 (by decide) (by omega) (by omega) (fun c_1 => by omega) (fun c_1 => ?_)
    refine x_iload_n f_128_9 rfl ?_
    refine x_aload_n f_128_10 rfl ?_
    refine x_getR f_128_11 S.k33 (by decide) S.r12 ?_
    refine x_iload_n f_128_14 rfl ?_
    refine x_iald (j := r) f_128_15 S.k42 (by omega) (by decide) ?_
    refine x_iadd f_128_16 ?_
    refine x_istore_n (ls1 := [.ref 33, .int (nI m), .int ((mm_sum (mj_I h 42) r) + (mj_I h 42 r)), .int (nI r)]) f_128_17 (Nat.le_of_ble_eq_true rfl) rfl ?_
    refine x_iinc (v := nI (r + 1)) (ls1 := [.ref 33, .int (nI m), .int ((mm_sum (mj_I h 42) r) + (mj_I h 42 r)), .int (nI (r + 1))]) f_128_18 rfl (by exact nI_add _ 1) rfl ?_
    refine x_goto (t := 4) f_128_21 (by decide) ?_
    exact ih (r + 1) (by omega)
theorem c_outAll {h : mj_H} (S : SM h) {m : Nat} (hm : m ≤ 6) : mxc 0 128 [.ref 33, .int (nI m)] h (fun r h' => r = some (.int (mm_sum (mj_I h 42) m)) ∧ h' = h) := by
  show mx 0 128 0 [.ref 33, .int (nI m), mj_unset, mj_unset] [] h _
  refine x_iconst (v := nI 0) f_128_0 (by decide) ?_
  refine x_istore_n (ls1 := [.ref 33, .int (nI m), .int (nI 0), mj_unset]) f_128_1 (Nat.le_of_ble_eq_true rfl) rfl ?_
  refine x_iconst (v := nI 0) f_128_2 (by decide) ?_
  refine x_istore_n (ls1 := [.ref 33, .int (nI m), .int (nI 0), .int (nI 0)]) f_128_3 (Nat.le_of_ble_eq_true rfl) rfl ?_
  exact outAll_l S hm m 0 (by omega)
set_option maxRecDepth 20000 in
set_option maxHeartbeats 4000000 in
theorem weld_l0 {h : mj_H} {j z rg : Nat} {Q : Option Value → mj_H → Prop} (K : ∀ g : mj_H, SM g → Rw h g [33, 39, 40, 41, 42, 43] → (∀ q, mj_I g 33 q = mj_I h 33 q) → (∀ q, mj_I g 39 q = if q < 6 then nI 20 else mj_I h 39 q) → (∀ q, mj_I g 41 q = if q < 6 then nI 20 else mj_I h 41 q) → (∀ q, mj_I g 42 q = if q < 6 then nI 0 else mj_I h 42 q) → (∀ q, mj_I g 43 q = if q < 6 then nI 0 else mj_I h 43 q) → mx 2 129 77 [.ref 33, .int (nI j), .int (nI z), .int (nI (mm_pt z 1 + 1)), .int (nI (mm_pt z 2 + 1)), .int (nI rg), .int (nI 6)] [] g Q) :
    ∀ (n r : Nat) (g : mj_H), r + n = 6 → SM g → Rw h g [33, 39, 40, 41, 42, 43] → (∀ q, mj_I g 33 q = mj_I h 33 q) → (∀ q, mj_I g 39 q = if q < r then nI 20 else mj_I h 39 q) → (∀ q, mj_I g 41 q = if q < r then nI 20 else mj_I h 41 q) → (∀ q, mj_I g 42 q = if q < r then nI 0 else mj_I h 42 q) → (∀ q, mj_I g 43 q = if q < r then nI 0 else mj_I h 43 q) → mx 2 129 30 [.ref 33, .int (nI j), .int (nI z), .int (nI (mm_pt z 1 + 1)), .int (nI (mm_pt z 2 + 1)), .int (nI rg), .int (nI r)] [] g Q := by
  intro n
  induction n with
  | zero =>
    intro r g hr S hR i33 i39 i41 i42 i43
    have hrr : r = 6 := by omega
    subst hrr
    refine x_iload f_129_30 rfl ?_
    refine x_bipush (v := nI 6) f_129_32 (by decide) ?_
    refine x_icmpN_ge (t := 77) f_129_34 (by decide) (by decide) (by decide) (fun c_1 => ?_) (fun c_1 => by omega)
    exact K g S hR i33 i39 i41 i42 i43
  | succ n ih =>
    intro r g hr S hR i33 i39 i41 i42 i43
    refine x_iload f_129_30 rfl ?_
    refine x_bipush (v := nI 6) f_129_32 (by decide) ?_
    refine x_icmpN_ge (t := 77) f_129_34 (by decide) (by omega) (by decide) (fun c_1 => by omega) (fun c_1 => ?_)
    refine x_aload_n f_129_37 rfl ?_
    refine x_getR f_129_38 S.k33 (by decide) S.r9 ?_
    refine x_iload f_129_41 rfl ?_
    refine x_bipush (v := nI 20) f_129_43 (by decide) ?_
    refine x_iast (j := r) f_129_45 S.k39 (by decide) (by omega) (by decide) ?_
    refine x_aload_n f_129_46 rfl ?_
    refine x_getR f_129_47 S.k33 (by decide) S.r11 ?_
    refine x_iload f_129_50 rfl ?_
    refine x_bipush (v := nI 20) f_129_52 (by decide) ?_
    refine x_iast (j := r) f_129_54 S.k41 (by decide) (by omega) (by decide) ?_
    refine x_aload_n f_129_55 rfl ?_
    refine x_getR f_129_56 S.k33 (by decide) S.r12 ?_
    refine x_iload f_129_59 rfl ?_
    refine x_iconst (v := nI 0) f_129_61 (by decide) ?_
    refine x_iast (j := r) f_129_62 S.k42 (by decide) (by omega) (by decide) ?_
    refine x_aload_n f_129_63 rfl ?_
    refine x_getR f_129_64 S.k33 (by decide) S.r13 ?_
    refine x_iload f_129_67 rfl ?_
    refine x_iconst (v := nI 0) f_129_69 (by decide) ?_
    refine x_iast (j := r) f_129_70 S.k43 (by decide) (by omega) (by decide) ?_
    refine x_iinc (v := nI (r + 1)) (ls1 := [.ref 33, .int (nI j), .int (nI z), .int (nI (mm_pt z 1 + 1)), .int (nI (mm_pt z 2 + 1)), .int (nI rg), .int (nI (r + 1))]) f_129_71 rfl (by exact nI_add _ 1) rfl ?_
    refine x_goto (t := 30) f_129_74 (by decide) ?_
    refine ih (r + 1) (mj_setI (mj_setI (mj_setI (mj_setI g 39 r (nI 20)) 41 r (nI 20)) 42 r (nI 0)) 43 r (nI 0)) (by omega) S ((((hR.set (by decide)).set (by decide)).set (by decide)).set (by decide)) (fun q => (congrFun (mj_I_other (a := 43) (b := 33) (by decide)) q).trans ((congrFun (mj_I_other (a := 42) (b := 33) (by decide)) q).trans ((congrFun (mj_I_other (a := 41) (b := 33) (by decide)) q).trans ((congrFun (mj_I_other (a := 39) (b := 33) (by decide)) q).trans (i33 q))))) (fun q => ?_) (fun q => ?_) (fun q => ?_) (fun q => ?_)
    · by_cases hqr : q = r
      · subst hqr
        exact ((congrFun (mj_I_other (a := 43) (b := 39) (by decide)) q).trans ((congrFun (mj_I_other (a := 42) (b := 39) (by decide)) q).trans ((congrFun (mj_I_other (a := 41) (b := 39) (by decide)) q).trans (mj_I_at _ 39 q _)))).trans (if_pos (Nat.lt_succ_self q)).symm
      · rw [mj_ifs hqr]
        exact (congrFun (mj_I_other (a := 43) (b := 39) (by decide)) q).trans ((congrFun (mj_I_other (a := 42) (b := 39) (by decide)) q).trans ((congrFun (mj_I_other (a := 41) (b := 39) (by decide)) q).trans ((mj_I_ne (a := 39) hqr).trans (i39 q))))
    · by_cases hqr : q = r
      · subst hqr
        exact ((congrFun (mj_I_other (a := 43) (b := 41) (by decide)) q).trans ((congrFun (mj_I_other (a := 42) (b := 41) (by decide)) q).trans (mj_I_at _ 41 q _))).trans (if_pos (Nat.lt_succ_self q)).symm
      · rw [mj_ifs hqr]
        exact (congrFun (mj_I_other (a := 43) (b := 41) (by decide)) q).trans ((congrFun (mj_I_other (a := 42) (b := 41) (by decide)) q).trans ((mj_I_ne (a := 41) hqr).trans ((congrFun (mj_I_other (a := 39) (b := 41) (by decide)) q).trans (i41 q))))
    · by_cases hqr : q = r
      · subst hqr
        exact ((congrFun (mj_I_other (a := 43) (b := 42) (by decide)) q).trans (mj_I_at _ 42 q _)).trans (if_pos (Nat.lt_succ_self q)).symm
      · rw [mj_ifs hqr]
        exact (congrFun (mj_I_other (a := 43) (b := 42) (by decide)) q).trans ((mj_I_ne (a := 42) hqr).trans ((congrFun (mj_I_other (a := 41) (b := 42) (by decide)) q).trans ((congrFun (mj_I_other (a := 39) (b := 42) (by decide)) q).trans (i42 q))))
    · by_cases hqr : q = r
      · subst hqr
        exact (mj_I_at _ 43 q _).trans (if_pos (Nat.lt_succ_self q)).symm
      · rw [mj_ifs hqr]
        exact (mj_I_ne (a := 43) hqr).trans ((congrFun (mj_I_other (a := 42) (b := 43) (by decide)) q).trans ((congrFun (mj_I_other (a := 41) (b := 43) (by decide)) q).trans ((congrFun (mj_I_other (a := 39) (b := 43) (by decide)) q).trans (i43 q))))
end
section
theorem f_129_82 : mj_fetch 129 82 = some (.aload_n 0, 0, 0) := by decide +kernel
theorem f_129_83 : mj_fetch 129 83 = some (.getfield 140, 11, 14) := by decide +kernel
theorem f_129_86 : mj_fetch 129 86 = some (.bipush 60, 0, 0) := by decide +kernel
theorem f_129_88 : mj_fetch 129 88 = some (.if_icmp .ge 51, 0, 0) := by decide +kernel
theorem f_129_91 : mj_fetch 129 91 = some (.aload_n 0, 0, 0) := by decide +kernel
theorem f_129_92 : mj_fetch 129 92 = some (.getfield 140, 11, 14) := by decide +kernel
theorem f_129_95 : mj_fetch 129 95 = some (.ifCond .eq 17, 0, 0) := by decide +kernel
theorem f_129_98 : mj_fetch 129 98 = some (.aload_n 0, 0, 0) := by decide +kernel
theorem f_129_99 : mj_fetch 129 99 = some (.iload 5, 0, 0) := by decide +kernel
theorem f_129_101 : mj_fetch 129 101 = some (.invokevirtual 143, 128, 0) := by decide +kernel
theorem f_129_104 : mj_fetch 129 104 = some (.bipush 20, 0, 0) := by decide +kernel
theorem f_129_106 : mj_fetch 129 106 = some (.iload 4, 0, 0) := by decide +kernel
theorem f_129_108 : mj_fetch 129 108 = some (.imul, 0, 0) := by decide +kernel
theorem f_129_109 : mj_fetch 129 109 = some (.if_icmp .ge 30, 0, 0) := by decide +kernel
theorem f_129_112 : mj_fetch 129 112 = some (.aload_n 0, 0, 0) := by decide +kernel
theorem f_129_113 : mj_fetch 129 113 = some (.iload_n 1, 0, 0) := by decide +kernel
theorem f_129_114 : mj_fetch 129 114 = some (.iload_n 2, 0, 0) := by decide +kernel
theorem f_129_115 : mj_fetch 129 115 = some (.iconst 0, 0, 0) := by decide +kernel
theorem f_129_116 : mj_fetch 129 116 = some (.invokestatic 137, 125, 0) := by decide +kernel
theorem f_129_119 : mj_fetch 129 119 = some (.iload_n 3, 0, 0) := by decide +kernel
theorem f_129_120 : mj_fetch 129 120 = some (.imul, 0, 0) := by decide +kernel
theorem f_129_121 : mj_fetch 129 121 = some (.iload_n 3, 0, 0) := by decide +kernel
theorem f_129_122 : mj_fetch 129 122 = some (.iconst 0, 0, 0) := by decide +kernel
theorem f_129_123 : mj_fetch 129 123 = some (.invokevirtual 147, 127, 0) := by decide +kernel
theorem f_129_126 : mj_fetch 129 126 = some (.aload_n 0, 0, 0) := by decide +kernel
theorem f_129_127 : mj_fetch 129 127 = some (.dup, 0, 0) := by decide +kernel
theorem f_129_128 : mj_fetch 129 128 = some (.getfield 140, 11, 14) := by decide +kernel
theorem f_129_131 : mj_fetch 129 131 = some (.iconst 1, 0, 0) := by decide +kernel
theorem f_129_132 : mj_fetch 129 132 = some (.iadd, 0, 0) := by decide +kernel
theorem f_129_133 : mj_fetch 129 133 = some (.putfield 140, 11, 14) := by decide +kernel
theorem f_129_136 : mj_fetch 129 136 = some (.goto (-54), 0, 0) := by decide +kernel
theorem f_129_165 : mj_fetch 129 165 = some (.iload 6, 0, 0) := by decide +kernel
theorem f_129_167 : mj_fetch 129 167 = some (.iconst 5, 0, 0) := by decide +kernel
theorem f_129_168 : mj_fetch 129 168 = some (.if_icmp .ge 19, 0, 0) := by decide +kernel
theorem f_129_171 : mj_fetch 129 171 = some (.aload_n 0, 0, 0) := by decide +kernel
theorem f_129_172 : mj_fetch 129 172 = some (.iload_n 1, 0, 0) := by decide +kernel
theorem f_129_173 : mj_fetch 129 173 = some (.iconst 0, 0, 0) := by decide +kernel
theorem f_129_174 : mj_fetch 129 174 = some (.iconst 2, 0, 0) := by decide +kernel
theorem f_129_175 : mj_fetch 129 175 = some (.iload_n 3, 0, 0) := by decide +kernel
theorem f_129_176 : mj_fetch 129 176 = some (.imul, 0, 0) := by decide +kernel
theorem f_129_177 : mj_fetch 129 177 = some (.iconst 0, 0, 0) := by decide +kernel
theorem f_129_178 : mj_fetch 129 178 = some (.invokevirtual 147, 127, 0) := by decide +kernel
theorem f_129_181 : mj_fetch 129 181 = some (.iinc 6 1, 0, 0) := by decide +kernel
theorem f_129_184 : mj_fetch 129 184 = some (.goto (-19), 0, 0) := by decide +kernel
theorem f_129_190 : mj_fetch 129 190 = some (.iload 6, 0, 0) := by decide +kernel
theorem f_129_192 : mj_fetch 129 192 = some (.bipush 30, 0, 0) := by decide +kernel
theorem f_129_194 : mj_fetch 129 194 = some (.if_icmp .ge 17, 0, 0) := by decide +kernel
theorem f_129_197 : mj_fetch 129 197 = some (.aload_n 0, 0, 0) := by decide +kernel
theorem f_129_198 : mj_fetch 129 198 = some (.iload_n 1, 0, 0) := by decide +kernel
theorem f_129_199 : mj_fetch 129 199 = some (.iconst 0, 0, 0) := by decide +kernel
theorem f_129_200 : mj_fetch 129 200 = some (.iconst 0, 0, 0) := by decide +kernel
theorem f_129_201 : mj_fetch 129 201 = some (.iconst 1, 0, 0) := by decide +kernel
theorem f_129_202 : mj_fetch 129 202 = some (.invokevirtual 147, 127, 0) := by decide +kernel
theorem f_129_205 : mj_fetch 129 205 = some (.iinc 6 1, 0, 0) := by decide +kernel
theorem f_129_208 : mj_fetch 129 208 = some (.goto (-18), 0, 0) := by decide +kernel
theorem f_129_77 : mj_fetch 129 77 = some (.aload_n 0, 0, 0) := by decide +kernel
theorem f_129_78 : mj_fetch 129 78 = some (.iconst 0, 0, 0) := by decide +kernel
theorem f_129_79 : mj_fetch 129 79 = some (.putfield 140, 11, 14) := by decide +kernel
theorem f_129_139 : mj_fetch 129 139 = some (.aload_n 0, 0, 0) := by decide +kernel
theorem f_129_140 : mj_fetch 129 140 = some (.aload_n 0, 0, 0) := by decide +kernel
theorem f_129_141 : mj_fetch 129 141 = some (.iload 5, 0, 0) := by decide +kernel
theorem f_129_143 : mj_fetch 129 143 = some (.invokevirtual 143, 128, 0) := by decide +kernel
theorem f_129_146 : mj_fetch 129 146 = some (.bipush 20, 0, 0) := by decide +kernel
theorem f_129_148 : mj_fetch 129 148 = some (.iload 4, 0, 0) := by decide +kernel
theorem f_129_150 : mj_fetch 129 150 = some (.imul, 0, 0) := by decide +kernel
theorem f_129_151 : mj_fetch 129 151 = some (.if_icmp .ge 7, 0, 0) := by decide +kernel
theorem f_129_154 : mj_fetch 129 154 = some (.iconst 1, 0, 0) := by decide +kernel
theorem f_129_155 : mj_fetch 129 155 = some (.goto 4, 0, 0) := by decide +kernel
theorem f_129_158 : mj_fetch 129 158 = some (.iconst 0, 0, 0) := by decide +kernel
theorem f_129_159 : mj_fetch 129 159 = some (.putfield 151, 11, 15) := by decide +kernel
theorem f_129_162 : mj_fetch 129 162 = some (.iconst 0, 0, 0) := by decide +kernel
theorem f_129_163 : mj_fetch 129 163 = some (.istore 6, 0, 0) := by decide +kernel
theorem f_129_0 : mj_fetch 129 0 = some (.iload_n 2, 0, 0) := by decide +kernel
theorem f_129_1 : mj_fetch 129 1 = some (.iconst 1, 0, 0) := by decide +kernel
theorem f_129_2 : mj_fetch 129 2 = some (.invokestatic 137, 125, 0) := by decide +kernel
theorem f_129_5 : mj_fetch 129 5 = some (.istore_n 3, 0, 0) := by decide +kernel
theorem f_129_6 : mj_fetch 129 6 = some (.iload_n 2, 0, 0) := by decide +kernel
theorem f_129_7 : mj_fetch 129 7 = some (.iconst 2, 0, 0) := by decide +kernel
theorem f_129_8 : mj_fetch 129 8 = some (.invokestatic 137, 125, 0) := by decide +kernel
theorem f_129_11 : mj_fetch 129 11 = some (.istore 4, 0, 0) := by decide +kernel
theorem f_129_13 : mj_fetch 129 13 = some (.aload_n 0, 0, 0) := by decide +kernel
theorem f_129_14 : mj_fetch 129 14 = some (.getfield 17, 11, 4) := by decide +kernel
theorem f_129_17 : mj_fetch 129 17 = some (.bipush 9, 0, 0) := by decide +kernel
theorem f_129_19 : mj_fetch 129 19 = some (.iload_n 1, 0, 0) := by decide +kernel
theorem f_129_20 : mj_fetch 129 20 = some (.imul, 0, 0) := by decide +kernel
theorem f_129_21 : mj_fetch 129 21 = some (.bipush 8, 0, 0) := by decide +kernel
theorem f_129_23 : mj_fetch 129 23 = some (.iadd, 0, 0) := by decide +kernel
theorem f_129_24 : mj_fetch 129 24 = some (.iaload, 0, 0) := by decide +kernel
theorem f_129_25 : mj_fetch 129 25 = some (.istore 5, 0, 0) := by decide +kernel
theorem f_129_27 : mj_fetch 129 27 = some (.iconst 0, 0, 0) := by decide +kernel
theorem f_129_28 : mj_fetch 129 28 = some (.istore 6, 0, 0) := by decide +kernel
theorem f_129_187 : mj_fetch 129 187 = some (.iconst 0, 0, 0) := by decide +kernel
theorem f_129_188 : mj_fetch 129 188 = some (.istore 6, 0, 0) := by decide +kernel
theorem f_129_211 : mj_fetch 129 211 = some (.return_, 0, 0) := by decide +kernel
/-- a heap within a weld: the rings' rows, and the two fields of the weld -/
def WI (h g : mj_H) (T : tk_R) (a b : Int32) : Prop := SM g ∧ Rw h g [33, 39, 40, 41, 42, 43] ∧ (∀ q, ¬ q = 14 → ¬ q = 15 → mj_I g 33 q = mj_I h 33 q) ∧ mT g = T ∧ mj_I g 33 14 = a ∧ mj_I g 33 15 = b
theorem mT_set {g : mj_H} {i : Nat} {x : Int32} : mT (mj_setI g 33 i x) = mT g := by
  unfold mT
  rw [mj_I_other (by decide), mj_I_other (by decide), mj_I_other (by decide), mj_I_other (by decide)]
theorem WI.set14 {h g : mj_H} {T : tk_R} {a b x : Int32} (w : WI h g T a b) : WI h (mj_setI g 33 14 x) T x b :=
  ⟨w.1, w.2.1.set (by decide), fun q h1 h2 => (mj_I_ne h1).trans (w.2.2.1 q h1 h2), mT_set.trans w.2.2.2.1, mj_I_at _ _ _ _, (mj_I_ne (by decide)).trans w.2.2.2.2.2⟩
theorem WI.set15 {h g : mj_H} {T : tk_R} {a b x : Int32} (w : WI h g T a b) : WI h (mj_setI g 33 15 x) T a x :=
  ⟨w.1, w.2.1.set (by decide), fun q h1 h2 => (mj_I_ne h2).trans (w.2.2.1 q h1 h2), mT_set.trans w.2.2.2.1, (mj_I_ne (by decide)).trans w.2.2.2.2.1, mj_I_at _ _ _ _⟩
theorem WI.m {h g : mj_H} {T : tk_R} {a b : Int32} (w : WI h g T a b) (j : Nat) : mM g j = mM h j := by
  unfold mM
  rw [w.2.1.i (by decide)]
theorem WI.tick {h g g1 : mj_H} {T T1 : tk_R} {a b : Int32} (w : WI h g T a b) (r : Rw g g1 [39, 40, 41, 42, 43]) (e : mT g1 = T1) : WI h g1 T1 a b := by
  have e33 : mj_I g1 33 = mj_I g 33 := r.i (by decide)
  exact ⟨r.sm w.1, w.2.1.trans (r.mono (by decide)), fun q h1 h2 => by rw [e33]; exact w.2.2.1 q h1 h2, e, by rw [e33]; exact w.2.2.2.2.1, by rw [e33]; exact w.2.2.2.2.2⟩

set_option maxRecDepth 20000 in
set_option maxHeartbeats 4000000 in
theorem weld_l1 {h : mj_H} {j rg : Nat} (hj : j < 20) (e_rg : mj_I h 36 (9 * j + 8) = nI rg) (hrg : 2 ≤ rg ∧ rg ≤ 6) (h1 : ¬ mj_I h 36 (9 * j + 1) = 0) (h4 : ¬ mj_I h 36 (9 * j + 4) = 0) {z : Nat} (hz : z < 729) {b : Int32} {Q : Option Value → mj_H → Prop} (st : tk_R → tk_R) (hst : st = tk (mM h j) rg (nI ((mm_pt z 0 + 1) * (mm_pt z 1 + 1))) (nI (mm_pt z 1 + 1)) 0) (X : Nat × tk_R)
    (K : ∀ g : mj_H, WI h g X.2 (nI X.1) b → mx 2 129 139 [.ref 33, .int (nI j), .int (nI z), .int (nI (mm_pt z 1 + 1)), .int (nI (mm_pt z 2 + 1)), .int (nI rg), .int (nI 6)] [] g Q) :
    ∀ (n k : Nat) (g : mj_H) (T : tk_R), k + n = 60 → WI h g T (nI k) b → wd_rub st (wd_lt rg z) n k T = X → mx 2 129 82 [.ref 33, .int (nI j), .int (nI z), .int (nI (mm_pt z 1 + 1)), .int (nI (mm_pt z 2 + 1)), .int (nI rg), .int (nI 6)] [] g Q := by
  have p1 := mm_pt_lt z 1 hz
  have p2 := mm_pt_lt z 2 hz
  intro n
  induction n with
  | zero =>
    intro k g T hk hw e
    have hkk : k = 60 := by omega
    subst hkk
    have S := hw.1
    have e_k := hw.2.2.2.2.1
    refine x_aload_n f_129_82 rfl ?_
    refine x_getI f_129_83 S.k33 (by decide) ?_
    refine x_topi (w := nI 60) e_k ?_
    refine x_bipush (v := nI 60) f_129_86 (by decide) ?_
    refine x_icmpN_ge (t := 139) f_129_88 (by decide) (by decide) (by decide) (fun c_1 => ?_) (fun c_1 => by omega)
    refine K g ?_
    rw [← e]
    exact hw
  | succ n ih =>
    intro k g T hk hw e
    have S := hw.1
    have e_k := hw.2.2.2.2.1
    have e36 : mj_I g 36 = mj_I h 36 := hw.2.1.i (by decide)
    refine x_aload_n f_129_82 rfl ?_
    refine x_getI f_129_83 S.k33 (by decide) ?_
    refine x_topi (w := nI k) e_k ?_
    refine x_bipush (v := nI 60) f_129_86 (by decide) ?_
    refine x_icmpN_ge (t := 139) f_129_88 (by decide) (by omega) (by decide) (fun c_1 => by omega) (fun c_1 => ?_)
    refine x_aload_n f_129_91 rfl ?_
    refine x_getI f_129_92 S.k33 (by decide) ?_
    refine x_topi (w := nI k) e_k ?_
    refine x_ifN_eq (t := 112) f_129_95 (by decide) (by omega) (fun c_0 => ?_) (fun c_0 => ?_)
    · refine x_aload_n f_129_112 rfl ?_
      refine x_iload_n f_129_113 rfl ?_
      refine x_iload_n f_129_114 rfl ?_
      refine x_iconst (v := nI 0) f_129_115 (by decide) ?_
      refine x_callSe f_129_116 (c_part _ _ _ hz (by omega)) (by omega) rfl rfl rfl (Nat.le_of_ble_eq_true rfl) rfl ?_
      refine x_iload_n f_129_119 rfl ?_
      refine x_imulN f_129_120 ?_
      refine x_iload_n f_129_121 rfl ?_
      refine x_iconst (v := nI 0) f_129_122 (by decide) ?_
      refine x_callV f_129_123 (c_tick S hj (by rw [e36]; exact e_rg) hrg (by rw [e36]; exact h1) (by rw [e36]; exact h4) _ _ (c := 0) (by decide)) (by omega) S.k33 (by decide) rfl rfl (Nat.le_of_ble_eq_true rfl) rfl ?_
      rintro _ g1 ⟨rfl, hR1, hT1⟩
      have e_k : mj_I g1 33 14 = nI k := (congrFun (hR1.i (by decide)) 14).trans e_k
      have S : SM g1 := hR1.sm S
      refine x_aload_n f_129_126 rfl ?_
      refine x_dup f_129_127 rfl ?_
      refine x_getI f_129_128 S.k33 (by decide) ?_
      refine x_topi (w := nI k) e_k ?_
      refine x_iconst (v := nI 1) f_129_131 (by decide) ?_
      refine x_iaddN f_129_132 ?_
      refine x_putI f_129_133 S.k33 (by decide) ?_
      refine x_goto (t := 82) f_129_136 (by decide) ?_
      have hq : wd_rub st (wd_lt rg z) (n + 1) k T = wd_rub st (wd_lt rg z) n (k + 1) (st T) := by
        show (if k = 0 ∨ wd_lt rg z T = true then _ else _) = _
        rw [if_pos (Or.inl c_0)]
      refine ih (k + 1) _ (st T) (by omega) (WI.set14 (hw.tick hR1 ?_)) (hq.symm.trans e)
      rw [hT1, hw.m j, hw.2.2.2.1, hst]
    · refine x_aload_n f_129_98 rfl ?_
      refine x_iload f_129_99 rfl ?_
      refine x_callVe f_129_101 (c_outAll S (by omega)) (by omega) S.k33 (by decide) rfl rfl (Nat.le_of_ble_eq_true rfl) rfl ?_
      refine x_bipush (v := nI 20) f_129_104 (by decide) ?_
      refine x_iload f_129_106 rfl ?_
      refine x_imulN f_129_108 ?_
      refine x_icmp_ge (t := 139) f_129_109 (by decide) (fun c_g => ?_) (fun c_g => ?_)
      · refine K g ?_
        have hlt : wd_lt rg z T = false := by
          unfold wd_lt
          rw [← hw.2.2.2.1]
          exact decide_eq_false (Int32.not_lt.mpr c_g)
        have hq : wd_rub st (wd_lt rg z) (n + 1) k T = (k, T) := by
          show (if k = 0 ∨ wd_lt rg z T = true then _ else _) = _
          rw [if_neg (fun q => q.elim c_0 (fun z => by rw [hlt] at z; cases z))]
        rw [hq] at e
        rw [← e]
        exact hw
      · refine x_aload_n f_129_112 rfl ?_
        refine x_iload_n f_129_113 rfl ?_
        refine x_iload_n f_129_114 rfl ?_
        refine x_iconst (v := nI 0) f_129_115 (by decide) ?_
        refine x_callSe f_129_116 (c_part _ _ _ hz (by omega)) (by omega) rfl rfl rfl (Nat.le_of_ble_eq_true rfl) rfl ?_
        refine x_iload_n f_129_119 rfl ?_
        refine x_imulN f_129_120 ?_
        refine x_iload_n f_129_121 rfl ?_
        refine x_iconst (v := nI 0) f_129_122 (by decide) ?_
        refine x_callV f_129_123 (c_tick S hj (by rw [e36]; exact e_rg) hrg (by rw [e36]; exact h1) (by rw [e36]; exact h4) _ _ (c := 0) (by decide)) (by omega) S.k33 (by decide) rfl rfl (Nat.le_of_ble_eq_true rfl) rfl ?_
        rintro _ g1 ⟨rfl, hR1, hT1⟩
        have e_k : mj_I g1 33 14 = nI k := (congrFun (hR1.i (by decide)) 14).trans e_k
        have S : SM g1 := hR1.sm S
        refine x_aload_n f_129_126 rfl ?_
        refine x_dup f_129_127 rfl ?_
        refine x_getI f_129_128 S.k33 (by decide) ?_
        refine x_topi (w := nI k) e_k ?_
        refine x_iconst (v := nI 1) f_129_131 (by decide) ?_
        refine x_iaddN f_129_132 ?_
        refine x_putI f_129_133 S.k33 (by decide) ?_
        refine x_goto (t := 82) f_129_136 (by decide) ?_
        have hlt : wd_lt rg z T = true := by
          unfold wd_lt
          rw [← hw.2.2.2.1]
          exact decide_eq_true (Int32.not_le.mp c_g)
        have hq : wd_rub st (wd_lt rg z) (n + 1) k T = wd_rub st (wd_lt rg z) n (k + 1) (st T) := by
          show (if k = 0 ∨ wd_lt rg z T = true then _ else _) = _
          rw [if_pos (Or.inr hlt)]
        refine ih (k + 1) _ (st T) (by omega) (WI.set14 (hw.tick hR1 ?_)) (hq.symm.trans e)
        rw [hT1, hw.m j, hw.2.2.2.1, hst]
set_option maxRecDepth 20000 in
set_option maxHeartbeats 4000000 in
theorem weld_l2 {h : mj_H} {j rg : Nat} (hj : j < 20) (e_rg : mj_I h 36 (9 * j + 8) = nI rg) (hrg : 2 ≤ rg ∧ rg ≤ 6) (h1 : ¬ mj_I h 36 (9 * j + 1) = 0) (h4 : ¬ mj_I h 36 (9 * j + 4) = 0) {z : Nat} (hz : z < 729) {a b : Int32} {Q : Option Value → mj_H → Prop} (st : tk_R → tk_R) (hst : st = tk (mM h j) rg (nI 0) (nI (2 * (mm_pt z 1 + 1))) 0) (X : tk_R)
    (K : ∀ g : mj_H, WI h g X a b → mx 2 129 187 [.ref 33, .int (nI j), .int (nI z), .int (nI (mm_pt z 1 + 1)), .int (nI (mm_pt z 2 + 1)), .int (nI rg), .int (nI 5)] [] g Q) :
    ∀ (n i : Nat) (g : mj_H) (T : tk_R), i + n = 5 → WI h g T a b → wd_it st n T = X → mx 2 129 165 [.ref 33, .int (nI j), .int (nI z), .int (nI (mm_pt z 1 + 1)), .int (nI (mm_pt z 2 + 1)), .int (nI rg), .int (nI i)] [] g Q := by
  have p1 := mm_pt_lt z 1 hz
  intro n
  induction n with
  | zero =>
    intro i g T hk hw e
    have hkk : i = 5 := by omega
    subst hkk
    have S := hw.1
    refine x_iload f_129_165 rfl ?_
    refine x_iconst (v := nI 5) f_129_167 (by decide) ?_
    refine x_icmpN_ge (t := 187) f_129_168 (by decide) (by decide) (by decide) (fun c_1 => ?_) (fun c_1 => by omega)
    refine K g ?_
    rw [← e]
    exact hw
  | succ n ih =>
    intro i g T hk hw e
    have S := hw.1
    have e36 : mj_I g 36 = mj_I h 36 := hw.2.1.i (by decide)
    refine x_iload f_129_165 rfl ?_
    refine x_iconst (v := nI 5) f_129_167 (by decide) ?_
    refine x_icmpN_ge (t := 187) f_129_168 (by decide) (by omega) (by decide) (fun c_1 => by omega) (fun c_1 => ?_)
    refine x_aload_n f_129_171 rfl ?_
    refine x_iload_n f_129_172 rfl ?_
    refine x_iconst (v := nI 0) f_129_173 (by decide) ?_
    refine x_iconst (v := nI 2) f_129_174 (by decide) ?_
    refine x_iload_n f_129_175 rfl ?_
    refine x_imulN f_129_176 ?_
    refine x_iconst (v := nI 0) f_129_177 (by decide) ?_
    refine x_callV f_129_178 (c_tick S hj (by rw [e36]; exact e_rg) hrg (by rw [e36]; exact h1) (by rw [e36]; exact h4) _ _ (c := 0) (by decide)) (by omega) S.k33 (by decide) rfl rfl (Nat.le_of_ble_eq_true rfl) rfl ?_
    rintro _ g1 ⟨rfl, hR1, hT1⟩
    refine x_iinc (v := nI (i + 1)) (ls1 := [.ref 33, .int (nI j), .int (nI z), .int (nI (mm_pt z 1 + 1)), .int (nI (mm_pt z 2 + 1)), .int (nI rg), .int (nI (i + 1))]) f_129_181 rfl (by exact nI_add _ 1) rfl ?_
    refine x_goto (t := 165) f_129_184 (by decide) ?_
    refine ih (i + 1) g1 (st T) (by omega) (hw.tick hR1 ?_) e
    rw [hT1, hw.m j, hw.2.2.2.1, hst]
set_option maxRecDepth 20000 in
set_option maxHeartbeats 4000000 in
theorem weld_l3 {h : mj_H} {j rg : Nat} (hj : j < 20) (e_rg : mj_I h 36 (9 * j + 8) = nI rg) (hrg : 2 ≤ rg ∧ rg ≤ 6) (h1 : ¬ mj_I h 36 (9 * j + 1) = 0) (h4 : ¬ mj_I h 36 (9 * j + 4) = 0) {z : Nat} (hz : z < 729) {a b : Int32} {Q : Option Value → mj_H → Prop} (st : tk_R → tk_R) (hst : st = tk (mM h j) rg (nI 0) (nI 0) 1) (X : tk_R)
    (K : ∀ g : mj_H, WI h g X a b → mx 2 129 211 [.ref 33, .int (nI j), .int (nI z), .int (nI (mm_pt z 1 + 1)), .int (nI (mm_pt z 2 + 1)), .int (nI rg), .int (nI 30)] [] g Q) :
    ∀ (n i : Nat) (g : mj_H) (T : tk_R), i + n = 30 → WI h g T a b → wd_it st n T = X → mx 2 129 190 [.ref 33, .int (nI j), .int (nI z), .int (nI (mm_pt z 1 + 1)), .int (nI (mm_pt z 2 + 1)), .int (nI rg), .int (nI i)] [] g Q := by
  have p1 := mm_pt_lt z 1 hz
  intro n
  induction n with
  | zero =>
    intro i g T hk hw e
    have hkk : i = 30 := by omega
    subst hkk
    have S := hw.1
    refine x_iload f_129_190 rfl ?_
    refine x_bipush (v := nI 30) f_129_192 (by decide) ?_
    refine x_icmpN_ge (t := 211) f_129_194 (by decide) (by decide) (by decide) (fun c_1 => ?_) (fun c_1 => by omega)
    refine K g ?_
    rw [← e]
    exact hw
  | succ n ih =>
    intro i g T hk hw e
    have S := hw.1
    have e36 : mj_I g 36 = mj_I h 36 := hw.2.1.i (by decide)
    refine x_iload f_129_190 rfl ?_
    refine x_bipush (v := nI 30) f_129_192 (by decide) ?_
    refine x_icmpN_ge (t := 211) f_129_194 (by decide) (by omega) (by decide) (fun c_1 => by omega) (fun c_1 => ?_)
    refine x_aload_n f_129_197 rfl ?_
    refine x_iload_n f_129_198 rfl ?_
    refine x_iconst (v := nI 0) f_129_199 (by decide) ?_
    refine x_iconst (v := nI 0) f_129_200 (by decide) ?_
    refine x_iconst (v := nI 1) f_129_201 (by decide) ?_
    refine x_callV f_129_202 (c_tick S hj (by rw [e36]; exact e_rg) hrg (by rw [e36]; exact h1) (by rw [e36]; exact h4) _ _ (c := 1) (by decide)) (by omega) S.k33 (by decide) rfl rfl (Nat.le_of_ble_eq_true rfl) rfl ?_
    rintro _ g1 ⟨rfl, hR1, hT1⟩
    refine x_iinc (v := nI (i + 1)) (ls1 := [.ref 33, .int (nI j), .int (nI z), .int (nI (mm_pt z 1 + 1)), .int (nI (mm_pt z 2 + 1)), .int (nI rg), .int (nI (i + 1))]) f_129_205 rfl (by exact nI_add _ 1) rfl ?_
    refine x_goto (t := 190) f_129_208 (by decide) ?_
    refine ih (i + 1) g1 (st T) (by omega) (hw.tick hR1 ?_) e
    rw [hT1, hw.m j, hw.2.2.2.1, hst]
/-- the rings' rows hold nothing behind their six places -/
def ZR (h : mj_H) : Prop := ∀ a ∈ [39, 41, 42, 43], ∀ q, 6 ≤ q → mj_I h a q = 0
set_option maxRecDepth 20000 in
theorem c_weld {h : mj_H} (S : SM h) (Z : ZR h) {j rg : Nat} (hj : j < 20) (e_rg : mj_I h 36 (9 * j + 8) = nI rg) (hrg : 2 ≤ rg ∧ rg ≤ 6) (h1 : ¬ mj_I h 36 (9 * j + 1) = 0) (h4 : ¬ mj_I h 36 (9 * j + 4) = 0) {z : Nat} (hz : z < 729) : mxc 2 129 [.ref 33, .int (nI j), .int (nI z)] h (fun r h' => r = none ∧ WI h h' (wd_T (mM h j) rg z) (nI (wd_1 (mM h j) rg z).1) (if wd_lt rg z (wd_1 (mM h j) rg z).2 = true then nI 1 else nI 0)) := by
  have p1 := mm_pt_lt z 1 hz
  have p2 := mm_pt_lt z 2 hz
  show mx 2 129 0 [.ref 33, .int (nI j), .int (nI z), mj_unset, mj_unset, mj_unset, mj_unset] [] h _
  refine x_iload_n f_129_0 rfl ?_
  refine x_iconst (v := nI 1) f_129_1 (by decide) ?_
  refine x_callSe f_129_2 (c_part _ _ _ hz (by omega)) (by omega) rfl rfl rfl (Nat.le_of_ble_eq_true rfl) rfl ?_
  refine x_istore_n (ls1 := [.ref 33, .int (nI j), .int (nI z), .int (nI (mm_pt z 1 + 1)), mj_unset, mj_unset, mj_unset]) f_129_5 (Nat.le_of_ble_eq_true rfl) rfl ?_
  refine x_iload_n f_129_6 rfl ?_
  refine x_iconst (v := nI 2) f_129_7 (by decide) ?_
  refine x_callSe f_129_8 (c_part _ _ _ hz (by omega)) (by omega) rfl rfl rfl (Nat.le_of_ble_eq_true rfl) rfl ?_
  refine x_istore (ls1 := [.ref 33, .int (nI j), .int (nI z), .int (nI (mm_pt z 1 + 1)), .int (nI (mm_pt z 2 + 1)), mj_unset, mj_unset]) f_129_11 (Nat.le_of_ble_eq_true rfl) rfl ?_
  refine x_aload_n f_129_13 rfl ?_
  refine x_getR f_129_14 S.k33 (by decide) S.r4 ?_
  refine x_bipush (v := nI 9) f_129_17 (by decide) ?_
  refine x_iload_n f_129_19 rfl ?_
  refine x_imulN f_129_20 ?_
  refine x_bipush (v := nI 8) f_129_21 (by decide) ?_
  refine x_iaddN f_129_23 ?_
  refine x_iald (j := ((9 * j) + 8)) f_129_24 S.k36 (by omega) (by decide) ?_
  refine x_topi (w := nI rg) e_rg ?_
  refine x_istore (ls1 := [.ref 33, .int (nI j), .int (nI z), .int (nI (mm_pt z 1 + 1)), .int (nI (mm_pt z 2 + 1)), .int (nI rg), mj_unset]) f_129_25 (Nat.le_of_ble_eq_true rfl) rfl ?_
  refine x_iconst (v := nI 0) f_129_27 (by decide) ?_
  refine x_istore (ls1 := [.ref 33, .int (nI j), .int (nI z), .int (nI (mm_pt z 1 + 1)), .int (nI (mm_pt z 2 + 1)), .int (nI rg), .int (nI 0)]) f_129_28 (Nat.le_of_ble_eq_true rfl) rfl ?_
  refine weld_l0 (j := j) (z := z) (rg := rg) ?_ 6 0 h (by omega) S (Rw.rf _ _) (fun _ => rfl) (fun q => by rw [if_neg (by omega)]) (fun q => by rw [if_neg (by omega)]) (fun q => by rw [if_neg (by omega)]) (fun q => by rw [if_neg (by omega)])
  intro g S hR i33 i39 i41 i42 i43
  refine x_aload_n f_129_77 rfl ?_
  refine x_iconst (v := nI 0) f_129_78 (by decide) ?_
  refine x_putI f_129_79 S.k33 (by decide) ?_
  refine weld_l1 hj e_rg hrg h1 h4 hz (b := mj_I h 33 15) _ rfl (wd_1 (mM h j) rg z) ?_ 60 0 _ wd_0 (by omega) ⟨S, hR.set (by decide), fun q h1 _ => (mj_I_ne h1).trans (i33 q), ?_, mj_I_at _ _ _ _, (mj_I_ne (by decide)).trans (i33 15)⟩ rfl
  · intro g hw
    have S := hw.1
    refine x_aload_n f_129_139 rfl ?_
    refine x_aload_n f_129_140 rfl ?_
    refine x_iload f_129_141 rfl ?_
    refine x_callVe f_129_143 (c_outAll S (by omega)) (by omega) S.k33 (by decide) rfl rfl (Nat.le_of_ble_eq_true rfl) rfl ?_
    refine x_bipush (v := nI 20) f_129_146 (by decide) ?_
    refine x_iload f_129_148 rfl ?_
    refine x_imulN f_129_150 ?_
    refine x_icmp_ge (t := 158) f_129_151 (by decide) (fun c_1 => ?_) (fun c_1 => ?_)
    · refine x_iconst (v := nI 0) f_129_158 (by decide) ?_
      refine x_putZ f_129_159 S.k33 (by decide) (by decide) ?_
      refine x_iconst (v := nI 0) f_129_162 (by decide) ?_
      refine x_istore (ls1 := [.ref 33, .int (nI j), .int (nI z), .int (nI (mm_pt z 1 + 1)), .int (nI (mm_pt z 2 + 1)), .int (nI rg), .int (nI 0)]) f_129_163 (Nat.le_of_ble_eq_true rfl) rfl ?_
      refine weld_l2 hj e_rg hrg h1 h4 hz (a := nI (wd_1 (mM h j) rg z).1) (b := if wd_lt rg z (wd_1 (mM h j) rg z).2 = true then nI 1 else nI 0) _ rfl _ ?_ 5 0 _ (wd_1 (mM h j) rg z).2 (by omega) ?_ rfl
      · intro g hw
        refine x_iconst (v := nI 0) f_129_187 (by decide) ?_
        refine x_istore (ls1 := [.ref 33, .int (nI j), .int (nI z), .int (nI (mm_pt z 1 + 1)), .int (nI (mm_pt z 2 + 1)), .int (nI rg), .int (nI 0)]) f_129_188 (Nat.le_of_ble_eq_true rfl) rfl ?_
        refine weld_l3 hj e_rg hrg h1 h4 hz _ rfl _ ?_ 30 0 g _ (by omega) hw rfl
        intro g hw
        refine x_retV f_129_211 rfl ?_
        exact ⟨rfl, hw⟩
      · have hw2 := hw.set15 (x := nI 0)
        have hlt : wd_lt rg z (wd_1 (mM h j) rg z).2 = false := by
          unfold wd_lt
          rw [← hw.2.2.2.1]
          exact decide_eq_false (Int32.not_lt.mpr c_1)
        rw [hlt]
        exact hw2
    · refine x_iconst (v := nI 1) f_129_154 (by decide) ?_
      refine x_goto (t := 159) f_129_155 (by decide) ?_
      refine x_putZ f_129_159 S.k33 (by decide) (by decide) ?_
      refine x_iconst (v := nI 0) f_129_162 (by decide) ?_
      refine x_istore (ls1 := [.ref 33, .int (nI j), .int (nI z), .int (nI (mm_pt z 1 + 1)), .int (nI (mm_pt z 2 + 1)), .int (nI rg), .int (nI 0)]) f_129_163 (Nat.le_of_ble_eq_true rfl) rfl ?_
      refine weld_l2 hj e_rg hrg h1 h4 hz (a := nI (wd_1 (mM h j) rg z).1) (b := if wd_lt rg z (wd_1 (mM h j) rg z).2 = true then nI 1 else nI 0) _ rfl _ ?_ 5 0 _ (wd_1 (mM h j) rg z).2 (by omega) ?_ rfl
      · intro g hw
        refine x_iconst (v := nI 0) f_129_187 (by decide) ?_
        refine x_istore (ls1 := [.ref 33, .int (nI j), .int (nI z), .int (nI (mm_pt z 1 + 1)), .int (nI (mm_pt z 2 + 1)), .int (nI rg), .int (nI 0)]) f_129_188 (Nat.le_of_ble_eq_true rfl) rfl ?_
        refine weld_l3 hj e_rg hrg h1 h4 hz _ rfl _ ?_ 30 0 g _ (by omega) hw rfl
        intro g hw
        refine x_retV f_129_211 rfl ?_
        exact ⟨rfl, hw⟩
      · have hw2 := hw.set15 (x := nI 1)
        have hlt : wd_lt rg z (wd_1 (mM h j) rg z).2 = true := by
          unfold wd_lt
          rw [← hw.2.2.2.1]
          exact decide_eq_true (Int32.not_le.mp c_1)
        rw [hlt]
        exact hw2
  · refine mT_set.trans ?_
    unfold mT wd_0
    refine Prod.ext (funext fun q => ?_) (Prod.ext (funext fun q => ?_) (Prod.ext (funext fun q => ?_) (funext fun q => ?_)))
    · show mj_I g 39 q = if q < 6 then nI 20 else 0
      rw [i39]
      by_cases hq : q < 6
      · rw [if_pos hq, if_pos hq]
      · rw [if_neg hq, if_neg hq]; exact Z 39 (by decide) q (by omega)
    · show mj_I g 41 q = if q < 6 then nI 20 else 0
      rw [i41]
      by_cases hq : q < 6
      · rw [if_pos hq, if_pos hq]
      · rw [if_neg hq, if_neg hq]; exact Z 41 (by decide) q (by omega)
    · show mj_I g 42 q = 0
      rw [i42]
      by_cases hq : q < 6
      · rw [if_pos hq]; rfl
      · rw [if_neg hq]; exact Z 42 (by decide) q (by omega)
    · show mj_I g 43 q = 0
      rw [i43]
      by_cases hq : q < 6
      · rw [if_pos hq]; rfl
      · rw [if_neg hq]; exact Z 43 (by decide) q (by omega)
end
section
theorem f_130_28 : mj_fetch 130 28 = some (.iload 4, 0, 0) := by decide +kernel
theorem f_130_30 : mj_fetch 130 30 = some (.aload_n 0, 0, 0) := by decide +kernel
theorem f_130_31 : mj_fetch 130 31 = some (.getfield 17, 11, 4) := by decide +kernel
theorem f_130_34 : mj_fetch 130 34 = some (.iload_n 3, 0, 0) := by decide +kernel
theorem f_130_35 : mj_fetch 130 35 = some (.bipush 8, 0, 0) := by decide +kernel
theorem f_130_37 : mj_fetch 130 37 = some (.iadd, 0, 0) := by decide +kernel
theorem f_130_38 : mj_fetch 130 38 = some (.iaload, 0, 0) := by decide +kernel
theorem f_130_39 : mj_fetch 130 39 = some (.if_icmp .ge 77, 0, 0) := by decide +kernel
theorem f_130_42 : mj_fetch 130 42 = some (.aload_n 0, 0, 0) := by decide +kernel
theorem f_130_43 : mj_fetch 130 43 = some (.iload 4, 0, 0) := by decide +kernel
theorem f_130_45 : mj_fetch 130 45 = some (.putfield 159, 11, 17) := by decide +kernel
theorem f_130_48 : mj_fetch 130 48 = some (.aload_n 0, 0, 0) := by decide +kernel
theorem f_130_49 : mj_fetch 130 49 = some (.getfield 32, 11, 11) := by decide +kernel
theorem f_130_52 : mj_fetch 130 52 = some (.iload 4, 0, 0) := by decide +kernel
theorem f_130_54 : mj_fetch 130 54 = some (.iaload, 0, 0) := by decide +kernel
theorem f_130_55 : mj_fetch 130 55 = some (.aload_n 0, 0, 0) := by decide +kernel
theorem f_130_56 : mj_fetch 130 56 = some (.getfield 17, 11, 4) := by decide +kernel
theorem f_130_59 : mj_fetch 130 59 = some (.iload_n 3, 0, 0) := by decide +kernel
theorem f_130_60 : mj_fetch 130 60 = some (.iconst 5, 0, 0) := by decide +kernel
theorem f_130_61 : mj_fetch 130 61 = some (.iadd, 0, 0) := by decide +kernel
theorem f_130_62 : mj_fetch 130 62 = some (.iaload, 0, 0) := by decide +kernel
theorem f_130_63 : mj_fetch 130 63 = some (.if_icmp .ge 5, 0, 0) := by decide +kernel
theorem f_130_66 : mj_fetch 130 66 = some (.iconst 2, 0, 0) := by decide +kernel
theorem f_130_67 : mj_fetch 130 67 = some (.ireturn, 0, 0) := by decide +kernel
theorem f_130_68 : mj_fetch 130 68 = some (.aload_n 0, 0, 0) := by decide +kernel
theorem f_130_69 : mj_fetch 130 69 = some (.getfield 35, 11, 12) := by decide +kernel
theorem f_130_72 : mj_fetch 130 72 = some (.iload 4, 0, 0) := by decide +kernel
theorem f_130_74 : mj_fetch 130 74 = some (.iaload, 0, 0) := by decide +kernel
theorem f_130_75 : mj_fetch 130 75 = some (.aload_n 0, 0, 0) := by decide +kernel
theorem f_130_76 : mj_fetch 130 76 = some (.getfield 17, 11, 4) := by decide +kernel
theorem f_130_79 : mj_fetch 130 79 = some (.iload_n 3, 0, 0) := by decide +kernel
theorem f_130_80 : mj_fetch 130 80 = some (.bipush 6, 0, 0) := by decide +kernel
theorem f_130_82 : mj_fetch 130 82 = some (.iadd, 0, 0) := by decide +kernel
theorem f_130_83 : mj_fetch 130 83 = some (.iaload, 0, 0) := by decide +kernel
theorem f_130_84 : mj_fetch 130 84 = some (.if_icmp .ge 5, 0, 0) := by decide +kernel
theorem f_130_87 : mj_fetch 130 87 = some (.iconst 3, 0, 0) := by decide +kernel
theorem f_130_88 : mj_fetch 130 88 = some (.ireturn, 0, 0) := by decide +kernel
theorem f_130_89 : mj_fetch 130 89 = some (.aload_n 0, 0, 0) := by decide +kernel
theorem f_130_90 : mj_fetch 130 90 = some (.getfield 38, 11, 13) := by decide +kernel
theorem f_130_93 : mj_fetch 130 93 = some (.iload 4, 0, 0) := by decide +kernel
theorem f_130_95 : mj_fetch 130 95 = some (.iaload, 0, 0) := by decide +kernel
theorem f_130_96 : mj_fetch 130 96 = some (.aload_n 0, 0, 0) := by decide +kernel
theorem f_130_97 : mj_fetch 130 97 = some (.getfield 17, 11, 4) := by decide +kernel
theorem f_130_100 : mj_fetch 130 100 = some (.iload_n 3, 0, 0) := by decide +kernel
theorem f_130_101 : mj_fetch 130 101 = some (.bipush 7, 0, 0) := by decide +kernel
theorem f_130_103 : mj_fetch 130 103 = some (.iadd, 0, 0) := by decide +kernel
theorem f_130_104 : mj_fetch 130 104 = some (.iaload, 0, 0) := by decide +kernel
theorem f_130_105 : mj_fetch 130 105 = some (.if_icmp .le 5, 0, 0) := by decide +kernel
theorem f_130_108 : mj_fetch 130 108 = some (.iconst 4, 0, 0) := by decide +kernel
theorem f_130_109 : mj_fetch 130 109 = some (.ireturn, 0, 0) := by decide +kernel
theorem f_130_110 : mj_fetch 130 110 = some (.iinc 4 1, 0, 0) := by decide +kernel
theorem f_130_113 : mj_fetch 130 113 = some (.goto (-85), 0, 0) := by decide +kernel
theorem f_130_116 : mj_fetch 130 116 = some (.aload_n 0, 0, 0) := by decide +kernel
theorem f_130_117 : mj_fetch 130 117 = some (.iconst (-1), 0, 0) := by decide +kernel
theorem f_130_118 : mj_fetch 130 118 = some (.putfield 159, 11, 17) := by decide +kernel
theorem f_130_121 : mj_fetch 130 121 = some (.iconst 0, 0, 0) := by decide +kernel
theorem f_130_122 : mj_fetch 130 122 = some (.ireturn, 0, 0) := by decide +kernel
theorem f_130_0 : mj_fetch 130 0 = some (.aload_n 0, 0, 0) := by decide +kernel
theorem f_130_1 : mj_fetch 130 1 = some (.iload_n 1, 0, 0) := by decide +kernel
theorem f_130_2 : mj_fetch 130 2 = some (.iload_n 2, 0, 0) := by decide +kernel
theorem f_130_3 : mj_fetch 130 3 = some (.invokevirtual 155, 129, 0) := by decide +kernel
theorem f_130_6 : mj_fetch 130 6 = some (.aload_n 0, 0, 0) := by decide +kernel
theorem f_130_7 : mj_fetch 130 7 = some (.iconst (-1), 0, 0) := by decide +kernel
theorem f_130_8 : mj_fetch 130 8 = some (.putfield 159, 11, 17) := by decide +kernel
theorem f_130_11 : mj_fetch 130 11 = some (.aload_n 0, 0, 0) := by decide +kernel
theorem f_130_12 : mj_fetch 130 12 = some (.getfield 151, 11, 15) := by decide +kernel
theorem f_130_15 : mj_fetch 130 15 = some (.ifCond .eq 5, 0, 0) := by decide +kernel
theorem f_130_18 : mj_fetch 130 18 = some (.iconst 1, 0, 0) := by decide +kernel
theorem f_130_19 : mj_fetch 130 19 = some (.ireturn, 0, 0) := by decide +kernel
theorem f_130_20 : mj_fetch 130 20 = some (.bipush 9, 0, 0) := by decide +kernel
theorem f_130_22 : mj_fetch 130 22 = some (.iload_n 1, 0, 0) := by decide +kernel
theorem f_130_23 : mj_fetch 130 23 = some (.imul, 0, 0) := by decide +kernel
theorem f_130_24 : mj_fetch 130 24 = some (.istore_n 3, 0, 0) := by decide +kernel
theorem f_130_25 : mj_fetch 130 25 = some (.iconst 0, 0, 0) := by decide +kernel
theorem f_130_26 : mj_fetch 130 26 = some (.istore 4, 0, 0) := by decide +kernel
def jd_f (M : Nat → Int32) (T : tk_R) : Nat → Nat → Nat × Int32
  | 0, _ => (0, -1)
  | n + 1, r => if M 5 ≤ T.2.1 r then (if M 6 ≤ T.2.2.1 r then (if T.2.2.2 r ≤ M 7 then jd_f M T n (r + 1) else (4, nI r)) else (3, nI r)) else (2, nI r)
/-- the verdict of a weld, and the ring that it is by -/
def jd (M : Nat → Int32) (rg z : Nat) : Nat × Int32 := if wd_lt rg z (wd_1 M rg z).2 = true then (1, -1) else jd_f M (wd_T M rg z) rg 0
def ZT (T : tk_R) : Prop := ∀ q, 6 ≤ q → T.1 q = 0 ∧ T.2.1 q = 0 ∧ T.2.2.1 q = 0 ∧ T.2.2.2 q = 0
theorem ZT_tk {M : Nat → Int32} {rg : Nat} {work push : Int32} {c : Nat} {T : tk_R} (h : ZT T) (hrg : rg ≤ 6) : ZT (tk M rg work push c T) := by
  intro q hq
  obtain ⟨a1, a2, a3, a4⟩ := h q hq
  have hn : ¬ q < rg := by omega
  unfold tk
  simp only [if_neg hn]
  exact ⟨a1, a2, a3, a4⟩
theorem ZT_it {st : tk_R → tk_R} (hs : ∀ T, ZT T → ZT (st T)) : ∀ (n : Nat) (T : tk_R), ZT T → ZT (wd_it st n T)
  | 0, T, h => h
  | n + 1, T, h => ZT_it hs n (st T) (hs T h)
theorem ZT_rub {st : tk_R → tk_R} {lt : tk_R → Bool} (hs : ∀ T, ZT T → ZT (st T)) : ∀ (n k : Nat) (T : tk_R), ZT T → ZT (wd_rub st lt n k T).2
  | 0, k, T, h => h
  | n + 1, k, T, h => by
    show ZT (if k = 0 ∨ lt T = true then wd_rub st lt n (k + 1) (st T) else (k, T)).2
    split
    · exact ZT_rub hs n (k + 1) (st T) (hs T h)
    · exact h
theorem ZT_0 : ZT wd_0 := by
  intro q hq
  have hn : ¬ q < 6 := by omega
  exact ⟨if_neg hn, if_neg hn, rfl, rfl⟩
theorem ZT_w {M : Nat → Int32} {rg z : Nat} (hrg : rg ≤ 6) : ZT (wd_T M rg z) := ZT_it (fun _ h => ZT_tk h hrg) 30 _ (ZT_it (fun _ h => ZT_tk h hrg) 5 _ (ZT_rub (fun _ h => ZT_tk h hrg) 60 0 _ ZT_0))
theorem ZR_of {h : mj_H} {T : tk_R} (e : mT h = T) (z : ZT T) : ZR h := by
  intro a ha q hq
  rw [← e] at z
  obtain ⟨a1, a2, a3, a4⟩ := z q hq
  simp only [List.mem_cons, List.not_mem_nil, or_false] at ha
  rcases ha with rfl | rfl | rfl | rfl
  · exact a1
  · exact a2
  · exact a3
  · exact a4
/-- behind a judging -/
def WJ (h g : mj_H) (T : tk_R) (a b c : Int32) : Prop := SM g ∧ Rw h g [33, 39, 40, 41, 42, 43] ∧ (∀ q, ¬ q = 14 → ¬ q = 15 → ¬ q = 17 → mj_I g 33 q = mj_I h 33 q) ∧ mT g = T ∧ mj_I g 33 14 = a ∧ mj_I g 33 15 = b ∧ mj_I g 33 17 = c
theorem WJ_set {h g : mj_H} {T : tk_R} {a b c x : Int32} (w : WJ h g T a b c) : WJ h (mj_setI g 33 17 x) T a b x :=
  ⟨w.1, w.2.1.set (by decide), fun q h1 h2 h3 => (mj_I_ne h3).trans (w.2.2.1 q h1 h2 h3), mT_set.trans w.2.2.2.1, (mj_I_ne (by decide)).trans w.2.2.2.2.1, (mj_I_ne (by decide)).trans w.2.2.2.2.2.1, mj_I_at _ _ _ _⟩
theorem WJ_of {h g : mj_H} {T : tk_R} {a b : Int32} (w : WI h g T a b) : WJ h g T a b (mj_I g 33 17) := ⟨w.1, w.2.1, fun q h1 h2 _ => w.2.2.1 q h1 h2, w.2.2.2.1, w.2.2.2.2.1, w.2.2.2.2.2, rfl⟩

set_option maxRecDepth 20000 in
set_option maxHeartbeats 4000000 in
theorem judge_l {h : mj_H} {j rg : Nat} (hj : j < 20) (e_rg : mj_I h 36 (9 * j + 8) = nI rg) (hrg : 2 ≤ rg ∧ rg ≤ 6) (h1 : ¬ mj_I h 36 (9 * j + 1) = 0) (h4 : ¬ mj_I h 36 (9 * j + 4) = 0) {z : Nat} {T : tk_R} {a b : Int32} (X : Nat × Int32) :
    ∀ (n r : Nat) (g : mj_H) (c : Int32), r + n = rg → WJ h g T a b c → jd_f (mM h j) T n r = X → mx 3 130 28 [.ref 33, .int (nI j), .int (nI z), .int (nI (9 * j)), .int (nI r)] [] g (fun r h' => r = some (.int (nI X.1)) ∧ WJ h h' T a b X.2) := by
  intro n
  induction n with
  | zero =>
    intro r g c hr hw e
    have hrr : r = rg := by omega
    subst hrr
    have S := hw.1
    have e36 : ∀ i, mj_I g 36 (9 * j + i) = mM h j i := fun i => congrFun (hw.2.1.i (by decide)) _
    refine x_iload f_130_28 rfl ?_
    refine x_aload_n f_130_30 rfl ?_
    refine x_getR f_130_31 S.k33 (by decide) S.r4 ?_
    refine x_iload_n f_130_34 rfl ?_
    refine x_bipush (v := nI 8) f_130_35 (by decide) ?_
    refine x_iaddN f_130_37 ?_
    refine x_iald (j := 9 * j + 8) f_130_38 S.k36 (by omega) (by decide) ?_
    refine x_topi (w := nI r) (e36 8 |>.trans e_rg) ?_
    refine x_icmpN_ge (t := 116) f_130_39 (by decide) (by omega) (by omega) (fun c_1 => ?_) (fun c_1 => by omega)
    refine x_aload_n f_130_116 rfl ?_
    refine x_iconst (v := -1) f_130_117 (by decide) ?_
    refine x_putI f_130_118 S.k33 (by decide) ?_
    refine x_iconst (v := nI 0) f_130_121 (by decide) ?_
    refine x_retI f_130_122 rfl ?_
    rw [← e]
    exact ⟨rfl, WJ_set hw⟩
  | succ n ih =>
    intro r g c hr hw e
    have S := hw.1
    have e36 : ∀ i, mj_I g 36 (9 * j + i) = mM h j i := fun i => congrFun (hw.2.1.i (by decide)) _
    have e41 : mj_I g 41 = T.2.1 := congrArg (fun t => t.2.1) hw.2.2.2.1
    have e42 : mj_I g 42 = T.2.2.1 := congrArg (fun t => t.2.2.1) hw.2.2.2.1
    have e43 : mj_I g 43 = T.2.2.2 := congrArg (fun t => t.2.2.2) hw.2.2.2.1
    refine x_iload f_130_28 rfl ?_
    refine x_aload_n f_130_30 rfl ?_
    refine x_getR f_130_31 S.k33 (by decide) S.r4 ?_
    refine x_iload_n f_130_34 rfl ?_
    refine x_bipush (v := nI 8) f_130_35 (by decide) ?_
    refine x_iaddN f_130_37 ?_
    refine x_iald (j := ((9 * j) + 8)) f_130_38 S.k36 (by omega) (by decide) ?_
    refine x_topi (w := nI rg) (e36 8 |>.trans e_rg) ?_
    refine x_icmpN_ge (t := 116) f_130_39 (by decide) (by omega) (by omega) (fun c_1 => by omega) (fun c_1 => ?_)
    refine x_aload_n f_130_42 rfl ?_
    refine x_iload f_130_43 rfl ?_
    refine x_putI f_130_45 S.k33 (by decide) ?_
    refine x_aload_n f_130_48 rfl ?_
    refine x_getR f_130_49 S.k33 (by decide) S.r11 ?_
    refine x_iload f_130_52 rfl ?_
    refine x_iald (j := r) f_130_54 S.k41 (by omega) (by decide) ?_
    refine x_topi (w := T.2.1 r) ((congrFun (mj_I_other (by decide)) _).trans (congrFun e41 _)) ?_
    refine x_aload_n f_130_55 rfl ?_
    refine x_getR f_130_56 S.k33 (by decide) S.r4 ?_
    refine x_iload_n f_130_59 rfl ?_
    refine x_iconst (v := nI 5) f_130_60 (by decide) ?_
    refine x_iaddN f_130_61 ?_
    refine x_iald (j := ((9 * j) + 5)) f_130_62 S.k36 (by omega) (by decide) ?_
    refine x_topi (w := mM h j 5) ((congrFun (mj_I_other (by decide)) _).trans (e36 5)) ?_
    refine x_icmp_ge (t := 68) f_130_63 (by decide) (fun c_5 => ?_) (fun c_5 => ?_)
    · refine x_aload_n f_130_68 rfl ?_
      refine x_getR f_130_69 S.k33 (by decide) S.r12 ?_
      refine x_iload f_130_72 rfl ?_
      refine x_iald (j := r) f_130_74 S.k42 (by omega) (by decide) ?_
      refine x_topi (w := T.2.2.1 r) ((congrFun (mj_I_other (by decide)) _).trans (congrFun e42 _)) ?_
      refine x_aload_n f_130_75 rfl ?_
      refine x_getR f_130_76 S.k33 (by decide) S.r4 ?_
      refine x_iload_n f_130_79 rfl ?_
      refine x_bipush (v := nI 6) f_130_80 (by decide) ?_
      refine x_iaddN f_130_82 ?_
      refine x_iald (j := ((9 * j) + 6)) f_130_83 S.k36 (by omega) (by decide) ?_
      refine x_topi (w := mM h j 6) ((congrFun (mj_I_other (by decide)) _).trans (e36 6)) ?_
      refine x_icmp_ge (t := 89) f_130_84 (by decide) (fun c_6 => ?_) (fun c_6 => ?_)
      · refine x_aload_n f_130_89 rfl ?_
        refine x_getR f_130_90 S.k33 (by decide) S.r13 ?_
        refine x_iload f_130_93 rfl ?_
        refine x_iald (j := r) f_130_95 S.k43 (by omega) (by decide) ?_
        refine x_topi (w := T.2.2.2 r) ((congrFun (mj_I_other (by decide)) _).trans (congrFun e43 _)) ?_
        refine x_aload_n f_130_96 rfl ?_
        refine x_getR f_130_97 S.k33 (by decide) S.r4 ?_
        refine x_iload_n f_130_100 rfl ?_
        refine x_bipush (v := nI 7) f_130_101 (by decide) ?_
        refine x_iaddN f_130_103 ?_
        refine x_iald (j := ((9 * j) + 7)) f_130_104 S.k36 (by omega) (by decide) ?_
        refine x_topi (w := mM h j 7) ((congrFun (mj_I_other (by decide)) _).trans (e36 7)) ?_
        refine x_icmp_le (t := 110) f_130_105 (by decide) (fun c_7 => ?_) (fun c_7 => ?_)
        · refine x_iinc (v := nI (r + 1)) (ls1 := [.ref 33, .int (nI j), .int (nI z), .int (nI (9 * j)), .int (nI (r + 1))]) f_130_110 rfl (by exact nI_add _ 1) rfl ?_
          refine x_goto (t := 28) f_130_113 (by decide) ?_
          have hq : jd_f (mM h j) T (n + 1) r = jd_f (mM h j) T n (r + 1) := by
            show (if _ then _ else _) = _
            rw [if_pos c_5, if_pos c_6, if_pos c_7]
          exact ih (r + 1) _ (nI r) (by omega) (WJ_set hw) (hq.symm.trans e)
        · refine x_iconst (v := nI 4) f_130_108 (by decide) ?_
          refine x_retI f_130_109 rfl ?_
          have hq : jd_f (mM h j) T (n + 1) r = (4, nI r) := by
            unfold jd_f
            rw [if_pos c_5, if_pos c_6, if_neg c_7]
          rw [← e, hq]
          exact ⟨rfl, WJ_set hw⟩
      · refine x_iconst (v := nI 3) f_130_87 (by decide) ?_
        refine x_retI f_130_88 rfl ?_
        have hq : jd_f (mM h j) T (n + 1) r = (3, nI r) := by
          unfold jd_f
          rw [if_pos c_5, if_neg c_6]
        rw [← e, hq]
        exact ⟨rfl, WJ_set hw⟩
    · refine x_iconst (v := nI 2) f_130_66 (by decide) ?_
      refine x_retI f_130_67 rfl ?_
      have hq : jd_f (mM h j) T (n + 1) r = (2, nI r) := by
        unfold jd_f
        rw [if_neg c_5]
      rw [← e, hq]
      exact ⟨rfl, WJ_set hw⟩
set_option maxRecDepth 20000 in
theorem c_judge {h : mj_H} (S : SM h) (Z : ZR h) {j rg : Nat} (hj : j < 20) (e_rg : mj_I h 36 (9 * j + 8) = nI rg) (hrg : 2 ≤ rg ∧ rg ≤ 6) (h1 : ¬ mj_I h 36 (9 * j + 1) = 0) (h4 : ¬ mj_I h 36 (9 * j + 4) = 0) {z : Nat} (hz : z < 729) : mxc 3 130 [.ref 33, .int (nI j), .int (nI z)] h (fun r h' => r = some (.int (nI (jd (mM h j) rg z).1)) ∧ WJ h h' (wd_T (mM h j) rg z) (nI (wd_1 (mM h j) rg z).1) (if wd_lt rg z (wd_1 (mM h j) rg z).2 = true then nI 1 else nI 0) (jd (mM h j) rg z).2) := by
  show mx 3 130 0 [.ref 33, .int (nI j), .int (nI z), mj_unset, mj_unset] [] h _
  refine x_aload_n f_130_0 rfl ?_
  refine x_iload_n f_130_1 rfl ?_
  refine x_iload_n f_130_2 rfl ?_
  refine x_callV f_130_3 (c_weld S Z hj e_rg hrg h1 h4 hz) (by omega) S.k33 (by decide) rfl rfl (Nat.le_of_ble_eq_true rfl) rfl ?_
  rintro _ g ⟨rfl, hw⟩
  have S : SM g := hw.1
  refine x_aload_n f_130_6 rfl ?_
  refine x_iconst (v := -1) f_130_7 (by decide) ?_
  refine x_putI f_130_8 S.k33 (by decide) ?_
  refine x_aload_n f_130_11 rfl ?_
  refine x_getI f_130_12 S.k33 (by decide) ?_
  refine x_topi (w := if wd_lt rg z (wd_1 (mM h j) rg z).2 = true then 1 else 0) ((mj_I_ne (by decide)).trans (hw.2.2.2.2.2)) ?_
  refine x_ifB_eq (t := 20) f_130_15 (by decide) (fun c_s => ?_) (fun c_s => ?_)
  · refine x_bipush (v := nI 9) f_130_20 (by decide) ?_
    refine x_iload_n f_130_22 rfl ?_
    refine x_imulN f_130_23 ?_
    refine x_istore_n (ls1 := [.ref 33, .int (nI j), .int (nI z), .int (nI (9 * j)), mj_unset]) f_130_24 (Nat.le_of_ble_eq_true rfl) rfl ?_
    refine x_iconst (v := nI 0) f_130_25 (by decide) ?_
    refine x_istore (ls1 := [.ref 33, .int (nI j), .int (nI z), .int (nI (9 * j)), .int (nI 0)]) f_130_26 (Nat.le_of_ble_eq_true rfl) rfl ?_
    have hq : jd (mM h j) rg z = jd_f (mM h j) (wd_T (mM h j) rg z) rg 0 := if_neg c_s
    rw [hq]
    exact judge_l hj e_rg hrg h1 h4 _ rg 0 _ (-1) (by omega) (WJ_set (WJ_of hw)) rfl
  · refine x_iconst (v := nI 1) f_130_18 (by decide) ?_
    refine x_retI f_130_19 rfl ?_
    have hq : jd (mM h j) rg z = (1, -1) := if_pos c_s
    rw [hq]
    exact ⟨rfl, WJ_set (WJ_of hw)⟩
end
section
theorem f_131_0 : mj_fetch 131 0 = some (.sipush 729, 0, 0) := by decide +kernel
theorem f_131_3 : mj_fetch 131 3 = some (.iload_n 1, 0, 0) := by decide +kernel
theorem f_131_4 : mj_fetch 131 4 = some (.imul, 0, 0) := by decide +kernel
theorem f_131_5 : mj_fetch 131 5 = some (.iload_n 2, 0, 0) := by decide +kernel
theorem f_131_6 : mj_fetch 131 6 = some (.iadd, 0, 0) := by decide +kernel
theorem f_131_7 : mj_fetch 131 7 = some (.istore_n 3, 0, 0) := by decide +kernel
theorem f_131_8 : mj_fetch 131 8 = some (.aload_n 0, 0, 0) := by decide +kernel
theorem f_131_9 : mj_fetch 131 9 = some (.getfield 41, 11, 16) := by decide +kernel
theorem f_131_12 : mj_fetch 131 12 = some (.iload_n 3, 0, 0) := by decide +kernel
theorem f_131_13 : mj_fetch 131 13 = some (.iaload, 0, 0) := by decide +kernel
theorem f_131_14 : mj_fetch 131 14 = some (.iconst (-1), 0, 0) := by decide +kernel
theorem f_131_15 : mj_fetch 131 15 = some (.if_icmp .ne 15, 0, 0) := by decide +kernel
theorem f_131_18 : mj_fetch 131 18 = some (.aload_n 0, 0, 0) := by decide +kernel
theorem f_131_19 : mj_fetch 131 19 = some (.getfield 41, 11, 16) := by decide +kernel
theorem f_131_22 : mj_fetch 131 22 = some (.iload_n 3, 0, 0) := by decide +kernel
theorem f_131_23 : mj_fetch 131 23 = some (.aload_n 0, 0, 0) := by decide +kernel
theorem f_131_24 : mj_fetch 131 24 = some (.iload_n 1, 0, 0) := by decide +kernel
theorem f_131_25 : mj_fetch 131 25 = some (.iload_n 2, 0, 0) := by decide +kernel
theorem f_131_26 : mj_fetch 131 26 = some (.invokevirtual 162, 130, 0) := by decide +kernel
theorem f_131_29 : mj_fetch 131 29 = some (.iastore, 0, 0) := by decide +kernel
theorem f_131_30 : mj_fetch 131 30 = some (.aload_n 0, 0, 0) := by decide +kernel
theorem f_131_31 : mj_fetch 131 31 = some (.getfield 41, 11, 16) := by decide +kernel
theorem f_131_34 : mj_fetch 131 34 = some (.iload_n 3, 0, 0) := by decide +kernel
theorem f_131_35 : mj_fetch 131 35 = some (.iaload, 0, 0) := by decide +kernel
theorem f_131_36 : mj_fetch 131 36 = some (.ireturn, 0, 0) := by decide +kernel
theorem f_133_0 : mj_fetch 133 0 = some (.aload_n 0, 0, 0) := by decide +kernel
theorem f_133_1 : mj_fetch 133 1 = some (.iload_n 1, 0, 0) := by decide +kernel
theorem f_133_2 : mj_fetch 133 2 = some (.iload_n 2, 0, 0) := by decide +kernel
theorem f_133_3 : mj_fetch 133 3 = some (.invokevirtual 168, 132, 0) := by decide +kernel
theorem f_133_6 : mj_fetch 133 6 = some (.ifCond .eq 12, 0, 0) := by decide +kernel
theorem f_133_9 : mj_fetch 133 9 = some (.aload_n 0, 0, 0) := by decide +kernel
theorem f_133_10 : mj_fetch 133 10 = some (.iload_n 1, 0, 0) := by decide +kernel
theorem f_133_11 : mj_fetch 133 11 = some (.iload_n 2, 0, 0) := by decide +kernel
theorem f_133_12 : mj_fetch 133 12 = some (.invokevirtual 172, 131, 0) := by decide +kernel
theorem f_133_15 : mj_fetch 133 15 = some (.goto 4, 0, 0) := by decide +kernel
theorem f_133_18 : mj_fetch 133 18 = some (.iconst (-1), 0, 0) := by decide +kernel
theorem f_133_19 : mj_fetch 133 19 = some (.ireturn, 0, 0) := by decide +kernel
theorem f_135_0 : mj_fetch 135 0 = some (.aload_n 0, 0, 0) := by decide +kernel
theorem f_135_1 : mj_fetch 135 1 = some (.iload_n 1, 0, 0) := by decide +kernel
theorem f_135_2 : mj_fetch 135 2 = some (.iload_n 2, 0, 0) := by decide +kernel
theorem f_135_3 : mj_fetch 135 3 = some (.invokevirtual 168, 132, 0) := by decide +kernel
theorem f_135_6 : mj_fetch 135 6 = some (.ifCond .ne 5, 0, 0) := by decide +kernel
theorem f_135_9 : mj_fetch 135 9 = some (.iconst (-1), 0, 0) := by decide +kernel
theorem f_135_10 : mj_fetch 135 10 = some (.ireturn, 0, 0) := by decide +kernel
theorem f_135_11 : mj_fetch 135 11 = some (.aload_n 0, 0, 0) := by decide +kernel
theorem f_135_12 : mj_fetch 135 12 = some (.iload_n 1, 0, 0) := by decide +kernel
theorem f_135_13 : mj_fetch 135 13 = some (.iload_n 2, 0, 0) := by decide +kernel
theorem f_135_14 : mj_fetch 135 14 = some (.invokevirtual 162, 130, 0) := by decide +kernel
theorem f_135_17 : mj_fetch 135 17 = some (.pop, 0, 0) := by decide +kernel
theorem f_135_18 : mj_fetch 135 18 = some (.aload_n 0, 0, 0) := by decide +kernel
theorem f_135_19 : mj_fetch 135 19 = some (.getfield 159, 11, 17) := by decide +kernel
theorem f_135_22 : mj_fetch 135 22 = some (.ireturn, 0, 0) := by decide +kernel
theorem f_136_0 : mj_fetch 136 0 = some (.aload_n 0, 0, 0) := by decide +kernel
theorem f_136_1 : mj_fetch 136 1 = some (.iload_n 1, 0, 0) := by decide +kernel
theorem f_136_2 : mj_fetch 136 2 = some (.iload_n 2, 0, 0) := by decide +kernel
theorem f_136_3 : mj_fetch 136 3 = some (.invokevirtual 168, 132, 0) := by decide +kernel
theorem f_136_6 : mj_fetch 136 6 = some (.ifCond .ne 5, 0, 0) := by decide +kernel
theorem f_136_9 : mj_fetch 136 9 = some (.iconst (-1), 0, 0) := by decide +kernel
theorem f_136_10 : mj_fetch 136 10 = some (.ireturn, 0, 0) := by decide +kernel
theorem f_136_11 : mj_fetch 136 11 = some (.aload_n 0, 0, 0) := by decide +kernel
theorem f_136_12 : mj_fetch 136 12 = some (.iload_n 1, 0, 0) := by decide +kernel
theorem f_136_13 : mj_fetch 136 13 = some (.iload_n 2, 0, 0) := by decide +kernel
theorem f_136_14 : mj_fetch 136 14 = some (.invokevirtual 155, 129, 0) := by decide +kernel
theorem f_136_17 : mj_fetch 136 17 = some (.aload_n 0, 0, 0) := by decide +kernel
theorem f_136_18 : mj_fetch 136 18 = some (.getfield 140, 11, 14) := by decide +kernel
theorem f_136_21 : mj_fetch 136 21 = some (.ireturn, 0, 0) := by decide +kernel
/-! the model's jobs, and its verdicts kept -/
def JM (h : mj_H) (j : Nat) : Prop := ∃ rg, mj_I h 36 (9 * j + 8) = nI rg ∧ (2 ≤ rg ∧ rg ≤ 6) ∧ ¬ mj_I h 36 (9 * j + 1) = 0 ∧ ¬ mj_I h 36 (9 * j + 4) = 0
def rgs (h : mj_H) (j : Nat) : Nat := (mj_I h 36 (9 * j + 8)).toNatClampNeg
theorem rgs_eq {h : mj_H} {j rg : Nat} (e : mj_I h 36 (9 * j + 8) = nI rg) (hrg : 2 ≤ rg ∧ rg ≤ 6) : rgs h j = rg := by
  unfold rgs
  rw [e, nI_clamp (by omega)]
def vd (h : mj_H) (j z : Nat) : Nat := (jd (mM h j) (rgs h j) z).1
def MW (h : mj_H) (jm : Nat) : Prop := SM h ∧ ZR h ∧ jm ≤ 20 ∧ (∀ j, j < jm → JM h j) ∧ ∀ j, j < jm → ∀ z, z < 729 → mj_I h 44 (729 * j + z) = -1 ∨ mj_I h 44 (729 * j + z) = nI (vd h j z)
def F33 (h h' : mj_H) : Prop := ∀ q, ¬ q = 14 → ¬ q = 15 → ¬ q = 17 → mj_I h' 33 q = mj_I h 33 q
def MV (h h' : mj_H) (jm : Nat) : Prop := MW h' jm ∧ Rw h h' [33, 39, 40, 41, 42, 43, 44] ∧ F33 h h'
theorem MV.rf {h : mj_H} {jm : Nat} (w : MW h jm) : MV h h jm := ⟨w, Rw.rf _ _, fun _ _ _ _ => rfl⟩
theorem MV.trans {h g k : mj_H} {jm : Nat} (a : MV h g jm) (b : MV g k jm) : MV h k jm := ⟨b.1, a.2.1.trans b.2.1, fun q h1 h2 h3 => (b.2.2 q h1 h2 h3).trans (a.2.2 q h1 h2 h3)⟩
theorem vd_eq {h g : mj_H} (e : mj_I g 36 = mj_I h 36) (j z : Nat) : vd g j z = vd h j z := by
  unfold vd rgs mM
  rw [e]
theorem MV_vd {h g : mj_H} {jm : Nat} (a : MV h g jm) (j z : Nat) : vd g j z = vd h j z := vd_eq (a.2.1.i (by decide)) j z
theorem JM.to {h g : mj_H} (e : mj_I g 36 = mj_I h 36) {j : Nat} (k : JM h j) : JM g j := by
  unfold JM
  rw [e]
  exact k
theorem MV.wj {h g : mj_H} {jm j z rg : Nat} (w : MW h jm) (hrg : rg ≤ 6) {a b c : Int32} (k : WJ h g (wd_T (mM h j) rg z) a b c) : MV h g jm := by
  have e36 : mj_I g 36 = mj_I h 36 := k.2.1.i (by decide)
  have e44 : mj_I g 44 = mj_I h 44 := k.2.1.i (by decide)
  exact ⟨⟨k.1, ZR_of k.2.2.2.1 (ZT_w hrg), w.2.2.1, fun j hj => (w.2.2.2.1 j hj).to e36, fun j hj z hz => by rw [e44, vd_eq e36]; exact w.2.2.2.2 j hj z hz⟩, k.2.1.mono (by decide), k.2.2.1⟩
theorem MV.put {h g : mj_H} {jm j z : Nat} (a : MV h g jm) (hj : j < jm) (hz : z < 729) : MV h (mj_setI g 44 (729 * j + z) (nI (vd h j z))) jm := by
  obtain ⟨⟨S, Z, hm, hJ, hV⟩, hR, hF⟩ := a
  have e36 : mj_I (mj_setI g 44 (729 * j + z) (nI (vd h j z))) 36 = mj_I g 36 := mj_I_other (by decide)
  refine ⟨⟨S, fun a ha q hq => ?_, hm, fun j hj => (hJ j hj).to e36, fun j' hj' z' hz' => ?_⟩, hR.set (by decide), fun q h1 h2 h3 => (congrFun (mj_I_other (by decide)) q).trans (hF q h1 h2 h3)⟩
  · rw [mj_I_other (by intro q; subst q; revert ha; decide)]
    exact Z a ha q hq
  · rw [vd_eq e36]
    by_cases hq : 729 * j' + z' = 729 * j + z
    · have h1 : j' = j := by omega
      have h2 : z' = z := by omega
      subst h1
      subst h2
      right
      rw [mj_I_at, vd_eq (hR.i (by decide))]
    · rw [mj_I_ne hq]
      exact hV j' hj' z' hz'

set_option maxRecDepth 20000 in
theorem c_verdictOf {h : mj_H} {jm : Nat} (hW : MW h jm) {j z : Nat} (hj : j < jm) (hz : z < 729) : mxc 4 131 [.ref 33, .int (nI j), .int (nI z)] h (fun r h' => r = some (.int (nI (vd h j z))) ∧ MV h h' jm) := by
  obtain ⟨S, Z, hm, hJ, hVV⟩ := hW
  have hW : MW h jm := ⟨S, Z, hm, hJ, hVV⟩
  have hV := hVV j hj z hz
  obtain ⟨rg, e_rg, hrg, h1, h4⟩ := hJ j hj
  have hj20 : j < 20 := by omega
  show mx 4 131 0 [.ref 33, .int (nI j), .int (nI z), mj_unset] [] h _
  refine x_sipush (v := nI 729) f_131_0 (by decide) ?_
  refine x_iload_n f_131_3 rfl ?_
  refine x_imulN f_131_4 ?_
  refine x_iload_n f_131_5 rfl ?_
  refine x_iaddN f_131_6 ?_
  refine x_istore_n (ls1 := [.ref 33, .int (nI j), .int (nI z), .int (nI ((729 * j) + z))]) f_131_7 (Nat.le_of_ble_eq_true rfl) rfl ?_
  refine x_aload_n f_131_8 rfl ?_
  refine x_getR f_131_9 S.k33 (by decide) S.r16 ?_
  refine x_iload_n f_131_12 rfl ?_
  refine x_iald (j := ((729 * j) + z)) f_131_13 S.k44 (by omega) (by decide) ?_
  refine x_iconst (v := -1) f_131_14 (by decide) ?_
  refine x_icmp_ne (t := 30) f_131_15 (by decide) (fun c_n => ?_) (fun c_n => ?_)
  · refine x_aload_n f_131_30 rfl ?_
    refine x_getR f_131_31 S.k33 (by decide) S.r16 ?_
    refine x_iload_n f_131_34 rfl ?_
    refine x_iald (j := ((729 * j) + z)) f_131_35 S.k44 (by omega) (by decide) ?_
    refine x_retI f_131_36 rfl ?_
    exact ⟨by rw [(hV.resolve_left c_n)], MV.rf hW⟩
  · refine x_aload_n f_131_18 rfl ?_
    refine x_getR f_131_19 S.k33 (by decide) S.r16 ?_
    refine x_iload_n f_131_22 rfl ?_
    refine x_aload_n f_131_23 rfl ?_
    refine x_iload_n f_131_24 rfl ?_
    refine x_iload_n f_131_25 rfl ?_
    refine x_callV f_131_26 (c_judge S Z hj20 e_rg hrg h1 h4 hz) (by omega) S.k33 (by decide) rfl rfl (Nat.le_of_ble_eq_true rfl) rfl ?_
    rintro _ g ⟨rfl, hw⟩
    have S : SM g := hw.1
    refine x_iast (j := ((729 * j) + z)) f_131_29 S.k44 (by decide) (by omega) (by decide) ?_
    refine x_aload_n f_131_30 rfl ?_
    refine x_getR f_131_31 S.k33 (by decide) S.r16 ?_
    refine x_iload_n f_131_34 rfl ?_
    refine x_iald (j := ((729 * j) + z)) f_131_35 S.k44 (by omega) (by decide) ?_
    refine x_topi (w := nI ((jd (mM h j) rg z).1)) (mj_I_at _ _ _ _) ?_
    refine x_retI f_131_36 rfl ?_
    have ev : (jd (mM h j) rg z).1 = vd h j z := by unfold vd; rw [rgs_eq e_rg hrg]
    rw [ev]
    exact ⟨rfl, (MV.wj hW hrg.2 hw).put hj hz⟩
set_option maxRecDepth 20000 in
theorem c_verdict {h : mj_H} {jm : Nat} (hW : MW h jm) (e_jm : mj_I h 33 8 = nI jm) (j s : Int32) : mxc 5 133 [.ref 33, .int j, .int s] h (fun r h' => if mIn j jm ∧ mIn s 729 then r = some (.int (nI (vd h j.toNatClampNeg s.toNatClampNeg))) ∧ MV h h' jm else r = some (.int (-1)) ∧ h' = h) := by
  have S := hW.1
  show mx 5 133 0 [.ref 33, .int j, .int s] [] h _
  refine x_aload_n f_133_0 rfl ?_
  refine x_iload_n f_133_1 rfl ?_
  refine x_iload_n f_133_2 rfl ?_
  refine x_callVe f_133_3 (c_isAsked hW.1 _ _ (jm := jm) (by have := hW.2.2.1; omega) e_jm) (by omega) S.k33 (by decide) rfl rfl (Nat.le_of_ble_eq_true rfl) rfl ?_
  refine x_ifB_eq (t := 18) f_133_6 (by decide) (fun c_1 => ?_) (fun c_1 => ?_)
  · refine x_iconst (v := -1) f_133_18 (by decide) ?_
    refine x_retI f_133_19 rfl ?_
    exact mj_qF c_1 ⟨rfl, rfl⟩
  · obtain ⟨i, h_i, rfl⟩ := mIn_of c_1.1 (by have := hW.2.2.1; omega)
    obtain ⟨k, h_k, rfl⟩ := mIn_of c_1.2 (by decide)
    have S := hW.1
    have hjm := hW.2.2.1
    simp only [nI_clamp (show i < 2 ^ 31 by omega), nI_clamp (show k < 2 ^ 31 by omega)]
    refine x_aload_n f_133_9 rfl ?_
    refine x_iload_n f_133_10 rfl ?_
    refine x_iload_n f_133_11 rfl ?_
    refine x_callV f_133_12 (c_verdictOf hW h_i h_k) (by omega) S.k33 (by decide) rfl rfl (Nat.le_of_ble_eq_true rfl) rfl ?_
    rintro _ g ⟨rfl, hv⟩
    refine x_goto (t := 19) f_133_15 (by decide) ?_
    refine x_retI f_133_19 rfl ?_
    exact mj_qT c_1 ⟨rfl, hv⟩
set_option maxRecDepth 20000 in
theorem c_by {h : mj_H} {jm : Nat} (hW : MW h jm) (e_jm : mj_I h 33 8 = nI jm) (j s : Int32) : mxc 4 135 [.ref 33, .int j, .int s] h (fun r h' => if mIn j jm ∧ mIn s 729 then r = some (.int (jd (mM h j.toNatClampNeg) (rgs h j.toNatClampNeg) s.toNatClampNeg).2) ∧ MV h h' jm else r = some (.int (-1)) ∧ h' = h) := by
  have S := hW.1
  show mx 4 135 0 [.ref 33, .int j, .int s] [] h _
  refine x_aload_n f_135_0 rfl ?_
  refine x_iload_n f_135_1 rfl ?_
  refine x_iload_n f_135_2 rfl ?_
  refine x_callVe f_135_3 (c_isAsked hW.1 _ _ (jm := jm) (by have := hW.2.2.1; omega) e_jm) (by omega) S.k33 (by decide) rfl rfl (Nat.le_of_ble_eq_true rfl) rfl ?_
  refine x_ifB_ne (t := 11) f_135_6 (by decide) (fun c_1 => ?_) (fun c_1 => ?_)
  · obtain ⟨i, h_i, rfl⟩ := mIn_of c_1.1 (by have := hW.2.2.1; omega)
    obtain ⟨k, h_k, rfl⟩ := mIn_of c_1.2 (by decide)
    have S := hW.1
    have hjm := hW.2.2.1
    simp only [nI_clamp (show i < 2 ^ 31 by omega), nI_clamp (show k < 2 ^ 31 by omega)]
    obtain ⟨rg, e_rg, hrg, h1, h4⟩ := hW.2.2.2.1 i h_i
    have hj20 : i < 20 := by omega
    simp only [rgs_eq e_rg hrg]
    refine x_aload_n f_135_11 rfl ?_
    refine x_iload_n f_135_12 rfl ?_
    refine x_iload_n f_135_13 rfl ?_
    refine x_callV f_135_14 (c_judge S hW.2.1 hj20 e_rg hrg h1 h4 h_k) (by omega) S.k33 (by decide) rfl rfl (Nat.le_of_ble_eq_true rfl) rfl ?_
    rintro _ g ⟨rfl, hw⟩; have S : SM g := hw.1
    refine x_pop f_135_17 rfl ?_
    refine x_aload_n f_135_18 rfl ?_
    refine x_getI f_135_19 S.k33 (by decide) ?_
    refine x_topi (w := (jd (mM h i) rg k).2) hw.2.2.2.2.2.2 ?_
    refine x_retI f_135_22 rfl ?_
    exact mj_qT c_1 ⟨rfl, MV.wj hW hrg.2 hw⟩
  · refine x_iconst (v := -1) f_135_9 (by decide) ?_
    refine x_retI f_135_10 rfl ?_
    exact mj_qF c_1 ⟨rfl, rfl⟩
set_option maxRecDepth 20000 in
theorem c_ticks {h : mj_H} {jm : Nat} (hW : MW h jm) (e_jm : mj_I h 33 8 = nI jm) (j s : Int32) : mxc 3 136 [.ref 33, .int j, .int s] h (fun r h' => if mIn j jm ∧ mIn s 729 then r = some (.int (nI (wd_1 (mM h j.toNatClampNeg) (rgs h j.toNatClampNeg) s.toNatClampNeg).1)) ∧ MV h h' jm else r = some (.int (-1)) ∧ h' = h) := by
  have S := hW.1
  show mx 3 136 0 [.ref 33, .int j, .int s] [] h _
  refine x_aload_n f_136_0 rfl ?_
  refine x_iload_n f_136_1 rfl ?_
  refine x_iload_n f_136_2 rfl ?_
  refine x_callVe f_136_3 (c_isAsked hW.1 _ _ (jm := jm) (by have := hW.2.2.1; omega) e_jm) (by omega) S.k33 (by decide) rfl rfl (Nat.le_of_ble_eq_true rfl) rfl ?_
  refine x_ifB_ne (t := 11) f_136_6 (by decide) (fun c_1 => ?_) (fun c_1 => ?_)
  · obtain ⟨i, h_i, rfl⟩ := mIn_of c_1.1 (by have := hW.2.2.1; omega)
    obtain ⟨k, h_k, rfl⟩ := mIn_of c_1.2 (by decide)
    have S := hW.1
    have hjm := hW.2.2.1
    simp only [nI_clamp (show i < 2 ^ 31 by omega), nI_clamp (show k < 2 ^ 31 by omega)]
    obtain ⟨rg, e_rg, hrg, h1, h4⟩ := hW.2.2.2.1 i h_i
    have hj20 : i < 20 := by omega
    simp only [rgs_eq e_rg hrg]
    refine x_aload_n f_136_11 rfl ?_
    refine x_iload_n f_136_12 rfl ?_
    refine x_iload_n f_136_13 rfl ?_
    refine x_callV f_136_14 (c_weld S hW.2.1 hj20 e_rg hrg h1 h4 h_k) (by omega) S.k33 (by decide) rfl rfl (Nat.le_of_ble_eq_true rfl) rfl ?_
    rintro _ g ⟨rfl, hw⟩; have S : SM g := hw.1
    refine x_aload_n f_136_17 rfl ?_
    refine x_getI f_136_18 S.k33 (by decide) ?_
    refine x_topi (w := nI ((wd_1 (mM h i) rg k).1)) hw.2.2.2.2.1 ?_
    refine x_retI f_136_21 rfl ?_
    exact mj_qT c_1 ⟨rfl, MV.wj hW hrg.2 (WJ_of hw)⟩
  · refine x_iconst (v := -1) f_136_9 (by decide) ?_
    refine x_retI f_136_10 rfl ?_
    exact mj_qF c_1 ⟨rfl, rfl⟩
end
section
theorem f_134_0 : mj_fetch 134 0 = some (.aload_n 0, 0, 0) := by decide +kernel
theorem f_134_1 : mj_fetch 134 1 = some (.iload_n 1, 0, 0) := by decide +kernel
theorem f_134_2 : mj_fetch 134 2 = some (.iload_n 2, 0, 0) := by decide +kernel
theorem f_134_3 : mj_fetch 134 3 = some (.invokevirtual 168, 132, 0) := by decide +kernel
theorem f_134_6 : mj_fetch 134 6 = some (.ifCond .eq 35, 0, 0) := by decide +kernel
theorem f_134_9 : mj_fetch 134 9 = some (.iload_n 3, 0, 0) := by decide +kernel
theorem f_134_10 : mj_fetch 134 10 = some (.iconst 0, 0, 0) := by decide +kernel
theorem f_134_11 : mj_fetch 134 11 = some (.aload_n 0, 0, 0) := by decide +kernel
theorem f_134_12 : mj_fetch 134 12 = some (.getfield 17, 11, 4) := by decide +kernel
theorem f_134_15 : mj_fetch 134 15 = some (.bipush 9, 0, 0) := by decide +kernel
theorem f_134_17 : mj_fetch 134 17 = some (.iload_n 1, 0, 0) := by decide +kernel
theorem f_134_18 : mj_fetch 134 18 = some (.imul, 0, 0) := by decide +kernel
theorem f_134_19 : mj_fetch 134 19 = some (.bipush 8, 0, 0) := by decide +kernel
theorem f_134_21 : mj_fetch 134 21 = some (.iadd, 0, 0) := by decide +kernel
theorem f_134_22 : mj_fetch 134 22 = some (.iaload, 0, 0) := by decide +kernel
theorem f_134_23 : mj_fetch 134 23 = some (.iconst 1, 0, 0) := by decide +kernel
theorem f_134_24 : mj_fetch 134 24 = some (.isub, 0, 0) := by decide +kernel
theorem f_134_25 : mj_fetch 134 25 = some (.invokestatic 100, 112, 0) := by decide +kernel
theorem f_134_28 : mj_fetch 134 28 = some (.ifCond .eq 13, 0, 0) := by decide +kernel
theorem f_134_31 : mj_fetch 134 31 = some (.iload 4, 0, 0) := by decide +kernel
theorem f_134_33 : mj_fetch 134 33 = some (.iconst 0, 0, 0) := by decide +kernel
theorem f_134_34 : mj_fetch 134 34 = some (.iconst 3, 0, 0) := by decide +kernel
theorem f_134_35 : mj_fetch 134 35 = some (.invokestatic 100, 112, 0) := by decide +kernel
theorem f_134_38 : mj_fetch 134 38 = some (.ifCond .ne 6, 0, 0) := by decide +kernel
theorem f_134_41 : mj_fetch 134 41 = some (.ldc 175, 4293967296, 0) := by decide +kernel
theorem f_134_43 : mj_fetch 134 43 = some (.ireturn, 0, 0) := by decide +kernel
theorem f_134_44 : mj_fetch 134 44 = some (.aload_n 0, 0, 0) := by decide +kernel
theorem f_134_45 : mj_fetch 134 45 = some (.iload_n 1, 0, 0) := by decide +kernel
theorem f_134_46 : mj_fetch 134 46 = some (.iload_n 2, 0, 0) := by decide +kernel
theorem f_134_47 : mj_fetch 134 47 = some (.invokevirtual 155, 129, 0) := by decide +kernel
theorem f_134_50 : mj_fetch 134 50 = some (.iload 4, 0, 0) := by decide +kernel
theorem f_134_52 : mj_fetch 134 52 = some (.ifCond .ne 12, 0, 0) := by decide +kernel
theorem f_134_55 : mj_fetch 134 55 = some (.aload_n 0, 0, 0) := by decide +kernel
theorem f_134_56 : mj_fetch 134 56 = some (.getfield 26, 11, 9) := by decide +kernel
theorem f_134_59 : mj_fetch 134 59 = some (.iload_n 3, 0, 0) := by decide +kernel
theorem f_134_60 : mj_fetch 134 60 = some (.iaload, 0, 0) := by decide +kernel
theorem f_134_61 : mj_fetch 134 61 = some (.goto 39, 0, 0) := by decide +kernel
theorem f_134_64 : mj_fetch 134 64 = some (.iload 4, 0, 0) := by decide +kernel
theorem f_134_66 : mj_fetch 134 66 = some (.iconst 1, 0, 0) := by decide +kernel
theorem f_134_67 : mj_fetch 134 67 = some (.if_icmp .ne 12, 0, 0) := by decide +kernel
theorem f_134_70 : mj_fetch 134 70 = some (.aload_n 0, 0, 0) := by decide +kernel
theorem f_134_71 : mj_fetch 134 71 = some (.getfield 32, 11, 11) := by decide +kernel
theorem f_134_74 : mj_fetch 134 74 = some (.iload_n 3, 0, 0) := by decide +kernel
theorem f_134_75 : mj_fetch 134 75 = some (.iaload, 0, 0) := by decide +kernel
theorem f_134_76 : mj_fetch 134 76 = some (.goto 24, 0, 0) := by decide +kernel
theorem f_134_79 : mj_fetch 134 79 = some (.iload 4, 0, 0) := by decide +kernel
theorem f_134_81 : mj_fetch 134 81 = some (.iconst 2, 0, 0) := by decide +kernel
theorem f_134_82 : mj_fetch 134 82 = some (.if_icmp .ne 12, 0, 0) := by decide +kernel
theorem f_134_85 : mj_fetch 134 85 = some (.aload_n 0, 0, 0) := by decide +kernel
theorem f_134_86 : mj_fetch 134 86 = some (.getfield 35, 11, 12) := by decide +kernel
theorem f_134_89 : mj_fetch 134 89 = some (.iload_n 3, 0, 0) := by decide +kernel
theorem f_134_90 : mj_fetch 134 90 = some (.iaload, 0, 0) := by decide +kernel
theorem f_134_91 : mj_fetch 134 91 = some (.goto 9, 0, 0) := by decide +kernel
theorem f_134_94 : mj_fetch 134 94 = some (.aload_n 0, 0, 0) := by decide +kernel
theorem f_134_95 : mj_fetch 134 95 = some (.getfield 38, 11, 13) := by decide +kernel
theorem f_134_98 : mj_fetch 134 98 = some (.iload_n 3, 0, 0) := by decide +kernel
theorem f_134_99 : mj_fetch 134 99 = some (.iaload, 0, 0) := by decide +kernel
theorem f_134_100 : mj_fetch 134 100 = some (.ireturn, 0, 0) := by decide +kernel
theorem f_121_54 : mj_fetch 121 54 = some (.iload 4, 0, 0) := by decide +kernel
theorem f_121_56 : mj_fetch 121 56 = some (.bipush 8, 0, 0) := by decide +kernel
theorem f_121_58 : mj_fetch 121 58 = some (.if_icmp .ge 129, 0, 0) := by decide +kernel
theorem f_121_61 : mj_fetch 121 61 = some (.aload_n 0, 0, 0) := by decide +kernel
theorem f_121_62 : mj_fetch 121 62 = some (.getfield 9, 11, 2) := by decide +kernel
theorem f_121_65 : mj_fetch 121 65 = some (.bipush 8, 0, 0) := by decide +kernel
theorem f_121_67 : mj_fetch 121 67 = some (.iload_n 1, 0, 0) := by decide +kernel
theorem f_121_68 : mj_fetch 121 68 = some (.imul, 0, 0) := by decide +kernel
theorem f_121_69 : mj_fetch 121 69 = some (.iload 4, 0, 0) := by decide +kernel
theorem f_121_71 : mj_fetch 121 71 = some (.iadd, 0, 0) := by decide +kernel
theorem f_121_72 : mj_fetch 121 72 = some (.iaload, 0, 0) := by decide +kernel
theorem f_121_73 : mj_fetch 121 73 = some (.istore 5, 0, 0) := by decide +kernel
theorem f_121_75 : mj_fetch 121 75 = some (.aload_n 0, 0, 0) := by decide +kernel
theorem f_121_76 : mj_fetch 121 76 = some (.getfield 9, 11, 2) := by decide +kernel
theorem f_121_79 : mj_fetch 121 79 = some (.bipush 8, 0, 0) := by decide +kernel
theorem f_121_81 : mj_fetch 121 81 = some (.iload_n 2, 0, 0) := by decide +kernel
theorem f_121_82 : mj_fetch 121 82 = some (.imul, 0, 0) := by decide +kernel
theorem f_121_83 : mj_fetch 121 83 = some (.iload 4, 0, 0) := by decide +kernel
theorem f_121_85 : mj_fetch 121 85 = some (.iadd, 0, 0) := by decide +kernel
theorem f_121_86 : mj_fetch 121 86 = some (.iaload, 0, 0) := by decide +kernel
theorem f_121_87 : mj_fetch 121 87 = some (.istore 6, 0, 0) := by decide +kernel
theorem f_121_89 : mj_fetch 121 89 = some (.iload 4, 0, 0) := by decide +kernel
theorem f_121_91 : mj_fetch 121 91 = some (.iconst 3, 0, 0) := by decide +kernel
theorem f_121_92 : mj_fetch 121 92 = some (.if_icmp .eq 10, 0, 0) := by decide +kernel
theorem f_121_95 : mj_fetch 121 95 = some (.iload 4, 0, 0) := by decide +kernel
theorem f_121_97 : mj_fetch 121 97 = some (.bipush 7, 0, 0) := by decide +kernel
theorem f_121_99 : mj_fetch 121 99 = some (.if_icmp .ne 7, 0, 0) := by decide +kernel
theorem f_121_102 : mj_fetch 121 102 = some (.iconst 1, 0, 0) := by decide +kernel
theorem f_121_103 : mj_fetch 121 103 = some (.goto 4, 0, 0) := by decide +kernel
theorem f_121_106 : mj_fetch 121 106 = some (.iconst 0, 0, 0) := by decide +kernel
theorem f_121_107 : mj_fetch 121 107 = some (.istore 7, 0, 0) := by decide +kernel
theorem f_121_109 : mj_fetch 121 109 = some (.iload 4, 0, 0) := by decide +kernel
theorem f_121_111 : mj_fetch 121 111 = some (.iconst 5, 0, 0) := by decide +kernel
theorem f_121_112 : mj_fetch 121 112 = some (.if_icmp .eq 10, 0, 0) := by decide +kernel
theorem f_121_115 : mj_fetch 121 115 = some (.iload 4, 0, 0) := by decide +kernel
theorem f_121_117 : mj_fetch 121 117 = some (.bipush 6, 0, 0) := by decide +kernel
theorem f_121_119 : mj_fetch 121 119 = some (.if_icmp .ne 7, 0, 0) := by decide +kernel
theorem f_121_122 : mj_fetch 121 122 = some (.iconst 1, 0, 0) := by decide +kernel
theorem f_121_123 : mj_fetch 121 123 = some (.goto 4, 0, 0) := by decide +kernel
theorem f_121_126 : mj_fetch 121 126 = some (.iconst 0, 0, 0) := by decide +kernel
theorem f_121_127 : mj_fetch 121 127 = some (.istore 8, 0, 0) := by decide +kernel
theorem f_121_129 : mj_fetch 121 129 = some (.aload_n 0, 0, 0) := by decide +kernel
theorem f_121_130 : mj_fetch 121 130 = some (.getfield 17, 11, 4) := by decide +kernel
theorem f_121_133 : mj_fetch 121 133 = some (.bipush 9, 0, 0) := by decide +kernel
theorem f_121_135 : mj_fetch 121 135 = some (.aload_n 0, 0, 0) := by decide +kernel
theorem f_121_136 : mj_fetch 121 136 = some (.getfield 110, 11, 8) := by decide +kernel
theorem f_121_139 : mj_fetch 121 139 = some (.imul, 0, 0) := by decide +kernel
theorem f_121_140 : mj_fetch 121 140 = some (.iload 4, 0, 0) := by decide +kernel
theorem f_121_142 : mj_fetch 121 142 = some (.iadd, 0, 0) := by decide +kernel
theorem f_121_143 : mj_fetch 121 143 = some (.iload 7, 0, 0) := by decide +kernel
theorem f_121_145 : mj_fetch 121 145 = some (.ifCond .eq 13, 0, 0) := by decide +kernel
theorem f_121_148 : mj_fetch 121 148 = some (.iload 5, 0, 0) := by decide +kernel
theorem f_121_150 : mj_fetch 121 150 = some (.iload 6, 0, 0) := by decide +kernel
theorem f_121_152 : mj_fetch 121 152 = some (.invokestatic 117, 0, 2) := by decide +kernel
theorem f_121_155 : mj_fetch 121 155 = some (.goto 25, 0, 0) := by decide +kernel
theorem f_121_158 : mj_fetch 121 158 = some (.iload 8, 0, 0) := by decide +kernel
theorem f_121_160 : mj_fetch 121 160 = some (.ifCond .eq 13, 0, 0) := by decide +kernel
theorem f_121_163 : mj_fetch 121 163 = some (.iload 5, 0, 0) := by decide +kernel
theorem f_121_165 : mj_fetch 121 165 = some (.iload 6, 0, 0) := by decide +kernel
theorem f_121_167 : mj_fetch 121 167 = some (.invokestatic 123, 0, 3) := by decide +kernel
theorem f_121_170 : mj_fetch 121 170 = some (.goto 10, 0, 0) := by decide +kernel
theorem f_121_173 : mj_fetch 121 173 = some (.iload 5, 0, 0) := by decide +kernel
theorem f_121_175 : mj_fetch 121 175 = some (.iload 6, 0, 0) := by decide +kernel
theorem f_121_177 : mj_fetch 121 177 = some (.iadd, 0, 0) := by decide +kernel
theorem f_121_178 : mj_fetch 121 178 = some (.iconst 2, 0, 0) := by decide +kernel
theorem f_121_179 : mj_fetch 121 179 = some (.idiv, 0, 0) := by decide +kernel
theorem f_121_180 : mj_fetch 121 180 = some (.iastore, 0, 0) := by decide +kernel
theorem f_121_181 : mj_fetch 121 181 = some (.iinc 4 1, 0, 0) := by decide +kernel
theorem f_121_184 : mj_fetch 121 184 = some (.goto (-130), 0, 0) := by decide +kernel
theorem f_121_187 : mj_fetch 121 187 = some (.aload_n 0, 0, 0) := by decide +kernel
theorem f_121_188 : mj_fetch 121 188 = some (.getfield 17, 11, 4) := by decide +kernel
theorem f_121_191 : mj_fetch 121 191 = some (.bipush 9, 0, 0) := by decide +kernel
theorem f_121_193 : mj_fetch 121 193 = some (.aload_n 0, 0, 0) := by decide +kernel
theorem f_121_194 : mj_fetch 121 194 = some (.getfield 110, 11, 8) := by decide +kernel
theorem f_121_197 : mj_fetch 121 197 = some (.imul, 0, 0) := by decide +kernel
theorem f_121_198 : mj_fetch 121 198 = some (.bipush 8, 0, 0) := by decide +kernel
theorem f_121_200 : mj_fetch 121 200 = some (.iadd, 0, 0) := by decide +kernel
theorem f_121_201 : mj_fetch 121 201 = some (.iload_n 3, 0, 0) := by decide +kernel
theorem f_121_202 : mj_fetch 121 202 = some (.iastore, 0, 0) := by decide +kernel
theorem f_121_203 : mj_fetch 121 203 = some (.aload_n 0, 0, 0) := by decide +kernel
theorem f_121_204 : mj_fetch 121 204 = some (.getfield 20, 11, 5) := by decide +kernel
theorem f_121_207 : mj_fetch 121 207 = some (.aload_n 0, 0, 0) := by decide +kernel
theorem f_121_208 : mj_fetch 121 208 = some (.getfield 110, 11, 8) := by decide +kernel
theorem f_121_211 : mj_fetch 121 211 = some (.iload_n 1, 0, 0) := by decide +kernel
theorem f_121_212 : mj_fetch 121 212 = some (.iastore, 0, 0) := by decide +kernel
theorem f_121_213 : mj_fetch 121 213 = some (.aload_n 0, 0, 0) := by decide +kernel
theorem f_121_214 : mj_fetch 121 214 = some (.getfield 23, 11, 6) := by decide +kernel
theorem f_121_217 : mj_fetch 121 217 = some (.aload_n 0, 0, 0) := by decide +kernel
theorem f_121_218 : mj_fetch 121 218 = some (.getfield 110, 11, 8) := by decide +kernel
theorem f_121_221 : mj_fetch 121 221 = some (.iload_n 2, 0, 0) := by decide +kernel
theorem f_121_222 : mj_fetch 121 222 = some (.iastore, 0, 0) := by decide +kernel
theorem f_121_223 : mj_fetch 121 223 = some (.aload_n 0, 0, 0) := by decide +kernel
theorem f_121_224 : mj_fetch 121 224 = some (.dup, 0, 0) := by decide +kernel
theorem f_121_225 : mj_fetch 121 225 = some (.getfield 110, 11, 8) := by decide +kernel
theorem f_121_228 : mj_fetch 121 228 = some (.iconst 1, 0, 0) := by decide +kernel
theorem f_121_229 : mj_fetch 121 229 = some (.iadd, 0, 0) := by decide +kernel
theorem f_121_230 : mj_fetch 121 230 = some (.putfield 110, 11, 8) := by decide +kernel
theorem f_121_233 : mj_fetch 121 233 = some (.aload_n 0, 0, 0) := by decide +kernel
theorem f_121_234 : mj_fetch 121 234 = some (.getfield 110, 11, 8) := by decide +kernel
theorem f_121_237 : mj_fetch 121 237 = some (.iconst 1, 0, 0) := by decide +kernel
theorem f_121_238 : mj_fetch 121 238 = some (.isub, 0, 0) := by decide +kernel
theorem f_121_239 : mj_fetch 121 239 = some (.ireturn, 0, 0) := by decide +kernel
theorem f_121_0 : mj_fetch 121 0 = some (.aload_n 0, 0, 0) := by decide +kernel
theorem f_121_1 : mj_fetch 121 1 = some (.iload_n 1, 0, 0) := by decide +kernel
theorem f_121_2 : mj_fetch 121 2 = some (.invokevirtual 113, 116, 0) := by decide +kernel
theorem f_121_5 : mj_fetch 121 5 = some (.ifCond .eq 44, 0, 0) := by decide +kernel
theorem f_121_8 : mj_fetch 121 8 = some (.aload_n 0, 0, 0) := by decide +kernel
theorem f_121_9 : mj_fetch 121 9 = some (.iload_n 2, 0, 0) := by decide +kernel
theorem f_121_10 : mj_fetch 121 10 = some (.invokevirtual 113, 116, 0) := by decide +kernel
theorem f_121_13 : mj_fetch 121 13 = some (.ifCond .eq 36, 0, 0) := by decide +kernel
theorem f_121_16 : mj_fetch 121 16 = some (.aload_n 0, 0, 0) := by decide +kernel
theorem f_121_17 : mj_fetch 121 17 = some (.getfield 13, 11, 3) := by decide +kernel
theorem f_121_20 : mj_fetch 121 20 = some (.bipush 6, 0, 0) := by decide +kernel
theorem f_121_22 : mj_fetch 121 22 = some (.iload_n 1, 0, 0) := by decide +kernel
theorem f_121_23 : mj_fetch 121 23 = some (.imul, 0, 0) := by decide +kernel
theorem f_121_24 : mj_fetch 121 24 = some (.iload_n 2, 0, 0) := by decide +kernel
theorem f_121_25 : mj_fetch 121 25 = some (.iadd, 0, 0) := by decide +kernel
theorem f_121_26 : mj_fetch 121 26 = some (.baload, 0, 0) := by decide +kernel
theorem f_121_27 : mj_fetch 121 27 = some (.ifCond .ne 22, 0, 0) := by decide +kernel
theorem f_121_30 : mj_fetch 121 30 = some (.iload_n 3, 0, 0) := by decide +kernel
theorem f_121_31 : mj_fetch 121 31 = some (.iconst 2, 0, 0) := by decide +kernel
theorem f_121_32 : mj_fetch 121 32 = some (.bipush 6, 0, 0) := by decide +kernel
theorem f_121_34 : mj_fetch 121 34 = some (.invokestatic 100, 112, 0) := by decide +kernel
theorem f_121_37 : mj_fetch 121 37 = some (.ifCond .eq 12, 0, 0) := by decide +kernel
theorem f_121_40 : mj_fetch 121 40 = some (.aload_n 0, 0, 0) := by decide +kernel
theorem f_121_41 : mj_fetch 121 41 = some (.getfield 110, 11, 8) := by decide +kernel
theorem f_121_44 : mj_fetch 121 44 = some (.bipush 20, 0, 0) := by decide +kernel
theorem f_121_46 : mj_fetch 121 46 = some (.if_icmp .ne 5, 0, 0) := by decide +kernel
theorem f_121_49 : mj_fetch 121 49 = some (.iconst (-1), 0, 0) := by decide +kernel
theorem f_121_50 : mj_fetch 121 50 = some (.ireturn, 0, 0) := by decide +kernel
theorem f_121_51 : mj_fetch 121 51 = some (.iconst 0, 0, 0) := by decide +kernel
theorem f_121_52 : mj_fetch 121 52 = some (.istore 4, 0, 0) := by decide +kernel
set_option maxRecDepth 20000 in
theorem c_ring {h : mj_H} {jm : Nat} (hW : MW h jm) (e_jm : mj_I h 33 8 = nI jm) (j s : Int32) (r w : Int32) : mxc 3 134 [.ref 33, .int j, .int s, .int r, .int w] h (fun r1 h' => if (mIn j jm ∧ mIn s 729) ∧ mIn r (rgs h j.toNatClampNeg) ∧ (nI 0 ≤ w ∧ w ≤ nI 3) then r1 = some (.int (if w = 0 then (wd_T (mM h j.toNatClampNeg) (rgs h j.toNatClampNeg) s.toNatClampNeg).1 r.toNatClampNeg else if w = nI 1 then (wd_T (mM h j.toNatClampNeg) (rgs h j.toNatClampNeg) s.toNatClampNeg).2.1 r.toNatClampNeg else if w = nI 2 then (wd_T (mM h j.toNatClampNeg) (rgs h j.toNatClampNeg) s.toNatClampNeg).2.2.1 r.toNatClampNeg else (wd_T (mM h j.toNatClampNeg) (rgs h j.toNatClampNeg) s.toNatClampNeg).2.2.2 r.toNatClampNeg)) ∧ MV h h' jm else r1 = some (.int (-1000000)) ∧ h' = h) := by
  have S := hW.1
  show mx 3 134 0 [.ref 33, .int j, .int s, .int r, .int w] [] h _
  refine x_aload_n f_134_0 rfl ?_
  refine x_iload_n f_134_1 rfl ?_
  refine x_iload_n f_134_2 rfl ?_
  refine x_callVe f_134_3 (c_isAsked hW.1 _ _ (jm := jm) (by have := hW.2.2.1; omega) e_jm) (by omega) S.k33 (by decide) rfl rfl (Nat.le_of_ble_eq_true rfl) rfl ?_
  refine x_ifB_eq (t := 41) f_134_6 (by decide) (fun c_1 => ?_) (fun c_1 => ?_)
  · refine x_ldc (v := -1000000) f_134_41 (by decide) ?_
    refine x_retI f_134_43 rfl ?_
    exact mj_qF (fun q => c_1 (q.1)) ⟨rfl, rfl⟩
  · obtain ⟨i, h_i, rfl⟩ := mIn_of c_1.1 (by have := hW.2.2.1; omega)
    obtain ⟨k, h_k, rfl⟩ := mIn_of c_1.2 (by decide)
    have S := hW.1
    have hjm := hW.2.2.1
    simp only [nI_clamp (show i < 2 ^ 31 by omega), nI_clamp (show k < 2 ^ 31 by omega)]
    obtain ⟨rg, e_rg, hrg, h1, h4⟩ := hW.2.2.2.1 i h_i
    have hj20 : i < 20 := by omega
    simp only [rgs_eq e_rg hrg]
    refine x_iload_n f_134_9 rfl ?_
    refine x_iconst (v := nI 0) f_134_10 (by decide) ?_
    refine x_aload_n f_134_11 rfl ?_
    refine x_getR f_134_12 S.k33 (by decide) S.r4 ?_
    refine x_bipush (v := nI 9) f_134_15 (by decide) ?_
    refine x_iload_n f_134_17 rfl ?_
    refine x_imulN f_134_18 ?_
    refine x_bipush (v := nI 8) f_134_19 (by decide) ?_
    refine x_iaddN f_134_21 ?_
    refine x_iald (j := ((9 * i) + 8)) f_134_22 S.k36 (by omega) (by decide) ?_
    refine x_topi (w := nI rg) e_rg ?_
    refine x_iconst (v := nI 1) f_134_23 (by decide) ?_
    refine x_isub f_134_24 ?_
    refine x_callSe f_134_25 (c_inM _ _ (n := rg) (by omega)) (by omega) rfl rfl rfl (Nat.le_of_ble_eq_true rfl) rfl ?_
    refine x_ifB_eq (t := 41) f_134_28 (by decide) (fun c_2 => ?_) (fun c_2 => ?_)
    · refine x_ldc (v := -1000000) f_134_41 (by decide) ?_
      refine x_retI f_134_43 rfl ?_
      exact mj_qF (fun q => c_2 (q.2.1)) ⟨rfl, rfl⟩
    · refine x_iload f_134_31 rfl ?_
      refine x_iconst (v := nI 0) f_134_33 (by decide) ?_
      refine x_iconst (v := nI 3) f_134_34 (by decide) ?_
      refine x_callSe f_134_35 (c_in _ _ _ _) (by omega) rfl rfl rfl (Nat.le_of_ble_eq_true rfl) rfl ?_
      refine x_ifB_ne (t := 44) f_134_38 (by decide) (fun c_3 => ?_) (fun c_3 => ?_)
      · obtain ⟨q, h_q, rfl⟩ := mIn_of c_2 (by omega)
        simp only [nI_clamp (show q < 2 ^ 31 by omega)]
        refine x_aload_n f_134_44 rfl ?_
        refine x_iload_n f_134_45 rfl ?_
        refine x_iload_n f_134_46 rfl ?_
        refine x_callV f_134_47 (c_weld S hW.2.1 hj20 e_rg hrg h1 h4 h_k) (by omega) S.k33 (by decide) rfl rfl (Nat.le_of_ble_eq_true rfl) rfl ?_
        rintro _ g ⟨rfl, hw⟩; have S : SM g := hw.1
        refine x_iload f_134_50 rfl ?_
        refine x_if_ne (t := 64) f_134_52 (by decide) (fun c_4 => ?_) (fun c_4 => ?_)
        · refine x_iload f_134_64 rfl ?_
          refine x_iconst (v := nI 1) f_134_66 (by decide) ?_
          refine x_icmp_ne (t := 79) f_134_67 (by decide) (fun c_5 => ?_) (fun c_5 => ?_)
          · refine x_iload f_134_79 rfl ?_
            refine x_iconst (v := nI 2) f_134_81 (by decide) ?_
            refine x_icmp_ne (t := 94) f_134_82 (by decide) (fun c_6 => ?_) (fun c_6 => ?_)
            · refine x_aload_n f_134_94 rfl ?_
              refine x_getR f_134_95 S.k33 (by decide) S.r13 ?_
              refine x_iload_n f_134_98 rfl ?_
              refine x_iald (j := q) f_134_99 S.k43 (by omega) (by decide) ?_
              refine x_topi (w := (wd_T (mM h i) rg k).2.2.2 q) (congrFun (congrArg (fun t => t.2.2.2) hw.2.2.2.1) _) ?_
              refine x_retI f_134_100 rfl ?_
              exact mj_qT ⟨c_1, c_2, c_3⟩ ⟨by rw [if_neg c_4, if_neg c_5, if_neg c_6], MV.wj hW hrg.2 (WJ_of hw)⟩
            · refine x_aload_n f_134_85 rfl ?_
              refine x_getR f_134_86 S.k33 (by decide) S.r12 ?_
              refine x_iload_n f_134_89 rfl ?_
              refine x_iald (j := q) f_134_90 S.k42 (by omega) (by decide) ?_
              refine x_topi (w := (wd_T (mM h i) rg k).2.2.1 q) (congrFun (congrArg (fun t => t.2.2.1) hw.2.2.2.1) _) ?_
              refine x_goto (t := 100) f_134_91 (by decide) ?_
              refine x_retI f_134_100 rfl ?_
              exact mj_qT ⟨c_1, c_2, c_3⟩ ⟨by rw [if_neg c_4, if_neg c_5, if_pos c_6], MV.wj hW hrg.2 (WJ_of hw)⟩
          · refine x_aload_n f_134_70 rfl ?_
            refine x_getR f_134_71 S.k33 (by decide) S.r11 ?_
            refine x_iload_n f_134_74 rfl ?_
            refine x_iald (j := q) f_134_75 S.k41 (by omega) (by decide) ?_
            refine x_topi (w := (wd_T (mM h i) rg k).2.1 q) (congrFun (congrArg (fun t => t.2.1) hw.2.2.2.1) _) ?_
            refine x_goto (t := 100) f_134_76 (by decide) ?_
            refine x_retI f_134_100 rfl ?_
            exact mj_qT ⟨c_1, c_2, c_3⟩ ⟨by rw [if_neg c_4, if_pos c_5], MV.wj hW hrg.2 (WJ_of hw)⟩
        · refine x_aload_n f_134_55 rfl ?_
          refine x_getR f_134_56 S.k33 (by decide) S.r9 ?_
          refine x_iload_n f_134_59 rfl ?_
          refine x_iald (j := q) f_134_60 S.k39 (by omega) (by decide) ?_
          refine x_topi (w := (wd_T (mM h i) rg k).1 q) (congrFun (congrArg (fun t => t.1) hw.2.2.2.1) _) ?_
          refine x_goto (t := 100) f_134_61 (by decide) ?_
          refine x_retI f_134_100 rfl ?_
          exact mj_qT ⟨c_1, c_2, c_3⟩ ⟨by rw [if_pos c_4], MV.wj hW hrg.2 (WJ_of hw)⟩
      · refine x_ldc (v := -1000000) f_134_41 (by decide) ?_
        refine x_retI f_134_43 rfl ?_
        exact mj_qF (fun q => c_3 (q.2.2)) ⟨rfl, rfl⟩
/-- a mark of a job out of its two stuffs' -/
def jn (k : Nat) (x y : Int32) : Int32 := if k = 3 ∨ k = 7 then (if y < x then y else x) else if k = 5 ∨ k = 6 then (if x < y then y else x) else (x + y) / nI 2

set_option maxRecDepth 20000 in
set_option maxHeartbeats 4000000 in
theorem job_l {h : mj_H} {jm i l : Nat} (h_i : i < 6) (h_l : l < 6) (h_jm : jm < 20) (e_jm : mj_I h 33 8 = nI jm) (rings : Int32) {Q : Option Value → mj_H → Prop}
    (K : ∀ (g : mj_H) (v5 v6 v7 v8 : Value), SM g → Rw h g [36] → (∀ q, mj_I g 36 q = if 9 * jm ≤ q ∧ q < 9 * jm + 8 then jn (q - 9 * jm) (mj_I h 34 (8 * i + (q - 9 * jm))) (mj_I h 34 (8 * l + (q - 9 * jm))) else mj_I h 36 q) → mx 2 121 187 [.ref 33, .int (nI i), .int (nI l), .int rings, .int (nI 8), v5, v6, v7, v8] [] g Q) :
    ∀ (n k : Nat) (g : mj_H) (v5 v6 v7 v8 : Value), k + n = 8 → SM g → Rw h g [36] → (∀ q, mj_I g 36 q = if 9 * jm ≤ q ∧ q < 9 * jm + k then jn (q - 9 * jm) (mj_I h 34 (8 * i + (q - 9 * jm))) (mj_I h 34 (8 * l + (q - 9 * jm))) else mj_I h 36 q) → mx 2 121 54 [.ref 33, .int (nI i), .int (nI l), .int rings, .int (nI k), v5, v6, v7, v8] [] g Q := by
  intro n
  induction n with
  | zero =>
    intro k g v5 v6 v7 v8 hk S hR i36
    have hkk : k = 8 := by omega
    subst hkk
    refine x_iload f_121_54 rfl ?_
    refine x_bipush (v := nI 8) f_121_56 (by decide) ?_
    refine x_icmpN_ge (t := 187) f_121_58 (by decide) (by decide) (by decide) (fun c_1 => ?_) (fun c_1 => by omega)
    exact K g v5 v6 v7 v8 S hR i36
  | succ n ih =>
    intro k g v5 v6 v7 v8 hk S hR i36
    have e33 : mj_I g 33 = mj_I h 33 := hR.i (by decide)
    have e34 : mj_I g 34 = mj_I h 34 := hR.i (by decide)
    refine x_iload f_121_54 rfl ?_
    refine x_bipush (v := nI 8) f_121_56 (by decide) ?_
    refine x_icmpN_ge (t := 187) f_121_58 (by decide) (by omega) (by decide) (fun c_1 => by omega) (fun c_1 => ?_)
    refine x_aload_n f_121_61 rfl ?_
    refine x_getR f_121_62 S.k33 (by decide) S.r2 ?_
    refine x_bipush (v := nI 8) f_121_65 (by decide) ?_
    refine x_iload_n f_121_67 rfl ?_
    refine x_imulN f_121_68 ?_
    refine x_iload f_121_69 rfl ?_
    refine x_iaddN f_121_71 ?_
    refine x_iald (j := ((8 * i) + k)) f_121_72 S.k34 (by omega) (by decide) ?_
    refine x_topi (w := mj_I h 34 ((8 * i) + k)) (congrFun e34 _) ?_
    refine x_istore (ls1 := [.ref 33, .int (nI i), .int (nI l), .int rings, .int (nI k), .int (mj_I h 34 ((8 * i) + k)), v6, v7, v8]) f_121_73 (Nat.le_of_ble_eq_true rfl) rfl ?_
    refine x_aload_n f_121_75 rfl ?_
    refine x_getR f_121_76 S.k33 (by decide) S.r2 ?_
    refine x_bipush (v := nI 8) f_121_79 (by decide) ?_
    refine x_iload_n f_121_81 rfl ?_
    refine x_imulN f_121_82 ?_
    refine x_iload f_121_83 rfl ?_
    refine x_iaddN f_121_85 ?_
    refine x_iald (j := ((8 * l) + k)) f_121_86 S.k34 (by omega) (by decide) ?_
    refine x_topi (w := mj_I h 34 ((8 * l) + k)) (congrFun e34 _) ?_
    refine x_istore (ls1 := [.ref 33, .int (nI i), .int (nI l), .int rings, .int (nI k), .int (mj_I h 34 ((8 * i) + k)), .int (mj_I h 34 ((8 * l) + k)), v7, v8]) f_121_87 (Nat.le_of_ble_eq_true rfl) rfl ?_
    refine x_iload f_121_89 rfl ?_
    refine x_iconst (v := nI 3) f_121_91 (by decide) ?_
    refine x_icmpN_eq (t := 102) f_121_92 (by decide) (by omega) (by decide) (fun c_3 => ?_) (fun c_3 => ?_)
    · refine x_iconst (v := nI 1) f_121_102 (by decide) ?_
      refine x_goto (t := 107) f_121_103 (by decide) ?_
      refine x_istore (ls1 := [.ref 33, .int (nI i), .int (nI l), .int rings, .int (nI k), .int (mj_I h 34 ((8 * i) + k)), .int (mj_I h 34 ((8 * l) + k)), .int (nI 1), v8]) f_121_107 (Nat.le_of_ble_eq_true rfl) rfl ?_
      refine x_iload f_121_109 rfl ?_
      refine x_iconst (v := nI 5) f_121_111 (by decide) ?_
      refine x_icmpN_eq (t := 122) f_121_112 (by decide) (by omega) (by decide) (fun c_5 => ?_) (fun c_5 => ?_)
      · refine x_iconst (v := nI 1) f_121_122 (by decide) ?_
        refine x_goto (t := 127) f_121_123 (by decide) ?_
        refine x_istore (ls1 := [.ref 33, .int (nI i), .int (nI l), .int rings, .int (nI k), .int (mj_I h 34 ((8 * i) + k)), .int (mj_I h 34 ((8 * l) + k)), .int (nI 1), .int (nI 1)]) f_121_127 (Nat.le_of_ble_eq_true rfl) rfl ?_
        refine x_aload_n f_121_129 rfl ?_
        refine x_getR f_121_130 S.k33 (by decide) S.r4 ?_
        refine x_bipush (v := nI 9) f_121_133 (by decide) ?_
        refine x_aload_n f_121_135 rfl ?_
        refine x_getI f_121_136 S.k33 (by decide) ?_
        refine x_topi (w := nI jm) ((congrFun e33 8).trans e_jm) ?_
        refine x_imulN f_121_139 ?_
        refine x_iload f_121_140 rfl ?_
        refine x_iaddN f_121_142 ?_
        refine x_iload f_121_143 rfl ?_
        refine x_ifN_eq (t := 158) f_121_145 (by decide) (by decide) (fun c_2 => by omega) (fun c_2 => ?_)
        refine x_iload f_121_148 rfl ?_
        refine x_iload f_121_150 rfl ?_
        refine x_min f_121_152 (Nat.le_of_ble_eq_true rfl) ?_
        refine x_goto (t := 180) f_121_155 (by decide) ?_
        refine x_iast (j := ((9 * jm) + k)) f_121_180 S.k36 (by decide) (by omega) (by decide) ?_
        refine x_iinc (v := nI (k + 1)) (ls1 := [.ref 33, .int (nI i), .int (nI l), .int rings, .int (nI (k + 1)), .int (mj_I h 34 ((8 * i) + k)), .int (mj_I h 34 ((8 * l) + k)), .int (nI 1), .int (nI 1)]) f_121_181 rfl (by exact nI_add _ 1) rfl ?_
        refine x_goto (t := 54) f_121_184 (by decide) ?_
        have hjn : (if (mj_I h 34 ((8 * l) + k)) < (mj_I h 34 ((8 * i) + k)) then (mj_I h 34 ((8 * l) + k)) else (mj_I h 34 ((8 * i) + k))) = jn k (mj_I h 34 (8 * i + k)) (mj_I h 34 (8 * l + k)) := by
          unfold jn
          rw [if_pos (show k = 3 ∨ k = 7 by omega)]
        refine ih (k + 1) (mj_setI g 36 ((9 * jm) + k) (if (mj_I h 34 ((8 * l) + k)) < (mj_I h 34 ((8 * i) + k)) then (mj_I h 34 ((8 * l) + k)) else (mj_I h 34 ((8 * i) + k)))) _ _ _ _ (by omega) S (hR.set (by decide)) (fun q => ?_)
        by_cases hq : q = 9 * jm + k
        · subst hq
          refine (mj_I_at _ _ _ _).trans (hjn.trans ?_)
          rw [if_pos (show 9 * jm ≤ 9 * jm + k ∧ 9 * jm + k < 9 * jm + (k + 1) by omega), show 9 * jm + k - 9 * jm = k by omega]
        · refine (mj_I_ne hq).trans ((i36 q).trans ?_)
          by_cases h9 : 9 * jm ≤ q ∧ q < 9 * jm + k
          · rw [if_pos h9, if_pos (show 9 * jm ≤ q ∧ q < 9 * jm + (k + 1) by omega)]
          · rw [if_neg h9, if_neg (show ¬ (9 * jm ≤ q ∧ q < 9 * jm + (k + 1)) by omega)]
      · refine x_iload f_121_115 rfl ?_
        refine x_bipush (v := nI 6) f_121_117 (by decide) ?_
        refine x_icmpN_ne (t := 126) f_121_119 (by decide) (by omega) (by decide) (fun c_6 => ?_) (fun c_6 => ?_)
        · refine x_iconst (v := nI 0) f_121_126 (by decide) ?_
          refine x_istore (ls1 := [.ref 33, .int (nI i), .int (nI l), .int rings, .int (nI k), .int (mj_I h 34 ((8 * i) + k)), .int (mj_I h 34 ((8 * l) + k)), .int (nI 1), .int (nI 0)]) f_121_127 (Nat.le_of_ble_eq_true rfl) rfl ?_
          refine x_aload_n f_121_129 rfl ?_
          refine x_getR f_121_130 S.k33 (by decide) S.r4 ?_
          refine x_bipush (v := nI 9) f_121_133 (by decide) ?_
          refine x_aload_n f_121_135 rfl ?_
          refine x_getI f_121_136 S.k33 (by decide) ?_
          refine x_topi (w := nI jm) ((congrFun e33 8).trans e_jm) ?_
          refine x_imulN f_121_139 ?_
          refine x_iload f_121_140 rfl ?_
          refine x_iaddN f_121_142 ?_
          refine x_iload f_121_143 rfl ?_
          refine x_ifN_eq (t := 158) f_121_145 (by decide) (by decide) (fun c_3 => by omega) (fun c_3 => ?_)
          refine x_iload f_121_148 rfl ?_
          refine x_iload f_121_150 rfl ?_
          refine x_min f_121_152 (Nat.le_of_ble_eq_true rfl) ?_
          refine x_goto (t := 180) f_121_155 (by decide) ?_
          refine x_iast (j := ((9 * jm) + k)) f_121_180 S.k36 (by decide) (by omega) (by decide) ?_
          refine x_iinc (v := nI (k + 1)) (ls1 := [.ref 33, .int (nI i), .int (nI l), .int rings, .int (nI (k + 1)), .int (mj_I h 34 ((8 * i) + k)), .int (mj_I h 34 ((8 * l) + k)), .int (nI 1), .int (nI 0)]) f_121_181 rfl (by exact nI_add _ 1) rfl ?_
          refine x_goto (t := 54) f_121_184 (by decide) ?_
          have hjn : (if (mj_I h 34 ((8 * l) + k)) < (mj_I h 34 ((8 * i) + k)) then (mj_I h 34 ((8 * l) + k)) else (mj_I h 34 ((8 * i) + k))) = jn k (mj_I h 34 (8 * i + k)) (mj_I h 34 (8 * l + k)) := by
            unfold jn
            rw [if_pos (show k = 3 ∨ k = 7 by omega)]
          refine ih (k + 1) (mj_setI g 36 ((9 * jm) + k) (if (mj_I h 34 ((8 * l) + k)) < (mj_I h 34 ((8 * i) + k)) then (mj_I h 34 ((8 * l) + k)) else (mj_I h 34 ((8 * i) + k)))) _ _ _ _ (by omega) S (hR.set (by decide)) (fun q => ?_)
          by_cases hq : q = 9 * jm + k
          · subst hq
            refine (mj_I_at _ _ _ _).trans (hjn.trans ?_)
            rw [if_pos (show 9 * jm ≤ 9 * jm + k ∧ 9 * jm + k < 9 * jm + (k + 1) by omega), show 9 * jm + k - 9 * jm = k by omega]
          · refine (mj_I_ne hq).trans ((i36 q).trans ?_)
            by_cases h9 : 9 * jm ≤ q ∧ q < 9 * jm + k
            · rw [if_pos h9, if_pos (show 9 * jm ≤ q ∧ q < 9 * jm + (k + 1) by omega)]
            · rw [if_neg h9, if_neg (show ¬ (9 * jm ≤ q ∧ q < 9 * jm + (k + 1)) by omega)]
        · refine x_iconst (v := nI 1) f_121_122 (by decide) ?_
          refine x_goto (t := 127) f_121_123 (by decide) ?_
          refine x_istore (ls1 := [.ref 33, .int (nI i), .int (nI l), .int rings, .int (nI k), .int (mj_I h 34 ((8 * i) + k)), .int (mj_I h 34 ((8 * l) + k)), .int (nI 1), .int (nI 1)]) f_121_127 (Nat.le_of_ble_eq_true rfl) rfl ?_
          refine x_aload_n f_121_129 rfl ?_
          refine x_getR f_121_130 S.k33 (by decide) S.r4 ?_
          refine x_bipush (v := nI 9) f_121_133 (by decide) ?_
          refine x_aload_n f_121_135 rfl ?_
          refine x_getI f_121_136 S.k33 (by decide) ?_
          refine x_topi (w := nI jm) ((congrFun e33 8).trans e_jm) ?_
          refine x_imulN f_121_139 ?_
          refine x_iload f_121_140 rfl ?_
          refine x_iaddN f_121_142 ?_
          refine x_iload f_121_143 rfl ?_
          refine x_ifN_eq (t := 158) f_121_145 (by decide) (by decide) (fun c_4 => by omega) (fun c_4 => ?_)
          refine x_iload f_121_148 rfl ?_
          refine x_iload f_121_150 rfl ?_
          refine x_min f_121_152 (Nat.le_of_ble_eq_true rfl) ?_
          refine x_goto (t := 180) f_121_155 (by decide) ?_
          refine x_iast (j := ((9 * jm) + k)) f_121_180 S.k36 (by decide) (by omega) (by decide) ?_
          refine x_iinc (v := nI (k + 1)) (ls1 := [.ref 33, .int (nI i), .int (nI l), .int rings, .int (nI (k + 1)), .int (mj_I h 34 ((8 * i) + k)), .int (mj_I h 34 ((8 * l) + k)), .int (nI 1), .int (nI 1)]) f_121_181 rfl (by exact nI_add _ 1) rfl ?_
          refine x_goto (t := 54) f_121_184 (by decide) ?_
          have hjn : (if (mj_I h 34 ((8 * l) + k)) < (mj_I h 34 ((8 * i) + k)) then (mj_I h 34 ((8 * l) + k)) else (mj_I h 34 ((8 * i) + k))) = jn k (mj_I h 34 (8 * i + k)) (mj_I h 34 (8 * l + k)) := by
            unfold jn
            rw [if_pos (show k = 3 ∨ k = 7 by omega)]
          refine ih (k + 1) (mj_setI g 36 ((9 * jm) + k) (if (mj_I h 34 ((8 * l) + k)) < (mj_I h 34 ((8 * i) + k)) then (mj_I h 34 ((8 * l) + k)) else (mj_I h 34 ((8 * i) + k)))) _ _ _ _ (by omega) S (hR.set (by decide)) (fun q => ?_)
          by_cases hq : q = 9 * jm + k
          · subst hq
            refine (mj_I_at _ _ _ _).trans (hjn.trans ?_)
            rw [if_pos (show 9 * jm ≤ 9 * jm + k ∧ 9 * jm + k < 9 * jm + (k + 1) by omega), show 9 * jm + k - 9 * jm = k by omega]
          · refine (mj_I_ne hq).trans ((i36 q).trans ?_)
            by_cases h9 : 9 * jm ≤ q ∧ q < 9 * jm + k
            · rw [if_pos h9, if_pos (show 9 * jm ≤ q ∧ q < 9 * jm + (k + 1) by omega)]
            · rw [if_neg h9, if_neg (show ¬ (9 * jm ≤ q ∧ q < 9 * jm + (k + 1)) by omega)]
    · refine x_iload f_121_95 rfl ?_
      refine x_bipush (v := nI 7) f_121_97 (by decide) ?_
      refine x_icmpN_ne (t := 106) f_121_99 (by decide) (by omega) (by decide) (fun c_7 => ?_) (fun c_7 => ?_)
      · refine x_iconst (v := nI 0) f_121_106 (by decide) ?_
        refine x_istore (ls1 := [.ref 33, .int (nI i), .int (nI l), .int rings, .int (nI k), .int (mj_I h 34 ((8 * i) + k)), .int (mj_I h 34 ((8 * l) + k)), .int (nI 0), v8]) f_121_107 (Nat.le_of_ble_eq_true rfl) rfl ?_
        refine x_iload f_121_109 rfl ?_
        refine x_iconst (v := nI 5) f_121_111 (by decide) ?_
        refine x_icmpN_eq (t := 122) f_121_112 (by decide) (by omega) (by decide) (fun c_5 => ?_) (fun c_5 => ?_)
        · refine x_iconst (v := nI 1) f_121_122 (by decide) ?_
          refine x_goto (t := 127) f_121_123 (by decide) ?_
          refine x_istore (ls1 := [.ref 33, .int (nI i), .int (nI l), .int rings, .int (nI k), .int (mj_I h 34 ((8 * i) + k)), .int (mj_I h 34 ((8 * l) + k)), .int (nI 0), .int (nI 1)]) f_121_127 (Nat.le_of_ble_eq_true rfl) rfl ?_
          refine x_aload_n f_121_129 rfl ?_
          refine x_getR f_121_130 S.k33 (by decide) S.r4 ?_
          refine x_bipush (v := nI 9) f_121_133 (by decide) ?_
          refine x_aload_n f_121_135 rfl ?_
          refine x_getI f_121_136 S.k33 (by decide) ?_
          refine x_topi (w := nI jm) ((congrFun e33 8).trans e_jm) ?_
          refine x_imulN f_121_139 ?_
          refine x_iload f_121_140 rfl ?_
          refine x_iaddN f_121_142 ?_
          refine x_iload f_121_143 rfl ?_
          refine x_ifN_eq (t := 158) f_121_145 (by decide) (by decide) (fun c_5 => ?_) (fun c_5 => by omega)
          refine x_iload f_121_158 rfl ?_
          refine x_ifN_eq (t := 173) f_121_160 (by decide) (by decide) (fun c_6 => by omega) (fun c_6 => ?_)
          refine x_iload f_121_163 rfl ?_
          refine x_iload f_121_165 rfl ?_
          refine x_max f_121_167 (Nat.le_of_ble_eq_true rfl) ?_
          refine x_goto (t := 180) f_121_170 (by decide) ?_
          refine x_iast (j := ((9 * jm) + k)) f_121_180 S.k36 (by decide) (by omega) (by decide) ?_
          refine x_iinc (v := nI (k + 1)) (ls1 := [.ref 33, .int (nI i), .int (nI l), .int rings, .int (nI (k + 1)), .int (mj_I h 34 ((8 * i) + k)), .int (mj_I h 34 ((8 * l) + k)), .int (nI 0), .int (nI 1)]) f_121_181 rfl (by exact nI_add _ 1) rfl ?_
          refine x_goto (t := 54) f_121_184 (by decide) ?_
          have hjn : (if (mj_I h 34 ((8 * i) + k)) < (mj_I h 34 ((8 * l) + k)) then (mj_I h 34 ((8 * l) + k)) else (mj_I h 34 ((8 * i) + k))) = jn k (mj_I h 34 (8 * i + k)) (mj_I h 34 (8 * l + k)) := by
            unfold jn
            rw [if_neg (show ¬ (k = 3 ∨ k = 7) by omega), if_pos (show k = 5 ∨ k = 6 by omega)]
          refine ih (k + 1) (mj_setI g 36 ((9 * jm) + k) (if (mj_I h 34 ((8 * i) + k)) < (mj_I h 34 ((8 * l) + k)) then (mj_I h 34 ((8 * l) + k)) else (mj_I h 34 ((8 * i) + k)))) _ _ _ _ (by omega) S (hR.set (by decide)) (fun q => ?_)
          by_cases hq : q = 9 * jm + k
          · subst hq
            refine (mj_I_at _ _ _ _).trans (hjn.trans ?_)
            rw [if_pos (show 9 * jm ≤ 9 * jm + k ∧ 9 * jm + k < 9 * jm + (k + 1) by omega), show 9 * jm + k - 9 * jm = k by omega]
          · refine (mj_I_ne hq).trans ((i36 q).trans ?_)
            by_cases h9 : 9 * jm ≤ q ∧ q < 9 * jm + k
            · rw [if_pos h9, if_pos (show 9 * jm ≤ q ∧ q < 9 * jm + (k + 1) by omega)]
            · rw [if_neg h9, if_neg (show ¬ (9 * jm ≤ q ∧ q < 9 * jm + (k + 1)) by omega)]
        · refine x_iload f_121_115 rfl ?_
          refine x_bipush (v := nI 6) f_121_117 (by decide) ?_
          refine x_icmpN_ne (t := 126) f_121_119 (by decide) (by omega) (by decide) (fun c_6 => ?_) (fun c_6 => ?_)
          · refine x_iconst (v := nI 0) f_121_126 (by decide) ?_
            refine x_istore (ls1 := [.ref 33, .int (nI i), .int (nI l), .int rings, .int (nI k), .int (mj_I h 34 ((8 * i) + k)), .int (mj_I h 34 ((8 * l) + k)), .int (nI 0), .int (nI 0)]) f_121_127 (Nat.le_of_ble_eq_true rfl) rfl ?_
            refine x_aload_n f_121_129 rfl ?_
            refine x_getR f_121_130 S.k33 (by decide) S.r4 ?_
            refine x_bipush (v := nI 9) f_121_133 (by decide) ?_
            refine x_aload_n f_121_135 rfl ?_
            refine x_getI f_121_136 S.k33 (by decide) ?_
            refine x_topi (w := nI jm) ((congrFun e33 8).trans e_jm) ?_
            refine x_imulN f_121_139 ?_
            refine x_iload f_121_140 rfl ?_
            refine x_iaddN f_121_142 ?_
            refine x_iload f_121_143 rfl ?_
            refine x_ifN_eq (t := 158) f_121_145 (by decide) (by decide) (fun c_7 => ?_) (fun c_7 => by omega)
            refine x_iload f_121_158 rfl ?_
            refine x_ifN_eq (t := 173) f_121_160 (by decide) (by decide) (fun c_8 => ?_) (fun c_8 => by omega)
            refine x_iload f_121_173 rfl ?_
            refine x_iload f_121_175 rfl ?_
            refine x_iadd f_121_177 ?_
            refine x_iconst (v := nI 2) f_121_178 (by decide) ?_
            refine x_idiv f_121_179 (by decide) ?_
            refine x_iast (j := ((9 * jm) + k)) f_121_180 S.k36 (by decide) (by omega) (by decide) ?_
            refine x_iinc (v := nI (k + 1)) (ls1 := [.ref 33, .int (nI i), .int (nI l), .int rings, .int (nI (k + 1)), .int (mj_I h 34 ((8 * i) + k)), .int (mj_I h 34 ((8 * l) + k)), .int (nI 0), .int (nI 0)]) f_121_181 rfl (by exact nI_add _ 1) rfl ?_
            refine x_goto (t := 54) f_121_184 (by decide) ?_
            have hjn : (((mj_I h 34 ((8 * i) + k)) + (mj_I h 34 ((8 * l) + k))) / (nI 2)) = jn k (mj_I h 34 (8 * i + k)) (mj_I h 34 (8 * l + k)) := by
              unfold jn
              rw [if_neg (show ¬ (k = 3 ∨ k = 7) by omega), if_neg (show ¬ (k = 5 ∨ k = 6) by omega)]
            refine ih (k + 1) (mj_setI g 36 ((9 * jm) + k) (((mj_I h 34 ((8 * i) + k)) + (mj_I h 34 ((8 * l) + k))) / (nI 2))) _ _ _ _ (by omega) S (hR.set (by decide)) (fun q => ?_)
            by_cases hq : q = 9 * jm + k
            · subst hq
              refine (mj_I_at _ _ _ _).trans (hjn.trans ?_)
              rw [if_pos (show 9 * jm ≤ 9 * jm + k ∧ 9 * jm + k < 9 * jm + (k + 1) by omega), show 9 * jm + k - 9 * jm = k by omega]
            · refine (mj_I_ne hq).trans ((i36 q).trans ?_)
              by_cases h9 : 9 * jm ≤ q ∧ q < 9 * jm + k
              · rw [if_pos h9, if_pos (show 9 * jm ≤ q ∧ q < 9 * jm + (k + 1) by omega)]
              · rw [if_neg h9, if_neg (show ¬ (9 * jm ≤ q ∧ q < 9 * jm + (k + 1)) by omega)]
          · refine x_iconst (v := nI 1) f_121_122 (by decide) ?_
            refine x_goto (t := 127) f_121_123 (by decide) ?_
            refine x_istore (ls1 := [.ref 33, .int (nI i), .int (nI l), .int rings, .int (nI k), .int (mj_I h 34 ((8 * i) + k)), .int (mj_I h 34 ((8 * l) + k)), .int (nI 0), .int (nI 1)]) f_121_127 (Nat.le_of_ble_eq_true rfl) rfl ?_
            refine x_aload_n f_121_129 rfl ?_
            refine x_getR f_121_130 S.k33 (by decide) S.r4 ?_
            refine x_bipush (v := nI 9) f_121_133 (by decide) ?_
            refine x_aload_n f_121_135 rfl ?_
            refine x_getI f_121_136 S.k33 (by decide) ?_
            refine x_topi (w := nI jm) ((congrFun e33 8).trans e_jm) ?_
            refine x_imulN f_121_139 ?_
            refine x_iload f_121_140 rfl ?_
            refine x_iaddN f_121_142 ?_
            refine x_iload f_121_143 rfl ?_
            refine x_ifN_eq (t := 158) f_121_145 (by decide) (by decide) (fun c_9 => ?_) (fun c_9 => by omega)
            refine x_iload f_121_158 rfl ?_
            refine x_ifN_eq (t := 173) f_121_160 (by decide) (by decide) (fun c_10 => by omega) (fun c_10 => ?_)
            refine x_iload f_121_163 rfl ?_
            refine x_iload f_121_165 rfl ?_
            refine x_max f_121_167 (Nat.le_of_ble_eq_true rfl) ?_
            refine x_goto (t := 180) f_121_170 (by decide) ?_
            refine x_iast (j := ((9 * jm) + k)) f_121_180 S.k36 (by decide) (by omega) (by decide) ?_
            refine x_iinc (v := nI (k + 1)) (ls1 := [.ref 33, .int (nI i), .int (nI l), .int rings, .int (nI (k + 1)), .int (mj_I h 34 ((8 * i) + k)), .int (mj_I h 34 ((8 * l) + k)), .int (nI 0), .int (nI 1)]) f_121_181 rfl (by exact nI_add _ 1) rfl ?_
            refine x_goto (t := 54) f_121_184 (by decide) ?_
            have hjn : (if (mj_I h 34 ((8 * i) + k)) < (mj_I h 34 ((8 * l) + k)) then (mj_I h 34 ((8 * l) + k)) else (mj_I h 34 ((8 * i) + k))) = jn k (mj_I h 34 (8 * i + k)) (mj_I h 34 (8 * l + k)) := by
              unfold jn
              rw [if_neg (show ¬ (k = 3 ∨ k = 7) by omega), if_pos (show k = 5 ∨ k = 6 by omega)]
            refine ih (k + 1) (mj_setI g 36 ((9 * jm) + k) (if (mj_I h 34 ((8 * i) + k)) < (mj_I h 34 ((8 * l) + k)) then (mj_I h 34 ((8 * l) + k)) else (mj_I h 34 ((8 * i) + k)))) _ _ _ _ (by omega) S (hR.set (by decide)) (fun q => ?_)
            by_cases hq : q = 9 * jm + k
            · subst hq
              refine (mj_I_at _ _ _ _).trans (hjn.trans ?_)
              rw [if_pos (show 9 * jm ≤ 9 * jm + k ∧ 9 * jm + k < 9 * jm + (k + 1) by omega), show 9 * jm + k - 9 * jm = k by omega]
            · refine (mj_I_ne hq).trans ((i36 q).trans ?_)
              by_cases h9 : 9 * jm ≤ q ∧ q < 9 * jm + k
              · rw [if_pos h9, if_pos (show 9 * jm ≤ q ∧ q < 9 * jm + (k + 1) by omega)]
              · rw [if_neg h9, if_neg (show ¬ (9 * jm ≤ q ∧ q < 9 * jm + (k + 1)) by omega)]
      · refine x_iconst (v := nI 1) f_121_102 (by decide) ?_
        refine x_goto (t := 107) f_121_103 (by decide) ?_
        refine x_istore (ls1 := [.ref 33, .int (nI i), .int (nI l), .int rings, .int (nI k), .int (mj_I h 34 ((8 * i) + k)), .int (mj_I h 34 ((8 * l) + k)), .int (nI 1), v8]) f_121_107 (Nat.le_of_ble_eq_true rfl) rfl ?_
        refine x_iload f_121_109 rfl ?_
        refine x_iconst (v := nI 5) f_121_111 (by decide) ?_
        refine x_icmpN_eq (t := 122) f_121_112 (by decide) (by omega) (by decide) (fun c_5 => ?_) (fun c_5 => ?_)
        · refine x_iconst (v := nI 1) f_121_122 (by decide) ?_
          refine x_goto (t := 127) f_121_123 (by decide) ?_
          refine x_istore (ls1 := [.ref 33, .int (nI i), .int (nI l), .int rings, .int (nI k), .int (mj_I h 34 ((8 * i) + k)), .int (mj_I h 34 ((8 * l) + k)), .int (nI 1), .int (nI 1)]) f_121_127 (Nat.le_of_ble_eq_true rfl) rfl ?_
          refine x_aload_n f_121_129 rfl ?_
          refine x_getR f_121_130 S.k33 (by decide) S.r4 ?_
          refine x_bipush (v := nI 9) f_121_133 (by decide) ?_
          refine x_aload_n f_121_135 rfl ?_
          refine x_getI f_121_136 S.k33 (by decide) ?_
          refine x_topi (w := nI jm) ((congrFun e33 8).trans e_jm) ?_
          refine x_imulN f_121_139 ?_
          refine x_iload f_121_140 rfl ?_
          refine x_iaddN f_121_142 ?_
          refine x_iload f_121_143 rfl ?_
          refine x_ifN_eq (t := 158) f_121_145 (by decide) (by decide) (fun c_11 => by omega) (fun c_11 => ?_)
          refine x_iload f_121_148 rfl ?_
          refine x_iload f_121_150 rfl ?_
          refine x_min f_121_152 (Nat.le_of_ble_eq_true rfl) ?_
          refine x_goto (t := 180) f_121_155 (by decide) ?_
          refine x_iast (j := ((9 * jm) + k)) f_121_180 S.k36 (by decide) (by omega) (by decide) ?_
          refine x_iinc (v := nI (k + 1)) (ls1 := [.ref 33, .int (nI i), .int (nI l), .int rings, .int (nI (k + 1)), .int (mj_I h 34 ((8 * i) + k)), .int (mj_I h 34 ((8 * l) + k)), .int (nI 1), .int (nI 1)]) f_121_181 rfl (by exact nI_add _ 1) rfl ?_
          refine x_goto (t := 54) f_121_184 (by decide) ?_
          have hjn : (if (mj_I h 34 ((8 * l) + k)) < (mj_I h 34 ((8 * i) + k)) then (mj_I h 34 ((8 * l) + k)) else (mj_I h 34 ((8 * i) + k))) = jn k (mj_I h 34 (8 * i + k)) (mj_I h 34 (8 * l + k)) := by
            unfold jn
            rw [if_pos (show k = 3 ∨ k = 7 by omega)]
          refine ih (k + 1) (mj_setI g 36 ((9 * jm) + k) (if (mj_I h 34 ((8 * l) + k)) < (mj_I h 34 ((8 * i) + k)) then (mj_I h 34 ((8 * l) + k)) else (mj_I h 34 ((8 * i) + k)))) _ _ _ _ (by omega) S (hR.set (by decide)) (fun q => ?_)
          by_cases hq : q = 9 * jm + k
          · subst hq
            refine (mj_I_at _ _ _ _).trans (hjn.trans ?_)
            rw [if_pos (show 9 * jm ≤ 9 * jm + k ∧ 9 * jm + k < 9 * jm + (k + 1) by omega), show 9 * jm + k - 9 * jm = k by omega]
          · refine (mj_I_ne hq).trans ((i36 q).trans ?_)
            by_cases h9 : 9 * jm ≤ q ∧ q < 9 * jm + k
            · rw [if_pos h9, if_pos (show 9 * jm ≤ q ∧ q < 9 * jm + (k + 1) by omega)]
            · rw [if_neg h9, if_neg (show ¬ (9 * jm ≤ q ∧ q < 9 * jm + (k + 1)) by omega)]
        · refine x_iload f_121_115 rfl ?_
          refine x_bipush (v := nI 6) f_121_117 (by decide) ?_
          refine x_icmpN_ne (t := 126) f_121_119 (by decide) (by omega) (by decide) (fun c_6 => ?_) (fun c_6 => ?_)
          · refine x_iconst (v := nI 0) f_121_126 (by decide) ?_
            refine x_istore (ls1 := [.ref 33, .int (nI i), .int (nI l), .int rings, .int (nI k), .int (mj_I h 34 ((8 * i) + k)), .int (mj_I h 34 ((8 * l) + k)), .int (nI 1), .int (nI 0)]) f_121_127 (Nat.le_of_ble_eq_true rfl) rfl ?_
            refine x_aload_n f_121_129 rfl ?_
            refine x_getR f_121_130 S.k33 (by decide) S.r4 ?_
            refine x_bipush (v := nI 9) f_121_133 (by decide) ?_
            refine x_aload_n f_121_135 rfl ?_
            refine x_getI f_121_136 S.k33 (by decide) ?_
            refine x_topi (w := nI jm) ((congrFun e33 8).trans e_jm) ?_
            refine x_imulN f_121_139 ?_
            refine x_iload f_121_140 rfl ?_
            refine x_iaddN f_121_142 ?_
            refine x_iload f_121_143 rfl ?_
            refine x_ifN_eq (t := 158) f_121_145 (by decide) (by decide) (fun c_12 => by omega) (fun c_12 => ?_)
            refine x_iload f_121_148 rfl ?_
            refine x_iload f_121_150 rfl ?_
            refine x_min f_121_152 (Nat.le_of_ble_eq_true rfl) ?_
            refine x_goto (t := 180) f_121_155 (by decide) ?_
            refine x_iast (j := ((9 * jm) + k)) f_121_180 S.k36 (by decide) (by omega) (by decide) ?_
            refine x_iinc (v := nI (k + 1)) (ls1 := [.ref 33, .int (nI i), .int (nI l), .int rings, .int (nI (k + 1)), .int (mj_I h 34 ((8 * i) + k)), .int (mj_I h 34 ((8 * l) + k)), .int (nI 1), .int (nI 0)]) f_121_181 rfl (by exact nI_add _ 1) rfl ?_
            refine x_goto (t := 54) f_121_184 (by decide) ?_
            have hjn : (if (mj_I h 34 ((8 * l) + k)) < (mj_I h 34 ((8 * i) + k)) then (mj_I h 34 ((8 * l) + k)) else (mj_I h 34 ((8 * i) + k))) = jn k (mj_I h 34 (8 * i + k)) (mj_I h 34 (8 * l + k)) := by
              unfold jn
              rw [if_pos (show k = 3 ∨ k = 7 by omega)]
            refine ih (k + 1) (mj_setI g 36 ((9 * jm) + k) (if (mj_I h 34 ((8 * l) + k)) < (mj_I h 34 ((8 * i) + k)) then (mj_I h 34 ((8 * l) + k)) else (mj_I h 34 ((8 * i) + k)))) _ _ _ _ (by omega) S (hR.set (by decide)) (fun q => ?_)
            by_cases hq : q = 9 * jm + k
            · subst hq
              refine (mj_I_at _ _ _ _).trans (hjn.trans ?_)
              rw [if_pos (show 9 * jm ≤ 9 * jm + k ∧ 9 * jm + k < 9 * jm + (k + 1) by omega), show 9 * jm + k - 9 * jm = k by omega]
            · refine (mj_I_ne hq).trans ((i36 q).trans ?_)
              by_cases h9 : 9 * jm ≤ q ∧ q < 9 * jm + k
              · rw [if_pos h9, if_pos (show 9 * jm ≤ q ∧ q < 9 * jm + (k + 1) by omega)]
              · rw [if_neg h9, if_neg (show ¬ (9 * jm ≤ q ∧ q < 9 * jm + (k + 1)) by omega)]
          · refine x_iconst (v := nI 1) f_121_122 (by decide) ?_
            refine x_goto (t := 127) f_121_123 (by decide) ?_
            refine x_istore (ls1 := [.ref 33, .int (nI i), .int (nI l), .int rings, .int (nI k), .int (mj_I h 34 ((8 * i) + k)), .int (mj_I h 34 ((8 * l) + k)), .int (nI 1), .int (nI 1)]) f_121_127 (Nat.le_of_ble_eq_true rfl) rfl ?_
            refine x_aload_n f_121_129 rfl ?_
            refine x_getR f_121_130 S.k33 (by decide) S.r4 ?_
            refine x_bipush (v := nI 9) f_121_133 (by decide) ?_
            refine x_aload_n f_121_135 rfl ?_
            refine x_getI f_121_136 S.k33 (by decide) ?_
            refine x_topi (w := nI jm) ((congrFun e33 8).trans e_jm) ?_
            refine x_imulN f_121_139 ?_
            refine x_iload f_121_140 rfl ?_
            refine x_iaddN f_121_142 ?_
            refine x_iload f_121_143 rfl ?_
            refine x_ifN_eq (t := 158) f_121_145 (by decide) (by decide) (fun c_13 => by omega) (fun c_13 => ?_)
            refine x_iload f_121_148 rfl ?_
            refine x_iload f_121_150 rfl ?_
            refine x_min f_121_152 (Nat.le_of_ble_eq_true rfl) ?_
            refine x_goto (t := 180) f_121_155 (by decide) ?_
            refine x_iast (j := ((9 * jm) + k)) f_121_180 S.k36 (by decide) (by omega) (by decide) ?_
            refine x_iinc (v := nI (k + 1)) (ls1 := [.ref 33, .int (nI i), .int (nI l), .int rings, .int (nI (k + 1)), .int (mj_I h 34 ((8 * i) + k)), .int (mj_I h 34 ((8 * l) + k)), .int (nI 1), .int (nI 1)]) f_121_181 rfl (by exact nI_add _ 1) rfl ?_
            refine x_goto (t := 54) f_121_184 (by decide) ?_
            have hjn : (if (mj_I h 34 ((8 * l) + k)) < (mj_I h 34 ((8 * i) + k)) then (mj_I h 34 ((8 * l) + k)) else (mj_I h 34 ((8 * i) + k))) = jn k (mj_I h 34 (8 * i + k)) (mj_I h 34 (8 * l + k)) := by
              unfold jn
              rw [if_pos (show k = 3 ∨ k = 7 by omega)]
            refine ih (k + 1) (mj_setI g 36 ((9 * jm) + k) (if (mj_I h 34 ((8 * l) + k)) < (mj_I h 34 ((8 * i) + k)) then (mj_I h 34 ((8 * l) + k)) else (mj_I h 34 ((8 * i) + k)))) _ _ _ _ (by omega) S (hR.set (by decide)) (fun q => ?_)
            by_cases hq : q = 9 * jm + k
            · subst hq
              refine (mj_I_at _ _ _ _).trans (hjn.trans ?_)
              rw [if_pos (show 9 * jm ≤ 9 * jm + k ∧ 9 * jm + k < 9 * jm + (k + 1) by omega), show 9 * jm + k - 9 * jm = k by omega]
            · refine (mj_I_ne hq).trans ((i36 q).trans ?_)
              by_cases h9 : 9 * jm ≤ q ∧ q < 9 * jm + k
              · rw [if_pos h9, if_pos (show 9 * jm ≤ q ∧ q < 9 * jm + (k + 1) by omega)]
              · rw [if_neg h9, if_neg (show ¬ (9 * jm ≤ q ∧ q < 9 * jm + (k + 1)) by omega)]
/-- behind a job: its marks, its stuffs, one job more -/
def JB (h h' : mj_H) (jm i l : Nat) (rings : Int32) : Prop := Rw h h' [33, 36, 37, 38] ∧ (∀ q, ¬ q = 8 → mj_I h' 33 q = mj_I h 33 q) ∧ mj_I h' 33 8 = nI (jm + 1) ∧
  (∀ q, mj_I h' 36 q = if q = 9 * jm + 8 then rings else if 9 * jm ≤ q ∧ q < 9 * jm + 8 then jn (q - 9 * jm) (mj_I h 34 (8 * i + (q - 9 * jm))) (mj_I h 34 (8 * l + (q - 9 * jm))) else mj_I h 36 q) ∧
  (∀ q, mj_I h' 37 q = if q = jm then nI i else mj_I h 37 q) ∧ ∀ q, mj_I h' 38 q = if q = jm then nI l else mj_I h 38 q

set_option maxRecDepth 20000 in
theorem c_job {h : mj_H} (S : SM h) (a b rings : Int32) {sm jm : Nat} (h_sm : sm ≤ 6) (e_sm : mj_I h 33 7 = nI sm) (h_jm : jm ≤ 20) (e_jm : mj_I h 33 8 = nI jm) : mxc 2 121 [.ref 33, .int a, .int b, .int rings] h (fun r h' => if mIn a sm ∧ mIn b sm ∧ mj_I h 35 (6 * a.toNatClampNeg + b.toNatClampNeg) = 0 ∧ (nI 2 ≤ rings ∧ rings ≤ nI 6) ∧ ¬ jm = 20 then r = some (.int (nI jm)) ∧ JB h h' jm a.toNatClampNeg b.toNatClampNeg rings else r = some (.int (-1)) ∧ h' = h) := by
  show mx 2 121 0 [.ref 33, .int a, .int b, .int rings, mj_unset, mj_unset, mj_unset, mj_unset, mj_unset] [] h _
  refine x_aload_n f_121_0 rfl ?_
  refine x_iload_n f_121_1 rfl ?_
  refine x_callVe f_121_2 (c_isStuff S _ (n := sm) (by omega) e_sm) (by omega) S.k33 (by decide) rfl rfl (Nat.le_of_ble_eq_true rfl) rfl ?_
  refine x_ifB_eq (t := 49) f_121_5 (by decide) (fun c_1 => ?_) (fun c_1 => ?_)
  · refine x_iconst (v := -1) f_121_49 (by decide) ?_
    refine x_retI f_121_50 rfl ?_
    exact mj_qF (by first | exact fun q => c_1 (q.1) | exact fun q => (q.1) c_1) ⟨rfl, rfl⟩
  · refine x_aload_n f_121_8 rfl ?_
    refine x_iload_n f_121_9 rfl ?_
    refine x_callVe f_121_10 (c_isStuff S _ (n := sm) (by omega) e_sm) (by omega) S.k33 (by decide) rfl rfl (Nat.le_of_ble_eq_true rfl) rfl ?_
    refine x_ifB_eq (t := 49) f_121_13 (by decide) (fun c_2 => ?_) (fun c_2 => ?_)
    · refine x_iconst (v := -1) f_121_49 (by decide) ?_
      refine x_retI f_121_50 rfl ?_
      exact mj_qF (by first | exact fun q => c_2 (q.2.1) | exact fun q => (q.2.1) c_2) ⟨rfl, rfl⟩
    · obtain ⟨i, h_i, rfl⟩ := mIn_of c_1 (by omega)
      simp only [nI_clamp (show i < 2 ^ 31 by omega)]
      obtain ⟨l, h_l, rfl⟩ := mIn_of c_2 (by omega)
      simp only [nI_clamp (show l < 2 ^ 31 by omega)]
      refine x_aload_n f_121_16 rfl ?_
      refine x_getR f_121_17 S.k33 (by decide) S.r3 ?_
      refine x_bipush (v := nI 6) f_121_20 (by decide) ?_
      refine x_iload_n f_121_22 rfl ?_
      refine x_imulN f_121_23 ?_
      refine x_iload_n f_121_24 rfl ?_
      refine x_iaddN f_121_25 ?_
      refine x_zald (j := ((6 * i) + l)) f_121_26 S.k35 (by omega) (by decide) ?_
      refine x_if_ne (t := 49) f_121_27 (by decide) (fun c_3 => ?_) (fun c_3 => ?_)
      · refine x_iconst (v := -1) f_121_49 (by decide) ?_
        refine x_retI f_121_50 rfl ?_
        exact mj_qF (by first | exact fun q => c_3 (q.2.2.1) | exact fun q => (q.2.2.1) c_3) ⟨rfl, rfl⟩
      · refine x_iload_n f_121_30 rfl ?_
        refine x_iconst (v := nI 2) f_121_31 (by decide) ?_
        refine x_bipush (v := nI 6) f_121_32 (by decide) ?_
        refine x_callSe f_121_34 (c_in _ _ _ _) (by omega) rfl rfl rfl (Nat.le_of_ble_eq_true rfl) rfl ?_
        refine x_ifB_eq (t := 49) f_121_37 (by decide) (fun c_4 => ?_) (fun c_4 => ?_)
        · refine x_iconst (v := -1) f_121_49 (by decide) ?_
          refine x_retI f_121_50 rfl ?_
          exact mj_qF (by first | exact fun q => c_4 (q.2.2.2.1) | exact fun q => (q.2.2.2.1) c_4) ⟨rfl, rfl⟩
        · refine x_aload_n f_121_40 rfl ?_
          refine x_getI f_121_41 S.k33 (by decide) ?_
          refine x_topi (w := nI jm) e_jm ?_
          refine x_bipush (v := nI 20) f_121_44 (by decide) ?_
          refine x_icmpN_ne (t := 51) f_121_46 (by decide) (by omega) (by decide) (fun c_5 => ?_) (fun c_5 => ?_)
          · refine x_iconst (v := nI 0) f_121_51 (by decide) ?_
            refine x_istore (ls1 := [.ref 33, .int (nI i), .int (nI l), .int rings, .int (nI 0), mj_unset, mj_unset, mj_unset, mj_unset]) f_121_52 (Nat.le_of_ble_eq_true rfl) rfl ?_
            refine job_l (by omega) (by omega) (by omega) e_jm rings ?_ 8 0 h _ _ _ _ (by omega) S (Rw.rf _ _) (fun q => by rw [if_neg (by omega)])
            intro g v5 v6 v7 v8 S hR i36
            have e33 : mj_I g 33 = mj_I h 33 := hR.i (by decide)
            refine x_aload_n f_121_187 rfl ?_
            refine x_getR f_121_188 S.k33 (by decide) S.r4 ?_
            refine x_bipush (v := nI 9) f_121_191 (by decide) ?_
            refine x_aload_n f_121_193 rfl ?_
            refine x_getI f_121_194 S.k33 (by decide) ?_
            refine x_topi (w := nI jm) ((congrFun e33 8).trans e_jm) ?_
            refine x_imulN f_121_197 ?_
            refine x_bipush (v := nI 8) f_121_198 (by decide) ?_
            refine x_iaddN f_121_200 ?_
            refine x_iload_n f_121_201 rfl ?_
            refine x_iast (j := ((9 * jm) + 8)) f_121_202 S.k36 (by decide) (by omega) (by decide) ?_
            refine x_aload_n f_121_203 rfl ?_
            refine x_getR f_121_204 S.k33 (by decide) S.r5 ?_
            refine x_aload_n f_121_207 rfl ?_
            refine x_getI f_121_208 S.k33 (by decide) ?_
            refine x_topi (w := nI jm) ((congrFun (mj_I_other (by decide)) _).trans ((congrFun e33 8).trans e_jm)) ?_
            refine x_iload_n f_121_211 rfl ?_
            refine x_iast (j := jm) f_121_212 S.k37 (by decide) (by omega) (by decide) ?_
            refine x_aload_n f_121_213 rfl ?_
            refine x_getR f_121_214 S.k33 (by decide) S.r6 ?_
            refine x_aload_n f_121_217 rfl ?_
            refine x_getI f_121_218 S.k33 (by decide) ?_
            refine x_topi (w := nI jm) ((congrFun (mj_I_other (by decide)) _).trans ((congrFun (mj_I_other (by decide)) _).trans ((congrFun e33 8).trans e_jm))) ?_
            refine x_iload_n f_121_221 rfl ?_
            refine x_iast (j := jm) f_121_222 S.k38 (by decide) (by omega) (by decide) ?_
            refine x_aload_n f_121_223 rfl ?_
            refine x_dup f_121_224 rfl ?_
            refine x_getI f_121_225 S.k33 (by decide) ?_
            refine x_topi (w := nI jm) ((congrFun (mj_I_other (by decide)) _).trans ((congrFun (mj_I_other (by decide)) _).trans ((congrFun (mj_I_other (by decide)) _).trans ((congrFun e33 8).trans e_jm)))) ?_
            refine x_iconst (v := nI 1) f_121_228 (by decide) ?_
            refine x_iaddN f_121_229 ?_
            refine x_putI f_121_230 S.k33 (by decide) ?_
            refine x_aload_n f_121_233 rfl ?_
            refine x_getI f_121_234 S.k33 (by decide) ?_
            refine x_topi (w := nI (jm + 1)) (mj_I_at _ _ _ _) ?_
            refine x_iconst (v := nI 1) f_121_237 (by decide) ?_
            refine x_isubN f_121_238 (by omega) ?_
            refine x_retI f_121_239 rfl ?_
            refine mj_qT ⟨c_1, c_2, c_3, c_4, c_5⟩ ⟨by rw [Nat.add_sub_cancel], ?_⟩
            refine ⟨((((hR.mono (by decide)).set (by decide)).set (by decide)).set (by decide)).set (by decide), fun q hq => ?_, mj_I_at _ _ _ _, fun q => ?_, fun q => ?_, fun q => ?_⟩
            · exact (mj_I_ne hq).trans ((congrFun (mj_I_other (a := 38) (b := 33) (by decide)) q).trans ((congrFun (mj_I_other (a := 37) (b := 33) (by decide)) q).trans ((congrFun (mj_I_other (a := 36) (b := 33) (by decide)) q).trans (congrFun e33 q))))
            · refine (congrFun (mj_I_other (a := 33) (b := 36) (by decide)) q).trans ((congrFun (mj_I_other (a := 38) (b := 36) (by decide)) q).trans ((congrFun (mj_I_other (a := 37) (b := 36) (by decide)) q).trans ?_))
              by_cases hq : q = 9 * jm + 8
              · rw [if_pos hq, hq]
                exact mj_I_at _ _ _ _
              · rw [if_neg hq]
                exact (mj_I_ne hq).trans (i36 q)
            · refine (congrFun (mj_I_other (a := 33) (b := 37) (by decide)) q).trans ((congrFun (mj_I_other (a := 38) (b := 37) (by decide)) q).trans ?_)
              by_cases hq : q = jm
              · rw [if_pos hq, hq]
                exact mj_I_at _ _ _ _
              · rw [if_neg hq]
                exact (mj_I_ne hq).trans ((congrFun (mj_I_other (a := 36) (b := 37) (by decide)) q).trans (congrFun (hR.i (by decide)) q))
            · refine (congrFun (mj_I_other (a := 33) (b := 38) (by decide)) q).trans ?_
              by_cases hq : q = jm
              · rw [if_pos hq, hq]
                exact mj_I_at _ _ _ _
              · rw [if_neg hq]
                exact (mj_I_ne hq).trans ((congrFun (mj_I_other (a := 37) (b := 38) (by decide)) q).trans ((congrFun (mj_I_other (a := 36) (b := 38) (by decide)) q).trans (congrFun (hR.i (by decide)) q)))
          · refine x_iconst (v := -1) f_121_49 (by decide) ?_
            refine x_retI f_121_50 rfl ?_
            exact mj_qF (by first | exact fun q => c_5 (q.2.2.2.2) | exact fun q => (q.2.2.2.2) c_5) ⟨rfl, rfl⟩
end
section
theorem f_138_0 : mj_fetch 138 0 = some (.aload_n 0, 0, 0) := by decide +kernel
theorem f_138_1 : mj_fetch 138 1 = some (.iload_n 1, 0, 0) := by decide +kernel
theorem f_138_2 : mj_fetch 138 2 = some (.invokevirtual 126, 117, 0) := by decide +kernel
theorem f_138_5 : mj_fetch 138 5 = some (.ifCond .eq 26, 0, 0) := by decide +kernel
theorem f_138_8 : mj_fetch 138 8 = some (.iload_n 2, 0, 0) := by decide +kernel
theorem f_138_9 : mj_fetch 138 9 = some (.invokestatic 165, 118, 0) := by decide +kernel
theorem f_138_12 : mj_fetch 138 12 = some (.ifCond .eq 19, 0, 0) := by decide +kernel
theorem f_138_15 : mj_fetch 138 15 = some (.iload_n 3, 0, 0) := by decide +kernel
theorem f_138_16 : mj_fetch 138 16 = some (.invokestatic 165, 118, 0) := by decide +kernel
theorem f_138_19 : mj_fetch 138 19 = some (.ifCond .eq 12, 0, 0) := by decide +kernel
theorem f_138_22 : mj_fetch 138 22 = some (.aload_n 0, 0, 0) := by decide +kernel
theorem f_138_23 : mj_fetch 138 23 = some (.getfield 176, 11, 21) := by decide +kernel
theorem f_138_26 : mj_fetch 138 26 = some (.bipush 10, 0, 0) := by decide +kernel
theorem f_138_28 : mj_fetch 138 28 = some (.if_icmp .ne 5, 0, 0) := by decide +kernel
theorem f_138_31 : mj_fetch 138 31 = some (.iconst (-1), 0, 0) := by decide +kernel
theorem f_138_32 : mj_fetch 138 32 = some (.ireturn, 0, 0) := by decide +kernel
theorem f_138_33 : mj_fetch 138 33 = some (.iconst 0, 0, 0) := by decide +kernel
theorem f_138_34 : mj_fetch 138 34 = some (.istore 4, 0, 0) := by decide +kernel
theorem f_138_36 : mj_fetch 138 36 = some (.iload 4, 0, 0) := by decide +kernel
theorem f_138_38 : mj_fetch 138 38 = some (.iconst 3, 0, 0) := by decide +kernel
theorem f_138_39 : mj_fetch 138 39 = some (.if_icmp .ge 32, 0, 0) := by decide +kernel
theorem f_138_42 : mj_fetch 138 42 = some (.iload_n 3, 0, 0) := by decide +kernel
theorem f_138_43 : mj_fetch 138 43 = some (.iload 4, 0, 0) := by decide +kernel
theorem f_138_45 : mj_fetch 138 45 = some (.invokestatic 137, 125, 0) := by decide +kernel
theorem f_138_48 : mj_fetch 138 48 = some (.iload_n 2, 0, 0) := by decide +kernel
theorem f_138_49 : mj_fetch 138 49 = some (.iload 4, 0, 0) := by decide +kernel
theorem f_138_51 : mj_fetch 138 51 = some (.invokestatic 137, 125, 0) := by decide +kernel
theorem f_138_54 : mj_fetch 138 54 = some (.isub, 0, 0) := by decide +kernel
theorem f_138_55 : mj_fetch 138 55 = some (.iconst 0, 0, 0) := by decide +kernel
theorem f_138_56 : mj_fetch 138 56 = some (.iconst 5, 0, 0) := by decide +kernel
theorem f_138_57 : mj_fetch 138 57 = some (.invokestatic 100, 112, 0) := by decide +kernel
theorem f_138_60 : mj_fetch 138 60 = some (.ifCond .ne 5, 0, 0) := by decide +kernel
theorem f_138_63 : mj_fetch 138 63 = some (.iconst (-1), 0, 0) := by decide +kernel
theorem f_138_64 : mj_fetch 138 64 = some (.ireturn, 0, 0) := by decide +kernel
theorem f_138_65 : mj_fetch 138 65 = some (.iinc 4 1, 0, 0) := by decide +kernel
theorem f_138_68 : mj_fetch 138 68 = some (.goto (-32), 0, 0) := by decide +kernel
theorem f_138_71 : mj_fetch 138 71 = some (.aload_n 0, 0, 0) := by decide +kernel
theorem f_138_72 : mj_fetch 138 72 = some (.getfield 44, 11, 18) := by decide +kernel
theorem f_138_75 : mj_fetch 138 75 = some (.aload_n 0, 0, 0) := by decide +kernel
theorem f_138_76 : mj_fetch 138 76 = some (.getfield 176, 11, 21) := by decide +kernel
theorem f_138_79 : mj_fetch 138 79 = some (.iload_n 1, 0, 0) := by decide +kernel
theorem f_138_80 : mj_fetch 138 80 = some (.iastore, 0, 0) := by decide +kernel
theorem f_138_81 : mj_fetch 138 81 = some (.iconst 0, 0, 0) := by decide +kernel
theorem f_138_82 : mj_fetch 138 82 = some (.istore 4, 0, 0) := by decide +kernel
theorem f_138_84 : mj_fetch 138 84 = some (.iload 4, 0, 0) := by decide +kernel
theorem f_138_86 : mj_fetch 138 86 = some (.iconst 3, 0, 0) := by decide +kernel
theorem f_138_87 : mj_fetch 138 87 = some (.if_icmp .ge 49, 0, 0) := by decide +kernel
theorem f_138_90 : mj_fetch 138 90 = some (.aload_n 0, 0, 0) := by decide +kernel
theorem f_138_91 : mj_fetch 138 91 = some (.getfield 47, 11, 19) := by decide +kernel
theorem f_138_94 : mj_fetch 138 94 = some (.iconst 3, 0, 0) := by decide +kernel
theorem f_138_95 : mj_fetch 138 95 = some (.aload_n 0, 0, 0) := by decide +kernel
theorem f_138_96 : mj_fetch 138 96 = some (.getfield 176, 11, 21) := by decide +kernel
theorem f_138_99 : mj_fetch 138 99 = some (.imul, 0, 0) := by decide +kernel
theorem f_138_100 : mj_fetch 138 100 = some (.iload 4, 0, 0) := by decide +kernel
theorem f_138_102 : mj_fetch 138 102 = some (.iadd, 0, 0) := by decide +kernel
theorem f_138_103 : mj_fetch 138 103 = some (.iload_n 2, 0, 0) := by decide +kernel
theorem f_138_104 : mj_fetch 138 104 = some (.iload 4, 0, 0) := by decide +kernel
theorem f_138_106 : mj_fetch 138 106 = some (.invokestatic 137, 125, 0) := by decide +kernel
theorem f_138_109 : mj_fetch 138 109 = some (.iastore, 0, 0) := by decide +kernel
theorem f_138_110 : mj_fetch 138 110 = some (.aload_n 0, 0, 0) := by decide +kernel
theorem f_138_111 : mj_fetch 138 111 = some (.getfield 50, 11, 20) := by decide +kernel
theorem f_138_114 : mj_fetch 138 114 = some (.iconst 3, 0, 0) := by decide +kernel
theorem f_138_115 : mj_fetch 138 115 = some (.aload_n 0, 0, 0) := by decide +kernel
theorem f_138_116 : mj_fetch 138 116 = some (.getfield 176, 11, 21) := by decide +kernel
theorem f_138_119 : mj_fetch 138 119 = some (.imul, 0, 0) := by decide +kernel
theorem f_138_120 : mj_fetch 138 120 = some (.iload 4, 0, 0) := by decide +kernel
theorem f_138_122 : mj_fetch 138 122 = some (.iadd, 0, 0) := by decide +kernel
theorem f_138_123 : mj_fetch 138 123 = some (.iload_n 3, 0, 0) := by decide +kernel
theorem f_138_124 : mj_fetch 138 124 = some (.iload 4, 0, 0) := by decide +kernel
theorem f_138_126 : mj_fetch 138 126 = some (.invokestatic 137, 125, 0) := by decide +kernel
theorem f_138_129 : mj_fetch 138 129 = some (.iastore, 0, 0) := by decide +kernel
theorem f_138_130 : mj_fetch 138 130 = some (.iinc 4 1, 0, 0) := by decide +kernel
theorem f_138_133 : mj_fetch 138 133 = some (.goto (-49), 0, 0) := by decide +kernel
theorem f_138_136 : mj_fetch 138 136 = some (.aload_n 0, 0, 0) := by decide +kernel
theorem f_138_137 : mj_fetch 138 137 = some (.dup, 0, 0) := by decide +kernel
theorem f_138_138 : mj_fetch 138 138 = some (.getfield 176, 11, 21) := by decide +kernel
theorem f_138_141 : mj_fetch 138 141 = some (.iconst 1, 0, 0) := by decide +kernel
theorem f_138_142 : mj_fetch 138 142 = some (.iadd, 0, 0) := by decide +kernel
theorem f_138_143 : mj_fetch 138 143 = some (.putfield 176, 11, 21) := by decide +kernel
theorem f_138_146 : mj_fetch 138 146 = some (.aload_n 0, 0, 0) := by decide +kernel
theorem f_138_147 : mj_fetch 138 147 = some (.getfield 176, 11, 21) := by decide +kernel
theorem f_138_150 : mj_fetch 138 150 = some (.iconst 1, 0, 0) := by decide +kernel
theorem f_138_151 : mj_fetch 138 151 = some (.isub, 0, 0) := by decide +kernel
theorem f_138_152 : mj_fetch 138 152 = some (.ireturn, 0, 0) := by decide +kernel
theorem f_142_0 : mj_fetch 142 0 = some (.iload_n 1, 0, 0) := by decide +kernel
theorem f_142_1 : mj_fetch 142 1 = some (.iload_n 0, 0, 0) := by decide +kernel
theorem f_142_2 : mj_fetch 142 2 = some (.isub, 0, 0) := by decide +kernel
theorem f_142_3 : mj_fetch 142 3 = some (.iconst 1, 0, 0) := by decide +kernel
theorem f_142_4 : mj_fetch 142 4 = some (.iadd, 0, 0) := by decide +kernel
theorem f_142_5 : mj_fetch 142 5 = some (.iload_n 3, 0, 0) := by decide +kernel
theorem f_142_6 : mj_fetch 142 6 = some (.iload_n 2, 0, 0) := by decide +kernel
theorem f_142_7 : mj_fetch 142 7 = some (.isub, 0, 0) := by decide +kernel
theorem f_142_8 : mj_fetch 142 8 = some (.iconst 1, 0, 0) := by decide +kernel
theorem f_142_9 : mj_fetch 142 9 = some (.iadd, 0, 0) := by decide +kernel
theorem f_142_10 : mj_fetch 142 10 = some (.imul, 0, 0) := by decide +kernel
theorem f_142_11 : mj_fetch 142 11 = some (.iload 5, 0, 0) := by decide +kernel
theorem f_142_13 : mj_fetch 142 13 = some (.iload 4, 0, 0) := by decide +kernel
theorem f_142_15 : mj_fetch 142 15 = some (.isub, 0, 0) := by decide +kernel
theorem f_142_16 : mj_fetch 142 16 = some (.iconst 1, 0, 0) := by decide +kernel
theorem f_142_17 : mj_fetch 142 17 = some (.iadd, 0, 0) := by decide +kernel
theorem f_142_18 : mj_fetch 142 18 = some (.imul, 0, 0) := by decide +kernel
theorem f_142_19 : mj_fetch 142 19 = some (.ireturn, 0, 0) := by decide +kernel
theorem f_139_0 : mj_fetch 139 0 = some (.iload_n 0, 0, 0) := by decide +kernel
theorem f_139_1 : mj_fetch 139 1 = some (.bipush 6, 0, 0) := by decide +kernel
theorem f_139_3 : mj_fetch 139 3 = some (.imul, 0, 0) := by decide +kernel
theorem f_139_4 : mj_fetch 139 4 = some (.iload_n 1, 0, 0) := by decide +kernel
theorem f_139_5 : mj_fetch 139 5 = some (.iadd, 0, 0) := by decide +kernel
theorem f_139_6 : mj_fetch 139 6 = some (.bipush 6, 0, 0) := by decide +kernel
theorem f_139_8 : mj_fetch 139 8 = some (.imul, 0, 0) := by decide +kernel
theorem f_139_9 : mj_fetch 139 9 = some (.iload_n 2, 0, 0) := by decide +kernel
theorem f_139_10 : mj_fetch 139 10 = some (.iadd, 0, 0) := by decide +kernel
theorem f_139_11 : mj_fetch 139 11 = some (.bipush 6, 0, 0) := by decide +kernel
theorem f_139_13 : mj_fetch 139 13 = some (.imul, 0, 0) := by decide +kernel
theorem f_139_14 : mj_fetch 139 14 = some (.iload_n 3, 0, 0) := by decide +kernel
theorem f_139_15 : mj_fetch 139 15 = some (.iadd, 0, 0) := by decide +kernel
theorem f_139_16 : mj_fetch 139 16 = some (.bipush 6, 0, 0) := by decide +kernel
theorem f_139_18 : mj_fetch 139 18 = some (.imul, 0, 0) := by decide +kernel
theorem f_139_19 : mj_fetch 139 19 = some (.iload 4, 0, 0) := by decide +kernel
theorem f_139_21 : mj_fetch 139 21 = some (.iadd, 0, 0) := by decide +kernel
theorem f_139_22 : mj_fetch 139 22 = some (.bipush 6, 0, 0) := by decide +kernel
theorem f_139_24 : mj_fetch 139 24 = some (.imul, 0, 0) := by decide +kernel
theorem f_139_25 : mj_fetch 139 25 = some (.iload 5, 0, 0) := by decide +kernel
theorem f_139_27 : mj_fetch 139 27 = some (.iadd, 0, 0) := by decide +kernel
theorem f_139_28 : mj_fetch 139 28 = some (.ireturn, 0, 0) := by decide +kernel
theorem f_143_0 : mj_fetch 143 0 = some (.aload_n 0, 0, 0) := by decide +kernel
theorem f_143_1 : mj_fetch 143 1 = some (.getfield 50, 11, 20) := by decide +kernel
theorem f_143_4 : mj_fetch 143 4 = some (.iconst 3, 0, 0) := by decide +kernel
theorem f_143_5 : mj_fetch 143 5 = some (.aload_n 0, 0, 0) := by decide +kernel
theorem f_143_6 : mj_fetch 143 6 = some (.getfield 179, 11, 22) := by decide +kernel
theorem f_143_9 : mj_fetch 143 9 = some (.imul, 0, 0) := by decide +kernel
theorem f_143_10 : mj_fetch 143 10 = some (.iload_n 1, 0, 0) := by decide +kernel
theorem f_143_11 : mj_fetch 143 11 = some (.iadd, 0, 0) := by decide +kernel
theorem f_143_12 : mj_fetch 143 12 = some (.iaload, 0, 0) := by decide +kernel
theorem f_143_13 : mj_fetch 143 13 = some (.aload_n 0, 0, 0) := by decide +kernel
theorem f_143_14 : mj_fetch 143 14 = some (.getfield 47, 11, 19) := by decide +kernel
theorem f_143_17 : mj_fetch 143 17 = some (.iconst 3, 0, 0) := by decide +kernel
theorem f_143_18 : mj_fetch 143 18 = some (.aload_n 0, 0, 0) := by decide +kernel
theorem f_143_19 : mj_fetch 143 19 = some (.getfield 179, 11, 22) := by decide +kernel
theorem f_143_22 : mj_fetch 143 22 = some (.imul, 0, 0) := by decide +kernel
theorem f_143_23 : mj_fetch 143 23 = some (.iload_n 1, 0, 0) := by decide +kernel
theorem f_143_24 : mj_fetch 143 24 = some (.iadd, 0, 0) := by decide +kernel
theorem f_143_25 : mj_fetch 143 25 = some (.iaload, 0, 0) := by decide +kernel
theorem f_143_26 : mj_fetch 143 26 = some (.isub, 0, 0) := by decide +kernel
theorem f_143_27 : mj_fetch 143 27 = some (.ireturn, 0, 0) := by decide +kernel
theorem f_140_0 : mj_fetch 140 0 = some (.aload_n 0, 0, 0) := by decide +kernel
theorem f_140_1 : mj_fetch 140 1 = some (.aload_n 0, 0, 0) := by decide +kernel
theorem f_140_2 : mj_fetch 140 2 = some (.getfield 44, 11, 18) := by decide +kernel
theorem f_140_5 : mj_fetch 140 5 = some (.aload_n 0, 0, 0) := by decide +kernel
theorem f_140_6 : mj_fetch 140 6 = some (.getfield 179, 11, 22) := by decide +kernel
theorem f_140_9 : mj_fetch 140 9 = some (.iaload, 0, 0) := by decide +kernel
theorem f_140_10 : mj_fetch 140 10 = some (.aload_n 0, 0, 0) := by decide +kernel
theorem f_140_11 : mj_fetch 140 11 = some (.getfield 47, 11, 19) := by decide +kernel
theorem f_140_14 : mj_fetch 140 14 = some (.iconst 3, 0, 0) := by decide +kernel
theorem f_140_15 : mj_fetch 140 15 = some (.aload_n 0, 0, 0) := by decide +kernel
theorem f_140_16 : mj_fetch 140 16 = some (.getfield 179, 11, 22) := by decide +kernel
theorem f_140_19 : mj_fetch 140 19 = some (.imul, 0, 0) := by decide +kernel
theorem f_140_20 : mj_fetch 140 20 = some (.iaload, 0, 0) := by decide +kernel
theorem f_140_21 : mj_fetch 140 21 = some (.iload_n 1, 0, 0) := by decide +kernel
theorem f_140_22 : mj_fetch 140 22 = some (.iadd, 0, 0) := by decide +kernel
theorem f_140_23 : mj_fetch 140 23 = some (.aload_n 0, 0, 0) := by decide +kernel
theorem f_140_24 : mj_fetch 140 24 = some (.getfield 47, 11, 19) := by decide +kernel
theorem f_140_27 : mj_fetch 140 27 = some (.iconst 3, 0, 0) := by decide +kernel
theorem f_140_28 : mj_fetch 140 28 = some (.aload_n 0, 0, 0) := by decide +kernel
theorem f_140_29 : mj_fetch 140 29 = some (.getfield 179, 11, 22) := by decide +kernel
theorem f_140_32 : mj_fetch 140 32 = some (.imul, 0, 0) := by decide +kernel
theorem f_140_33 : mj_fetch 140 33 = some (.iconst 1, 0, 0) := by decide +kernel
theorem f_140_34 : mj_fetch 140 34 = some (.iadd, 0, 0) := by decide +kernel
theorem f_140_35 : mj_fetch 140 35 = some (.iaload, 0, 0) := by decide +kernel
theorem f_140_36 : mj_fetch 140 36 = some (.iload_n 2, 0, 0) := by decide +kernel
theorem f_140_37 : mj_fetch 140 37 = some (.iadd, 0, 0) := by decide +kernel
theorem f_140_38 : mj_fetch 140 38 = some (.aload_n 0, 0, 0) := by decide +kernel
theorem f_140_39 : mj_fetch 140 39 = some (.getfield 47, 11, 19) := by decide +kernel
theorem f_140_42 : mj_fetch 140 42 = some (.iconst 3, 0, 0) := by decide +kernel
theorem f_140_43 : mj_fetch 140 43 = some (.aload_n 0, 0, 0) := by decide +kernel
theorem f_140_44 : mj_fetch 140 44 = some (.getfield 179, 11, 22) := by decide +kernel
theorem f_140_47 : mj_fetch 140 47 = some (.imul, 0, 0) := by decide +kernel
theorem f_140_48 : mj_fetch 140 48 = some (.iconst 2, 0, 0) := by decide +kernel
theorem f_140_49 : mj_fetch 140 49 = some (.iadd, 0, 0) := by decide +kernel
theorem f_140_50 : mj_fetch 140 50 = some (.iaload, 0, 0) := by decide +kernel
theorem f_140_51 : mj_fetch 140 51 = some (.iload_n 3, 0, 0) := by decide +kernel
theorem f_140_52 : mj_fetch 140 52 = some (.iadd, 0, 0) := by decide +kernel
theorem f_140_53 : mj_fetch 140 53 = some (.invokestatic 129, 124, 0) := by decide +kernel
theorem f_140_56 : mj_fetch 140 56 = some (.invokevirtual 172, 131, 0) := by decide +kernel
theorem f_140_59 : mj_fetch 140 59 = some (.ifCond .ne 7, 0, 0) := by decide +kernel
theorem f_140_62 : mj_fetch 140 62 = some (.iconst 1, 0, 0) := by decide +kernel
theorem f_140_63 : mj_fetch 140 63 = some (.goto 4, 0, 0) := by decide +kernel
theorem f_140_66 : mj_fetch 140 66 = some (.iconst 0, 0, 0) := by decide +kernel
theorem f_140_67 : mj_fetch 140 67 = some (.ireturn, 0, 0) := by decide +kernel
abbrev wsp (f t a : Nat) : Prop := nI 0 ≤ nI (mm_pt t a + 1) - nI (mm_pt f a + 1) ∧ nI (mm_pt t a + 1) - nI (mm_pt f a + 1) ≤ nI 5
theorem wsp_iff {f t a : Nat} (hf : f < 729) (ht : t < 729) : wsp f t a ↔ mm_pt f a ≤ mm_pt t a ∧ mm_pt t a ≤ mm_pt f a + 5 := by
  have p1 := mm_pt_lt f a hf
  have p2 := mm_pt_lt t a ht
  unfold wsp
  rw [Int32.le_iff_toInt_le, Int32.le_iff_toInt_le, pk_sub_toInt (by omega) (by omega), nI_toInt (by decide), nI_toInt (by decide)]
  omega

set_option maxRecDepth 20000 in
set_option maxHeartbeats 4000000 in
theorem c_window {h : mj_H} (S : SM h) (j fr to : Int32) {jm wm : Nat} (h_jm : jm ≤ 20) (e_jm : mj_I h 33 8 = nI jm) (h_wm : wm ≤ 10) (e_wm : mj_I h 33 21 = nI wm) : mxc 2 138 [.ref 33, .int j, .int fr, .int to] h (fun r h' => if mIn j jm ∧ mIn fr 729 ∧ mIn to 729 ∧ ¬ wm = 10 ∧ wsp fr.toNatClampNeg to.toNatClampNeg 0 ∧ wsp fr.toNatClampNeg to.toNatClampNeg 1 ∧ wsp fr.toNatClampNeg to.toNatClampNeg 2 then r = some (.int (nI wm)) ∧ h' = mj_setI (mj_setI (mj_setI (mj_setI (mj_setI (mj_setI (mj_setI (mj_setI h 45 wm j) 46 (3 * wm + 0) (nI (mm_pt fr.toNatClampNeg 0 + 1))) 47 (3 * wm + 0) (nI (mm_pt to.toNatClampNeg 0 + 1))) 46 (3 * wm + 1) (nI (mm_pt fr.toNatClampNeg 1 + 1))) 47 (3 * wm + 1) (nI (mm_pt to.toNatClampNeg 1 + 1))) 46 (3 * wm + 2) (nI (mm_pt fr.toNatClampNeg 2 + 1))) 47 (3 * wm + 2) (nI (mm_pt to.toNatClampNeg 2 + 1))) 33 21 (nI (wm + 1)) else r = some (.int (-1)) ∧ h' = h) := by
  show mx 2 138 0 [.ref 33, .int j, .int fr, .int to, mj_unset] [] h _
  refine x_aload_n f_138_0 rfl ?_
  refine x_iload_n f_138_1 rfl ?_
  refine x_callVe f_138_2 (c_isJob S _ (n := jm) (by omega) e_jm) (by omega) S.k33 (by decide) rfl rfl (Nat.le_of_ble_eq_true rfl) rfl ?_
  refine x_ifB_eq (t := 31) f_138_5 (by decide) (fun c_1 => ?_) (fun c_1 => ?_)
  · refine x_iconst (v := -1) f_138_31 (by decide) ?_
    refine x_retI f_138_32 rfl ?_
    exact mj_qF (by first | exact fun q => c_1 (q.1) | exact fun q => (q.1) c_1) ⟨rfl, rfl⟩
  · refine x_iload_n f_138_8 rfl ?_
    refine x_callSe f_138_9 (c_isSetting _ _) (by omega) rfl rfl rfl (Nat.le_of_ble_eq_true rfl) rfl ?_
    refine x_ifB_eq (t := 31) f_138_12 (by decide) (fun c_2 => ?_) (fun c_2 => ?_)
    · refine x_iconst (v := -1) f_138_31 (by decide) ?_
      refine x_retI f_138_32 rfl ?_
      exact mj_qF (by first | exact fun q => c_2 (q.2.1) | exact fun q => (q.2.1) c_2) ⟨rfl, rfl⟩
    · refine x_iload_n f_138_15 rfl ?_
      refine x_callSe f_138_16 (c_isSetting _ _) (by omega) rfl rfl rfl (Nat.le_of_ble_eq_true rfl) rfl ?_
      refine x_ifB_eq (t := 31) f_138_19 (by decide) (fun c_3 => ?_) (fun c_3 => ?_)
      · refine x_iconst (v := -1) f_138_31 (by decide) ?_
        refine x_retI f_138_32 rfl ?_
        exact mj_qF (by first | exact fun q => c_3 (q.2.2.1) | exact fun q => (q.2.2.1) c_3) ⟨rfl, rfl⟩
      · refine x_aload_n f_138_22 rfl ?_
        refine x_getI f_138_23 S.k33 (by decide) ?_
        refine x_topi (w := nI wm) e_wm ?_
        refine x_bipush (v := nI 10) f_138_26 (by decide) ?_
        refine x_icmpN_ne (t := 33) f_138_28 (by decide) (by omega) (by decide) (fun c_4 => ?_) (fun c_4 => ?_)
        · obtain ⟨f, h_f, rfl⟩ := mIn_of c_2 (by decide)
          obtain ⟨t, h_t, rfl⟩ := mIn_of c_3 (by decide)
          simp only [nI_clamp (show f < 2 ^ 31 by omega), nI_clamp (show t < 2 ^ 31 by omega)]
          refine x_iconst (v := nI 0) f_138_33 (by decide) ?_
          refine x_istore (ls1 := [.ref 33, .int j, .int (nI f), .int (nI t), .int (nI 0)]) f_138_34 (Nat.le_of_ble_eq_true rfl) rfl ?_
          refine x_iload f_138_36 rfl ?_
          refine x_iconst (v := nI 3) f_138_38 (by decide) ?_
          refine x_icmpN_ge (t := 71) f_138_39 (by decide) (by decide) (by decide) (fun c_5 => by omega) (fun c_5 => ?_)
          refine x_iload_n f_138_42 rfl ?_
          refine x_iload f_138_43 rfl ?_
          refine x_callSe f_138_45 (c_part _ _ _ (by omega) (by omega)) (by omega) rfl rfl rfl (Nat.le_of_ble_eq_true rfl) rfl ?_
          refine x_iload_n f_138_48 rfl ?_
          refine x_iload f_138_49 rfl ?_
          refine x_callSe f_138_51 (c_part _ _ _ (by omega) (by omega)) (by omega) rfl rfl rfl (Nat.le_of_ble_eq_true rfl) rfl ?_
          refine x_isub f_138_54 ?_
          refine x_iconst (v := nI 0) f_138_55 (by decide) ?_
          refine x_iconst (v := nI 5) f_138_56 (by decide) ?_
          refine x_callSe f_138_57 (c_in _ _ _ _) (by omega) rfl rfl rfl (Nat.le_of_ble_eq_true rfl) rfl ?_
          refine x_ifB_ne (t := 65) f_138_60 (by decide) (fun c_6 => ?_) (fun c_6 => ?_)
          · refine x_iinc (v := nI 1) (ls1 := [.ref 33, .int j, .int (nI f), .int (nI t), .int (nI 1)]) f_138_65 rfl (by decide) rfl ?_
            refine x_goto (t := 36) f_138_68 (by decide) ?_
            refine x_iload f_138_36 rfl ?_
            refine x_iconst (v := nI 3) f_138_38 (by decide) ?_
            refine x_icmpN_ge (t := 71) f_138_39 (by decide) (by decide) (by decide) (fun c_7 => by omega) (fun c_7 => ?_)
            refine x_iload_n f_138_42 rfl ?_
            refine x_iload f_138_43 rfl ?_
            refine x_callSe f_138_45 (c_part _ _ _ (by omega) (by omega)) (by omega) rfl rfl rfl (Nat.le_of_ble_eq_true rfl) rfl ?_
            refine x_iload_n f_138_48 rfl ?_
            refine x_iload f_138_49 rfl ?_
            refine x_callSe f_138_51 (c_part _ _ _ (by omega) (by omega)) (by omega) rfl rfl rfl (Nat.le_of_ble_eq_true rfl) rfl ?_
            refine x_isub f_138_54 ?_
            refine x_iconst (v := nI 0) f_138_55 (by decide) ?_
            refine x_iconst (v := nI 5) f_138_56 (by decide) ?_
            refine x_callSe f_138_57 (c_in _ _ _ _) (by omega) rfl rfl rfl (Nat.le_of_ble_eq_true rfl) rfl ?_
            refine x_ifB_ne (t := 65) f_138_60 (by decide) (fun c_8 => ?_) (fun c_8 => ?_)
            · refine x_iinc (v := nI 2) (ls1 := [.ref 33, .int j, .int (nI f), .int (nI t), .int (nI 2)]) f_138_65 rfl (by decide) rfl ?_
              refine x_goto (t := 36) f_138_68 (by decide) ?_
              refine x_iload f_138_36 rfl ?_
              refine x_iconst (v := nI 3) f_138_38 (by decide) ?_
              refine x_icmpN_ge (t := 71) f_138_39 (by decide) (by decide) (by decide) (fun c_9 => by omega) (fun c_9 => ?_)
              refine x_iload_n f_138_42 rfl ?_
              refine x_iload f_138_43 rfl ?_
              refine x_callSe f_138_45 (c_part _ _ _ (by omega) (by omega)) (by omega) rfl rfl rfl (Nat.le_of_ble_eq_true rfl) rfl ?_
              refine x_iload_n f_138_48 rfl ?_
              refine x_iload f_138_49 rfl ?_
              refine x_callSe f_138_51 (c_part _ _ _ (by omega) (by omega)) (by omega) rfl rfl rfl (Nat.le_of_ble_eq_true rfl) rfl ?_
              refine x_isub f_138_54 ?_
              refine x_iconst (v := nI 0) f_138_55 (by decide) ?_
              refine x_iconst (v := nI 5) f_138_56 (by decide) ?_
              refine x_callSe f_138_57 (c_in _ _ _ _) (by omega) rfl rfl rfl (Nat.le_of_ble_eq_true rfl) rfl ?_
              refine x_ifB_ne (t := 65) f_138_60 (by decide) (fun c_10 => ?_) (fun c_10 => ?_)
              · refine x_iinc (v := nI 3) (ls1 := [.ref 33, .int j, .int (nI f), .int (nI t), .int (nI 3)]) f_138_65 rfl (by decide) rfl ?_
                refine x_goto (t := 36) f_138_68 (by decide) ?_
                refine x_iload f_138_36 rfl ?_
                refine x_iconst (v := nI 3) f_138_38 (by decide) ?_
                refine x_icmpN_ge (t := 71) f_138_39 (by decide) (by decide) (by decide) (fun c_11 => ?_) (fun c_11 => by omega)
                refine x_aload_n f_138_71 rfl ?_
                refine x_getR f_138_72 S.k33 (by decide) S.r18 ?_
                refine x_aload_n f_138_75 rfl ?_
                refine x_getI f_138_76 S.k33 (by decide) ?_
                refine x_topi (w := nI wm) e_wm ?_
                refine x_iload_n f_138_79 rfl ?_
                refine x_iast (j := wm) f_138_80 S.k45 (by decide) (by omega) (by decide) ?_
                refine x_iconst (v := nI 0) f_138_81 (by decide) ?_
                refine x_istore (ls1 := [.ref 33, .int j, .int (nI f), .int (nI t), .int (nI 0)]) f_138_82 (Nat.le_of_ble_eq_true rfl) rfl ?_
                refine x_iload f_138_84 rfl ?_
                refine x_iconst (v := nI 3) f_138_86 (by decide) ?_
                refine x_icmpN_ge (t := 136) f_138_87 (by decide) (by decide) (by decide) (fun c_12 => by omega) (fun c_12 => ?_)
                refine x_aload_n f_138_90 rfl ?_
                refine x_getR f_138_91 S.k33 (by decide) S.r19 ?_
                refine x_iconst (v := nI 3) f_138_94 (by decide) ?_
                refine x_aload_n f_138_95 rfl ?_
                refine x_getI f_138_96 S.k33 (by decide) ?_
                refine x_topi (w := nI wm) ((congrFun (mj_I_other (by decide)) _).trans (e_wm)) ?_
                refine x_imulN f_138_99 ?_
                refine x_iload f_138_100 rfl ?_
                refine x_iaddN f_138_102 ?_
                refine x_iload_n f_138_103 rfl ?_
                refine x_iload f_138_104 rfl ?_
                refine x_callSe f_138_106 (c_part _ _ _ (by omega) (by omega)) (by omega) rfl rfl rfl (Nat.le_of_ble_eq_true rfl) rfl ?_
                refine x_iast (j := ((3 * wm) + 0)) f_138_109 S.k46 (by decide) (by omega) (by decide) ?_
                refine x_aload_n f_138_110 rfl ?_
                refine x_getR f_138_111 S.k33 (by decide) S.r20 ?_
                refine x_iconst (v := nI 3) f_138_114 (by decide) ?_
                refine x_aload_n f_138_115 rfl ?_
                refine x_getI f_138_116 S.k33 (by decide) ?_
                refine x_topi (w := nI wm) ((congrFun (mj_I_other (by decide)) _).trans ((congrFun (mj_I_other (by decide)) _).trans (e_wm))) ?_
                refine x_imulN f_138_119 ?_
                refine x_iload f_138_120 rfl ?_
                refine x_iaddN f_138_122 ?_
                refine x_iload_n f_138_123 rfl ?_
                refine x_iload f_138_124 rfl ?_
                refine x_callSe f_138_126 (c_part _ _ _ (by omega) (by omega)) (by omega) rfl rfl rfl (Nat.le_of_ble_eq_true rfl) rfl ?_
                refine x_iast (j := ((3 * wm) + 0)) f_138_129 S.k47 (by decide) (by omega) (by decide) ?_
                refine x_iinc (v := nI 1) (ls1 := [.ref 33, .int j, .int (nI f), .int (nI t), .int (nI 1)]) f_138_130 rfl (by decide) rfl ?_
                refine x_goto (t := 84) f_138_133 (by decide) ?_
                refine x_iload f_138_84 rfl ?_
                refine x_iconst (v := nI 3) f_138_86 (by decide) ?_
                refine x_icmpN_ge (t := 136) f_138_87 (by decide) (by decide) (by decide) (fun c_13 => by omega) (fun c_13 => ?_)
                refine x_aload_n f_138_90 rfl ?_
                refine x_getR f_138_91 S.k33 (by decide) S.r19 ?_
                refine x_iconst (v := nI 3) f_138_94 (by decide) ?_
                refine x_aload_n f_138_95 rfl ?_
                refine x_getI f_138_96 S.k33 (by decide) ?_
                refine x_topi (w := nI wm) ((congrFun (mj_I_other (by decide)) _).trans ((congrFun (mj_I_other (by decide)) _).trans ((congrFun (mj_I_other (by decide)) _).trans (e_wm)))) ?_
                refine x_imulN f_138_99 ?_
                refine x_iload f_138_100 rfl ?_
                refine x_iaddN f_138_102 ?_
                refine x_iload_n f_138_103 rfl ?_
                refine x_iload f_138_104 rfl ?_
                refine x_callSe f_138_106 (c_part _ _ _ (by omega) (by omega)) (by omega) rfl rfl rfl (Nat.le_of_ble_eq_true rfl) rfl ?_
                refine x_iast (j := ((3 * wm) + 1)) f_138_109 S.k46 (by decide) (by omega) (by decide) ?_
                refine x_aload_n f_138_110 rfl ?_
                refine x_getR f_138_111 S.k33 (by decide) S.r20 ?_
                refine x_iconst (v := nI 3) f_138_114 (by decide) ?_
                refine x_aload_n f_138_115 rfl ?_
                refine x_getI f_138_116 S.k33 (by decide) ?_
                refine x_topi (w := nI wm) ((congrFun (mj_I_other (by decide)) _).trans ((congrFun (mj_I_other (by decide)) _).trans ((congrFun (mj_I_other (by decide)) _).trans ((congrFun (mj_I_other (by decide)) _).trans (e_wm))))) ?_
                refine x_imulN f_138_119 ?_
                refine x_iload f_138_120 rfl ?_
                refine x_iaddN f_138_122 ?_
                refine x_iload_n f_138_123 rfl ?_
                refine x_iload f_138_124 rfl ?_
                refine x_callSe f_138_126 (c_part _ _ _ (by omega) (by omega)) (by omega) rfl rfl rfl (Nat.le_of_ble_eq_true rfl) rfl ?_
                refine x_iast (j := ((3 * wm) + 1)) f_138_129 S.k47 (by decide) (by omega) (by decide) ?_
                refine x_iinc (v := nI 2) (ls1 := [.ref 33, .int j, .int (nI f), .int (nI t), .int (nI 2)]) f_138_130 rfl (by decide) rfl ?_
                refine x_goto (t := 84) f_138_133 (by decide) ?_
                refine x_iload f_138_84 rfl ?_
                refine x_iconst (v := nI 3) f_138_86 (by decide) ?_
                refine x_icmpN_ge (t := 136) f_138_87 (by decide) (by decide) (by decide) (fun c_14 => by omega) (fun c_14 => ?_)
                refine x_aload_n f_138_90 rfl ?_
                refine x_getR f_138_91 S.k33 (by decide) S.r19 ?_
                refine x_iconst (v := nI 3) f_138_94 (by decide) ?_
                refine x_aload_n f_138_95 rfl ?_
                refine x_getI f_138_96 S.k33 (by decide) ?_
                refine x_topi (w := nI wm) ((congrFun (mj_I_other (by decide)) _).trans ((congrFun (mj_I_other (by decide)) _).trans ((congrFun (mj_I_other (by decide)) _).trans ((congrFun (mj_I_other (by decide)) _).trans ((congrFun (mj_I_other (by decide)) _).trans (e_wm)))))) ?_
                refine x_imulN f_138_99 ?_
                refine x_iload f_138_100 rfl ?_
                refine x_iaddN f_138_102 ?_
                refine x_iload_n f_138_103 rfl ?_
                refine x_iload f_138_104 rfl ?_
                refine x_callSe f_138_106 (c_part _ _ _ (by omega) (by omega)) (by omega) rfl rfl rfl (Nat.le_of_ble_eq_true rfl) rfl ?_
                refine x_iast (j := ((3 * wm) + 2)) f_138_109 S.k46 (by decide) (by omega) (by decide) ?_
                refine x_aload_n f_138_110 rfl ?_
                refine x_getR f_138_111 S.k33 (by decide) S.r20 ?_
                refine x_iconst (v := nI 3) f_138_114 (by decide) ?_
                refine x_aload_n f_138_115 rfl ?_
                refine x_getI f_138_116 S.k33 (by decide) ?_
                refine x_topi (w := nI wm) ((congrFun (mj_I_other (by decide)) _).trans ((congrFun (mj_I_other (by decide)) _).trans ((congrFun (mj_I_other (by decide)) _).trans ((congrFun (mj_I_other (by decide)) _).trans ((congrFun (mj_I_other (by decide)) _).trans ((congrFun (mj_I_other (by decide)) _).trans (e_wm))))))) ?_
                refine x_imulN f_138_119 ?_
                refine x_iload f_138_120 rfl ?_
                refine x_iaddN f_138_122 ?_
                refine x_iload_n f_138_123 rfl ?_
                refine x_iload f_138_124 rfl ?_
                refine x_callSe f_138_126 (c_part _ _ _ (by omega) (by omega)) (by omega) rfl rfl rfl (Nat.le_of_ble_eq_true rfl) rfl ?_
                refine x_iast (j := ((3 * wm) + 2)) f_138_129 S.k47 (by decide) (by omega) (by decide) ?_
                refine x_iinc (v := nI 3) (ls1 := [.ref 33, .int j, .int (nI f), .int (nI t), .int (nI 3)]) f_138_130 rfl (by decide) rfl ?_
                refine x_goto (t := 84) f_138_133 (by decide) ?_
                refine x_iload f_138_84 rfl ?_
                refine x_iconst (v := nI 3) f_138_86 (by decide) ?_
                refine x_icmpN_ge (t := 136) f_138_87 (by decide) (by decide) (by decide) (fun c_15 => ?_) (fun c_15 => by omega)
                refine x_aload_n f_138_136 rfl ?_
                refine x_dup f_138_137 rfl ?_
                refine x_getI f_138_138 S.k33 (by decide) ?_
                refine x_topi (w := nI wm) ((congrFun (mj_I_other (by decide)) _).trans ((congrFun (mj_I_other (by decide)) _).trans ((congrFun (mj_I_other (by decide)) _).trans ((congrFun (mj_I_other (by decide)) _).trans ((congrFun (mj_I_other (by decide)) _).trans ((congrFun (mj_I_other (by decide)) _).trans ((congrFun (mj_I_other (by decide)) _).trans (e_wm)))))))) ?_
                refine x_iconst (v := nI 1) f_138_141 (by decide) ?_
                refine x_iaddN f_138_142 ?_
                refine x_putI f_138_143 S.k33 (by decide) ?_
                refine x_aload_n f_138_146 rfl ?_
                refine x_getI f_138_147 S.k33 (by decide) ?_
                refine x_topi (w := nI (wm + 1)) (mj_I_at _ _ _ _) ?_
                refine x_iconst (v := nI 1) f_138_150 (by decide) ?_
                refine x_isubN f_138_151 (by omega) ?_
                refine x_retI f_138_152 rfl ?_
                exact mj_qT ⟨c_1, c_2, c_3, c_4, c_6, c_8, c_10⟩ ⟨by rw [Nat.add_sub_cancel], rfl⟩
              · refine x_iconst (v := -1) f_138_63 (by decide) ?_
                refine x_retI f_138_64 rfl ?_
                exact mj_qF (by first | exact fun q => c_10 (q.2.2.2.2.2.2) | exact fun q => (q.2.2.2.2.2.2) c_10) ⟨rfl, rfl⟩
            · refine x_iconst (v := -1) f_138_63 (by decide) ?_
              refine x_retI f_138_64 rfl ?_
              exact mj_qF (by first | exact fun q => c_8 (q.2.2.2.2.2.1) | exact fun q => (q.2.2.2.2.2.1) c_8) ⟨rfl, rfl⟩
          · refine x_iconst (v := -1) f_138_63 (by decide) ?_
            refine x_retI f_138_64 rfl ?_
            exact mj_qF (by first | exact fun q => c_6 (q.2.2.2.2.1) | exact fun q => (q.2.2.2.2.1) c_6) ⟨rfl, rfl⟩
        · refine x_iconst (v := -1) f_138_31 (by decide) ?_
          refine x_retI f_138_32 rfl ?_
          exact mj_qF (by first | exact fun q => c_4 (q.2.2.2.1) | exact fun q => (q.2.2.2.1) c_4) ⟨rfl, rfl⟩
set_option maxRecDepth 20000 in
theorem c_sizeOf (h : mj_H) (a b c d e f : Int32) : mxc 0 142 [.int a, .int b, .int c, .int d, .int e, .int f] h (fun r h' => r = some (.int ((b - a + nI 1) * (d - c + nI 1) * (f - e + nI 1))) ∧ h' = h) := by
  show mx 0 142 0 [.int a, .int b, .int c, .int d, .int e, .int f] [] h _
  refine x_iload_n f_142_0 rfl ?_
  refine x_iload_n f_142_1 rfl ?_
  refine x_isub f_142_2 ?_
  refine x_iconst (v := nI 1) f_142_3 (by decide) ?_
  refine x_iadd f_142_4 ?_
  refine x_iload_n f_142_5 rfl ?_
  refine x_iload_n f_142_6 rfl ?_
  refine x_isub f_142_7 ?_
  refine x_iconst (v := nI 1) f_142_8 (by decide) ?_
  refine x_iadd f_142_9 ?_
  refine x_imul f_142_10 ?_
  refine x_iload f_142_11 rfl ?_
  refine x_iload f_142_13 rfl ?_
  refine x_isub f_142_15 ?_
  refine x_iconst (v := nI 1) f_142_16 (by decide) ?_
  refine x_iadd f_142_17 ?_
  refine x_imul f_142_18 ?_
  refine x_retI f_142_19 rfl ?_
  exact ⟨rfl, rfl⟩
def bx (a b c d e f : Nat) : Nat := ((((a * 6 + b) * 6 + c) * 6 + d) * 6 + e) * 6 + f
set_option maxRecDepth 20000 in
theorem c_boxOf (h : mj_H) (a b c d e f : Nat) : mxc 0 139 [.int (nI a), .int (nI b), .int (nI c), .int (nI d), .int (nI e), .int (nI f)] h (fun r h' => r = some (.int (nI (bx a b c d e f))) ∧ h' = h) := by
  show mx 0 139 0 [.int (nI a), .int (nI b), .int (nI c), .int (nI d), .int (nI e), .int (nI f)] [] h _
  refine x_iload_n f_139_0 rfl ?_
  refine x_bipush (v := nI 6) f_139_1 (by decide) ?_
  refine x_imulN f_139_3 ?_
  refine x_iload_n f_139_4 rfl ?_
  refine x_iaddN f_139_5 ?_
  refine x_bipush (v := nI 6) f_139_6 (by decide) ?_
  refine x_imulN f_139_8 ?_
  refine x_iload_n f_139_9 rfl ?_
  refine x_iaddN f_139_10 ?_
  refine x_bipush (v := nI 6) f_139_11 (by decide) ?_
  refine x_imulN f_139_13 ?_
  refine x_iload_n f_139_14 rfl ?_
  refine x_iaddN f_139_15 ?_
  refine x_bipush (v := nI 6) f_139_16 (by decide) ?_
  refine x_imulN f_139_18 ?_
  refine x_iload f_139_19 rfl ?_
  refine x_iaddN f_139_21 ?_
  refine x_bipush (v := nI 6) f_139_22 (by decide) ?_
  refine x_imulN f_139_24 ?_
  refine x_iload f_139_25 rfl ?_
  refine x_iaddN f_139_27 ?_
  refine x_retI f_139_28 rfl ?_
  exact ⟨rfl, rfl⟩
def wj (h : mj_H) (w : Nat) : Nat := (mj_I h 45 w).toNatClampNeg
def wlo (h : mj_H) (w a : Nat) : Nat := (mj_I h 46 (3 * w + a)).toNatClampNeg
def whi (h : mj_H) (w a : Nat) : Nat := (mj_I h 47 (3 * w + a)).toNatClampNeg
/-- a window of the model: its job, its box -/
def WN (h : mj_H) (w jm : Nat) : Prop := mj_I h 45 w = nI (wj h w) ∧ wj h w < jm ∧ ∀ a, a < 3 → mj_I h 46 (3 * w + a) = nI (wlo h w a) ∧ mj_I h 47 (3 * w + a) = nI (whi h w a) ∧ 1 ≤ wlo h w a ∧ whi h w a ≤ 9 ∧ wlo h w a ≤ whi h w a ∧ whi h w a ≤ wlo h w a + 5
def wz (h : mj_H) (w t p l : Nat) : Nat := 81 * (wlo h w 0 + t - 1) + 9 * (wlo h w 1 + p - 1) + (wlo h w 2 + l - 1)
theorem vd_le (h : mj_H) (j z : Nat) : vd h j z ≤ 4 := by
  have key : ∀ (M : Nat → Int32) (T : tk_R) (n r : Nat), (jd_f M T n r).1 ≤ 4 := by
    intro M T n
    induction n with
    | zero => intro r; exact Nat.zero_le _
    | succ n ih =>
      intro r
      unfold jd_f
      split
      · split
        · split
          · exact ih (r + 1)
          · exact Nat.le_refl 4
        · exact (by decide : (3 : Nat) ≤ 4)
      · exact (by decide : (2 : Nat) ≤ 4)
  unfold vd jd
  split
  · exact (by decide : (1 : Nat) ≤ 4)
  · exact key _ _ _ _
theorem MW_33 {h : mj_H} {jm i : Nat} {x : Int32} (w : MW h jm) : MW (mj_setI h 33 i x) jm := by
  have e36 : mj_I (mj_setI h 33 i x) 36 = mj_I h 36 := mj_I_other (by decide)
  have e44 : mj_I (mj_setI h 33 i x) 44 = mj_I h 44 := mj_I_other (by decide)
  refine ⟨w.1, fun a ha q hq => ?_, w.2.2.1, fun j hj => (w.2.2.2.1 j hj).to e36, fun j hj z hz => by rw [e44, vd_eq e36]; exact w.2.2.2.2 j hj z hz⟩
  rw [mj_I_other (by intro q; subst q; revert ha; decide)]
  exact w.2.1 a ha q hq
theorem WN_to {h g : mj_H} {w jm : Nat} (e45 : mj_I g 45 = mj_I h 45) (e46 : mj_I g 46 = mj_I h 46) (e47 : mj_I g 47 = mj_I h 47) (k : WN h w jm) : WN g w jm := by
  unfold WN wj wlo whi
  rw [e45, e46, e47]
  exact k
theorem wz_to {h g : mj_H} (e46 : mj_I g 46 = mj_I h 46) (w t p l : Nat) : wz g w t p l = wz h w t p l := by
  unfold wz wlo
  rw [e46]
theorem MV_WN {h g : mj_H} {jm w : Nat} (a : MV h g jm) (k : WN h w jm) : WN g w jm := WN_to (a.2.1.i (by decide)) (a.2.1.i (by decide)) (a.2.1.i (by decide)) k
/-- whether the setting at a place of the window is good -/
def wg (h : mj_H) (w t p l : Nat) : Bool := decide (vd h (wj h w) (wz h w t p l) = 0)
theorem wg_MV {h g : mj_H} {jm : Nat} (a : MV h g jm) (w t p l : Nat) : wg g w t p l = wg h w t p l := by
  unfold wg
  rw [wz_to (a.2.1.i (by decide)), MV_vd a, show wj g w = wj h w by unfold wj; rw [a.2.1.i (by decide)]]

set_option maxRecDepth 20000 in
theorem c_wide {h : mj_H} (S : SM h) {w jm a : Nat} (hw : w < 10) (e_at : mj_I h 33 22 = nI w) (hN : WN h w jm) (ha : a < 3) : mxc 0 143 [.ref 33, .int (nI a)] h (fun r h' => r = some (.int (nI (whi h w a - wlo h w a))) ∧ h' = h) := by
  show mx 0 143 0 [.ref 33, .int (nI a)] [] h _
  refine x_aload_n f_143_0 rfl ?_
  refine x_getR f_143_1 S.k33 (by decide) S.r20 ?_
  refine x_iconst (v := nI 3) f_143_4 (by decide) ?_
  refine x_aload_n f_143_5 rfl ?_
  refine x_getI f_143_6 S.k33 (by decide) ?_
  refine x_topi (w := nI w) e_at ?_
  refine x_imulN f_143_9 ?_
  refine x_iload_n f_143_10 rfl ?_
  refine x_iaddN f_143_11 ?_
  refine x_iald (j := ((3 * w) + a)) f_143_12 S.k47 (by omega) (by decide) ?_
  refine x_topi (w := nI (whi h w a)) (hN.2.2 a ha).2.1 ?_
  refine x_aload_n f_143_13 rfl ?_
  refine x_getR f_143_14 S.k33 (by decide) S.r19 ?_
  refine x_iconst (v := nI 3) f_143_17 (by decide) ?_
  refine x_aload_n f_143_18 rfl ?_
  refine x_getI f_143_19 S.k33 (by decide) ?_
  refine x_topi (w := nI w) e_at ?_
  refine x_imulN f_143_22 ?_
  refine x_iload_n f_143_23 rfl ?_
  refine x_iaddN f_143_24 ?_
  refine x_iald (j := ((3 * w) + a)) f_143_25 S.k46 (by omega) (by decide) ?_
  refine x_topi (w := nI (wlo h w a)) (hN.2.2 a ha).1 ?_
  refine x_isubN f_143_26 ((hN.2.2 a ha).2.2.2.2.1) ?_
  refine x_retI f_143_27 rfl ?_
  exact ⟨rfl, rfl⟩
set_option maxRecDepth 20000 in
theorem c_isGood {h : mj_H} {w jm : Nat} (hW : MW h jm) (hw : w < 10) (e_at : mj_I h 33 22 = nI w) (hN : WN h w jm) {t p l : Nat} (ht : wlo h w 0 + t ≤ 9) (hp : wlo h w 1 + p ≤ 9) (hl : wlo h w 2 + l ≤ 9) : mxc 5 140 [.ref 33, .int (nI t), .int (nI p), .int (nI l)] h (fun r h' => r = some (.int (if wg h w t p l = true then 1 else 0)) ∧ MV h h' jm) := by
  have S := hW.1
  have a0 := hN.2.2 0 (by decide)
  have a1 := hN.2.2 1 (by decide)
  have a2 := hN.2.2 2 (by decide)
  have hz : wz h w t p l < 729 := by unfold wz; omega
  have hle := vd_le h (wj h w) (wz h w t p l)
  have hset : (81 : Int32) * ((nI (wlo h w 0 + t)) - 1) + 9 * ((nI (wlo h w 1 + p)) - 1) + (nI (wlo h w 2 + l)) - 1 = nI (wz h w t p l) := by
    have q := mm_set (wlo h w 0 + t - 1) (wlo h w 1 + p - 1) (wlo h w 2 + l - 1)
    rw [show wlo h w 0 + t - 1 + 1 = wlo h w 0 + t by omega, show wlo h w 1 + p - 1 + 1 = wlo h w 1 + p by omega, show wlo h w 2 + l - 1 + 1 = wlo h w 2 + l by omega] at q
    exact q
  show mx 5 140 0 [.ref 33, .int (nI t), .int (nI p), .int (nI l)] [] h _
  refine x_aload_n f_140_0 rfl ?_
  refine x_aload_n f_140_1 rfl ?_
  refine x_getR f_140_2 S.k33 (by decide) S.r18 ?_
  refine x_aload_n f_140_5 rfl ?_
  refine x_getI f_140_6 S.k33 (by decide) ?_
  refine x_topi (w := nI w) e_at ?_
  refine x_iald (j := w) f_140_9 S.k45 (by omega) (by decide) ?_
  refine x_topi (w := nI (wj h w)) hN.1 ?_
  refine x_aload_n f_140_10 rfl ?_
  refine x_getR f_140_11 S.k33 (by decide) S.r19 ?_
  refine x_iconst (v := nI 3) f_140_14 (by decide) ?_
  refine x_aload_n f_140_15 rfl ?_
  refine x_getI f_140_16 S.k33 (by decide) ?_
  refine x_topi (w := nI w) e_at ?_
  refine x_imulN f_140_19 ?_
  refine x_iald (j := (3 * w)) f_140_20 S.k46 (by omega) (by decide) ?_
  refine x_topi (w := nI (wlo h w 0)) (hN.2.2 0 (by decide)).1 ?_
  refine x_iload_n f_140_21 rfl ?_
  refine x_iaddN f_140_22 ?_
  refine x_aload_n f_140_23 rfl ?_
  refine x_getR f_140_24 S.k33 (by decide) S.r19 ?_
  refine x_iconst (v := nI 3) f_140_27 (by decide) ?_
  refine x_aload_n f_140_28 rfl ?_
  refine x_getI f_140_29 S.k33 (by decide) ?_
  refine x_topi (w := nI w) e_at ?_
  refine x_imulN f_140_32 ?_
  refine x_iconst (v := nI 1) f_140_33 (by decide) ?_
  refine x_iaddN f_140_34 ?_
  refine x_iald (j := ((3 * w) + 1)) f_140_35 S.k46 (by omega) (by decide) ?_
  refine x_topi (w := nI (wlo h w 1)) (hN.2.2 1 (by decide)).1 ?_
  refine x_iload_n f_140_36 rfl ?_
  refine x_iaddN f_140_37 ?_
  refine x_aload_n f_140_38 rfl ?_
  refine x_getR f_140_39 S.k33 (by decide) S.r19 ?_
  refine x_iconst (v := nI 3) f_140_42 (by decide) ?_
  refine x_aload_n f_140_43 rfl ?_
  refine x_getI f_140_44 S.k33 (by decide) ?_
  refine x_topi (w := nI w) e_at ?_
  refine x_imulN f_140_47 ?_
  refine x_iconst (v := nI 2) f_140_48 (by decide) ?_
  refine x_iaddN f_140_49 ?_
  refine x_iald (j := ((3 * w) + 2)) f_140_50 S.k46 (by omega) (by decide) ?_
  refine x_topi (w := nI (wlo h w 2)) (hN.2.2 2 (by decide)).1 ?_
  refine x_iload_n f_140_51 rfl ?_
  refine x_iaddN f_140_52 ?_
  refine x_callSe f_140_53 (c_settingOf _ _ _ _) (by omega) rfl rfl rfl (Nat.le_of_ble_eq_true rfl) rfl ?_
  refine x_topi (w := nI (wz h w t p l)) hset ?_
  refine x_callV f_140_56 (c_verdictOf hW hN.2.1 hz) (by omega) S.k33 (by decide) rfl rfl (Nat.le_of_ble_eq_true rfl) rfl ?_
  rintro _ g ⟨rfl, hv⟩
  refine x_ifN_ne (t := 66) f_140_59 (by decide) (by omega) (fun c_v => ?_) (fun c_v => ?_)
  · refine x_iconst (v := nI 0) f_140_66 (by decide) ?_
    refine x_retZ f_140_67 rfl (by decide) ?_
    exact ⟨by unfold wg; rw [decide_eq_false c_v]; rfl, hv⟩
  · refine x_iconst (v := nI 1) f_140_62 (by decide) ?_
    refine x_goto (t := 67) f_140_63 (by decide) ?_
    refine x_retZ f_140_67 rfl (by decide) ?_
    exact ⟨by unfold wg; rw [decide_eq_true c_v]; rfl, hv⟩
end
section
theorem f_141_26 : mj_fetch 141 26 = some (.iload 10, 0, 0) := by decide +kernel
theorem f_141_28 : mj_fetch 141 28 = some (.iload 6, 0, 0) := by decide +kernel
theorem f_141_30 : mj_fetch 141 30 = some (.if_icmp .gt 32, 0, 0) := by decide +kernel
theorem f_141_33 : mj_fetch 141 33 = some (.iload 7, 0, 0) := by decide +kernel
theorem f_141_35 : mj_fetch 141 35 = some (.aload_n 0, 0, 0) := by decide +kernel
theorem f_141_36 : mj_fetch 141 36 = some (.iload 8, 0, 0) := by decide +kernel
theorem f_141_38 : mj_fetch 141 38 = some (.iload 9, 0, 0) := by decide +kernel
theorem f_141_40 : mj_fetch 141 40 = some (.iload 10, 0, 0) := by decide +kernel
theorem f_141_42 : mj_fetch 141 42 = some (.invokevirtual 182, 140, 0) := by decide +kernel
theorem f_141_45 : mj_fetch 141 45 = some (.ifCond .eq 7, 0, 0) := by decide +kernel
theorem f_141_48 : mj_fetch 141 48 = some (.iconst 1, 0, 0) := by decide +kernel
theorem f_141_49 : mj_fetch 141 49 = some (.goto 4, 0, 0) := by decide +kernel
theorem f_141_52 : mj_fetch 141 52 = some (.iconst 0, 0, 0) := by decide +kernel
theorem f_141_53 : mj_fetch 141 53 = some (.iadd, 0, 0) := by decide +kernel
theorem f_141_54 : mj_fetch 141 54 = some (.istore 7, 0, 0) := by decide +kernel
theorem f_141_56 : mj_fetch 141 56 = some (.iinc 10 1, 0, 0) := by decide +kernel
theorem f_141_59 : mj_fetch 141 59 = some (.goto (-33), 0, 0) := by decide +kernel
theorem f_141_15 : mj_fetch 141 15 = some (.iload 9, 0, 0) := by decide +kernel
theorem f_141_17 : mj_fetch 141 17 = some (.iload 4, 0, 0) := by decide +kernel
theorem f_141_19 : mj_fetch 141 19 = some (.if_icmp .gt 49, 0, 0) := by decide +kernel
theorem f_141_22 : mj_fetch 141 22 = some (.iload 5, 0, 0) := by decide +kernel
theorem f_141_24 : mj_fetch 141 24 = some (.istore 10, 0, 0) := by decide +kernel
theorem f_141_62 : mj_fetch 141 62 = some (.iinc 9 1, 0, 0) := by decide +kernel
theorem f_141_65 : mj_fetch 141 65 = some (.goto (-50), 0, 0) := by decide +kernel
theorem f_141_6 : mj_fetch 141 6 = some (.iload 8, 0, 0) := by decide +kernel
theorem f_141_8 : mj_fetch 141 8 = some (.iload_n 2, 0, 0) := by decide +kernel
theorem f_141_9 : mj_fetch 141 9 = some (.if_icmp .gt 65, 0, 0) := by decide +kernel
theorem f_141_12 : mj_fetch 141 12 = some (.iload_n 3, 0, 0) := by decide +kernel
theorem f_141_13 : mj_fetch 141 13 = some (.istore 9, 0, 0) := by decide +kernel
theorem f_141_68 : mj_fetch 141 68 = some (.iinc 8 1, 0, 0) := by decide +kernel
theorem f_141_71 : mj_fetch 141 71 = some (.goto (-65), 0, 0) := by decide +kernel
theorem f_141_0 : mj_fetch 141 0 = some (.iconst 0, 0, 0) := by decide +kernel
theorem f_141_1 : mj_fetch 141 1 = some (.istore 7, 0, 0) := by decide +kernel
theorem f_141_3 : mj_fetch 141 3 = some (.iload_n 1, 0, 0) := by decide +kernel
theorem f_141_4 : mj_fetch 141 4 = some (.istore 8, 0, 0) := by decide +kernel
theorem f_141_74 : mj_fetch 141 74 = some (.iload 7, 0, 0) := by decide +kernel
theorem f_141_76 : mj_fetch 141 76 = some (.ireturn, 0, 0) := by decide +kernel
/-- a sum over n places from x on -/
def sm (f : Nat → Nat) : Nat → Nat → Nat
  | 0, _ => 0
  | n + 1, x => f x + sm f n (x + 1)
theorem sm_le {f : Nat → Nat} {m : Nat} (hf : ∀ x, f x ≤ m) : ∀ n x, sm f n x ≤ n * m
  | 0, x => by show 0 ≤ _; omega
  | n + 1, x => by
    have h1 := sm_le hf n (x + 1)
    have h2 := hf x
    show f x + sm f n (x + 1) ≤ (n + 1) * m
    rw [Nat.succ_mul]
    omega
def g1 (h : mj_H) (w t p : Nat) (l : Nat) : Nat := if wg h w t p l = true then 1 else 0
/-- how many settings of a box are good -/
def gc (h : mj_H) (w a b c d e f : Nat) : Nat := sm (fun t => sm (fun p => sm (g1 h w t p) (f + 1 - e) e) (d + 1 - c) c) (b + 1 - a) a
theorem MV_at {h g : mj_H} {jm : Nat} (a : MV h g jm) {i : Nat} {x : Int32} (h1 : ¬ i = 14) (h2 : ¬ i = 15) (h3 : ¬ i = 17) (e : mj_I h 33 i = x) : mj_I g 33 i = x := (a.2.2 i h1 h2 h3).trans e

set_option maxRecDepth 20000 in
set_option maxHeartbeats 4000000 in
theorem goodIn_l3 {h : mj_H} {w jm : Nat} (hw : w < 10) (e_at : mj_I h 33 22 = nI w) (hN : WN h w jm) {a b c d e f : Nat} {t p : Nat} (ht9 : wlo h w 0 + t ≤ 9) (hp9 : wlo h w 1 + p ≤ 9) (hf9 : wlo h w 2 + f ≤ 9) {Q : Option Value → mj_H → Prop} :
    ∀ (n l N : Nat) (g : mj_H), l + n = f + 1 → MV h g jm → (∀ g, MV h g jm → mx 6 141 62 [.ref 33, .int (nI a), .int (nI b), .int (nI c), .int (nI d), .int (nI e), .int (nI f), .int (nI (N + sm (g1 h w t p) n l)), .int (nI t), .int (nI p), .int (nI (f + 1))] [] g Q) → mx 6 141 26 [.ref 33, .int (nI a), .int (nI b), .int (nI c), .int (nI d), .int (nI e), .int (nI f), .int (nI N), .int (nI t), .int (nI p), .int (nI l)] [] g Q := by
  intro n
  induction n with
  | zero =>
    intro l N g hl hv K
    have hll : l = f + 1 := by omega
    subst hll
    refine x_iload f_141_26 rfl ?_
    refine x_iload f_141_28 rfl ?_
    refine x_icmpN_gt (t := 62) f_141_30 (by decide) (by omega) (by omega) (fun c_1 => ?_) (fun c_1 => by omega)
    exact K g hv
  | succ n ih =>
    intro l N g hl hv K
    have S := hv.1.1
    have e46 : mj_I g 46 = mj_I h 46 := hv.2.1.i (by decide)
    have ew : ∀ a, wlo g w a = wlo h w a := fun a => by unfold wlo; rw [e46]
    have ht9 : wlo g w 0 + t ≤ 9 := by rw [ew]; exact ht9
    have hp9 : wlo g w 1 + p ≤ 9 := by rw [ew]; exact hp9
    have hl9 : wlo g w 2 + l ≤ 9 := by rw [ew]; omega
    refine x_iload f_141_26 rfl ?_
    refine x_iload f_141_28 rfl ?_
    refine x_icmpN_gt (t := 62) f_141_30 (by decide) (by omega) (by omega) (fun c_1 => by omega) (fun c_1 => ?_)
    refine x_iload f_141_33 rfl ?_
    refine x_aload_n f_141_35 rfl ?_
    refine x_iload f_141_36 rfl ?_
    refine x_iload f_141_38 rfl ?_
    refine x_iload f_141_40 rfl ?_
    refine x_callV f_141_42 (c_isGood hv.1 hw (MV_at hv (by decide) (by decide) (by decide) e_at) (MV_WN hv hN) ht9 hp9 hl9) (by omega) S.k33 (by decide) rfl rfl (Nat.le_of_ble_eq_true rfl) rfl ?_
    rintro _ g2 ⟨rfl, hv2⟩
    refine x_ifB_eq (t := 52) f_141_45 (by decide) (fun c_w => ?_) (fun c_w => ?_)
    · refine x_iconst (v := nI 0) f_141_52 (by decide) ?_
      refine x_iaddN f_141_53 ?_
      refine x_istore (ls1 := [.ref 33, .int (nI a), .int (nI b), .int (nI c), .int (nI d), .int (nI e), .int (nI f), .int (nI (N + 0)), .int (nI t), .int (nI p), .int (nI l)]) f_141_54 (Nat.le_of_ble_eq_true rfl) rfl ?_
      refine x_iinc (v := nI (l + 1)) (ls1 := [.ref 33, .int (nI a), .int (nI b), .int (nI c), .int (nI d), .int (nI e), .int (nI f), .int (nI (N + 0)), .int (nI t), .int (nI p), .int (nI (l + 1))]) f_141_56 rfl (by exact nI_add _ 1) rfl ?_
      refine x_goto (t := 26) f_141_59 (by decide) ?_
      have hG : g1 h w t p l = 0 := by
        unfold g1
        rw [← wg_MV hv]
        exact if_neg c_w
      refine ih (l + 1) (N + 0) g2 (by omega) (hv.trans hv2) ?_
      intro g3 hv3
      have q := K g3 hv3
      rw [show N + sm (g1 h w t p) (n + 1) l = N + 0 + sm (g1 h w t p) n (l + 1) by show N + (g1 h w t p l + sm (g1 h w t p) n (l + 1)) = _; rw [hG]; omega] at q
      exact q
    · refine x_iconst (v := nI 1) f_141_48 (by decide) ?_
      refine x_goto (t := 53) f_141_49 (by decide) ?_
      refine x_iaddN f_141_53 ?_
      refine x_istore (ls1 := [.ref 33, .int (nI a), .int (nI b), .int (nI c), .int (nI d), .int (nI e), .int (nI f), .int (nI (N + 1)), .int (nI t), .int (nI p), .int (nI l)]) f_141_54 (Nat.le_of_ble_eq_true rfl) rfl ?_
      refine x_iinc (v := nI (l + 1)) (ls1 := [.ref 33, .int (nI a), .int (nI b), .int (nI c), .int (nI d), .int (nI e), .int (nI f), .int (nI (N + 1)), .int (nI t), .int (nI p), .int (nI (l + 1))]) f_141_56 rfl (by exact nI_add _ 1) rfl ?_
      refine x_goto (t := 26) f_141_59 (by decide) ?_
      have hG : g1 h w t p l = 1 := by
        unfold g1
        rw [← wg_MV hv]
        exact if_pos c_w
      refine ih (l + 1) (N + 1) g2 (by omega) (hv.trans hv2) ?_
      intro g3 hv3
      have q := K g3 hv3
      rw [show N + sm (g1 h w t p) (n + 1) l = N + 1 + sm (g1 h w t p) n (l + 1) by show N + (g1 h w t p l + sm (g1 h w t p) n (l + 1)) = _; rw [hG]; omega] at q
      exact q
set_option maxRecDepth 20000 in
set_option maxHeartbeats 4000000 in
theorem goodIn_l2 {h : mj_H} {w jm : Nat} (hw : w < 10) (e_at : mj_I h 33 22 = nI w) (hN : WN h w jm) {a b c d e f : Nat} (hef : e ≤ f + 1) {t : Nat} (ht9 : wlo h w 0 + t ≤ 9) (hd9 : wlo h w 1 + d ≤ 9) (hf9 : wlo h w 2 + f ≤ 9) {Q : Option Value → mj_H → Prop} :
    ∀ (n p N : Nat) (g : mj_H) (v10 : Value), p + n = d + 1 → MV h g jm → (∀ g, MV h g jm → ∀ v10 : Value, mx 6 141 68 [.ref 33, .int (nI a), .int (nI b), .int (nI c), .int (nI d), .int (nI e), .int (nI f), .int (nI (N + sm (fun p => sm (g1 h w t p) (f + 1 - e) e) n p)), .int (nI t), .int (nI (d + 1)), v10] [] g Q) → mx 6 141 15 [.ref 33, .int (nI a), .int (nI b), .int (nI c), .int (nI d), .int (nI e), .int (nI f), .int (nI N), .int (nI t), .int (nI p), v10] [] g Q := by
  intro n
  induction n with
  | zero =>
    intro p N g v10 hl hv K
    have hll : p = d + 1 := by omega
    subst hll
    refine x_iload f_141_15 rfl ?_
    refine x_iload f_141_17 rfl ?_
    refine x_icmpN_gt (t := 68) f_141_19 (by decide) (by omega) (by omega) (fun c_1 => ?_) (fun c_1 => by omega)
    exact K g hv v10
  | succ n ih =>
    intro p N g v10 hl hv K
    refine x_iload f_141_15 rfl ?_
    refine x_iload f_141_17 rfl ?_
    refine x_icmpN_gt (t := 68) f_141_19 (by decide) (by omega) (by omega) (fun c_1 => by omega) (fun c_1 => ?_)
    refine x_iload f_141_22 rfl ?_
    refine x_istore (ls1 := [.ref 33, .int (nI a), .int (nI b), .int (nI c), .int (nI d), .int (nI e), .int (nI f), .int (nI N), .int (nI t), .int (nI p), .int (nI e)]) f_141_24 (Nat.le_of_ble_eq_true rfl) rfl ?_
    refine goodIn_l3 hw e_at hN ht9 (by omega) hf9 (f + 1 - e) e N g (by omega) hv ?_
    intro g hv
    refine x_iinc (v := nI (p + 1)) (ls1 := [.ref 33, .int (nI a), .int (nI b), .int (nI c), .int (nI d), .int (nI e), .int (nI f), .int (nI (N + sm (g1 h w t p) (f + 1 - e) e)), .int (nI t), .int (nI (p + 1)), .int (nI (f + 1))]) f_141_62 rfl (by exact nI_add _ 1) rfl ?_
    refine x_goto (t := 15) f_141_65 (by decide) ?_
    refine ih (p + 1) (N + sm (g1 h w t p) (f + 1 - e) e) g _ (by omega) hv ?_
    intro g hv v10
    have q := K g hv v10
    rw [show N + sm (fun p => sm (g1 h w t p) (f + 1 - e) e) (n + 1) p = N + sm (g1 h w t p) (f + 1 - e) e + sm (fun p => sm (g1 h w t p) (f + 1 - e) e) n (p + 1) by show N + (sm (g1 h w t p) (f + 1 - e) e + _) = _; omega] at q
    exact q
set_option maxRecDepth 20000 in
set_option maxHeartbeats 4000000 in
theorem goodIn_l1 {h : mj_H} {w jm : Nat} (hw : w < 10) (e_at : mj_I h 33 22 = nI w) (hN : WN h w jm) {a b c d e f : Nat} (hcd : c ≤ d + 1) (hef : e ≤ f + 1) (hb9 : wlo h w 0 + b ≤ 9) (hd9 : wlo h w 1 + d ≤ 9) (hf9 : wlo h w 2 + f ≤ 9) {Q : Option Value → mj_H → Prop} :
    ∀ (n t N : Nat) (g : mj_H) (v9 v10 : Value), t + n = b + 1 → MV h g jm → (∀ g, MV h g jm → ∀ v9 v10 : Value, mx 6 141 74 [.ref 33, .int (nI a), .int (nI b), .int (nI c), .int (nI d), .int (nI e), .int (nI f), .int (nI (N + sm (fun t => sm (fun p => sm (g1 h w t p) (f + 1 - e) e) (d + 1 - c) c) n t)), .int (nI (b + 1)), v9, v10] [] g Q) → mx 6 141 6 [.ref 33, .int (nI a), .int (nI b), .int (nI c), .int (nI d), .int (nI e), .int (nI f), .int (nI N), .int (nI t), v9, v10] [] g Q := by
  intro n
  induction n with
  | zero =>
    intro t N g v9 v10 hl hv K
    have hll : t = b + 1 := by omega
    subst hll
    refine x_iload f_141_6 rfl ?_
    refine x_iload_n f_141_8 rfl ?_
    refine x_icmpN_gt (t := 74) f_141_9 (by decide) (by omega) (by omega) (fun c_1 => ?_) (fun c_1 => by omega)
    exact K g hv v9 v10
  | succ n ih =>
    intro t N g v9 v10 hl hv K
    refine x_iload f_141_6 rfl ?_
    refine x_iload_n f_141_8 rfl ?_
    refine x_icmpN_gt (t := 74) f_141_9 (by decide) (by omega) (by omega) (fun c_1 => by omega) (fun c_1 => ?_)
    refine x_iload_n f_141_12 rfl ?_
    refine x_istore (ls1 := [.ref 33, .int (nI a), .int (nI b), .int (nI c), .int (nI d), .int (nI e), .int (nI f), .int (nI N), .int (nI t), .int (nI c), v10]) f_141_13 (Nat.le_of_ble_eq_true rfl) rfl ?_
    refine goodIn_l2 hw e_at hN hef (by omega) hd9 hf9 (d + 1 - c) c N g _ (by omega) hv ?_
    intro g hv v10
    refine x_iinc (v := nI (t + 1)) (ls1 := [.ref 33, .int (nI a), .int (nI b), .int (nI c), .int (nI d), .int (nI e), .int (nI f), .int (nI (N + sm (fun p => sm (g1 h w t p) (f + 1 - e) e) (d + 1 - c) c)), .int (nI (t + 1)), .int (nI (d + 1)), v10]) f_141_68 rfl (by exact nI_add _ 1) rfl ?_
    refine x_goto (t := 6) f_141_71 (by decide) ?_
    refine ih (t + 1) (N + sm (fun p => sm (g1 h w t p) (f + 1 - e) e) (d + 1 - c) c) g _ _ (by omega) hv ?_
    intro g hv v9 v10
    have q := K g hv v9 v10
    rw [show N + sm (fun t => sm (fun p => sm (g1 h w t p) (f + 1 - e) e) (d + 1 - c) c) (n + 1) t = N + sm (fun p => sm (g1 h w t p) (f + 1 - e) e) (d + 1 - c) c + sm (fun t => sm (fun p => sm (g1 h w t p) (f + 1 - e) e) (d + 1 - c) c) n (t + 1) by show N + (sm (fun p => sm (g1 h w t p) (f + 1 - e) e) (d + 1 - c) c + _) = _; omega] at q
    exact q
set_option maxRecDepth 20000 in
theorem c_goodIn {h : mj_H} {w jm : Nat} (hw : w < 10) (e_at : mj_I h 33 22 = nI w) (hN : WN h w jm) {a b c d e f : Nat} (hW : MW h jm) (hab : a ≤ b + 1) (hcd : c ≤ d + 1) (hef : e ≤ f + 1) (hb9 : wlo h w 0 + b ≤ 9) (hd9 : wlo h w 1 + d ≤ 9) (hf9 : wlo h w 2 + f ≤ 9) : mxc 6 141 [.ref 33, .int (nI a), .int (nI b), .int (nI c), .int (nI d), .int (nI e), .int (nI f)] h (fun r h' => r = some (.int (nI (gc h w a b c d e f))) ∧ MV h h' jm) := by
  show mx 6 141 0 [.ref 33, .int (nI a), .int (nI b), .int (nI c), .int (nI d), .int (nI e), .int (nI f), mj_unset, mj_unset, mj_unset, mj_unset] [] h _
  refine x_iconst (v := nI 0) f_141_0 (by decide) ?_
  refine x_istore (ls1 := [.ref 33, .int (nI a), .int (nI b), .int (nI c), .int (nI d), .int (nI e), .int (nI f), .int (nI 0), mj_unset, mj_unset, mj_unset]) f_141_1 (Nat.le_of_ble_eq_true rfl) rfl ?_
  refine x_iload_n f_141_3 rfl ?_
  refine x_istore (ls1 := [.ref 33, .int (nI a), .int (nI b), .int (nI c), .int (nI d), .int (nI e), .int (nI f), .int (nI 0), .int (nI a), mj_unset, mj_unset]) f_141_4 (Nat.le_of_ble_eq_true rfl) rfl ?_
  refine goodIn_l1 hw e_at hN hcd hef hb9 hd9 hf9 (b + 1 - a) a 0 h _ _ (by omega) (MV.rf hW) ?_
  intro g hv v9 v10
  refine x_iload f_141_74 rfl ?_
  refine x_retI f_141_76 rfl ?_
  exact ⟨by rw [Nat.zero_add]; rfl, hv⟩
end
section
/-! LEAST PROOFS of boxes, as the reference counts them -/
abbrev Gd : Type := Nat → Nat → Nat → Bool
def gcN (G : Gd) (a b c d e f : Nat) : Nat := sm (fun t => sm (fun p => sm (fun l => if G t p l = true then 1 else 0) (f + 1 - e) e) (d + 1 - c) c) (b + 1 - a) a
def szN (a b c d e f : Nat) : Nat := (b + 1 - a) * (d + 1 - c) * (f + 1 - e)
def spn (a b c d e f : Nat) : Nat := (b - a) + (d - c) + (f - e)
def bt (x : Nat × Nat) (cut n : Nat) : Nat × Nat := if n < x.1 then (n, cut) else x
def fo (cut val : Nat → Nat) : Nat → Nat → Nat × Nat → Nat × Nat
  | 0, _, x => x
  | n + 1, i, x => fo cut val n (i + 1) (bt x (cut i) (val i))
def lv (G : Gd) : Nat → Nat → Nat → Nat → Nat → Nat → Nat → Nat × Nat
  | 0, _, _, _, _, _, _ => (1, 0)
  | s + 1, a, b, c, d, e, f =>
    if gcN G a b c d e f = 0 then (1, 1) else if gcN G a b c d e f = szN a b c d e f then (1, 0) else
      fo (fun i => 18 + i - e) (fun i => (lv G s a b c d e i).1 + (lv G s a b c d (i + 1) f).1) (f - e) e
        (fo (fun i => 10 + i - c) (fun i => (lv G s a b c i e f).1 + (lv G s a b (i + 1) d e f).1) (d - c) c
          (fo (fun i => 2 + i - a) (fun i => (lv G s a i c d e f).1 + (lv G s (i + 1) b c d e f).1) (b - a) a (1000, 0)))
theorem fo_congr {cut v1 v2 : Nat → Nat} : ∀ (n i : Nat) (x : Nat × Nat), (∀ k, i ≤ k → k < i + n → v1 k = v2 k) → fo cut v1 n i x = fo cut v2 n i x
  | 0, i, x, _ => rfl
  | n + 1, i, x, h => by
    show fo cut v1 n (i + 1) (bt x (cut i) (v1 i)) = fo cut v2 n (i + 1) (bt x (cut i) (v2 i))
    rw [h i (Nat.le_refl _) (by omega)]
    exact fo_congr n (i + 1) _ (fun k h1 h2 => h k (by omega) (by omega))
theorem lv_step (G : Gd) : ∀ (s a b c d e f : Nat), spn a b c d e f < s → lv G (s + 1) a b c d e f = lv G s a b c d e f
  | 0, a, b, c, d, e, f, h => absurd h (Nat.not_lt_zero _)
  | s + 1, a, b, c, d, e, f, h => by
    unfold spn at h
    show (if gcN G a b c d e f = 0 then _ else if gcN G a b c d e f = szN a b c d e f then _ else _) = (if gcN G a b c d e f = 0 then _ else if gcN G a b c d e f = szN a b c d e f then _ else _)
    by_cases h1 : gcN G a b c d e f = 0
    · rw [if_pos h1, if_pos h1]
    · rw [if_neg h1, if_neg h1]
      by_cases h2 : gcN G a b c d e f = szN a b c d e f
      · rw [if_pos h2, if_pos h2]
      · rw [if_neg h2, if_neg h2]
        rw [fo_congr (b - a) a (1000, 0) (fun k k1 k2 => by rw [lv_step G s a k c d e f (by unfold spn; omega), lv_step G s (k + 1) b c d e f (by unfold spn; omega)])]
        rw [fo_congr (d - c) c _ (fun k k1 k2 => by rw [lv_step G s a b c k e f (by unfold spn; omega), lv_step G s a b (k + 1) d e f (by unfold spn; omega)])]
        rw [fo_congr (f - e) e _ (fun k k1 k2 => by rw [lv_step G s a b c d e k (by unfold spn; omega), lv_step G s a b c d (k + 1) f (by unfold spn; omega)])]
def LV (G : Gd) (a b c d e f : Nat) : Nat × Nat := lv G 16 a b c d e f
theorem LV_eq (G : Gd) {a b c d e f : Nat} (h : spn a b c d e f ≤ 15) : LV G a b c d e f = if gcN G a b c d e f = 0 then (1, 1) else if gcN G a b c d e f = szN a b c d e f then (1, 0) else
      fo (fun i => 18 + i - e) (fun i => (LV G a b c d e i).1 + (LV G a b c d (i + 1) f).1) (f - e) e
        (fo (fun i => 10 + i - c) (fun i => (LV G a b c i e f).1 + (LV G a b (i + 1) d e f).1) (d - c) c
          (fo (fun i => 2 + i - a) (fun i => (LV G a i c d e f).1 + (LV G (i + 1) b c d e f).1) (b - a) a (1000, 0))) := by
  unfold spn at h
  show (if gcN G a b c d e f = 0 then _ else if gcN G a b c d e f = szN a b c d e f then _ else _) = _
  by_cases h1 : gcN G a b c d e f = 0
  · rw [if_pos h1, if_pos h1]
  · rw [if_neg h1, if_neg h1]
    by_cases h2 : gcN G a b c d e f = szN a b c d e f
    · rw [if_pos h2, if_pos h2]
    · rw [if_neg h2, if_neg h2]
      rw [fo_congr (b - a) a (1000, 0) (v2 := fun i => (LV G a i c d e f).1 + (LV G (i + 1) b c d e f).1) (fun k k1 k2 => by unfold LV; rw [lv_step G 15 a k c d e f (by unfold spn; omega), lv_step G 15 (k + 1) b c d e f (by unfold spn; omega)])]
      rw [fo_congr (d - c) c _ (v2 := fun i => (LV G a b c i e f).1 + (LV G a b (i + 1) d e f).1) (fun k k1 k2 => by unfold LV; rw [lv_step G 15 a b c k e f (by unfold spn; omega), lv_step G 15 a b (k + 1) d e f (by unfold spn; omega)])]
      rw [fo_congr (f - e) e _ (v2 := fun i => (LV G a b c d e i).1 + (LV G a b c d (i + 1) f).1) (fun k k1 k2 => by unfold LV; rw [lv_step G 15 a b c d e k (by unfold spn; omega), lv_step G 15 a b c d (k + 1) f (by unfold spn; omega)])]
theorem fo_le {cut val : Nat → Nat} : ∀ (n i : Nat) (x : Nat × Nat), (fo cut val n i x).1 ≤ x.1
  | 0, i, x => Nat.le_refl _
  | n + 1, i, x => by
    refine Nat.le_trans (fo_le n (i + 1) (bt x (cut i) (val i))) ?_
    unfold bt
    split
    · rename_i h; exact Nat.le_of_lt h
    · exact Nat.le_refl _
theorem fo_le1 {cut val : Nat → Nat} {n i : Nat} {x : Nat × Nat} (hn : 0 < n) : (fo cut val n i x).1 ≤ val i := by
  obtain ⟨m, rfl⟩ : ∃ m, n = m + 1 := ⟨n - 1, by omega⟩
  refine Nat.le_trans (fo_le m (i + 1) (bt x (cut i) (val i))) ?_
  unfold bt
  split
  · exact Nat.le_refl _
  · rename_i h; exact Nat.not_lt.mp h
theorem fo_pos {cut val : Nat → Nat} (hv : ∀ i, 0 < val i) : ∀ (n i : Nat) (x : Nat × Nat), 0 < x.1 → 0 < (fo cut val n i x).1
  | 0, i, x, h => h
  | n + 1, i, x, h => by
    refine fo_pos hv n (i + 1) _ ?_
    unfold bt
    split
    · exact hv i
    · exact h
theorem lv_pos (G : Gd) : ∀ (s a b c d e f : Nat), 0 < (lv G s a b c d e f).1
  | 0, a, b, c, d, e, f => Nat.one_pos
  | s + 1, a, b, c, d, e, f => by
    show 0 < (if gcN G a b c d e f = 0 then _ else if gcN G a b c d e f = szN a b c d e f then _ else _ : Nat × Nat).1
    split
    · exact Nat.one_pos
    · split
      · exact Nat.one_pos
      · refine fo_pos (fun i => Nat.add_pos_left (lv_pos G s _ _ _ _ _ _) _) _ _ _ (fo_pos (fun i => Nat.add_pos_left (lv_pos G s _ _ _ _ _ _) _) _ _ _ (fo_pos (fun i => Nat.add_pos_left (lv_pos G s _ _ _ _ _ _) _) _ _ _ (by decide)))
theorem lv_1000 (G : Gd) : ∀ (s a b c d e f : Nat), (lv G s a b c d e f).1 ≤ 1000
  | 0, a, b, c, d, e, f => (by decide : (1 : Nat) ≤ 1000)
  | s + 1, a, b, c, d, e, f => by
    show (if gcN G a b c d e f = 0 then _ else if gcN G a b c d e f = szN a b c d e f then _ else _ : Nat × Nat).1 ≤ 1000
    split
    · decide
    · split
      · decide
      · exact Nat.le_trans (fo_le _ _ _) (Nat.le_trans (fo_le _ _ _) (fo_le _ _ _))
theorem sm_one {f : Nat → Nat} (x : Nat) : sm f 1 x = f x := rfl
theorem gcN_one (G : Gd) (a c e : Nat) : gcN G a a c c e e = 0 ∨ gcN G a a c c e e = szN a a c c e e := by
  have h1 : ∀ x : Nat, x + 1 - x = 1 := fun x => by omega
  unfold gcN szN
  simp only [h1, sm_one]
  split
  · exact Or.inr rfl
  · exact Or.inl rfl

theorem sz_a {a b c d e f : Nat} (h : a < b) : szN a a c d e f + szN (a + 1) b c d e f = szN a b c d e f := by
  unfold szN
  rw [← Nat.add_mul, ← Nat.add_mul]
  congr 2
  omega
theorem sz_c {a b c d e f : Nat} (h : c < d) : szN a b c c e f + szN a b (c + 1) d e f = szN a b c d e f := by
  unfold szN
  rw [← Nat.add_mul, ← Nat.mul_add]
  congr 2
  omega
theorem sz_e {a b c d e f : Nat} (h : e < f) : szN a b c d e e + szN a b c d (e + 1) f = szN a b c d e f := by
  unfold szN
  rw [← Nat.mul_add]
  congr 1
  omega
theorem sz_pos {a b c d e f : Nat} (h1 : a ≤ b) (h2 : c ≤ d) (h3 : e ≤ f) : 1 ≤ szN a b c d e f := by
  unfold szN
  exact Nat.mul_pos (Nat.mul_pos (by omega) (by omega)) (by omega)
theorem lv_sz (G : Gd) : ∀ (s a b c d e f : Nat), a ≤ b → c ≤ d → e ≤ f → spn a b c d e f < s → (lv G s a b c d e f).1 ≤ szN a b c d e f
  | 0, a, b, c, d, e, f, _, _, _, h => absurd h (Nat.not_lt_zero _)
  | s + 1, a, b, c, d, e, f, h1, h2, h3, h => by
    unfold spn at h
    show (if gcN G a b c d e f = 0 then _ else if gcN G a b c d e f = szN a b c d e f then _ else _ : Nat × Nat).1 ≤ _
    split
    · exact sz_pos h1 h2 h3
    · rename_i g0
      split
      · exact sz_pos h1 h2 h3
      · rename_i gz
        by_cases ha : a < b
        · refine Nat.le_trans (fo_le _ _ _) (Nat.le_trans (fo_le _ _ _) (Nat.le_trans (fo_le1 (by omega)) ?_))
          rw [← sz_a ha]
          exact Nat.add_le_add (lv_sz G s a a c d e f (Nat.le_refl _) h2 h3 (by unfold spn; omega)) (lv_sz G s (a + 1) b c d e f (by omega) h2 h3 (by unfold spn; omega))
        · by_cases hc : c < d
          · refine Nat.le_trans (fo_le _ _ _) (Nat.le_trans (fo_le1 (by omega)) ?_)
            rw [← sz_c hc]
            exact Nat.add_le_add (lv_sz G s a b c c e f h1 (Nat.le_refl _) h3 (by unfold spn; omega)) (lv_sz G s a b (c + 1) d e f h1 (by omega) h3 (by unfold spn; omega))
          · by_cases he : e < f
            · refine Nat.le_trans (fo_le1 (by omega)) ?_
              rw [← sz_e he]
              exact Nat.add_le_add (lv_sz G s a b c d e e h1 h2 (Nat.le_refl _) (by unfold spn; omega)) (lv_sz G s a b c d (e + 1) f h1 h2 (by omega) (by unfold spn; omega))
            · have e1 : b = a := by omega
              have e2 : d = c := by omega
              have e3 : f = e := by omega
              subst e1
              subst e2
              subst e3
              rcases gcN_one G b d f with q | q
              · exact absurd q g0
              · exact absurd q gz
theorem sz_216 {a b c d e f : Nat} (h1 : b ≤ 5) (h2 : d ≤ 5) (h3 : f ≤ 5) : szN a b c d e f ≤ 216 := by
  unfold szN
  exact Nat.le_trans (Nat.mul_le_mul (Nat.mul_le_mul (show b + 1 - a ≤ 6 by omega) (show d + 1 - c ≤ 6 by omega)) (show f + 1 - e ≤ 6 by omega)) (by decide)
theorem LV_216 (G : Gd) {a b c d e f : Nat} (h1 : a ≤ b) (h2 : c ≤ d) (h3 : e ≤ f) (b5 : b ≤ 5) (d5 : d ≤ 5) (f5 : f ≤ 5) : (LV G a b c d e f).1 ≤ 216 :=
  Nat.le_trans (lv_sz G 16 a b c d e f h1 h2 h3 (by unfold spn; omega)) (sz_216 b5 d5 f5)
theorem LV_pos (G : Gd) (a b c d e f : Nat) : 0 < (LV G a b c d e f).1 := lv_pos G 16 a b c d e f
/-- what stood before does not matter once one cut is tried -/
theorem fo_any {cut val : Nat → Nat} {n i x y : Nat} (hn : 0 < n) (hv : val i < 1000) : fo cut val n i (1000, x) = fo cut val n i (1000, y) := by
  obtain ⟨m, rfl⟩ : ∃ m, n = m + 1 := ⟨n - 1, by omega⟩
  show fo cut val m (i + 1) (bt (1000, x) (cut i) (val i)) = fo cut val m (i + 1) (bt (1000, y) (cut i) (val i))
  unfold bt
  rw [if_pos hv, if_pos hv]
/-- the three folds from any mark that stood before -/
def fo3 (G : Gd) (a b c d e f x : Nat) : Nat × Nat :=
  fo (fun i => 18 + i - e) (fun i => (LV G a b c d e i).1 + (LV G a b c d (i + 1) f).1) (f - e) e
        (fo (fun i => 10 + i - c) (fun i => (LV G a b c i e f).1 + (LV G a b (i + 1) d e f).1) (d - c) c
          (fo (fun i => 2 + i - a) (fun i => (LV G a i c d e f).1 + (LV G (i + 1) b c d e f).1) (b - a) a (1000, x)))
theorem LV_fo3 (G : Gd) {a b c d e f : Nat} (h1 : a ≤ b) (h2 : c ≤ d) (h3 : e ≤ f) (b5 : b ≤ 5) (d5 : d ≤ 5) (f5 : f ≤ 5) (g0 : ¬ gcN G a b c d e f = 0) (gz : ¬ gcN G a b c d e f = szN a b c d e f) (x : Nat) : LV G a b c d e f = fo3 G a b c d e f x := by
  rw [LV_eq G (by unfold spn; omega), if_neg g0, if_neg gz]
  unfold fo3
  by_cases ha : a < b
  · rw [fo_any (n := b - a) (x := 0) (y := x) (by omega)]
    have q1 := LV_216 G (Nat.le_refl a) h2 h3 (by omega : a ≤ 5) d5 f5
    have q2 := LV_216 G (by omega : a + 1 ≤ b) h2 h3 b5 d5 f5
    show (LV G a a c d e f).1 + (LV G (a + 1) b c d e f).1 < 1000
    omega
  · have ea : b - a = 0 := by omega
    rw [ea]
    by_cases hc : c < d
    · show fo _ _ (f - e) e (fo _ _ (d - c) c (1000, 0)) = fo _ _ (f - e) e (fo _ _ (d - c) c (1000, x))
      rw [fo_any (n := d - c) (x := 0) (y := x) (by omega)]
      have q1 := LV_216 G h1 (Nat.le_refl c) h3 b5 (by omega : c ≤ 5) f5
      have q2 := LV_216 G h1 (by omega : c + 1 ≤ d) h3 b5 d5 f5
      show (LV G a b c c e f).1 + (LV G a b (c + 1) d e f).1 < 1000
      omega
    · have ec : d - c = 0 := by omega
      rw [ec]
      by_cases he : e < f
      · show fo _ _ (f - e) e (1000, 0) = fo _ _ (f - e) e (1000, x)
        rw [fo_any (n := f - e) (x := 0) (y := x) (by omega)]
        have q1 := LV_216 G h1 h2 (Nat.le_refl e) b5 d5 (by omega : e ≤ 5)
        have q2 := LV_216 G h1 h2 (by omega : e + 1 ≤ f) b5 d5 f5
        show (LV G a b c d e e).1 + (LV G a b c d (e + 1) f).1 < 1000
        omega
      · have e1 : b = a := by omega
        have e2 : d = c := by omega
        have e3 : f = e := by omega
        subst e1
        subst e2
        subst e3
        rcases gcN_one G b d f with q | q
        · exact absurd q g0
        · exact absurd q gz
theorem gcN_le (G : Gd) {a b c d e f : Nat} (b5 : b ≤ 5) (d5 : d ≤ 5) (f5 : f ≤ 5) : gcN G a b c d e f ≤ 216 := by
  unfold gcN
  have k3 : ∀ t p, sm (fun l => if G t p l = true then 1 else 0) (f + 1 - e) e ≤ 6 := fun t p => Nat.le_trans (sm_le (m := 1) (fun x => by show (if _ then 1 else 0) ≤ 1; split <;> decide) _ _) (by omega)
  have k2 : ∀ t, sm (fun p => sm (fun l => if G t p l = true then 1 else 0) (f + 1 - e) e) (d + 1 - c) c ≤ 36 := fun t => Nat.le_trans (sm_le (m := 6) (fun x => k3 t x) _ _) (by omega)
  exact Nat.le_trans (sm_le (m := 36) k2 _ _) (by omega)
end
section
theorem f_146_0 : mj_fetch 146 0 = some (.aload_n 0, 0, 0) := by decide +kernel
theorem f_146_1 : mj_fetch 146 1 = some (.getfield 57, 11, 24) := by decide +kernel
theorem f_146_4 : mj_fetch 146 4 = some (.iload_n 1, 0, 0) := by decide +kernel
theorem f_146_5 : mj_fetch 146 5 = some (.iload 4, 0, 0) := by decide +kernel
theorem f_146_7 : mj_fetch 146 7 = some (.iload_n 2, 0, 0) := by decide +kernel
theorem f_146_8 : mj_fetch 146 8 = some (.if_icmp .ge 7, 0, 0) := by decide +kernel
theorem f_146_11 : mj_fetch 146 11 = some (.iload_n 3, 0, 0) := by decide +kernel
theorem f_146_12 : mj_fetch 146 12 = some (.goto 9, 0, 0) := by decide +kernel
theorem f_146_15 : mj_fetch 146 15 = some (.aload_n 0, 0, 0) := by decide +kernel
theorem f_146_16 : mj_fetch 146 16 = some (.getfield 57, 11, 24) := by decide +kernel
theorem f_146_19 : mj_fetch 146 19 = some (.iload_n 1, 0, 0) := by decide +kernel
theorem f_146_20 : mj_fetch 146 20 = some (.iaload, 0, 0) := by decide +kernel
theorem f_146_21 : mj_fetch 146 21 = some (.iastore, 0, 0) := by decide +kernel
theorem f_146_22 : mj_fetch 146 22 = some (.iload 4, 0, 0) := by decide +kernel
theorem f_146_24 : mj_fetch 146 24 = some (.iload_n 2, 0, 0) := by decide +kernel
theorem f_146_25 : mj_fetch 146 25 = some (.invokestatic 117, 0, 2) := by decide +kernel
theorem f_146_28 : mj_fetch 146 28 = some (.ireturn, 0, 0) := by decide +kernel
theorem f_145_104 : mj_fetch 145 104 = some (.iload 10, 0, 0) := by decide +kernel
theorem f_145_106 : mj_fetch 145 106 = some (.iload_n 2, 0, 0) := by decide +kernel
theorem f_145_107 : mj_fetch 145 107 = some (.if_icmp .ge 56, 0, 0) := by decide +kernel
theorem f_145_110 : mj_fetch 145 110 = some (.aload_n 0, 0, 0) := by decide +kernel
theorem f_145_111 : mj_fetch 145 111 = some (.iload 7, 0, 0) := by decide +kernel
theorem f_145_113 : mj_fetch 145 113 = some (.iload 9, 0, 0) := by decide +kernel
theorem f_145_115 : mj_fetch 145 115 = some (.iconst 2, 0, 0) := by decide +kernel
theorem f_145_116 : mj_fetch 145 116 = some (.iload 10, 0, 0) := by decide +kernel
theorem f_145_118 : mj_fetch 145 118 = some (.iadd, 0, 0) := by decide +kernel
theorem f_145_119 : mj_fetch 145 119 = some (.iload_n 1, 0, 0) := by decide +kernel
theorem f_145_120 : mj_fetch 145 120 = some (.isub, 0, 0) := by decide +kernel
theorem f_145_121 : mj_fetch 145 121 = some (.aload_n 0, 0, 0) := by decide +kernel
theorem f_145_122 : mj_fetch 145 122 = some (.iload_n 1, 0, 0) := by decide +kernel
theorem f_145_123 : mj_fetch 145 123 = some (.iload 10, 0, 0) := by decide +kernel
theorem f_145_125 : mj_fetch 145 125 = some (.iload_n 3, 0, 0) := by decide +kernel
theorem f_145_126 : mj_fetch 145 126 = some (.iload 4, 0, 0) := by decide +kernel
theorem f_145_128 : mj_fetch 145 128 = some (.iload 5, 0, 0) := by decide +kernel
theorem f_145_130 : mj_fetch 145 130 = some (.iload 6, 0, 0) := by decide +kernel
theorem f_145_132 : mj_fetch 145 132 = some (.invokevirtual 201, 145, 0) := by decide +kernel
theorem f_145_135 : mj_fetch 145 135 = some (.aload_n 0, 0, 0) := by decide +kernel
theorem f_145_136 : mj_fetch 145 136 = some (.iload 10, 0, 0) := by decide +kernel
theorem f_145_138 : mj_fetch 145 138 = some (.iconst 1, 0, 0) := by decide +kernel
theorem f_145_139 : mj_fetch 145 139 = some (.iadd, 0, 0) := by decide +kernel
theorem f_145_140 : mj_fetch 145 140 = some (.iload_n 2, 0, 0) := by decide +kernel
theorem f_145_141 : mj_fetch 145 141 = some (.iload_n 3, 0, 0) := by decide +kernel
theorem f_145_142 : mj_fetch 145 142 = some (.iload 4, 0, 0) := by decide +kernel
theorem f_145_144 : mj_fetch 145 144 = some (.iload 5, 0, 0) := by decide +kernel
theorem f_145_146 : mj_fetch 145 146 = some (.iload 6, 0, 0) := by decide +kernel
theorem f_145_148 : mj_fetch 145 148 = some (.invokevirtual 201, 145, 0) := by decide +kernel
theorem f_145_151 : mj_fetch 145 151 = some (.iadd, 0, 0) := by decide +kernel
theorem f_145_152 : mj_fetch 145 152 = some (.invokevirtual 204, 146, 0) := by decide +kernel
theorem f_145_155 : mj_fetch 145 155 = some (.istore 9, 0, 0) := by decide +kernel
theorem f_145_157 : mj_fetch 145 157 = some (.iinc 10 1, 0, 0) := by decide +kernel
theorem f_145_160 : mj_fetch 145 160 = some (.goto (-56), 0, 0) := by decide +kernel
theorem f_145_166 : mj_fetch 145 166 = some (.iload 10, 0, 0) := by decide +kernel
theorem f_145_168 : mj_fetch 145 168 = some (.iload 4, 0, 0) := by decide +kernel
theorem f_145_170 : mj_fetch 145 170 = some (.if_icmp .ge 56, 0, 0) := by decide +kernel
theorem f_145_173 : mj_fetch 145 173 = some (.aload_n 0, 0, 0) := by decide +kernel
theorem f_145_174 : mj_fetch 145 174 = some (.iload 7, 0, 0) := by decide +kernel
theorem f_145_176 : mj_fetch 145 176 = some (.iload 9, 0, 0) := by decide +kernel
theorem f_145_178 : mj_fetch 145 178 = some (.bipush 10, 0, 0) := by decide +kernel
theorem f_145_180 : mj_fetch 145 180 = some (.iload 10, 0, 0) := by decide +kernel
theorem f_145_182 : mj_fetch 145 182 = some (.iadd, 0, 0) := by decide +kernel
theorem f_145_183 : mj_fetch 145 183 = some (.iload_n 3, 0, 0) := by decide +kernel
theorem f_145_184 : mj_fetch 145 184 = some (.isub, 0, 0) := by decide +kernel
theorem f_145_185 : mj_fetch 145 185 = some (.aload_n 0, 0, 0) := by decide +kernel
theorem f_145_186 : mj_fetch 145 186 = some (.iload_n 1, 0, 0) := by decide +kernel
theorem f_145_187 : mj_fetch 145 187 = some (.iload_n 2, 0, 0) := by decide +kernel
theorem f_145_188 : mj_fetch 145 188 = some (.iload_n 3, 0, 0) := by decide +kernel
theorem f_145_189 : mj_fetch 145 189 = some (.iload 10, 0, 0) := by decide +kernel
theorem f_145_191 : mj_fetch 145 191 = some (.iload 5, 0, 0) := by decide +kernel
theorem f_145_193 : mj_fetch 145 193 = some (.iload 6, 0, 0) := by decide +kernel
theorem f_145_195 : mj_fetch 145 195 = some (.invokevirtual 201, 145, 0) := by decide +kernel
theorem f_145_198 : mj_fetch 145 198 = some (.aload_n 0, 0, 0) := by decide +kernel
theorem f_145_199 : mj_fetch 145 199 = some (.iload_n 1, 0, 0) := by decide +kernel
theorem f_145_200 : mj_fetch 145 200 = some (.iload_n 2, 0, 0) := by decide +kernel
theorem f_145_201 : mj_fetch 145 201 = some (.iload 10, 0, 0) := by decide +kernel
theorem f_145_203 : mj_fetch 145 203 = some (.iconst 1, 0, 0) := by decide +kernel
theorem f_145_204 : mj_fetch 145 204 = some (.iadd, 0, 0) := by decide +kernel
theorem f_145_205 : mj_fetch 145 205 = some (.iload 4, 0, 0) := by decide +kernel
theorem f_145_207 : mj_fetch 145 207 = some (.iload 5, 0, 0) := by decide +kernel
theorem f_145_209 : mj_fetch 145 209 = some (.iload 6, 0, 0) := by decide +kernel
theorem f_145_211 : mj_fetch 145 211 = some (.invokevirtual 201, 145, 0) := by decide +kernel
theorem f_145_214 : mj_fetch 145 214 = some (.iadd, 0, 0) := by decide +kernel
theorem f_145_215 : mj_fetch 145 215 = some (.invokevirtual 204, 146, 0) := by decide +kernel
theorem f_145_218 : mj_fetch 145 218 = some (.istore 9, 0, 0) := by decide +kernel
theorem f_145_220 : mj_fetch 145 220 = some (.iinc 10 1, 0, 0) := by decide +kernel
theorem f_145_223 : mj_fetch 145 223 = some (.goto (-57), 0, 0) := by decide +kernel
theorem f_145_230 : mj_fetch 145 230 = some (.iload 10, 0, 0) := by decide +kernel
theorem f_145_232 : mj_fetch 145 232 = some (.iload 6, 0, 0) := by decide +kernel
theorem f_145_234 : mj_fetch 145 234 = some (.if_icmp .ge 56, 0, 0) := by decide +kernel
theorem f_145_237 : mj_fetch 145 237 = some (.aload_n 0, 0, 0) := by decide +kernel
theorem f_145_238 : mj_fetch 145 238 = some (.iload 7, 0, 0) := by decide +kernel
theorem f_145_240 : mj_fetch 145 240 = some (.iload 9, 0, 0) := by decide +kernel
theorem f_145_242 : mj_fetch 145 242 = some (.bipush 18, 0, 0) := by decide +kernel
theorem f_145_244 : mj_fetch 145 244 = some (.iload 10, 0, 0) := by decide +kernel
theorem f_145_246 : mj_fetch 145 246 = some (.iadd, 0, 0) := by decide +kernel
theorem f_145_247 : mj_fetch 145 247 = some (.iload 5, 0, 0) := by decide +kernel
theorem f_145_249 : mj_fetch 145 249 = some (.isub, 0, 0) := by decide +kernel
theorem f_145_250 : mj_fetch 145 250 = some (.aload_n 0, 0, 0) := by decide +kernel
theorem f_145_251 : mj_fetch 145 251 = some (.iload_n 1, 0, 0) := by decide +kernel
theorem f_145_252 : mj_fetch 145 252 = some (.iload_n 2, 0, 0) := by decide +kernel
theorem f_145_253 : mj_fetch 145 253 = some (.iload_n 3, 0, 0) := by decide +kernel
theorem f_145_254 : mj_fetch 145 254 = some (.iload 4, 0, 0) := by decide +kernel
theorem f_145_256 : mj_fetch 145 256 = some (.iload 5, 0, 0) := by decide +kernel
theorem f_145_258 : mj_fetch 145 258 = some (.iload 10, 0, 0) := by decide +kernel
theorem f_145_260 : mj_fetch 145 260 = some (.invokevirtual 201, 145, 0) := by decide +kernel
theorem f_145_263 : mj_fetch 145 263 = some (.aload_n 0, 0, 0) := by decide +kernel
theorem f_145_264 : mj_fetch 145 264 = some (.iload_n 1, 0, 0) := by decide +kernel
theorem f_145_265 : mj_fetch 145 265 = some (.iload_n 2, 0, 0) := by decide +kernel
theorem f_145_266 : mj_fetch 145 266 = some (.iload_n 3, 0, 0) := by decide +kernel
theorem f_145_267 : mj_fetch 145 267 = some (.iload 4, 0, 0) := by decide +kernel
theorem f_145_269 : mj_fetch 145 269 = some (.iload 10, 0, 0) := by decide +kernel
theorem f_145_271 : mj_fetch 145 271 = some (.iconst 1, 0, 0) := by decide +kernel
theorem f_145_272 : mj_fetch 145 272 = some (.iadd, 0, 0) := by decide +kernel
theorem f_145_273 : mj_fetch 145 273 = some (.iload 6, 0, 0) := by decide +kernel
theorem f_145_275 : mj_fetch 145 275 = some (.invokevirtual 201, 145, 0) := by decide +kernel
theorem f_145_278 : mj_fetch 145 278 = some (.iadd, 0, 0) := by decide +kernel
theorem f_145_279 : mj_fetch 145 279 = some (.invokevirtual 204, 146, 0) := by decide +kernel
theorem f_145_282 : mj_fetch 145 282 = some (.istore 9, 0, 0) := by decide +kernel
theorem f_145_284 : mj_fetch 145 284 = some (.iinc 10 1, 0, 0) := by decide +kernel
theorem f_145_287 : mj_fetch 145 287 = some (.goto (-57), 0, 0) := by decide +kernel
theorem nI_any (v : Int32) : ∃ x : Nat, v = nI x := ⟨v.toBitVec.toNat, by
  apply Int32.toBitVec_inj.mp
  simp [nI, Int32.toBitVec_ofNat']⟩
theorem nI_min {x y : Nat} (hx : x < 2 ^ 31) (hy : y < 2 ^ 31) : (if nI y < nI x then nI y else nI x) = nI (if x < y then x else y) := by
  by_cases h : y < x
  · rw [if_pos ((nI_ltI hy hx).mpr h), if_neg (by omega)]
  · rw [if_neg (fun q => h ((nI_ltI hy hx).mp q))]
    by_cases h2 : x < y
    · rw [if_pos h2]
    · rw [if_neg h2, show x = y by omega]

set_option maxRecDepth 20000 in
theorem c_better {h : mj_H} (S : SM h) {k best cut n x : Nat} (hk : k < 46656) (hb : best < 2 ^ 31) (hn : n < 2 ^ 31) (e49 : mj_I h 49 k = nI x) : mxc 0 146 [.ref 33, .int (nI k), .int (nI best), .int (nI cut), .int (nI n)] h (fun r h' => r = some (.int (nI (bt (best, x) cut n).1)) ∧ h' = mj_setI h 49 k (nI (bt (best, x) cut n).2)) := by
  show mx 0 146 0 [.ref 33, .int (nI k), .int (nI best), .int (nI cut), .int (nI n)] [] h _
  refine x_aload_n f_146_0 rfl ?_
  refine x_getR f_146_1 S.k33 (by decide) S.r24 ?_
  refine x_iload_n f_146_4 rfl ?_
  refine x_iload f_146_5 rfl ?_
  refine x_iload_n f_146_7 rfl ?_
  refine x_icmpN_ge (t := 15) f_146_8 (by decide) (by omega) (by omega) (fun c_1 => ?_) (fun c_1 => ?_)
  · refine x_aload_n f_146_15 rfl ?_
    refine x_getR f_146_16 S.k33 (by decide) S.r24 ?_
    refine x_iload_n f_146_19 rfl ?_
    refine x_iald (j := k) f_146_20 S.k49 (by omega) (by decide) ?_
    refine x_topi (w := nI x) e49 ?_
    refine x_iast (j := k) f_146_21 S.k49 (by decide) (by omega) (by decide) ?_
    refine x_iload f_146_22 rfl ?_
    refine x_iload_n f_146_24 rfl ?_
    refine x_min f_146_25 (Nat.le_of_ble_eq_true rfl) ?_
    refine x_retI f_146_28 rfl ?_
    unfold bt
    rw [if_neg (show ¬ n < best by omega)]
    refine ⟨?_, rfl⟩
    rw [nI_min (by omega) (by omega)]
    rw [if_neg (show ¬ n < best by omega)]
  · refine x_iload_n f_146_11 rfl ?_
    refine x_goto (t := 21) f_146_12 (by decide) ?_
    refine x_iast (j := k) f_146_21 S.k49 (by decide) (by omega) (by decide) ?_
    refine x_iload f_146_22 rfl ?_
    refine x_iload_n f_146_24 rfl ?_
    refine x_min f_146_25 (Nat.le_of_ble_eq_true rfl) ?_
    refine x_retI f_146_28 rfl ?_
    unfold bt
    rw [if_pos (show n < best by omega)]
    refine ⟨?_, rfl⟩
    rw [nI_min (by omega) (by omega)]
    rw [if_pos (show n < best by omega)]
def BX (W : Nat → Nat) (a b c d e f : Nat) : Prop := a ≤ b ∧ b ≤ W 0 ∧ c ≤ d ∧ d ≤ W 1 ∧ e ≤ f ∧ f ≤ W 2
/-- what the search has kept is right -/
def MO (h : mj_H) (G : Gd) (W : Nat → Nat) : Prop := ∀ a b c d e f, BX W a b c d e f → mj_I h 48 (bx a b c d e f) = 0 ∨ (mj_I h 48 (bx a b c d e f) = nI (LV G a b c d e f).1 ∧ mj_I h 49 (bx a b c d e f) = nI (LV G a b c d e f).2)

def NU (G : Gd) (a b c d e f : Nat) : Prop := ¬ gcN G a b c d e f = 0 ∧ ¬ gcN G a b c d e f = szN a b c d e f
def ST (h : mj_H) (a b c d e f : Nat) : Prop := ¬ mj_I h 48 (bx a b c d e f) = 0
/-- the parts of a kept box are kept -/
def MC (h : mj_H) (G : Gd) (W : Nat → Nat) : Prop := ∀ a b c d e f, BX W a b c d e f → ST h a b c d e f → NU G a b c d e f →
  (∀ i, a ≤ i → i < b → ST h a i c d e f ∧ ST h (i + 1) b c d e f) ∧ (∀ i, c ≤ i → i < d → ST h a b c i e f ∧ ST h a b (i + 1) d e f) ∧ ∀ i, e ≤ i → i < f → ST h a b c d e i ∧ ST h a b c d (i + 1) f
/-- what is kept stays kept -/
def Mn (h g : mj_H) : Prop := ∀ q, ¬ mj_I h 48 q = 0 → ¬ mj_I g 48 q = 0
theorem Mn.rf (h : mj_H) : Mn h h := fun _ q => q
theorem Mn.trans {h g k : mj_H} (a : Mn h g) (b : Mn g k) : Mn h k := fun q h1 => b q (a q h1)
theorem Mn.eq {h g : mj_H} (e : mj_I g 48 = mj_I h 48) : Mn h g := fun q h1 => by rw [e]; exact h1
theorem MC.eq {h g : mj_H} {G : Gd} {W : Nat → Nat} (e : mj_I g 48 = mj_I h 48) (m : MC h G W) : MC g G W := by
  unfold MC ST
  rw [e]
  exact m
theorem Mn.set {g : mj_H} {k : Nat} {x : Int32} (hx : ¬ x = 0) : Mn g (mj_setI g 48 k x) := by
  intro q h1
  by_cases hq : q = k
  · subst hq; rw [mj_I_at]; exact hx
  · rw [mj_I_ne hq]; exact h1
def ME (h g : mj_H) : Prop := Rw h g [33, 39, 40, 41, 42, 43, 44, 48, 49] ∧ F33 h g
def CL (h : mj_H) (jm w : Nat) (G : Gd) (W : Nat → Nat) : Prop := MW h jm ∧ w < 10 ∧ mj_I h 33 22 = nI w ∧ WN h w jm ∧ (∀ t p l, wg h w t p l = G t p l) ∧ (∀ a, a < 3 → wlo h w a + W a ≤ 9 ∧ W a ≤ 5) ∧ MO h G W ∧ MC h G W
theorem ME.rf (h : mj_H) : ME h h := ⟨Rw.rf _ _, fun _ _ _ _ => rfl⟩
theorem ME.trans {h g k : mj_H} (a : ME h g) (b : ME g k) : ME h k := ⟨a.1.trans b.1, fun q h1 h2 h3 => (b.2 q h1 h2 h3).trans (a.2 q h1 h2 h3)⟩
theorem ME_MV {h g : mj_H} {jm : Nat} (a : MV h g jm) : ME h g := ⟨a.2.1.mono (by decide), a.2.2⟩
theorem ME.set {h g : mj_H} (a : ME h g) {b i : Nat} {x : Int32} (hb : b = 48 ∨ b = 49) : ME h (mj_setI g b i x) := by
  rcases hb with rfl | rfl
  · exact ⟨a.1.set (by decide), fun q h1 h2 h3 => (congrFun (mj_I_other (by decide)) q).trans (a.2 q h1 h2 h3)⟩
  · exact ⟨a.1.set (by decide), fun q h1 h2 h3 => (congrFun (mj_I_other (by decide)) q).trans (a.2 q h1 h2 h3)⟩
theorem wg_to {h g : mj_H} (e36 : mj_I g 36 = mj_I h 36) (e45 : mj_I g 45 = mj_I h 45) (e46 : mj_I g 46 = mj_I h 46) (w t p l : Nat) : wg g w t p l = wg h w t p l := by
  unfold wg
  rw [wz_to e46, vd_eq e36, show wj g w = wj h w by unfold wj; rw [e45]]
theorem CL.to {h g : mj_H} {jm w : Nat} {G : Gd} {W : Nat → Nat} (c : CL h jm w G W) (m : MW g jm) (e : ME h g) (o : MO g G W) (mc : MC g G W) : CL g jm w G W := by
  have e36 : mj_I g 36 = mj_I h 36 := e.1.i (by decide)
  have e45 : mj_I g 45 = mj_I h 45 := e.1.i (by decide)
  have e46 : mj_I g 46 = mj_I h 46 := e.1.i (by decide)
  have e47 : mj_I g 47 = mj_I h 47 := e.1.i (by decide)
  exact ⟨m, c.2.1, (e.2 22 (by decide) (by decide) (by decide)).trans c.2.2.1, WN_to e45 e46 e47 c.2.2.2.1, fun t p l => (wg_to e36 e45 e46 w t p l).trans (c.2.2.2.2.1 t p l), fun a ha => by unfold wlo; rw [e46]; exact c.2.2.2.2.2.1 a ha, o, mc⟩
theorem MW_o {h : mj_H} {jm b i : Nat} {x : Int32} (w : MW h jm) (hb : b ∉ [36, 39, 41, 42, 43, 44]) : MW (mj_setI h b i x) jm := by
  have ne : ∀ a, a ∈ [36, 39, 41, 42, 43, 44] → a ≠ b := fun a ha q => hb (q ▸ ha)
  have e36 : mj_I (mj_setI h b i x) 36 = mj_I h 36 := mj_I_other (ne 36 (by decide))
  have e44 : mj_I (mj_setI h b i x) 44 = mj_I h 44 := mj_I_other (ne 44 (by decide))
  refine ⟨w.1, fun a ha q hq => ?_, w.2.2.1, fun j hj => (w.2.2.2.1 j hj).to e36, fun j hj z hz => by rw [e44, vd_eq e36]; exact w.2.2.2.2 j hj z hz⟩
  rw [mj_I_other (ne a (by simp only [List.mem_cons, List.not_mem_nil, or_false] at ha ⊢; omega))]
  exact w.2.1 a ha q hq
theorem MO.set49 {g : mj_H} {G : Gd} {W : Nat → Nat} (o : MO g G W) {k : Nat} {x : Int32} (hk : mj_I g 48 k = 0) : MO (mj_setI g 49 k x) G W := by
  intro a b c d e f hB
  have e48 : mj_I (mj_setI g 49 k x) 48 = mj_I g 48 := mj_I_other (by decide)
  rw [e48]
  by_cases hq : bx a b c d e f = k
  · left; rw [hq]; exact hk
  · rw [mj_I_ne hq]; exact o a b c d e f hB
theorem bx_inj {a b c d e f a' b' c' d' e' f' : Nat} (h : a ≤ 5 ∧ b ≤ 5 ∧ c ≤ 5 ∧ d ≤ 5 ∧ e ≤ 5 ∧ f ≤ 5) (h' : a' ≤ 5 ∧ b' ≤ 5 ∧ c' ≤ 5 ∧ d' ≤ 5 ∧ e' ≤ 5 ∧ f' ≤ 5) (q : bx a b c d e f = bx a' b' c' d' e' f') : a = a' ∧ b = b' ∧ c = c' ∧ d = d' ∧ e = e' ∧ f = f' := by
  unfold bx at q
  omega
theorem bx_lt {a b c d e f : Nat} (h : a ≤ 5 ∧ b ≤ 5 ∧ c ≤ 5 ∧ d ≤ 5 ∧ e ≤ 5 ∧ f ≤ 5) : bx a b c d e f < 46656 := by
  unfold bx
  omega
/-- what is kept of wider boxes stays -/
def FRX (h g : mj_H) (s : Nat) : Prop := ∀ a b c d e f, a ≤ 5 ∧ b ≤ 5 ∧ c ≤ 5 ∧ d ≤ 5 ∧ e ≤ 5 ∧ f ≤ 5 → s < spn a b c d e f → mj_I g 48 (bx a b c d e f) = mj_I h 48 (bx a b c d e f) ∧ mj_I g 49 (bx a b c d e f) = mj_I h 49 (bx a b c d e f)
theorem FRX.rf (h : mj_H) (s : Nat) : FRX h h s := fun _ _ _ _ _ _ _ _ => ⟨rfl, rfl⟩
theorem FRX.trans {h g k : mj_H} {s s' : Nat} (a : FRX h g s) (b : FRX g k s') (hs : s' ≤ s) : FRX h k s := fun a1 b1 c1 d1 e1 f1 hd h2 => ⟨(b a1 b1 c1 d1 e1 f1 hd (by omega)).1.trans (a a1 b1 c1 d1 e1 f1 hd h2).1, (b a1 b1 c1 d1 e1 f1 hd (by omega)).2.trans (a a1 b1 c1 d1 e1 f1 hd h2).2⟩
theorem FRX.set {h g : mj_H} {a b c d e f r : Nat} {x : Int32} (k : FRX h g (spn a b c d e f)) (hd : a ≤ 5 ∧ b ≤ 5 ∧ c ≤ 5 ∧ d ≤ 5 ∧ e ≤ 5 ∧ f ≤ 5) (hr : r = 48 ∨ r = 49) : FRX h (mj_setI g r (bx a b c d e f) x) (spn a b c d e f) := by
  intro a1 b1 c1 d1 e1 f1 hd1 h2
  have ne : ¬ bx a1 b1 c1 d1 e1 f1 = bx a b c d e f := by
    intro q
    obtain ⟨q1, q2, q3, q4, q5, q6⟩ := bx_inj hd1 hd q
    subst q1; subst q2; subst q3; subst q4; subst q5; subst q6
    exact Nat.lt_irrefl _ h2
  rcases hr with rfl | rfl
  · exact ⟨(mj_I_ne ne).trans (k a1 b1 c1 d1 e1 f1 hd1 h2).1, (congrFun (mj_I_other (by decide)) _).trans (k a1 b1 c1 d1 e1 f1 hd1 h2).2⟩
  · exact ⟨(congrFun (mj_I_other (by decide)) _).trans (k a1 b1 c1 d1 e1 f1 hd1 h2).1, (mj_I_ne ne).trans (k a1 b1 c1 d1 e1 f1 hd1 h2).2⟩
/-- the contract of leavesOf on boxes of span s at most -/
def LvP (jm w : Nat) (G : Gd) (W : Nat → Nat) (s : Nat) : Prop := ∀ (a b c d e f : Nat) (h : mj_H), BX W a b c d e f → spn a b c d e f ≤ s → CL h jm w G W →
  mxc (7 + s) 145 [.ref 33, .int (nI a), .int (nI b), .int (nI c), .int (nI d), .int (nI e), .int (nI f)] h (fun r h' => r = some (.int (nI (LV G a b c d e f).1)) ∧ CL h' jm w G W ∧ ME h h' ∧ mj_I h' 48 (bx a b c d e f) = nI (LV G a b c d e f).1 ∧ mj_I h' 49 (bx a b c d e f) = nI (LV G a b c d e f).2 ∧ FRX h h' (spn a b c d e f) ∧ Mn h h')

set_option maxRecDepth 20000 in
set_option maxHeartbeats 4000000 in
theorem leaves_l0 {jm w s : Nat} {G : Gd} {W : Nat → Nat} (IH : LvP jm w G W s) {h hs : mj_H} {a b c d e f N : Nat} (hB : BX W a b c d e f) (hW5 : W 0 ≤ 5 ∧ W 1 ≤ 5 ∧ W 2 ≤ 5) (hsp : spn a b c d e f ≤ s + 1) {Q : Option Value → mj_H → Prop} :
    ∀ (n I0 : Nat) (x : Nat × Nat) (g : mj_H), I0 + n = b → a ≤ I0 → CL g jm w G W → ME h g → mj_I g 48 (bx a b c d e f) = 0 → mj_I g 49 (bx a b c d e f) = nI x.2 → x.1 ≤ 1000 → FRX h g (spn a b c d e f) → Mn hs g → (∀ i, a ≤ i → i < I0 → ST g a i c d e f ∧ ST g (i + 1) b c d e f) → (∀ (g : mj_H) (x' : Nat × Nat), x' = fo (fun i => 2 + i - a) (fun i => (LV G a i c d e f).1 + (LV G (i + 1) b c d e f).1) n I0 x → CL g jm w G W → ME h g → mj_I g 48 (bx a b c d e f) = 0 → mj_I g 49 (bx a b c d e f) = nI x'.2 → x'.1 ≤ 1000 → FRX h g (spn a b c d e f) → Mn hs g → (∀ i, a ≤ i → i < b → ST g a i c d e f ∧ ST g (i + 1) b c d e f) → mx (8 + s) 145 163 [.ref 33, .int (nI a), .int (nI b), .int (nI c), .int (nI d), .int (nI e), .int (nI f), .int (nI (bx a b c d e f)), .int (nI N), .int (nI x'.1), .int (nI b)] [] g Q) → mx (8 + s) 145 104 [.ref 33, .int (nI a), .int (nI b), .int (nI c), .int (nI d), .int (nI e), .int (nI f), .int (nI (bx a b c d e f)), .int (nI N), .int (nI x.1), .int (nI I0)] [] g Q := by
  have hd5 : a ≤ 5 ∧ b ≤ 5 ∧ c ≤ 5 ∧ d ≤ 5 ∧ e ≤ 5 ∧ f ≤ 5 := by unfold BX at hB; omega
  have hB' := hB
  unfold BX at hB'
  intro n
  induction n with
  | zero =>
    intro i x g hi ha hC hE e48 e49 hx hX hM hPS K
    have hii : i = b := by omega
    subst hii
    refine x_iload f_145_104 rfl ?_
    refine x_iload_n f_145_106 rfl ?_
    refine x_icmpN_ge (t := 163) f_145_107 (by decide) (by omega) (by omega) (fun c_1 => ?_) (fun c_1 => by omega)
    exact K g x rfl hC hE e48 e49 hx hX hM hPS
  | succ n ih =>
    intro i x g hi ha hC hE e48 e49 hx hX hM hPS K
    have S : SM g := hC.1.1
    refine x_iload f_145_104 rfl ?_
    refine x_iload_n f_145_106 rfl ?_
    refine x_icmpN_ge (t := 163) f_145_107 (by decide) (by omega) (by omega) (fun c_1 => by omega) (fun c_1 => ?_)
    refine x_aload_n f_145_110 rfl ?_
    refine x_iload f_145_111 rfl ?_
    refine x_iload f_145_113 rfl ?_
    refine x_iconst (v := nI 2) f_145_115 (by decide) ?_
    refine x_iload f_145_116 rfl ?_
    refine x_iaddN f_145_118 ?_
    refine x_iload_n f_145_119 rfl ?_
    refine x_isubN f_145_120 (by omega) ?_
    refine x_aload_n f_145_121 rfl ?_
    refine x_iload_n f_145_122 rfl ?_
    refine x_iload f_145_123 rfl ?_
    refine x_iload_n f_145_125 rfl ?_
    refine x_iload f_145_126 rfl ?_
    refine x_iload f_145_128 rfl ?_
    refine x_iload f_145_130 rfl ?_
    refine x_callV f_145_132 (IH a i c d e f g (by unfold BX at hB ⊢; omega) (by unfold spn at hsp ⊢; omega) hC) (by omega) S.k33 (by decide) rfl rfl (Nat.le_of_ble_eq_true rfl) rfl ?_
    rintro _ g1 ⟨rfl, hC1, hE1, t1, _, hX1, hM1⟩
    have S : SM g1 := hC1.1.1
    refine x_aload_n f_145_135 rfl ?_
    refine x_iload f_145_136 rfl ?_
    refine x_iconst (v := nI 1) f_145_138 (by decide) ?_
    refine x_iaddN f_145_139 ?_
    refine x_iload_n f_145_140 rfl ?_
    refine x_iload_n f_145_141 rfl ?_
    refine x_iload f_145_142 rfl ?_
    refine x_iload f_145_144 rfl ?_
    refine x_iload f_145_146 rfl ?_
    refine x_callV f_145_148 (IH (i + 1) b c d e f g1 (by unfold BX at hB ⊢; omega) (by unfold spn at hsp ⊢; omega) hC1) (by omega) S.k33 (by decide) rfl rfl (Nat.le_of_ble_eq_true rfl) rfl ?_
    rintro _ g2 ⟨rfl, hC2, hE2, t2, _, hX2, hM2⟩
    have S : SM g2 := hC2.1.1
    have e48b : mj_I g2 48 (bx a b c d e f) = 0 := (hX2 a b c d e f hd5 (by unfold spn at hsp ⊢; omega)).1.trans ((hX1 a b c d e f hd5 (by unfold spn at hsp ⊢; omega)).1.trans e48)
    have e49b : mj_I g2 49 (bx a b c d e f) = nI x.2 := (hX2 a b c d e f hd5 (by unfold spn at hsp ⊢; omega)).2.trans ((hX1 a b c d e f hd5 (by unfold spn at hsp ⊢; omega)).2.trans e49)
    have u1 := LV_216 G (a := a) (b := i) (c := c) (d := d) (e := e) (f := f) (by omega) (by omega) (by omega) (by omega) (by omega) (by omega)
    have u2 := LV_216 G (a := (i + 1)) (b := b) (c := c) (d := d) (e := e) (f := f) (by omega) (by omega) (by omega) (by omega) (by omega) (by omega)
    have hn31 : (LV G a i c d e f).1 + (LV G (i + 1) b c d e f).1 < 2 ^ 31 := by omega
    have hx31 : x.1 < 2 ^ 31 := by omega
    refine x_iaddN f_145_151 ?_
    refine x_callVe f_145_152 (c_better hC2.1.1 (bx_lt hd5) hx31 hn31 e49b) (by omega) S.k33 (by decide) rfl rfl (Nat.le_of_ble_eq_true rfl) rfl ?_
    refine x_istore (ls1 := [.ref 33, .int (nI a), .int (nI b), .int (nI c), .int (nI d), .int (nI e), .int (nI f), .int (nI (bx a b c d e f)), .int (nI N), .int (nI ((bt (x.1, x.2) ((2 + i) - a) (((LV G a i c d e f).1) + ((LV G (i + 1) b c d e f).1))).1)), .int (nI i)]) f_145_155 (Nat.le_of_ble_eq_true rfl) rfl ?_
    refine x_iinc (v := nI (i + 1)) (ls1 := [.ref 33, .int (nI a), .int (nI b), .int (nI c), .int (nI d), .int (nI e), .int (nI f), .int (nI (bx a b c d e f)), .int (nI N), .int (nI ((bt (x.1, x.2) ((2 + i) - a) (((LV G a i c d e f).1) + ((LV G (i + 1) b c d e f).1))).1)), .int (nI (i + 1))]) f_145_157 rfl (by exact nI_add _ 1) rfl ?_
    refine x_goto (t := 104) f_145_160 (by decide) ?_
    refine ih (i + 1) (bt (x.1, x.2) ((2 + i) - a) (((LV G a i c d e f).1) + ((LV G (i + 1) b c d e f).1))) _ (by omega) (by omega) ?_ ?_ ?_ (mj_I_at _ _ _ _) ?_ ?_ ?_ ?_ ?_
    · exact hC2.to (MW_o hC2.1 (by decide)) ((ME.rf g2).set (Or.inr rfl)) (hC2.2.2.2.2.2.2.1.set49 e48b) (MC.eq (mj_I_other (by decide)) hC2.2.2.2.2.2.2.2)
    · exact ((hE.trans hE1).trans hE2).set (Or.inr rfl)
    · exact (congrFun (mj_I_other (by decide)) _).trans e48b
    · unfold bt; split <;> (dsimp only; omega)
    · exact ((hX.trans hX1 (by unfold spn at hsp ⊢; omega)).trans hX2 (by unfold spn at hsp ⊢; omega)).set hd5 (Or.inr rfl)
    · exact ((hM.trans hM1).trans hM2).trans (Mn.eq (mj_I_other (by decide)))
    · intro k k1 k2
      have e48s : mj_I (mj_setI g2 49 (bx a b c d e f) (nI (bt (x.1, x.2) ((2 + i) - a) (((LV G a i c d e f).1) + ((LV G (i + 1) b c d e f).1))).2)) 48 = mj_I g2 48 := mj_I_other (by decide)
      unfold ST
      rw [e48s]
      by_cases hk : k = i
      · subst hk
        refine ⟨hM2 _ ?_, ?_⟩
        · rw [t1]; exact nI_ne0 (LV_pos G _ _ _ _ _ _) (by omega)
        · rw [t2]; exact nI_ne0 (LV_pos G _ _ _ _ _ _) (by omega)
      · have q := hPS k k1 (by omega)
        exact ⟨hM2 _ (hM1 _ q.1), hM2 _ (hM1 _ q.2)⟩
    · intro g x' hx'
      exact K g x' (hx'.trans rfl)
set_option maxRecDepth 20000 in
set_option maxHeartbeats 4000000 in
theorem leaves_l1 {jm w s : Nat} {G : Gd} {W : Nat → Nat} (IH : LvP jm w G W s) {h hs : mj_H} {a b c d e f N : Nat} (hB : BX W a b c d e f) (hW5 : W 0 ≤ 5 ∧ W 1 ≤ 5 ∧ W 2 ≤ 5) (hsp : spn a b c d e f ≤ s + 1) {Q : Option Value → mj_H → Prop} :
    ∀ (n I0 : Nat) (x : Nat × Nat) (g : mj_H), I0 + n = d → c ≤ I0 → CL g jm w G W → ME h g → mj_I g 48 (bx a b c d e f) = 0 → mj_I g 49 (bx a b c d e f) = nI x.2 → x.1 ≤ 1000 → FRX h g (spn a b c d e f) → Mn hs g → (∀ i, c ≤ i → i < I0 → ST g a b c i e f ∧ ST g a b (i + 1) d e f) → (∀ (g : mj_H) (x' : Nat × Nat), x' = fo (fun i => 10 + i - c) (fun i => (LV G a b c i e f).1 + (LV G a b (i + 1) d e f).1) n I0 x → CL g jm w G W → ME h g → mj_I g 48 (bx a b c d e f) = 0 → mj_I g 49 (bx a b c d e f) = nI x'.2 → x'.1 ≤ 1000 → FRX h g (spn a b c d e f) → Mn hs g → (∀ i, c ≤ i → i < d → ST g a b c i e f ∧ ST g a b (i + 1) d e f) → mx (8 + s) 145 226 [.ref 33, .int (nI a), .int (nI b), .int (nI c), .int (nI d), .int (nI e), .int (nI f), .int (nI (bx a b c d e f)), .int (nI N), .int (nI x'.1), .int (nI d)] [] g Q) → mx (8 + s) 145 166 [.ref 33, .int (nI a), .int (nI b), .int (nI c), .int (nI d), .int (nI e), .int (nI f), .int (nI (bx a b c d e f)), .int (nI N), .int (nI x.1), .int (nI I0)] [] g Q := by
  have hd5 : a ≤ 5 ∧ b ≤ 5 ∧ c ≤ 5 ∧ d ≤ 5 ∧ e ≤ 5 ∧ f ≤ 5 := by unfold BX at hB; omega
  have hB' := hB
  unfold BX at hB'
  intro n
  induction n with
  | zero =>
    intro i x g hi ha hC hE e48 e49 hx hX hM hPS K
    have hii : i = d := by omega
    subst hii
    refine x_iload f_145_166 rfl ?_
    refine x_iload f_145_168 rfl ?_
    refine x_icmpN_ge (t := 226) f_145_170 (by decide) (by omega) (by omega) (fun c_1 => ?_) (fun c_1 => by omega)
    exact K g x rfl hC hE e48 e49 hx hX hM hPS
  | succ n ih =>
    intro i x g hi ha hC hE e48 e49 hx hX hM hPS K
    have S : SM g := hC.1.1
    refine x_iload f_145_166 rfl ?_
    refine x_iload f_145_168 rfl ?_
    refine x_icmpN_ge (t := 226) f_145_170 (by decide) (by omega) (by omega) (fun c_1 => by omega) (fun c_1 => ?_)
    refine x_aload_n f_145_173 rfl ?_
    refine x_iload f_145_174 rfl ?_
    refine x_iload f_145_176 rfl ?_
    refine x_bipush (v := nI 10) f_145_178 (by decide) ?_
    refine x_iload f_145_180 rfl ?_
    refine x_iaddN f_145_182 ?_
    refine x_iload_n f_145_183 rfl ?_
    refine x_isubN f_145_184 (by omega) ?_
    refine x_aload_n f_145_185 rfl ?_
    refine x_iload_n f_145_186 rfl ?_
    refine x_iload_n f_145_187 rfl ?_
    refine x_iload_n f_145_188 rfl ?_
    refine x_iload f_145_189 rfl ?_
    refine x_iload f_145_191 rfl ?_
    refine x_iload f_145_193 rfl ?_
    refine x_callV f_145_195 (IH a b c i e f g (by unfold BX at hB ⊢; omega) (by unfold spn at hsp ⊢; omega) hC) (by omega) S.k33 (by decide) rfl rfl (Nat.le_of_ble_eq_true rfl) rfl ?_
    rintro _ g1 ⟨rfl, hC1, hE1, t1, _, hX1, hM1⟩
    have S : SM g1 := hC1.1.1
    refine x_aload_n f_145_198 rfl ?_
    refine x_iload_n f_145_199 rfl ?_
    refine x_iload_n f_145_200 rfl ?_
    refine x_iload f_145_201 rfl ?_
    refine x_iconst (v := nI 1) f_145_203 (by decide) ?_
    refine x_iaddN f_145_204 ?_
    refine x_iload f_145_205 rfl ?_
    refine x_iload f_145_207 rfl ?_
    refine x_iload f_145_209 rfl ?_
    refine x_callV f_145_211 (IH a b (i + 1) d e f g1 (by unfold BX at hB ⊢; omega) (by unfold spn at hsp ⊢; omega) hC1) (by omega) S.k33 (by decide) rfl rfl (Nat.le_of_ble_eq_true rfl) rfl ?_
    rintro _ g2 ⟨rfl, hC2, hE2, t2, _, hX2, hM2⟩
    have S : SM g2 := hC2.1.1
    have e48b : mj_I g2 48 (bx a b c d e f) = 0 := (hX2 a b c d e f hd5 (by unfold spn at hsp ⊢; omega)).1.trans ((hX1 a b c d e f hd5 (by unfold spn at hsp ⊢; omega)).1.trans e48)
    have e49b : mj_I g2 49 (bx a b c d e f) = nI x.2 := (hX2 a b c d e f hd5 (by unfold spn at hsp ⊢; omega)).2.trans ((hX1 a b c d e f hd5 (by unfold spn at hsp ⊢; omega)).2.trans e49)
    have u1 := LV_216 G (a := a) (b := b) (c := c) (d := i) (e := e) (f := f) (by omega) (by omega) (by omega) (by omega) (by omega) (by omega)
    have u2 := LV_216 G (a := a) (b := b) (c := (i + 1)) (d := d) (e := e) (f := f) (by omega) (by omega) (by omega) (by omega) (by omega) (by omega)
    have hn31 : (LV G a b c i e f).1 + (LV G a b (i + 1) d e f).1 < 2 ^ 31 := by omega
    have hx31 : x.1 < 2 ^ 31 := by omega
    refine x_iaddN f_145_214 ?_
    refine x_callVe f_145_215 (c_better hC2.1.1 (bx_lt hd5) hx31 hn31 e49b) (by omega) S.k33 (by decide) rfl rfl (Nat.le_of_ble_eq_true rfl) rfl ?_
    refine x_istore (ls1 := [.ref 33, .int (nI a), .int (nI b), .int (nI c), .int (nI d), .int (nI e), .int (nI f), .int (nI (bx a b c d e f)), .int (nI N), .int (nI ((bt (x.1, x.2) ((10 + i) - c) (((LV G a b c i e f).1) + ((LV G a b (i + 1) d e f).1))).1)), .int (nI i)]) f_145_218 (Nat.le_of_ble_eq_true rfl) rfl ?_
    refine x_iinc (v := nI (i + 1)) (ls1 := [.ref 33, .int (nI a), .int (nI b), .int (nI c), .int (nI d), .int (nI e), .int (nI f), .int (nI (bx a b c d e f)), .int (nI N), .int (nI ((bt (x.1, x.2) ((10 + i) - c) (((LV G a b c i e f).1) + ((LV G a b (i + 1) d e f).1))).1)), .int (nI (i + 1))]) f_145_220 rfl (by exact nI_add _ 1) rfl ?_
    refine x_goto (t := 166) f_145_223 (by decide) ?_
    refine ih (i + 1) (bt (x.1, x.2) ((10 + i) - c) (((LV G a b c i e f).1) + ((LV G a b (i + 1) d e f).1))) _ (by omega) (by omega) ?_ ?_ ?_ (mj_I_at _ _ _ _) ?_ ?_ ?_ ?_ ?_
    · exact hC2.to (MW_o hC2.1 (by decide)) ((ME.rf g2).set (Or.inr rfl)) (hC2.2.2.2.2.2.2.1.set49 e48b) (MC.eq (mj_I_other (by decide)) hC2.2.2.2.2.2.2.2)
    · exact ((hE.trans hE1).trans hE2).set (Or.inr rfl)
    · exact (congrFun (mj_I_other (by decide)) _).trans e48b
    · unfold bt; split <;> (dsimp only; omega)
    · exact ((hX.trans hX1 (by unfold spn at hsp ⊢; omega)).trans hX2 (by unfold spn at hsp ⊢; omega)).set hd5 (Or.inr rfl)
    · exact ((hM.trans hM1).trans hM2).trans (Mn.eq (mj_I_other (by decide)))
    · intro k k1 k2
      have e48s : mj_I (mj_setI g2 49 (bx a b c d e f) (nI (bt (x.1, x.2) ((10 + i) - c) (((LV G a b c i e f).1) + ((LV G a b (i + 1) d e f).1))).2)) 48 = mj_I g2 48 := mj_I_other (by decide)
      unfold ST
      rw [e48s]
      by_cases hk : k = i
      · subst hk
        refine ⟨hM2 _ ?_, ?_⟩
        · rw [t1]; exact nI_ne0 (LV_pos G _ _ _ _ _ _) (by omega)
        · rw [t2]; exact nI_ne0 (LV_pos G _ _ _ _ _ _) (by omega)
      · have q := hPS k k1 (by omega)
        exact ⟨hM2 _ (hM1 _ q.1), hM2 _ (hM1 _ q.2)⟩
    · intro g x' hx'
      exact K g x' (hx'.trans rfl)
set_option maxRecDepth 20000 in
set_option maxHeartbeats 4000000 in
theorem leaves_l2 {jm w s : Nat} {G : Gd} {W : Nat → Nat} (IH : LvP jm w G W s) {h hs : mj_H} {a b c d e f N : Nat} (hB : BX W a b c d e f) (hW5 : W 0 ≤ 5 ∧ W 1 ≤ 5 ∧ W 2 ≤ 5) (hsp : spn a b c d e f ≤ s + 1) {Q : Option Value → mj_H → Prop} :
    ∀ (n I0 : Nat) (x : Nat × Nat) (g : mj_H), I0 + n = f → e ≤ I0 → CL g jm w G W → ME h g → mj_I g 48 (bx a b c d e f) = 0 → mj_I g 49 (bx a b c d e f) = nI x.2 → x.1 ≤ 1000 → FRX h g (spn a b c d e f) → Mn hs g → (∀ i, e ≤ i → i < I0 → ST g a b c d e i ∧ ST g a b c d (i + 1) f) → (∀ (g : mj_H) (x' : Nat × Nat), x' = fo (fun i => 18 + i - e) (fun i => (LV G a b c d e i).1 + (LV G a b c d (i + 1) f).1) n I0 x → CL g jm w G W → ME h g → mj_I g 48 (bx a b c d e f) = 0 → mj_I g 49 (bx a b c d e f) = nI x'.2 → x'.1 ≤ 1000 → FRX h g (spn a b c d e f) → Mn hs g → (∀ i, e ≤ i → i < f → ST g a b c d e i ∧ ST g a b c d (i + 1) f) → mx (8 + s) 145 290 [.ref 33, .int (nI a), .int (nI b), .int (nI c), .int (nI d), .int (nI e), .int (nI f), .int (nI (bx a b c d e f)), .int (nI N), .int (nI x'.1), .int (nI f)] [] g Q) → mx (8 + s) 145 230 [.ref 33, .int (nI a), .int (nI b), .int (nI c), .int (nI d), .int (nI e), .int (nI f), .int (nI (bx a b c d e f)), .int (nI N), .int (nI x.1), .int (nI I0)] [] g Q := by
  have hd5 : a ≤ 5 ∧ b ≤ 5 ∧ c ≤ 5 ∧ d ≤ 5 ∧ e ≤ 5 ∧ f ≤ 5 := by unfold BX at hB; omega
  have hB' := hB
  unfold BX at hB'
  intro n
  induction n with
  | zero =>
    intro i x g hi ha hC hE e48 e49 hx hX hM hPS K
    have hii : i = f := by omega
    subst hii
    refine x_iload f_145_230 rfl ?_
    refine x_iload f_145_232 rfl ?_
    refine x_icmpN_ge (t := 290) f_145_234 (by decide) (by omega) (by omega) (fun c_1 => ?_) (fun c_1 => by omega)
    exact K g x rfl hC hE e48 e49 hx hX hM hPS
  | succ n ih =>
    intro i x g hi ha hC hE e48 e49 hx hX hM hPS K
    have S : SM g := hC.1.1
    refine x_iload f_145_230 rfl ?_
    refine x_iload f_145_232 rfl ?_
    refine x_icmpN_ge (t := 290) f_145_234 (by decide) (by omega) (by omega) (fun c_1 => by omega) (fun c_1 => ?_)
    refine x_aload_n f_145_237 rfl ?_
    refine x_iload f_145_238 rfl ?_
    refine x_iload f_145_240 rfl ?_
    refine x_bipush (v := nI 18) f_145_242 (by decide) ?_
    refine x_iload f_145_244 rfl ?_
    refine x_iaddN f_145_246 ?_
    refine x_iload f_145_247 rfl ?_
    refine x_isubN f_145_249 (by omega) ?_
    refine x_aload_n f_145_250 rfl ?_
    refine x_iload_n f_145_251 rfl ?_
    refine x_iload_n f_145_252 rfl ?_
    refine x_iload_n f_145_253 rfl ?_
    refine x_iload f_145_254 rfl ?_
    refine x_iload f_145_256 rfl ?_
    refine x_iload f_145_258 rfl ?_
    refine x_callV f_145_260 (IH a b c d e i g (by unfold BX at hB ⊢; omega) (by unfold spn at hsp ⊢; omega) hC) (by omega) S.k33 (by decide) rfl rfl (Nat.le_of_ble_eq_true rfl) rfl ?_
    rintro _ g1 ⟨rfl, hC1, hE1, t1, _, hX1, hM1⟩
    have S : SM g1 := hC1.1.1
    refine x_aload_n f_145_263 rfl ?_
    refine x_iload_n f_145_264 rfl ?_
    refine x_iload_n f_145_265 rfl ?_
    refine x_iload_n f_145_266 rfl ?_
    refine x_iload f_145_267 rfl ?_
    refine x_iload f_145_269 rfl ?_
    refine x_iconst (v := nI 1) f_145_271 (by decide) ?_
    refine x_iaddN f_145_272 ?_
    refine x_iload f_145_273 rfl ?_
    refine x_callV f_145_275 (IH a b c d (i + 1) f g1 (by unfold BX at hB ⊢; omega) (by unfold spn at hsp ⊢; omega) hC1) (by omega) S.k33 (by decide) rfl rfl (Nat.le_of_ble_eq_true rfl) rfl ?_
    rintro _ g2 ⟨rfl, hC2, hE2, t2, _, hX2, hM2⟩
    have S : SM g2 := hC2.1.1
    have e48b : mj_I g2 48 (bx a b c d e f) = 0 := (hX2 a b c d e f hd5 (by unfold spn at hsp ⊢; omega)).1.trans ((hX1 a b c d e f hd5 (by unfold spn at hsp ⊢; omega)).1.trans e48)
    have e49b : mj_I g2 49 (bx a b c d e f) = nI x.2 := (hX2 a b c d e f hd5 (by unfold spn at hsp ⊢; omega)).2.trans ((hX1 a b c d e f hd5 (by unfold spn at hsp ⊢; omega)).2.trans e49)
    have u1 := LV_216 G (a := a) (b := b) (c := c) (d := d) (e := e) (f := i) (by omega) (by omega) (by omega) (by omega) (by omega) (by omega)
    have u2 := LV_216 G (a := a) (b := b) (c := c) (d := d) (e := (i + 1)) (f := f) (by omega) (by omega) (by omega) (by omega) (by omega) (by omega)
    have hn31 : (LV G a b c d e i).1 + (LV G a b c d (i + 1) f).1 < 2 ^ 31 := by omega
    have hx31 : x.1 < 2 ^ 31 := by omega
    refine x_iaddN f_145_278 ?_
    refine x_callVe f_145_279 (c_better hC2.1.1 (bx_lt hd5) hx31 hn31 e49b) (by omega) S.k33 (by decide) rfl rfl (Nat.le_of_ble_eq_true rfl) rfl ?_
    refine x_istore (ls1 := [.ref 33, .int (nI a), .int (nI b), .int (nI c), .int (nI d), .int (nI e), .int (nI f), .int (nI (bx a b c d e f)), .int (nI N), .int (nI ((bt (x.1, x.2) ((18 + i) - e) (((LV G a b c d e i).1) + ((LV G a b c d (i + 1) f).1))).1)), .int (nI i)]) f_145_282 (Nat.le_of_ble_eq_true rfl) rfl ?_
    refine x_iinc (v := nI (i + 1)) (ls1 := [.ref 33, .int (nI a), .int (nI b), .int (nI c), .int (nI d), .int (nI e), .int (nI f), .int (nI (bx a b c d e f)), .int (nI N), .int (nI ((bt (x.1, x.2) ((18 + i) - e) (((LV G a b c d e i).1) + ((LV G a b c d (i + 1) f).1))).1)), .int (nI (i + 1))]) f_145_284 rfl (by exact nI_add _ 1) rfl ?_
    refine x_goto (t := 230) f_145_287 (by decide) ?_
    refine ih (i + 1) (bt (x.1, x.2) ((18 + i) - e) (((LV G a b c d e i).1) + ((LV G a b c d (i + 1) f).1))) _ (by omega) (by omega) ?_ ?_ ?_ (mj_I_at _ _ _ _) ?_ ?_ ?_ ?_ ?_
    · exact hC2.to (MW_o hC2.1 (by decide)) ((ME.rf g2).set (Or.inr rfl)) (hC2.2.2.2.2.2.2.1.set49 e48b) (MC.eq (mj_I_other (by decide)) hC2.2.2.2.2.2.2.2)
    · exact ((hE.trans hE1).trans hE2).set (Or.inr rfl)
    · exact (congrFun (mj_I_other (by decide)) _).trans e48b
    · unfold bt; split <;> (dsimp only; omega)
    · exact ((hX.trans hX1 (by unfold spn at hsp ⊢; omega)).trans hX2 (by unfold spn at hsp ⊢; omega)).set hd5 (Or.inr rfl)
    · exact ((hM.trans hM1).trans hM2).trans (Mn.eq (mj_I_other (by decide)))
    · intro k k1 k2
      have e48s : mj_I (mj_setI g2 49 (bx a b c d e f) (nI (bt (x.1, x.2) ((18 + i) - e) (((LV G a b c d e i).1) + ((LV G a b c d (i + 1) f).1))).2)) 48 = mj_I g2 48 := mj_I_other (by decide)
      unfold ST
      rw [e48s]
      by_cases hk : k = i
      · subst hk
        refine ⟨hM2 _ ?_, ?_⟩
        · rw [t1]; exact nI_ne0 (LV_pos G _ _ _ _ _ _) (by omega)
        · rw [t2]; exact nI_ne0 (LV_pos G _ _ _ _ _ _) (by omega)
      · have q := hPS k k1 (by omega)
        exact ⟨hM2 _ (hM1 _ q.1), hM2 _ (hM1 _ q.2)⟩
    · intro g x' hx'
      exact K g x' (hx'.trans rfl)
end
section
theorem f_145_0 : mj_fetch 145 0 = some (.iload_n 1, 0, 0) := by decide +kernel
theorem f_145_1 : mj_fetch 145 1 = some (.iload_n 2, 0, 0) := by decide +kernel
theorem f_145_2 : mj_fetch 145 2 = some (.iload_n 3, 0, 0) := by decide +kernel
theorem f_145_3 : mj_fetch 145 3 = some (.iload 4, 0, 0) := by decide +kernel
theorem f_145_5 : mj_fetch 145 5 = some (.iload 5, 0, 0) := by decide +kernel
theorem f_145_7 : mj_fetch 145 7 = some (.iload 6, 0, 0) := by decide +kernel
theorem f_145_9 : mj_fetch 145 9 = some (.invokestatic 195, 139, 0) := by decide +kernel
theorem f_145_12 : mj_fetch 145 12 = some (.istore 7, 0, 0) := by decide +kernel
theorem f_145_14 : mj_fetch 145 14 = some (.aload_n 0, 0, 0) := by decide +kernel
theorem f_145_15 : mj_fetch 145 15 = some (.getfield 54, 11, 23) := by decide +kernel
theorem f_145_18 : mj_fetch 145 18 = some (.iload 7, 0, 0) := by decide +kernel
theorem f_145_20 : mj_fetch 145 20 = some (.iaload, 0, 0) := by decide +kernel
theorem f_145_21 : mj_fetch 145 21 = some (.ifCond .le 11, 0, 0) := by decide +kernel
theorem f_145_24 : mj_fetch 145 24 = some (.aload_n 0, 0, 0) := by decide +kernel
theorem f_145_25 : mj_fetch 145 25 = some (.getfield 54, 11, 23) := by decide +kernel
theorem f_145_28 : mj_fetch 145 28 = some (.iload 7, 0, 0) := by decide +kernel
theorem f_145_30 : mj_fetch 145 30 = some (.iaload, 0, 0) := by decide +kernel
theorem f_145_31 : mj_fetch 145 31 = some (.ireturn, 0, 0) := by decide +kernel
theorem f_145_32 : mj_fetch 145 32 = some (.aload_n 0, 0, 0) := by decide +kernel
theorem f_145_33 : mj_fetch 145 33 = some (.iload_n 1, 0, 0) := by decide +kernel
theorem f_145_34 : mj_fetch 145 34 = some (.iload_n 2, 0, 0) := by decide +kernel
theorem f_145_35 : mj_fetch 145 35 = some (.iload_n 3, 0, 0) := by decide +kernel
theorem f_145_36 : mj_fetch 145 36 = some (.iload 4, 0, 0) := by decide +kernel
theorem f_145_38 : mj_fetch 145 38 = some (.iload 5, 0, 0) := by decide +kernel
theorem f_145_40 : mj_fetch 145 40 = some (.iload 6, 0, 0) := by decide +kernel
theorem f_145_42 : mj_fetch 145 42 = some (.invokevirtual 191, 141, 0) := by decide +kernel
theorem f_145_45 : mj_fetch 145 45 = some (.istore 8, 0, 0) := by decide +kernel
theorem f_145_47 : mj_fetch 145 47 = some (.iload 8, 0, 0) := by decide +kernel
theorem f_145_49 : mj_fetch 145 49 = some (.ifCond .eq 20, 0, 0) := by decide +kernel
theorem f_145_52 : mj_fetch 145 52 = some (.iload 8, 0, 0) := by decide +kernel
theorem f_145_54 : mj_fetch 145 54 = some (.iload_n 1, 0, 0) := by decide +kernel
theorem f_145_55 : mj_fetch 145 55 = some (.iload_n 2, 0, 0) := by decide +kernel
theorem f_145_56 : mj_fetch 145 56 = some (.iload_n 3, 0, 0) := by decide +kernel
theorem f_145_57 : mj_fetch 145 57 = some (.iload 4, 0, 0) := by decide +kernel
theorem f_145_59 : mj_fetch 145 59 = some (.iload 5, 0, 0) := by decide +kernel
theorem f_145_61 : mj_fetch 145 61 = some (.iload 6, 0, 0) := by decide +kernel
theorem f_145_63 : mj_fetch 145 63 = some (.invokestatic 198, 142, 0) := by decide +kernel
theorem f_145_66 : mj_fetch 145 66 = some (.if_icmp .ne 30, 0, 0) := by decide +kernel
theorem f_145_69 : mj_fetch 145 69 = some (.aload_n 0, 0, 0) := by decide +kernel
theorem f_145_70 : mj_fetch 145 70 = some (.getfield 57, 11, 24) := by decide +kernel
theorem f_145_73 : mj_fetch 145 73 = some (.iload 7, 0, 0) := by decide +kernel
theorem f_145_75 : mj_fetch 145 75 = some (.iload 8, 0, 0) := by decide +kernel
theorem f_145_77 : mj_fetch 145 77 = some (.ifCond .ne 7, 0, 0) := by decide +kernel
theorem f_145_80 : mj_fetch 145 80 = some (.iconst 1, 0, 0) := by decide +kernel
theorem f_145_81 : mj_fetch 145 81 = some (.goto 4, 0, 0) := by decide +kernel
theorem f_145_84 : mj_fetch 145 84 = some (.iconst 0, 0, 0) := by decide +kernel
theorem f_145_85 : mj_fetch 145 85 = some (.iastore, 0, 0) := by decide +kernel
theorem f_145_86 : mj_fetch 145 86 = some (.aload_n 0, 0, 0) := by decide +kernel
theorem f_145_87 : mj_fetch 145 87 = some (.getfield 54, 11, 23) := by decide +kernel
theorem f_145_90 : mj_fetch 145 90 = some (.iload 7, 0, 0) := by decide +kernel
theorem f_145_92 : mj_fetch 145 92 = some (.iconst 1, 0, 0) := by decide +kernel
theorem f_145_93 : mj_fetch 145 93 = some (.iastore, 0, 0) := by decide +kernel
theorem f_145_94 : mj_fetch 145 94 = some (.iconst 1, 0, 0) := by decide +kernel
theorem f_145_95 : mj_fetch 145 95 = some (.ireturn, 0, 0) := by decide +kernel
theorem f_145_163 : mj_fetch 145 163 = some (.iload_n 3, 0, 0) := by decide +kernel
theorem f_145_164 : mj_fetch 145 164 = some (.istore 10, 0, 0) := by decide +kernel
theorem f_145_226 : mj_fetch 145 226 = some (.iload 5, 0, 0) := by decide +kernel
theorem f_145_228 : mj_fetch 145 228 = some (.istore 10, 0, 0) := by decide +kernel
theorem f_145_290 : mj_fetch 145 290 = some (.aload_n 0, 0, 0) := by decide +kernel
theorem f_145_291 : mj_fetch 145 291 = some (.getfield 54, 11, 23) := by decide +kernel
theorem f_145_294 : mj_fetch 145 294 = some (.iload 7, 0, 0) := by decide +kernel
theorem f_145_296 : mj_fetch 145 296 = some (.iload 9, 0, 0) := by decide +kernel
theorem f_145_298 : mj_fetch 145 298 = some (.iastore, 0, 0) := by decide +kernel
theorem f_145_299 : mj_fetch 145 299 = some (.iload 9, 0, 0) := by decide +kernel
theorem f_145_301 : mj_fetch 145 301 = some (.ireturn, 0, 0) := by decide +kernel
theorem f_145_96 : mj_fetch 145 96 = some (.sipush 1000, 0, 0) := by decide +kernel
theorem f_145_99 : mj_fetch 145 99 = some (.istore 9, 0, 0) := by decide +kernel
theorem f_145_101 : mj_fetch 145 101 = some (.iload_n 1, 0, 0) := by decide +kernel
theorem f_145_102 : mj_fetch 145 102 = some (.istore 10, 0, 0) := by decide +kernel
theorem gc_eq {h : mj_H} {w : Nat} {G : Gd} (hG : ∀ t p l, wg h w t p l = G t p l) (a b c d e f : Nat) : gc h w a b c d e f = gcN G a b c d e f := by
  unfold gc gcN g1
  simp only [hG]
theorem sz_eq {a b c d e f : Nat} (h1 : a ≤ b) (h2 : c ≤ d) (h3 : e ≤ f) : (nI b - nI a + nI 1) * (nI d - nI c + nI 1) * (nI f - nI e + nI 1) = nI (szN a b c d e f) := by
  rw [pk_sub h1, pk_sub h2, pk_sub h3, nI_add, nI_add, nI_add, pk_mul, pk_mul]
  unfold szN
  rw [show b - a + 1 = b + 1 - a by omega, show d - c + 1 = d + 1 - c by omega, show f - e + 1 = f + 1 - e by omega]
theorem MO.put48 {g : mj_H} {G : Gd} {W : Nat → Nat} (o : MO g G W) (hW5 : W 0 ≤ 5 ∧ W 1 ≤ 5 ∧ W 2 ≤ 5) {a b c d e f : Nat} (hd : a ≤ 5 ∧ b ≤ 5 ∧ c ≤ 5 ∧ d ≤ 5 ∧ e ≤ 5 ∧ f ≤ 5) (h49 : mj_I g 49 (bx a b c d e f) = nI (LV G a b c d e f).2) : MO (mj_setI g 48 (bx a b c d e f) (nI (LV G a b c d e f).1)) G W := by
  intro a1 b1 c1 d1 e1 f1 hB
  have e49 : mj_I (mj_setI g 48 (bx a b c d e f) (nI (LV G a b c d e f).1)) 49 = mj_I g 49 := mj_I_other (by decide)
  rw [e49]
  by_cases hq : bx a1 b1 c1 d1 e1 f1 = bx a b c d e f
  · obtain ⟨q1, q2, q3, q4, q5, q6⟩ := bx_inj (by unfold BX at hB; omega) hd hq
    subst q1; subst q2; subst q3; subst q4; subst q5; subst q6
    right
    exact ⟨mj_I_at _ _ _ _, h49⟩
  · rw [mj_I_ne hq]
    exact o a1 b1 c1 d1 e1 f1 hB
theorem MC.put_u {g : mj_H} {G : Gd} {W : Nat → Nat} (o : MC g G W) (hW5 : W 0 ≤ 5 ∧ W 1 ≤ 5 ∧ W 2 ≤ 5) {a b c d e f : Nat} (hd : a ≤ 5 ∧ b ≤ 5 ∧ c ≤ 5 ∧ d ≤ 5 ∧ e ≤ 5 ∧ f ≤ 5) {x : Int32} (hx : ¬ x = 0) (hu : NU G a b c d e f → (∀ i, a ≤ i → i < b → ST g a i c d e f ∧ ST g (i + 1) b c d e f) ∧ (∀ i, c ≤ i → i < d → ST g a b c i e f ∧ ST g a b (i + 1) d e f) ∧ ∀ i, e ≤ i → i < f → ST g a b c d e i ∧ ST g a b c d (i + 1) f) : MC (mj_setI g 48 (bx a b c d e f) x) G W := by
  have up : ∀ {a1 b1 c1 d1 e1 f1 : Nat}, ST g a1 b1 c1 d1 e1 f1 → ST (mj_setI g 48 (bx a b c d e f) x) a1 b1 c1 d1 e1 f1 := fun q => Mn.set hx _ q
  intro a1 b1 c1 d1 e1 f1 hB hS hN
  have key : (∀ i, a1 ≤ i → i < b1 → ST g a1 i c1 d1 e1 f1 ∧ ST g (i + 1) b1 c1 d1 e1 f1) ∧ (∀ i, c1 ≤ i → i < d1 → ST g a1 b1 c1 i e1 f1 ∧ ST g a1 b1 (i + 1) d1 e1 f1) ∧ ∀ i, e1 ≤ i → i < f1 → ST g a1 b1 c1 d1 e1 i ∧ ST g a1 b1 c1 d1 (i + 1) f1 := by
    by_cases hq : bx a1 b1 c1 d1 e1 f1 = bx a b c d e f
    · obtain ⟨q1, q2, q3, q4, q5, q6⟩ := bx_inj (by unfold BX at hB; omega) hd hq
      subst q1; subst q2; subst q3; subst q4; subst q5; subst q6
      exact hu hN
    · refine o a1 b1 c1 d1 e1 f1 hB ?_ hN
      unfold ST at hS ⊢
      rw [mj_I_ne hq] at hS
      exact hS
  exact ⟨fun i h1 h2 => ⟨up (key.1 i h1 h2).1, up (key.1 i h1 h2).2⟩, fun i h1 h2 => ⟨up (key.2.1 i h1 h2).1, up (key.2.1 i h1 h2).2⟩, fun i h1 h2 => ⟨up (key.2.2 i h1 h2).1, up (key.2.2 i h1 h2).2⟩⟩
theorem MO_MV {h g : mj_H} {jm : Nat} {G : Gd} {W : Nat → Nat} (a : MV h g jm) (o : MO h G W) : MO g G W := by
  have e48 : mj_I g 48 = mj_I h 48 := a.2.1.i (by decide)
  have e49 : mj_I g 49 = mj_I h 49 := a.2.1.i (by decide)
  unfold MO
  rw [e48, e49]
  exact o
theorem FRX_MV {h g : mj_H} {jm s : Nat} (a : MV h g jm) : FRX h g s := fun _ _ _ _ _ _ _ _ => ⟨congrFun (a.2.1.i (by decide)) _, congrFun (a.2.1.i (by decide)) _⟩

set_option maxRecDepth 20000 in
set_option maxHeartbeats 4000000 in
theorem leaves_0 {jm w : Nat} {G : Gd} {W : Nat → Nat} (hW5 : W 0 ≤ 5 ∧ W 1 ≤ 5 ∧ W 2 ≤ 5) : LvP jm w G W 0 := by
  intro a b c d e f h hB hsp hC
  have hd5 : a ≤ 5 ∧ b ≤ 5 ∧ c ≤ 5 ∧ d ≤ 5 ∧ e ≤ 5 ∧ f ≤ 5 := by unfold BX at hB; omega
  have hB : a ≤ b ∧ b ≤ W 0 ∧ c ≤ d ∧ d ≤ W 1 ∧ e ≤ f ∧ f ≤ W 2 := hB
  have S : SM h := hC.1.1
  have w0 := (hC.2.2.2.2.2.1 0 (by decide)).1
  have w1 := (hC.2.2.2.2.2.1 1 (by decide)).1
  have w2 := (hC.2.2.2.2.2.1 2 (by decide)).1
  have hbl := bx_lt hd5
  have hLp := LV_pos G a b c d e f
  have hLl := LV_216 G hB.1 hB.2.2.1 hB.2.2.2.2.1 (by omega) (by omega) (by omega)
  have hgl := gcN_le G (a := a) (b := b) (c := c) (d := d) (e := e) (f := f) (by omega) (by omega) (by omega)
  have hsl := sz_216 (a := a) (b := b) (c := c) (d := d) (e := e) (f := f) (by omega) (by omega) (by omega)
  show mx (7 + 0) 145 0 [.ref 33, .int (nI a), .int (nI b), .int (nI c), .int (nI d), .int (nI e), .int (nI f), mj_unset, mj_unset, mj_unset, mj_unset] [] h _
  rcases hC.2.2.2.2.2.2.1 a b c d e f hB with hm | hm
  · skip
    refine x_iload_n f_145_0 rfl ?_
    refine x_iload_n f_145_1 rfl ?_
    refine x_iload_n f_145_2 rfl ?_
    refine x_iload f_145_3 rfl ?_
    refine x_iload f_145_5 rfl ?_
    refine x_iload f_145_7 rfl ?_
    refine x_callSe f_145_9 (c_boxOf _ _ _ _ _ _ _) (by omega) rfl rfl rfl (Nat.le_of_ble_eq_true rfl) rfl ?_
    refine x_istore (ls1 := [.ref 33, .int (nI a), .int (nI b), .int (nI c), .int (nI d), .int (nI e), .int (nI f), .int (nI (bx a b c d e f)), mj_unset, mj_unset, mj_unset]) f_145_12 (Nat.le_of_ble_eq_true rfl) rfl ?_
    refine x_aload_n f_145_14 rfl ?_
    refine x_getR f_145_15 S.k33 (by decide) S.r23 ?_
    refine x_iload f_145_18 rfl ?_
    refine x_iald (j := (bx a b c d e f)) f_145_20 S.k48 (by omega) (by decide) ?_
    refine x_topi (w := nI 0) hm ?_
    refine x_ifN_le (t := 32) f_145_21 (by decide) (by decide) (fun c_1 => ?_) (fun c_1 => by omega)
    refine x_aload_n f_145_32 rfl ?_
    refine x_iload_n f_145_33 rfl ?_
    refine x_iload_n f_145_34 rfl ?_
    refine x_iload_n f_145_35 rfl ?_
    refine x_iload f_145_36 rfl ?_
    refine x_iload f_145_38 rfl ?_
    refine x_iload f_145_40 rfl ?_
    refine x_callV f_145_42 (c_goodIn hC.2.1 hC.2.2.1 hC.2.2.2.1 hC.1 (by omega) (by omega) (by omega) (by omega) (by omega) (by omega)) (by omega) S.k33 (by decide) rfl rfl (Nat.le_of_ble_eq_true rfl) rfl ?_
    rintro _ g ⟨rfl, hv⟩
    have hgc := gc_eq hC.2.2.2.2.1 a b c d e f
    have S : SM g := hv.1.1
    have hCg : CL g jm w G W := hC.to hv.1 (ME_MV hv) (MO_MV hv hC.2.2.2.2.2.2.1) (MC.eq (hv.2.1.i (by decide)) hC.2.2.2.2.2.2.2)
    refine x_topi (w := nI (gcN G a b c d e f)) (by rw [hgc]) ?_
    refine x_istore (ls1 := [.ref 33, .int (nI a), .int (nI b), .int (nI c), .int (nI d), .int (nI e), .int (nI f), .int (nI (bx a b c d e f)), .int (nI (gcN G a b c d e f)), mj_unset, mj_unset]) f_145_45 (Nat.le_of_ble_eq_true rfl) rfl ?_
    refine x_iload f_145_47 rfl ?_
    refine x_ifN_eq (t := 69) f_145_49 (by decide) (by omega) (fun c_0 => ?_) (fun c_0 => ?_)
    · refine x_aload_n f_145_69 rfl ?_
      refine x_getR f_145_70 S.k33 (by decide) S.r24 ?_
      refine x_iload f_145_73 rfl ?_
      refine x_iload f_145_75 rfl ?_
      refine x_ifN_ne (t := 84) f_145_77 (by decide) (by omega) (fun c_u => ?_) (fun c_u => ?_)
      · refine x_iconst (v := nI 0) f_145_84 (by decide) ?_
        refine x_iast (j := (bx a b c d e f)) f_145_85 S.k49 (by decide) (by omega) (by decide) ?_
        refine x_aload_n f_145_86 rfl ?_
        refine x_getR f_145_87 S.k33 (by decide) S.r23 ?_
        refine x_iload f_145_90 rfl ?_
        refine x_iconst (v := nI 1) f_145_92 (by decide) ?_
        refine x_iast (j := (bx a b c d e f)) f_145_93 S.k48 (by decide) (by omega) (by decide) ?_
        refine x_iconst (v := nI 1) f_145_94 (by decide) ?_
        refine x_retI f_145_95 rfl ?_
        exact absurd c_0 c_u
      · refine x_iconst (v := nI 1) f_145_80 (by decide) ?_
        refine x_goto (t := 85) f_145_81 (by decide) ?_
        refine x_iast (j := (bx a b c d e f)) f_145_85 S.k49 (by decide) (by omega) (by decide) ?_
        refine x_aload_n f_145_86 rfl ?_
        refine x_getR f_145_87 S.k33 (by decide) S.r23 ?_
        refine x_iload f_145_90 rfl ?_
        refine x_iconst (v := nI 1) f_145_92 (by decide) ?_
        refine x_iast (j := (bx a b c d e f)) f_145_93 S.k48 (by decide) (by omega) (by decide) ?_
        refine x_iconst (v := nI 1) f_145_94 (by decide) ?_
        refine x_retI f_145_95 rfl ?_
        have hL : LV G a b c d e f = (1, 1) := by
          rw [LV_eq G (by unfold spn; omega), if_pos c_0]
        have e49 : mj_I (mj_setI g 49 (bx a b c d e f) (nI 1)) 49 (bx a b c d e f) = nI (LV G a b c d e f).2 := by rw [hL]; exact mj_I_at _ _ _ _
        have e48 : mj_I g 48 (bx a b c d e f) = 0 := (congrFun (hv.2.1.i (by decide)) _).trans hm
        have hC2 := hCg.to (MW_o hCg.1 (by decide)) ((ME.rf g).set (Or.inr rfl)) (hCg.2.2.2.2.2.2.1.set49 (x := nI 1) e48) (MC.eq (mj_I_other (by decide)) hCg.2.2.2.2.2.2.2)
        have hC3 := hC2.to (MW_o hC2.1 (by decide)) ((ME.rf _).set (Or.inl rfl)) (hC2.2.2.2.2.2.2.1.put48 hW5 hd5 e49) (hC2.2.2.2.2.2.2.2.put_u hW5 hd5 (nI_ne0 (LV_pos G _ _ _ _ _ _) (by omega)) (fun q => absurd c_0 q.1))
        rw [hL] at hC3 e49 ⊢
        refine ⟨rfl, hC3, ((ME_MV hv).set (Or.inr rfl)).set (Or.inl rfl), mj_I_at _ _ _ _, (congrFun (mj_I_other (by decide)) _).trans e49, ((FRX_MV hv).set hd5 (Or.inr rfl)).set hd5 (Or.inl rfl), ((Mn.eq (hv.2.1.i (by decide))).trans (Mn.eq (mj_I_other (by decide)))).trans (Mn.set (by decide))⟩
    · refine x_iload f_145_52 rfl ?_
      refine x_iload_n f_145_54 rfl ?_
      refine x_iload_n f_145_55 rfl ?_
      refine x_iload_n f_145_56 rfl ?_
      refine x_iload f_145_57 rfl ?_
      refine x_iload f_145_59 rfl ?_
      refine x_iload f_145_61 rfl ?_
      refine x_callSe f_145_63 (c_sizeOf _ _ _ _ _ _ _) (by omega) rfl rfl rfl (Nat.le_of_ble_eq_true rfl) rfl ?_
      refine x_topi (w := nI (szN a b c d e f)) (sz_eq hB.1 hB.2.2.1 hB.2.2.2.2.1) ?_
      refine x_icmpN_ne (t := 96) f_145_66 (by decide) (by omega) (by omega) (fun c_z => ?_) (fun c_z => ?_)
      · have e1 : b = a := by unfold spn at hsp; omega
        have e2 : d = c := by unfold spn at hsp; omega
        have e3 : f = e := by unfold spn at hsp; omega
        subst e1
        subst e2
        subst e3
        exact absurd (gcN_one G b d f) (fun q => q.elim c_0 c_z)
      · refine x_aload_n f_145_69 rfl ?_
        refine x_getR f_145_70 S.k33 (by decide) S.r24 ?_
        refine x_iload f_145_73 rfl ?_
        refine x_iload f_145_75 rfl ?_
        refine x_ifN_ne (t := 84) f_145_77 (by decide) (by omega) (fun c_u => ?_) (fun c_u => ?_)
        · refine x_iconst (v := nI 0) f_145_84 (by decide) ?_
          refine x_iast (j := (bx a b c d e f)) f_145_85 S.k49 (by decide) (by omega) (by decide) ?_
          refine x_aload_n f_145_86 rfl ?_
          refine x_getR f_145_87 S.k33 (by decide) S.r23 ?_
          refine x_iload f_145_90 rfl ?_
          refine x_iconst (v := nI 1) f_145_92 (by decide) ?_
          refine x_iast (j := (bx a b c d e f)) f_145_93 S.k48 (by decide) (by omega) (by decide) ?_
          refine x_iconst (v := nI 1) f_145_94 (by decide) ?_
          refine x_retI f_145_95 rfl ?_
          have hL : LV G a b c d e f = (1, 0) := by
            rw [LV_eq G (by unfold spn; omega), if_neg c_0, if_pos c_z]
          have e49 : mj_I (mj_setI g 49 (bx a b c d e f) (nI 0)) 49 (bx a b c d e f) = nI (LV G a b c d e f).2 := by rw [hL]; exact mj_I_at _ _ _ _
          have e48 : mj_I g 48 (bx a b c d e f) = 0 := (congrFun (hv.2.1.i (by decide)) _).trans hm
          have hC2 := hCg.to (MW_o hCg.1 (by decide)) ((ME.rf g).set (Or.inr rfl)) (hCg.2.2.2.2.2.2.1.set49 (x := nI 0) e48) (MC.eq (mj_I_other (by decide)) hCg.2.2.2.2.2.2.2)
          have hC3 := hC2.to (MW_o hC2.1 (by decide)) ((ME.rf _).set (Or.inl rfl)) (hC2.2.2.2.2.2.2.1.put48 hW5 hd5 e49) (hC2.2.2.2.2.2.2.2.put_u hW5 hd5 (nI_ne0 (LV_pos G _ _ _ _ _ _) (by omega)) (fun q => absurd c_z q.2))
          rw [hL] at hC3 e49 ⊢
          refine ⟨rfl, hC3, ((ME_MV hv).set (Or.inr rfl)).set (Or.inl rfl), mj_I_at _ _ _ _, (congrFun (mj_I_other (by decide)) _).trans e49, ((FRX_MV hv).set hd5 (Or.inr rfl)).set hd5 (Or.inl rfl), ((Mn.eq (hv.2.1.i (by decide))).trans (Mn.eq (mj_I_other (by decide)))).trans (Mn.set (by decide))⟩
        · refine x_iconst (v := nI 1) f_145_80 (by decide) ?_
          refine x_goto (t := 85) f_145_81 (by decide) ?_
          refine x_iast (j := (bx a b c d e f)) f_145_85 S.k49 (by decide) (by omega) (by decide) ?_
          refine x_aload_n f_145_86 rfl ?_
          refine x_getR f_145_87 S.k33 (by decide) S.r23 ?_
          refine x_iload f_145_90 rfl ?_
          refine x_iconst (v := nI 1) f_145_92 (by decide) ?_
          refine x_iast (j := (bx a b c d e f)) f_145_93 S.k48 (by decide) (by omega) (by decide) ?_
          refine x_iconst (v := nI 1) f_145_94 (by decide) ?_
          refine x_retI f_145_95 rfl ?_
          exact absurd c_u c_0
  · skip
    refine x_iload_n f_145_0 rfl ?_
    refine x_iload_n f_145_1 rfl ?_
    refine x_iload_n f_145_2 rfl ?_
    refine x_iload f_145_3 rfl ?_
    refine x_iload f_145_5 rfl ?_
    refine x_iload f_145_7 rfl ?_
    refine x_callSe f_145_9 (c_boxOf _ _ _ _ _ _ _) (by omega) rfl rfl rfl (Nat.le_of_ble_eq_true rfl) rfl ?_
    refine x_istore (ls1 := [.ref 33, .int (nI a), .int (nI b), .int (nI c), .int (nI d), .int (nI e), .int (nI f), .int (nI (bx a b c d e f)), mj_unset, mj_unset, mj_unset]) f_145_12 (Nat.le_of_ble_eq_true rfl) rfl ?_
    refine x_aload_n f_145_14 rfl ?_
    refine x_getR f_145_15 S.k33 (by decide) S.r23 ?_
    refine x_iload f_145_18 rfl ?_
    refine x_iald (j := (bx a b c d e f)) f_145_20 S.k48 (by omega) (by decide) ?_
    refine x_topi (w := nI ((LV G a b c d e f).1)) hm.1 ?_
    refine x_ifN_le (t := 32) f_145_21 (by decide) (by omega) (fun c_1 => by omega) (fun c_1 => ?_)
    refine x_aload_n f_145_24 rfl ?_
    refine x_getR f_145_25 S.k33 (by decide) S.r23 ?_
    refine x_iload f_145_28 rfl ?_
    refine x_iald (j := (bx a b c d e f)) f_145_30 S.k48 (by omega) (by decide) ?_
    refine x_topi (w := nI ((LV G a b c d e f).1)) hm.1 ?_
    refine x_retI f_145_31 rfl ?_
    exact ⟨rfl, hC, ME.rf _, hm.1, hm.2, FRX.rf _ _, Mn.rf _⟩
set_option maxRecDepth 20000 in
set_option maxHeartbeats 4000000 in
theorem leaves_s {jm w s : Nat} {G : Gd} {W : Nat → Nat} (hW5 : W 0 ≤ 5 ∧ W 1 ≤ 5 ∧ W 2 ≤ 5) (IH : LvP jm w G W s) : LvP jm w G W (s + 1) := by
  intro a b c d e f h hB hsp hC
  have hd5 : a ≤ 5 ∧ b ≤ 5 ∧ c ≤ 5 ∧ d ≤ 5 ∧ e ≤ 5 ∧ f ≤ 5 := by unfold BX at hB; omega
  have hB : a ≤ b ∧ b ≤ W 0 ∧ c ≤ d ∧ d ≤ W 1 ∧ e ≤ f ∧ f ≤ W 2 := hB
  have S : SM h := hC.1.1
  have w0 := (hC.2.2.2.2.2.1 0 (by decide)).1
  have w1 := (hC.2.2.2.2.2.1 1 (by decide)).1
  have w2 := (hC.2.2.2.2.2.1 2 (by decide)).1
  have hbl := bx_lt hd5
  have hLp := LV_pos G a b c d e f
  have hLl := LV_216 G hB.1 hB.2.2.1 hB.2.2.2.2.1 (by omega) (by omega) (by omega)
  have hgl := gcN_le G (a := a) (b := b) (c := c) (d := d) (e := e) (f := f) (by omega) (by omega) (by omega)
  have hsl := sz_216 (a := a) (b := b) (c := c) (d := d) (e := e) (f := f) (by omega) (by omega) (by omega)
  show mx (7 + (s + 1)) 145 0 [.ref 33, .int (nI a), .int (nI b), .int (nI c), .int (nI d), .int (nI e), .int (nI f), mj_unset, mj_unset, mj_unset, mj_unset] [] h _
  rcases hC.2.2.2.2.2.2.1 a b c d e f hB with hm | hm
  · skip
    refine x_iload_n f_145_0 rfl ?_
    refine x_iload_n f_145_1 rfl ?_
    refine x_iload_n f_145_2 rfl ?_
    refine x_iload f_145_3 rfl ?_
    refine x_iload f_145_5 rfl ?_
    refine x_iload f_145_7 rfl ?_
    refine x_callSe f_145_9 (c_boxOf _ _ _ _ _ _ _) (by omega) rfl rfl rfl (Nat.le_of_ble_eq_true rfl) rfl ?_
    refine x_istore (ls1 := [.ref 33, .int (nI a), .int (nI b), .int (nI c), .int (nI d), .int (nI e), .int (nI f), .int (nI (bx a b c d e f)), mj_unset, mj_unset, mj_unset]) f_145_12 (Nat.le_of_ble_eq_true rfl) rfl ?_
    refine x_aload_n f_145_14 rfl ?_
    refine x_getR f_145_15 S.k33 (by decide) S.r23 ?_
    refine x_iload f_145_18 rfl ?_
    refine x_iald (j := (bx a b c d e f)) f_145_20 S.k48 (by omega) (by decide) ?_
    refine x_topi (w := nI 0) hm ?_
    refine x_ifN_le (t := 32) f_145_21 (by decide) (by decide) (fun c_1 => ?_) (fun c_1 => by omega)
    refine x_aload_n f_145_32 rfl ?_
    refine x_iload_n f_145_33 rfl ?_
    refine x_iload_n f_145_34 rfl ?_
    refine x_iload_n f_145_35 rfl ?_
    refine x_iload f_145_36 rfl ?_
    refine x_iload f_145_38 rfl ?_
    refine x_iload f_145_40 rfl ?_
    refine x_callV f_145_42 (c_goodIn hC.2.1 hC.2.2.1 hC.2.2.2.1 hC.1 (by omega) (by omega) (by omega) (by omega) (by omega) (by omega)) (by omega) S.k33 (by decide) rfl rfl (Nat.le_of_ble_eq_true rfl) rfl ?_
    rintro _ g ⟨rfl, hv⟩
    have hgc := gc_eq hC.2.2.2.2.1 a b c d e f
    have S : SM g := hv.1.1
    have hCg : CL g jm w G W := hC.to hv.1 (ME_MV hv) (MO_MV hv hC.2.2.2.2.2.2.1) (MC.eq (hv.2.1.i (by decide)) hC.2.2.2.2.2.2.2)
    refine x_topi (w := nI (gcN G a b c d e f)) (by rw [hgc]) ?_
    refine x_istore (ls1 := [.ref 33, .int (nI a), .int (nI b), .int (nI c), .int (nI d), .int (nI e), .int (nI f), .int (nI (bx a b c d e f)), .int (nI (gcN G a b c d e f)), mj_unset, mj_unset]) f_145_45 (Nat.le_of_ble_eq_true rfl) rfl ?_
    refine x_iload f_145_47 rfl ?_
    refine x_ifN_eq (t := 69) f_145_49 (by decide) (by omega) (fun c_0 => ?_) (fun c_0 => ?_)
    · refine x_aload_n f_145_69 rfl ?_
      refine x_getR f_145_70 S.k33 (by decide) S.r24 ?_
      refine x_iload f_145_73 rfl ?_
      refine x_iload f_145_75 rfl ?_
      refine x_ifN_ne (t := 84) f_145_77 (by decide) (by omega) (fun c_u => ?_) (fun c_u => ?_)
      · refine x_iconst (v := nI 0) f_145_84 (by decide) ?_
        refine x_iast (j := (bx a b c d e f)) f_145_85 S.k49 (by decide) (by omega) (by decide) ?_
        refine x_aload_n f_145_86 rfl ?_
        refine x_getR f_145_87 S.k33 (by decide) S.r23 ?_
        refine x_iload f_145_90 rfl ?_
        refine x_iconst (v := nI 1) f_145_92 (by decide) ?_
        refine x_iast (j := (bx a b c d e f)) f_145_93 S.k48 (by decide) (by omega) (by decide) ?_
        refine x_iconst (v := nI 1) f_145_94 (by decide) ?_
        refine x_retI f_145_95 rfl ?_
        exact absurd c_0 c_u
      · refine x_iconst (v := nI 1) f_145_80 (by decide) ?_
        refine x_goto (t := 85) f_145_81 (by decide) ?_
        refine x_iast (j := (bx a b c d e f)) f_145_85 S.k49 (by decide) (by omega) (by decide) ?_
        refine x_aload_n f_145_86 rfl ?_
        refine x_getR f_145_87 S.k33 (by decide) S.r23 ?_
        refine x_iload f_145_90 rfl ?_
        refine x_iconst (v := nI 1) f_145_92 (by decide) ?_
        refine x_iast (j := (bx a b c d e f)) f_145_93 S.k48 (by decide) (by omega) (by decide) ?_
        refine x_iconst (v := nI 1) f_145_94 (by decide) ?_
        refine x_retI f_145_95 rfl ?_
        have hL : LV G a b c d e f = (1, 1) := by
          rw [LV_eq G (by unfold spn; omega), if_pos c_0]
        have e49 : mj_I (mj_setI g 49 (bx a b c d e f) (nI 1)) 49 (bx a b c d e f) = nI (LV G a b c d e f).2 := by rw [hL]; exact mj_I_at _ _ _ _
        have e48 : mj_I g 48 (bx a b c d e f) = 0 := (congrFun (hv.2.1.i (by decide)) _).trans hm
        have hC2 := hCg.to (MW_o hCg.1 (by decide)) ((ME.rf g).set (Or.inr rfl)) (hCg.2.2.2.2.2.2.1.set49 (x := nI 1) e48) (MC.eq (mj_I_other (by decide)) hCg.2.2.2.2.2.2.2)
        have hC3 := hC2.to (MW_o hC2.1 (by decide)) ((ME.rf _).set (Or.inl rfl)) (hC2.2.2.2.2.2.2.1.put48 hW5 hd5 e49) (hC2.2.2.2.2.2.2.2.put_u hW5 hd5 (nI_ne0 (LV_pos G _ _ _ _ _ _) (by omega)) (fun q => absurd c_0 q.1))
        rw [hL] at hC3 e49 ⊢
        refine ⟨rfl, hC3, ((ME_MV hv).set (Or.inr rfl)).set (Or.inl rfl), mj_I_at _ _ _ _, (congrFun (mj_I_other (by decide)) _).trans e49, ((FRX_MV hv).set hd5 (Or.inr rfl)).set hd5 (Or.inl rfl), ((Mn.eq (hv.2.1.i (by decide))).trans (Mn.eq (mj_I_other (by decide)))).trans (Mn.set (by decide))⟩
    · refine x_iload f_145_52 rfl ?_
      refine x_iload_n f_145_54 rfl ?_
      refine x_iload_n f_145_55 rfl ?_
      refine x_iload_n f_145_56 rfl ?_
      refine x_iload f_145_57 rfl ?_
      refine x_iload f_145_59 rfl ?_
      refine x_iload f_145_61 rfl ?_
      refine x_callSe f_145_63 (c_sizeOf _ _ _ _ _ _ _) (by omega) rfl rfl rfl (Nat.le_of_ble_eq_true rfl) rfl ?_
      refine x_topi (w := nI (szN a b c d e f)) (sz_eq hB.1 hB.2.2.1 hB.2.2.2.2.1) ?_
      refine x_icmpN_ne (t := 96) f_145_66 (by decide) (by omega) (by omega) (fun c_z => ?_) (fun c_z => ?_)
      · refine x_sipush (v := nI 1000) f_145_96 (by decide) ?_
        refine x_istore (ls1 := [.ref 33, .int (nI a), .int (nI b), .int (nI c), .int (nI d), .int (nI e), .int (nI f), .int (nI (bx a b c d e f)), .int (nI (gcN G a b c d e f)), .int (nI 1000), mj_unset]) f_145_99 (Nat.le_of_ble_eq_true rfl) rfl ?_
        refine x_iload_n f_145_101 rfl ?_
        refine x_istore (ls1 := [.ref 33, .int (nI a), .int (nI b), .int (nI c), .int (nI d), .int (nI e), .int (nI f), .int (nI (bx a b c d e f)), .int (nI (gcN G a b c d e f)), .int (nI 1000), .int (nI a)]) f_145_102 (Nat.le_of_ble_eq_true rfl) rfl ?_
        have e48 : mj_I g 48 (bx a b c d e f) = 0 := (congrFun (hv.2.1.i (by decide)) _).trans hm
        obtain ⟨x0, hx0⟩ := nI_any (mj_I g 49 (bx a b c d e f))
        rw [show 7 + (s + 1) = 8 + s by omega]
        refine leaves_l0 IH hB hW5 hsp (b - a) a (1000, x0) g (by omega) (Nat.le_refl _) hCg (ME_MV hv) e48 hx0 (Nat.le_refl _) (FRX_MV hv) (Mn.rf g) (fun i q1 q2 => by omega) ?_
        intro g1 x1 hx1 hC1 hE1 k48 k49 kx hX1 hM1 hP1
        refine x_iload_n f_145_163 rfl ?_
        refine x_istore (ls1 := [.ref 33, .int (nI a), .int (nI b), .int (nI c), .int (nI d), .int (nI e), .int (nI f), .int (nI (bx a b c d e f)), .int (nI (gcN G a b c d e f)), .int (nI x1.1), .int (nI c)]) f_145_164 (Nat.le_of_ble_eq_true rfl) rfl ?_
        refine leaves_l1 IH hB hW5 hsp (d - c) c x1 g1 (by omega) (Nat.le_refl _) hC1 hE1 k48 k49 kx hX1 (Mn.rf g1) (fun i q1 q2 => by omega) ?_
        intro g2 x2 hx2 hC2 hE2 l48 l49 lx hX2 hM2 hP2
        refine x_iload f_145_226 rfl ?_
        refine x_istore (ls1 := [.ref 33, .int (nI a), .int (nI b), .int (nI c), .int (nI d), .int (nI e), .int (nI f), .int (nI (bx a b c d e f)), .int (nI (gcN G a b c d e f)), .int (nI x2.1), .int (nI e)]) f_145_228 (Nat.le_of_ble_eq_true rfl) rfl ?_
        refine leaves_l2 IH hB hW5 hsp (f - e) e x2 g2 (by omega) (Nat.le_refl _) hC2 hE2 l48 l49 lx hX2 (Mn.rf g2) (fun i q1 q2 => by omega) ?_
        intro g3 x3 hx3 hC3 hE3 m48 m49 mx3 hX3 hM3 hP3
        have hL : LV G a b c d e f = x3 := by
          rw [LV_fo3 G hB.1 hB.2.2.1 hB.2.2.2.2.1 (by omega) (by omega) (by omega) c_0 c_z x0, hx3, hx2, hx1]
          rfl
        have S : SM g3 := hC3.1.1
        refine x_aload_n f_145_290 rfl ?_
        refine x_getR f_145_291 S.k33 (by decide) S.r23 ?_
        refine x_iload f_145_294 rfl ?_
        refine x_iload f_145_296 rfl ?_
        refine x_iast (j := bx a b c d e f) f_145_298 S.k48 (by decide) (bx_lt hd5) (by decide) ?_
        refine x_iload f_145_299 rfl ?_
        refine x_retI f_145_301 rfl ?_
        rw [← hL] at m49 ⊢
        exact ⟨rfl, hC3.to (MW_o hC3.1 (by decide)) ((ME.rf _).set (Or.inl rfl)) (hC3.2.2.2.2.2.2.1.put48 hW5 hd5 m49) (hC3.2.2.2.2.2.2.2.put_u hW5 hd5 (nI_ne0 (LV_pos G _ _ _ _ _ _) (by omega)) (fun _ => ⟨fun i q1 q2 => ⟨hM3 _ (hM2 _ (hP1 i q1 q2).1), hM3 _ (hM2 _ (hP1 i q1 q2).2)⟩, fun i q1 q2 => ⟨hM3 _ (hP2 i q1 q2).1, hM3 _ (hP2 i q1 q2).2⟩, hP3⟩)), hE3.set (Or.inl rfl), mj_I_at _ _ _ _, (congrFun (mj_I_other (by decide)) _).trans m49, hX3.set hd5 (Or.inl rfl), ((((Mn.eq (hv.2.1.i (by decide))).trans hM1).trans hM2).trans hM3).trans (Mn.set (nI_ne0 (LV_pos G _ _ _ _ _ _) (by omega)))⟩
      · refine x_aload_n f_145_69 rfl ?_
        refine x_getR f_145_70 S.k33 (by decide) S.r24 ?_
        refine x_iload f_145_73 rfl ?_
        refine x_iload f_145_75 rfl ?_
        refine x_ifN_ne (t := 84) f_145_77 (by decide) (by omega) (fun c_u => ?_) (fun c_u => ?_)
        · refine x_iconst (v := nI 0) f_145_84 (by decide) ?_
          refine x_iast (j := (bx a b c d e f)) f_145_85 S.k49 (by decide) (by omega) (by decide) ?_
          refine x_aload_n f_145_86 rfl ?_
          refine x_getR f_145_87 S.k33 (by decide) S.r23 ?_
          refine x_iload f_145_90 rfl ?_
          refine x_iconst (v := nI 1) f_145_92 (by decide) ?_
          refine x_iast (j := (bx a b c d e f)) f_145_93 S.k48 (by decide) (by omega) (by decide) ?_
          refine x_iconst (v := nI 1) f_145_94 (by decide) ?_
          refine x_retI f_145_95 rfl ?_
          have hL : LV G a b c d e f = (1, 0) := by
            rw [LV_eq G (by unfold spn; omega), if_neg c_0, if_pos c_z]
          have e49 : mj_I (mj_setI g 49 (bx a b c d e f) (nI 0)) 49 (bx a b c d e f) = nI (LV G a b c d e f).2 := by rw [hL]; exact mj_I_at _ _ _ _
          have e48 : mj_I g 48 (bx a b c d e f) = 0 := (congrFun (hv.2.1.i (by decide)) _).trans hm
          have hC2 := hCg.to (MW_o hCg.1 (by decide)) ((ME.rf g).set (Or.inr rfl)) (hCg.2.2.2.2.2.2.1.set49 (x := nI 0) e48) (MC.eq (mj_I_other (by decide)) hCg.2.2.2.2.2.2.2)
          have hC3 := hC2.to (MW_o hC2.1 (by decide)) ((ME.rf _).set (Or.inl rfl)) (hC2.2.2.2.2.2.2.1.put48 hW5 hd5 e49) (hC2.2.2.2.2.2.2.2.put_u hW5 hd5 (nI_ne0 (LV_pos G _ _ _ _ _ _) (by omega)) (fun q => absurd c_z q.2))
          rw [hL] at hC3 e49 ⊢
          refine ⟨rfl, hC3, ((ME_MV hv).set (Or.inr rfl)).set (Or.inl rfl), mj_I_at _ _ _ _, (congrFun (mj_I_other (by decide)) _).trans e49, ((FRX_MV hv).set hd5 (Or.inr rfl)).set hd5 (Or.inl rfl), ((Mn.eq (hv.2.1.i (by decide))).trans (Mn.eq (mj_I_other (by decide)))).trans (Mn.set (by decide))⟩
        · refine x_iconst (v := nI 1) f_145_80 (by decide) ?_
          refine x_goto (t := 85) f_145_81 (by decide) ?_
          refine x_iast (j := (bx a b c d e f)) f_145_85 S.k49 (by decide) (by omega) (by decide) ?_
          refine x_aload_n f_145_86 rfl ?_
          refine x_getR f_145_87 S.k33 (by decide) S.r23 ?_
          refine x_iload f_145_90 rfl ?_
          refine x_iconst (v := nI 1) f_145_92 (by decide) ?_
          refine x_iast (j := (bx a b c d e f)) f_145_93 S.k48 (by decide) (by omega) (by decide) ?_
          refine x_iconst (v := nI 1) f_145_94 (by decide) ?_
          refine x_retI f_145_95 rfl ?_
          exact absurd c_u c_0
  · skip
    refine x_iload_n f_145_0 rfl ?_
    refine x_iload_n f_145_1 rfl ?_
    refine x_iload_n f_145_2 rfl ?_
    refine x_iload f_145_3 rfl ?_
    refine x_iload f_145_5 rfl ?_
    refine x_iload f_145_7 rfl ?_
    refine x_callSe f_145_9 (c_boxOf _ _ _ _ _ _ _) (by omega) rfl rfl rfl (Nat.le_of_ble_eq_true rfl) rfl ?_
    refine x_istore (ls1 := [.ref 33, .int (nI a), .int (nI b), .int (nI c), .int (nI d), .int (nI e), .int (nI f), .int (nI (bx a b c d e f)), mj_unset, mj_unset, mj_unset]) f_145_12 (Nat.le_of_ble_eq_true rfl) rfl ?_
    refine x_aload_n f_145_14 rfl ?_
    refine x_getR f_145_15 S.k33 (by decide) S.r23 ?_
    refine x_iload f_145_18 rfl ?_
    refine x_iald (j := (bx a b c d e f)) f_145_20 S.k48 (by omega) (by decide) ?_
    refine x_topi (w := nI ((LV G a b c d e f).1)) hm.1 ?_
    refine x_ifN_le (t := 32) f_145_21 (by decide) (by omega) (fun c_1 => by omega) (fun c_1 => ?_)
    refine x_aload_n f_145_24 rfl ?_
    refine x_getR f_145_25 S.k33 (by decide) S.r23 ?_
    refine x_iload f_145_28 rfl ?_
    refine x_iald (j := (bx a b c d e f)) f_145_30 S.k48 (by omega) (by decide) ?_
    refine x_topi (w := nI ((LV G a b c d e f).1)) hm.1 ?_
    refine x_retI f_145_31 rfl ?_
    exact ⟨rfl, hC, ME.rf _, hm.1, hm.2, FRX.rf _ _, Mn.rf _⟩
theorem leaves_all {jm w : Nat} {G : Gd} {W : Nat → Nat} (hW5 : W 0 ≤ 5 ∧ W 1 ≤ 5 ∧ W 2 ≤ 5) : ∀ s, LvP jm w G W s
  | 0 => leaves_0 hW5
  | s + 1 => leaves_s hW5 (leaves_all hW5 s)
end
section
theorem f_147_7 : mj_fetch 147 7 = some (.iload_n 2, 0, 0) := by decide +kernel
theorem f_147_8 : mj_fetch 147 8 = some (.ldc 53, 46656, 0) := by decide +kernel
theorem f_147_10 : mj_fetch 147 10 = some (.if_icmp .ge 16, 0, 0) := by decide +kernel
theorem f_147_13 : mj_fetch 147 13 = some (.aload_n 0, 0, 0) := by decide +kernel
theorem f_147_14 : mj_fetch 147 14 = some (.getfield 54, 11, 23) := by decide +kernel
theorem f_147_17 : mj_fetch 147 17 = some (.iload_n 2, 0, 0) := by decide +kernel
theorem f_147_18 : mj_fetch 147 18 = some (.iconst 0, 0, 0) := by decide +kernel
theorem f_147_19 : mj_fetch 147 19 = some (.iastore, 0, 0) := by decide +kernel
theorem f_147_20 : mj_fetch 147 20 = some (.iinc 2 1, 0, 0) := by decide +kernel
theorem f_147_23 : mj_fetch 147 23 = some (.goto (-16), 0, 0) := by decide +kernel
theorem f_147_26 : mj_fetch 147 26 = some (.aload_n 0, 0, 0) := by decide +kernel
theorem f_147_27 : mj_fetch 147 27 = some (.iconst 0, 0, 0) := by decide +kernel
theorem f_147_28 : mj_fetch 147 28 = some (.aload_n 0, 0, 0) := by decide +kernel
theorem f_147_29 : mj_fetch 147 29 = some (.iconst 0, 0, 0) := by decide +kernel
theorem f_147_30 : mj_fetch 147 30 = some (.invokevirtual 188, 143, 0) := by decide +kernel
theorem f_147_33 : mj_fetch 147 33 = some (.iconst 0, 0, 0) := by decide +kernel
theorem f_147_34 : mj_fetch 147 34 = some (.aload_n 0, 0, 0) := by decide +kernel
theorem f_147_35 : mj_fetch 147 35 = some (.iconst 1, 0, 0) := by decide +kernel
theorem f_147_36 : mj_fetch 147 36 = some (.invokevirtual 188, 143, 0) := by decide +kernel
theorem f_147_39 : mj_fetch 147 39 = some (.iconst 0, 0, 0) := by decide +kernel
theorem f_147_40 : mj_fetch 147 40 = some (.aload_n 0, 0, 0) := by decide +kernel
theorem f_147_41 : mj_fetch 147 41 = some (.iconst 2, 0, 0) := by decide +kernel
theorem f_147_42 : mj_fetch 147 42 = some (.invokevirtual 188, 143, 0) := by decide +kernel
theorem f_147_45 : mj_fetch 147 45 = some (.invokevirtual 201, 145, 0) := by decide +kernel
theorem f_147_48 : mj_fetch 147 48 = some (.ireturn, 0, 0) := by decide +kernel
theorem f_147_0 : mj_fetch 147 0 = some (.aload_n 0, 0, 0) := by decide +kernel
theorem f_147_1 : mj_fetch 147 1 = some (.iload_n 1, 0, 0) := by decide +kernel
theorem f_147_2 : mj_fetch 147 2 = some (.putfield 179, 11, 22) := by decide +kernel
theorem f_147_5 : mj_fetch 147 5 = some (.iconst 0, 0, 0) := by decide +kernel
theorem f_147_6 : mj_fetch 147 6 = some (.istore_n 2, 0, 0) := by decide +kernel
theorem f_148_0 : mj_fetch 148 0 = some (.aload_n 0, 0, 0) := by decide +kernel
theorem f_148_1 : mj_fetch 148 1 = some (.iload_n 1, 0, 0) := by decide +kernel
theorem f_148_2 : mj_fetch 148 2 = some (.invokevirtual 185, 137, 0) := by decide +kernel
theorem f_148_5 : mj_fetch 148 5 = some (.ifCond .eq 11, 0, 0) := by decide +kernel
theorem f_148_8 : mj_fetch 148 8 = some (.aload_n 0, 0, 0) := by decide +kernel
theorem f_148_9 : mj_fetch 148 9 = some (.iload_n 1, 0, 0) := by decide +kernel
theorem f_148_10 : mj_fetch 148 10 = some (.invokevirtual 208, 147, 0) := by decide +kernel
theorem f_148_13 : mj_fetch 148 13 = some (.goto 4, 0, 0) := by decide +kernel
theorem f_148_16 : mj_fetch 148 16 = some (.iconst (-1), 0, 0) := by decide +kernel
theorem f_148_17 : mj_fetch 148 17 = some (.ireturn, 0, 0) := by decide +kernel
theorem f_144_0 : mj_fetch 144 0 = some (.aload_n 0, 0, 0) := by decide +kernel
theorem f_144_1 : mj_fetch 144 1 = some (.iload_n 1, 0, 0) := by decide +kernel
theorem f_144_2 : mj_fetch 144 2 = some (.invokevirtual 185, 137, 0) := by decide +kernel
theorem f_144_5 : mj_fetch 144 5 = some (.ifCond .ne 5, 0, 0) := by decide +kernel
theorem f_144_8 : mj_fetch 144 8 = some (.iconst (-1), 0, 0) := by decide +kernel
theorem f_144_9 : mj_fetch 144 9 = some (.ireturn, 0, 0) := by decide +kernel
theorem f_144_10 : mj_fetch 144 10 = some (.aload_n 0, 0, 0) := by decide +kernel
theorem f_144_11 : mj_fetch 144 11 = some (.iload_n 1, 0, 0) := by decide +kernel
theorem f_144_12 : mj_fetch 144 12 = some (.putfield 179, 11, 22) := by decide +kernel
theorem f_144_15 : mj_fetch 144 15 = some (.aload_n 0, 0, 0) := by decide +kernel
theorem f_144_16 : mj_fetch 144 16 = some (.iconst 0, 0, 0) := by decide +kernel
theorem f_144_17 : mj_fetch 144 17 = some (.aload_n 0, 0, 0) := by decide +kernel
theorem f_144_18 : mj_fetch 144 18 = some (.iconst 0, 0, 0) := by decide +kernel
theorem f_144_19 : mj_fetch 144 19 = some (.invokevirtual 188, 143, 0) := by decide +kernel
theorem f_144_22 : mj_fetch 144 22 = some (.iconst 0, 0, 0) := by decide +kernel
theorem f_144_23 : mj_fetch 144 23 = some (.aload_n 0, 0, 0) := by decide +kernel
theorem f_144_24 : mj_fetch 144 24 = some (.iconst 1, 0, 0) := by decide +kernel
theorem f_144_25 : mj_fetch 144 25 = some (.invokevirtual 188, 143, 0) := by decide +kernel
theorem f_144_28 : mj_fetch 144 28 = some (.iconst 0, 0, 0) := by decide +kernel
theorem f_144_29 : mj_fetch 144 29 = some (.aload_n 0, 0, 0) := by decide +kernel
theorem f_144_30 : mj_fetch 144 30 = some (.iconst 2, 0, 0) := by decide +kernel
theorem f_144_31 : mj_fetch 144 31 = some (.invokevirtual 188, 143, 0) := by decide +kernel
theorem f_144_34 : mj_fetch 144 34 = some (.invokevirtual 191, 141, 0) := by decide +kernel
theorem f_144_37 : mj_fetch 144 37 = some (.ireturn, 0, 0) := by decide +kernel
/-- what a question may change in the model: what it keeps, and what it works with -/
def SQ (h g : mj_H) (jm : Nat) : Prop := MW g jm ∧ Rw h g [33, 39, 40, 41, 42, 43, 44, 48, 49, 50, 60, 61] ∧ ∀ q, q ∉ [1, 14, 15, 17, 22, 26, 29, 30, 31, 32, 33, 47] → mj_I g 33 q = mj_I h 33 q
theorem SQ.rf {h : mj_H} {jm : Nat} (w : MW h jm) : SQ h h jm := ⟨w, Rw.rf _ _, fun _ _ => rfl⟩
theorem SQ.trans {h g k : mj_H} {jm : Nat} (a : SQ h g jm) (b : SQ g k jm) : SQ h k jm := ⟨b.1, a.2.1.trans b.2.1, fun q hq => (b.2.2 q hq).trans (a.2.2 q hq)⟩
theorem SQ.me {h g : mj_H} {jm : Nat} (w : MW g jm) (e : ME h g) : SQ h g jm := ⟨w, e.1.mono (by decide), fun q hq => e.2 q (fun z => hq (by rw [z]; decide)) (fun z => hq (by rw [z]; decide)) (fun z => hq (by rw [z]; decide))⟩
theorem SQ.mv {h g : mj_H} {jm : Nat} (a : MV h g jm) : SQ h g jm := SQ.me a.1 (ME_MV a)
theorem MW_rw {h g : mj_H} {jm : Nat} {as : List Nat} (w : MW h jm) (r : Rw h g as) (hd : ∀ a, a ∈ [36, 39, 41, 42, 43, 44] → a ∉ as) : MW g jm := by
  have e36 : mj_I g 36 = mj_I h 36 := r.i (hd 36 (by decide))
  have e44 : mj_I g 44 = mj_I h 44 := r.i (hd 44 (by decide))
  refine ⟨r.sm w.1, fun a ha q hq => ?_, w.2.2.1, fun j hj => (w.2.2.2.1 j hj).to e36, fun j hj z hz => by rw [e44, vd_eq e36]; exact w.2.2.2.2 j hj z hz⟩
  rw [r.i (hd a (by simp only [List.mem_cons, List.not_mem_nil, or_false] at ha ⊢; omega))]
  exact w.2.1 a ha q hq
theorem SQ.set33 {h g : mj_H} {jm i : Nat} {x : Int32} (a : SQ h g jm) (hi : i ∈ [1, 14, 15, 17, 22, 26, 29, 30, 31, 32, 33, 47]) : SQ h (mj_setI g 33 i x) jm :=
  ⟨MW_33 a.1, a.2.1.set (by decide), fun q hq => (mj_I_ne (fun z => hq (by rw [z]; exact hi))).trans (a.2.2 q hq)⟩
theorem SQ.rows {h g k : mj_H} {jm : Nat} {as : List Nat} (a : SQ h g jm) (r : Rw g k as) (hd : ∀ a, a ∈ as → a ∈ [48, 49, 50, 60, 61]) : SQ h k jm := by
  refine ⟨MW_rw a.1 r (fun b hb q => ?_), a.2.1.trans (r.mono (fun b hb => ?_)), fun q hq => ?_⟩
  · have := hd b q
    simp only [List.mem_cons, List.not_mem_nil, or_false] at this hb
    omega
  · have := hd b hb
    simp only [List.mem_cons, List.not_mem_nil, or_false] at this ⊢
    omega
  · rw [r.i (fun z => by have := hd 33 z; revert this; decide)]
    exact a.2.2 q hq
def Wd (h : mj_H) (w : Nat) : Nat → Nat := fun a => whi h w a - wlo h w a
/-- the least proof of a window: how many leaves, how it begins -/
def LW (h : mj_H) (w : Nat) : Nat × Nat := LV (wg h w) 0 (Wd h w 0) 0 (Wd h w 1) 0 (Wd h w 2)
theorem c_wideC {g : mj_H} {jm w : Nat} {G : Gd} {W : Nat → Nat} (hC : CL g jm w G W) (hWd : ∀ a, a < 3 → whi g w a - wlo g w a = W a) {a : Nat} (ha : a < 3) : mxc 0 143 [.ref 33, .int (nI a)] g (fun r h' => r = some (.int (nI (W a))) ∧ h' = g) := by
  rw [← hWd a ha]
  exact c_wide hC.1.1 hC.2.1 hC.2.2.1 hC.2.2.2.1 ha
theorem Wd_5 {h : mj_H} {w jm : Nat} (hN : WN h w jm) : Wd h w 0 ≤ 5 ∧ Wd h w 1 ≤ 5 ∧ Wd h w 2 ≤ 5 := by
  have a0 := hN.2.2 0 (by decide)
  have a1 := hN.2.2 1 (by decide)
  have a2 := hN.2.2 2 (by decide)
  unfold Wd
  omega

set_option maxRecDepth 20000 in
theorem prove_l {h : mj_H} {w : Nat} {Q : Option Value → mj_H → Prop} (K : ∀ g : mj_H, SM g → Rw h g [48] → (∀ q, q < 46656 → mj_I g 48 q = 0) → mx 23 147 26 [.ref 33, .int (nI w), .int (nI 46656)] [] g Q) :
    ∀ (n k : Nat) (g : mj_H), k + n = 46656 → SM g → Rw h g [48] → (∀ q, q < k → mj_I g 48 q = 0) → mx 23 147 7 [.ref 33, .int (nI w), .int (nI k)] [] g Q := by
  intro n
  induction n with
  | zero =>
    intro k g hk S hR hz
    have hkk : k = 46656 := by omega
    subst hkk
    refine x_iload_n f_147_7 rfl ?_
    refine x_ldc (v := nI 46656) f_147_8 (by decide) ?_
    refine x_icmpN_ge (t := 26) f_147_10 (by decide) (by decide) (by decide) (fun c_1 => ?_) (fun c_1 => by omega)
    exact K g S hR hz
  | succ n ih =>
    intro k g hk S hR hz
    refine x_iload_n f_147_7 rfl ?_
    refine x_ldc (v := nI 46656) f_147_8 (by decide) ?_
    refine x_icmpN_ge (t := 26) f_147_10 (by decide) (by omega) (by decide) (fun c_1 => by omega) (fun c_1 => ?_)
    refine x_aload_n f_147_13 rfl ?_
    refine x_getR f_147_14 S.k33 (by decide) S.r23 ?_
    refine x_iload_n f_147_17 rfl ?_
    refine x_iconst (v := nI 0) f_147_18 (by decide) ?_
    refine x_iast (j := k) f_147_19 S.k48 (by decide) (by omega) (by decide) ?_
    refine x_iinc (v := nI (k + 1)) (ls1 := [.ref 33, .int (nI w), .int (nI (k + 1))]) f_147_20 rfl (by exact nI_add _ 1) rfl ?_
    refine x_goto (t := 7) f_147_23 (by decide) ?_
    refine ih (k + 1) _ (by omega) S (hR.set (by decide)) (fun q hq => ?_)
    by_cases hqk : q = k
    · subst hqk; exact mj_I_at _ _ _ _
    · exact (mj_I_ne hqk).trans (hz q (by omega))
set_option maxRecDepth 20000 in
set_option maxHeartbeats 4000000 in
theorem c_prove {h : mj_H} {jm w : Nat} (hW : MW h jm) (hw : w < 10) (hN : WN h w jm) : mxc 23 147 [.ref 33, .int (nI w)] h (fun r h' => r = some (.int (nI (LW h w).1)) ∧ CL h' jm w (wg h w) (Wd h w) ∧ ST h' 0 (Wd h w 0) 0 (Wd h w 1) 0 (Wd h w 2) ∧ SQ h h' jm) := by
  have S : SM h := hW.1
  show mx 23 147 0 [.ref 33, .int (nI w), mj_unset] [] h _
  refine x_aload_n f_147_0 rfl ?_
  refine x_iload_n f_147_1 rfl ?_
  refine x_putI f_147_2 S.k33 (by decide) ?_
  refine x_iconst (v := nI 0) f_147_5 (by decide) ?_
  refine x_istore_n (ls1 := [.ref 33, .int (nI w), .int (nI 0)]) f_147_6 (Nat.le_of_ble_eq_true rfl) rfl ?_
  refine prove_l (h := mj_setI h 33 22 (nI w)) ?_ 46656 0 _ (by omega) S (Rw.rf _ _) (fun q hq => by omega)
  intro g S hR hz
  have r2 : Rw h g [33, 48] := ((Rw.rf h [33, 48]).set (by decide)).trans (hR.mono (by decide))
  have e36 : mj_I g 36 = mj_I h 36 := r2.i (by decide)
  have e45 : mj_I g 45 = mj_I h 45 := r2.i (by decide)
  have e46 : mj_I g 46 = mj_I h 46 := r2.i (by decide)
  have e47 : mj_I g 47 = mj_I h 47 := r2.i (by decide)
  have hw5 := Wd_5 hN
  have a0 := hN.2.2 0 (by decide)
  have a1 := hN.2.2 1 (by decide)
  have a2 := hN.2.2 2 (by decide)
  have hWd : ∀ a, a < 3 → whi g w a - wlo g w a = Wd h w a := fun a _ => by unfold Wd whi wlo; rw [e46, e47]
  have hz2 : ∀ a b c d e f, BX (Wd h w) a b c d e f → mj_I g 48 (bx a b c d e f) = 0 := fun a b c d e f hB => hz _ (bx_lt (by unfold BX at hB; omega))
  have hC : CL g jm w (wg h w) (Wd h w) := by
    refine ⟨MW_rw (MW_33 hW) hR (by decide), hw, ?_, WN_to e45 e46 e47 hN, fun t p l => wg_to e36 e45 e46 w t p l, fun a ha => ?_, fun a b c d e f hB => Or.inl (hz2 a b c d e f hB), fun a b c d e f hB hs => absurd (hz2 a b c d e f hB) hs⟩
    · rw [hR.i (by decide)]; exact mj_I_at _ _ _ _
    · have q := hN.2.2 a ha
      have eq : wlo g w a = wlo h w a := by unfold wlo; rw [e46]
      rw [eq]
      unfold Wd
      omega
  refine x_aload_n f_147_26 rfl ?_
  refine x_iconst (v := nI 0) f_147_27 (by decide) ?_
  refine x_aload_n f_147_28 rfl ?_
  refine x_iconst (v := nI 0) f_147_29 (by decide) ?_
  refine x_callVe f_147_30 (c_wideC hC hWd (by decide)) (by omega) S.k33 (by decide) rfl rfl (Nat.le_of_ble_eq_true rfl) rfl ?_
  refine x_iconst (v := nI 0) f_147_33 (by decide) ?_
  refine x_aload_n f_147_34 rfl ?_
  refine x_iconst (v := nI 1) f_147_35 (by decide) ?_
  refine x_callVe f_147_36 (c_wideC hC hWd (by decide)) (by omega) S.k33 (by decide) rfl rfl (Nat.le_of_ble_eq_true rfl) rfl ?_
  refine x_iconst (v := nI 0) f_147_39 (by decide) ?_
  refine x_aload_n f_147_40 rfl ?_
  refine x_iconst (v := nI 2) f_147_41 (by decide) ?_
  refine x_callVe f_147_42 (c_wideC hC hWd (by decide)) (by omega) S.k33 (by decide) rfl rfl (Nat.le_of_ble_eq_true rfl) rfl ?_
  refine x_callV f_147_45 (leaves_all (Wd_5 hN) 15 0 (Wd h w 0) 0 (Wd h w 1) 0 (Wd h w 2) g (by unfold BX; omega) (by unfold spn; omega) hC) (by omega) S.k33 (by decide) rfl rfl (Nat.le_of_ble_eq_true rfl) rfl ?_
  rintro _ g2 ⟨rfl, hC2, hE2, t48, t49, _, _⟩
  refine x_retI f_147_48 rfl ?_
  refine ⟨rfl, hC2, ?_, ?_⟩
  · exact fun q => absurd (t48.symm.trans q) (nI_ne0 (LV_pos _ _ _ _ _ _ _) (by have := LV_216 (wg h w) (Nat.zero_le (Wd h w 0)) (Nat.zero_le (Wd h w 1)) (Nat.zero_le (Wd h w 2)) hw5.1 hw5.2.1 hw5.2.2; omega))
  · exact (((SQ.rf hW).set33 (by decide)).rows hR (by decide)).trans (SQ.me hC2.1 hE2)
set_option maxRecDepth 20000 in
theorem c_leaves {h : mj_H} {jm wm : Nat} (hW : MW h jm) (h_wm : wm ≤ 10) (e_wm : mj_I h 33 21 = nI wm) (hNN : ∀ i, i < wm → WN h i jm) (w : Int32) : mxc 24 148 [.ref 33, .int w] h (fun r h' => if mIn w wm then r = some (.int (nI (LW h w.toNatClampNeg).1)) ∧ SQ h h' jm else r = some (.int (-1)) ∧ h' = h) := by
  have S : SM h := hW.1
  show mx 24 148 0 [.ref 33, .int w] [] h _
  refine x_aload_n f_148_0 rfl ?_
  refine x_iload_n f_148_1 rfl ?_
  refine x_callVe f_148_2 (c_isWindow hW.1 _ (n := wm) (by omega) e_wm) (by omega) S.k33 (by decide) rfl rfl (Nat.le_of_ble_eq_true rfl) rfl ?_
  refine x_ifB_eq (t := 16) f_148_5 (by decide) (fun c_1 => ?_) (fun c_1 => ?_)
  · refine x_iconst (v := -1) f_148_16 (by decide) ?_
    refine x_retI f_148_17 rfl ?_
    exact mj_qF c_1 ⟨rfl, rfl⟩
  · obtain ⟨i, h_i, rfl⟩ := mIn_of c_1 (by omega)
    have hN := hNN i h_i
    simp only [nI_clamp (show i < 2 ^ 31 by omega)]
    refine x_aload_n f_148_8 rfl ?_
    refine x_iload_n f_148_9 rfl ?_
    refine x_callV f_148_10 (c_prove hW (by omega) hN) (by omega) S.k33 (by decide) rfl rfl (Nat.le_of_ble_eq_true rfl) rfl ?_
    rintro _ g ⟨rfl, _, _, hq⟩
    refine x_goto (t := 17) f_148_13 (by decide) ?_
    refine x_retI f_148_17 rfl ?_
    exact mj_qT c_1 ⟨rfl, hq⟩
/-- how many settings of a window are good -/
def GW (h : mj_H) (w : Nat) : Nat := gcN (wg h w) 0 (Wd h w 0) 0 (Wd h w 1) 0 (Wd h w 2)
set_option maxRecDepth 20000 in
theorem c_good {h : mj_H} {jm wm : Nat} (hW : MW h jm) (h_wm : wm ≤ 10) (e_wm : mj_I h 33 21 = nI wm) (hNN : ∀ i, i < wm → WN h i jm) (w : Int32) : mxc 7 144 [.ref 33, .int w] h (fun r h' => if mIn w wm then r = some (.int (nI (GW h w.toNatClampNeg))) ∧ SQ h h' jm else r = some (.int (-1)) ∧ h' = h) := by
  have S : SM h := hW.1
  show mx 7 144 0 [.ref 33, .int w] [] h _
  refine x_aload_n f_144_0 rfl ?_
  refine x_iload_n f_144_1 rfl ?_
  refine x_callVe f_144_2 (c_isWindow hW.1 _ (n := wm) (by omega) e_wm) (by omega) S.k33 (by decide) rfl rfl (Nat.le_of_ble_eq_true rfl) rfl ?_
  refine x_ifB_ne (t := 10) f_144_5 (by decide) (fun c_1 => ?_) (fun c_1 => ?_)
  · obtain ⟨i, h_i, rfl⟩ := mIn_of c_1 (by omega)
    have hN := hNN i h_i
    simp only [nI_clamp (show i < 2 ^ 31 by omega)]
    refine x_aload_n f_144_10 rfl ?_
    refine x_iload_n f_144_11 rfl ?_
    refine x_putI f_144_12 S.k33 (by decide) ?_
    have hC : MW (mj_setI h 33 22 (nI i)) jm := MW_33 hW
    have e_at : mj_I (mj_setI h 33 22 (nI i)) 33 22 = nI i := mj_I_at _ _ _ _
    have e36 : mj_I (mj_setI h 33 22 (nI i)) 36 = mj_I h 36 := mj_I_other (by decide)
    have e45 : mj_I (mj_setI h 33 22 (nI i)) 45 = mj_I h 45 := mj_I_other (by decide)
    have e46 : mj_I (mj_setI h 33 22 (nI i)) 46 = mj_I h 46 := mj_I_other (by decide)
    have e47 : mj_I (mj_setI h 33 22 (nI i)) 47 = mj_I h 47 := mj_I_other (by decide)
    have hN2 : WN (mj_setI h 33 22 (nI i)) i jm := WN_to e45 e46 e47 hN
    have b0 := hN2.2.2 0 (by decide)
    have b1 := hN2.2.2 1 (by decide)
    have b2 := hN2.2.2 2 (by decide)
    refine x_aload_n f_144_15 rfl ?_
    refine x_iconst (v := nI 0) f_144_16 (by decide) ?_
    refine x_aload_n f_144_17 rfl ?_
    refine x_iconst (v := nI 0) f_144_18 (by decide) ?_
    refine x_callVe f_144_19 (c_wide hC.1 (by omega) e_at hN2 (by decide)) (by omega) S.k33 (by decide) rfl rfl (Nat.le_of_ble_eq_true rfl) rfl ?_
    refine x_iconst (v := nI 0) f_144_22 (by decide) ?_
    refine x_aload_n f_144_23 rfl ?_
    refine x_iconst (v := nI 1) f_144_24 (by decide) ?_
    refine x_callVe f_144_25 (c_wide hC.1 (by omega) e_at hN2 (by decide)) (by omega) S.k33 (by decide) rfl rfl (Nat.le_of_ble_eq_true rfl) rfl ?_
    refine x_iconst (v := nI 0) f_144_28 (by decide) ?_
    refine x_aload_n f_144_29 rfl ?_
    refine x_iconst (v := nI 2) f_144_30 (by decide) ?_
    refine x_callVe f_144_31 (c_wide hC.1 (by omega) e_at hN2 (by decide)) (by omega) S.k33 (by decide) rfl rfl (Nat.le_of_ble_eq_true rfl) rfl ?_
    refine x_callV f_144_34 (c_goodIn (by omega) e_at hN2 hC (by omega) (by omega) (by omega) (by omega) (by omega) (by omega)) (by omega) S.k33 (by decide) rfl rfl (Nat.le_of_ble_eq_true rfl) rfl ?_
    rintro _ g ⟨rfl, hv⟩
    refine x_retI f_144_37 rfl ?_
    refine mj_qT c_1 ⟨?_, ((SQ.rf hW).set33 (by decide)).trans (SQ.mv hv)⟩
    rw [gc_eq (wg_to e36 e45 e46 i)]
    unfold whi wlo
    rw [e46, e47]
    rfl
  · refine x_iconst (v := -1) f_144_8 (by decide) ?_
    refine x_retI f_144_9 rfl ?_
    exact mj_qF c_1 ⟨rfl, rfl⟩
end
section
theorem f_149_0 : mj_fetch 149 0 = some (.aload_n 0, 0, 0) := by decide +kernel
theorem f_149_1 : mj_fetch 149 1 = some (.getfield 57, 11, 24) := by decide +kernel
theorem f_149_4 : mj_fetch 149 4 = some (.iload_n 1, 0, 0) := by decide +kernel
theorem f_149_5 : mj_fetch 149 5 = some (.iload_n 2, 0, 0) := by decide +kernel
theorem f_149_6 : mj_fetch 149 6 = some (.iload_n 3, 0, 0) := by decide +kernel
theorem f_149_7 : mj_fetch 149 7 = some (.iload 4, 0, 0) := by decide +kernel
theorem f_149_9 : mj_fetch 149 9 = some (.iload 5, 0, 0) := by decide +kernel
theorem f_149_11 : mj_fetch 149 11 = some (.iload 6, 0, 0) := by decide +kernel
theorem f_149_13 : mj_fetch 149 13 = some (.invokestatic 195, 139, 0) := by decide +kernel
theorem f_149_16 : mj_fetch 149 16 = some (.iaload, 0, 0) := by decide +kernel
theorem f_149_17 : mj_fetch 149 17 = some (.istore 7, 0, 0) := by decide +kernel
theorem f_149_19 : mj_fetch 149 19 = some (.aload_n 0, 0, 0) := by decide +kernel
theorem f_149_20 : mj_fetch 149 20 = some (.getfield 60, 11, 25) := by decide +kernel
theorem f_149_23 : mj_fetch 149 23 = some (.aload_n 0, 0, 0) := by decide +kernel
theorem f_149_24 : mj_fetch 149 24 = some (.getfield 211, 11, 26) := by decide +kernel
theorem f_149_27 : mj_fetch 149 27 = some (.iload 7, 0, 0) := by decide +kernel
theorem f_149_29 : mj_fetch 149 29 = some (.iastore, 0, 0) := by decide +kernel
theorem f_149_30 : mj_fetch 149 30 = some (.aload_n 0, 0, 0) := by decide +kernel
theorem f_149_31 : mj_fetch 149 31 = some (.dup, 0, 0) := by decide +kernel
theorem f_149_32 : mj_fetch 149 32 = some (.getfield 211, 11, 26) := by decide +kernel
theorem f_149_35 : mj_fetch 149 35 = some (.iconst 1, 0, 0) := by decide +kernel
theorem f_149_36 : mj_fetch 149 36 = some (.iadd, 0, 0) := by decide +kernel
theorem f_149_37 : mj_fetch 149 37 = some (.putfield 211, 11, 26) := by decide +kernel
theorem f_149_40 : mj_fetch 149 40 = some (.iload 7, 0, 0) := by decide +kernel
theorem f_149_42 : mj_fetch 149 42 = some (.iconst 2, 0, 0) := by decide +kernel
theorem f_149_43 : mj_fetch 149 43 = some (.if_icmp .ge 4, 0, 0) := by decide +kernel
theorem f_149_46 : mj_fetch 149 46 = some (.return_, 0, 0) := by decide +kernel
theorem f_149_47 : mj_fetch 149 47 = some (.iload 7, 0, 0) := by decide +kernel
theorem f_149_49 : mj_fetch 149 49 = some (.iconst 2, 0, 0) := by decide +kernel
theorem f_149_50 : mj_fetch 149 50 = some (.isub, 0, 0) := by decide +kernel
theorem f_149_51 : mj_fetch 149 51 = some (.bipush 8, 0, 0) := by decide +kernel
theorem f_149_53 : mj_fetch 149 53 = some (.irem, 0, 0) := by decide +kernel
theorem f_149_54 : mj_fetch 149 54 = some (.istore 8, 0, 0) := by decide +kernel
theorem f_149_56 : mj_fetch 149 56 = some (.iload 7, 0, 0) := by decide +kernel
theorem f_149_58 : mj_fetch 149 58 = some (.bipush 10, 0, 0) := by decide +kernel
theorem f_149_60 : mj_fetch 149 60 = some (.if_icmp .ge 40, 0, 0) := by decide +kernel
theorem f_149_63 : mj_fetch 149 63 = some (.aload_n 0, 0, 0) := by decide +kernel
theorem f_149_64 : mj_fetch 149 64 = some (.iload_n 1, 0, 0) := by decide +kernel
theorem f_149_65 : mj_fetch 149 65 = some (.iload_n 1, 0, 0) := by decide +kernel
theorem f_149_66 : mj_fetch 149 66 = some (.iload 8, 0, 0) := by decide +kernel
theorem f_149_68 : mj_fetch 149 68 = some (.iadd, 0, 0) := by decide +kernel
theorem f_149_69 : mj_fetch 149 69 = some (.iload_n 3, 0, 0) := by decide +kernel
theorem f_149_70 : mj_fetch 149 70 = some (.iload 4, 0, 0) := by decide +kernel
theorem f_149_72 : mj_fetch 149 72 = some (.iload 5, 0, 0) := by decide +kernel
theorem f_149_74 : mj_fetch 149 74 = some (.iload 6, 0, 0) := by decide +kernel
theorem f_149_76 : mj_fetch 149 76 = some (.invokevirtual 214, 149, 0) := by decide +kernel
theorem f_149_79 : mj_fetch 149 79 = some (.aload_n 0, 0, 0) := by decide +kernel
theorem f_149_80 : mj_fetch 149 80 = some (.iload_n 1, 0, 0) := by decide +kernel
theorem f_149_81 : mj_fetch 149 81 = some (.iload 8, 0, 0) := by decide +kernel
theorem f_149_83 : mj_fetch 149 83 = some (.iadd, 0, 0) := by decide +kernel
theorem f_149_84 : mj_fetch 149 84 = some (.iconst 1, 0, 0) := by decide +kernel
theorem f_149_85 : mj_fetch 149 85 = some (.iadd, 0, 0) := by decide +kernel
theorem f_149_86 : mj_fetch 149 86 = some (.iload_n 2, 0, 0) := by decide +kernel
theorem f_149_87 : mj_fetch 149 87 = some (.iload_n 3, 0, 0) := by decide +kernel
theorem f_149_88 : mj_fetch 149 88 = some (.iload 4, 0, 0) := by decide +kernel
theorem f_149_90 : mj_fetch 149 90 = some (.iload 5, 0, 0) := by decide +kernel
theorem f_149_92 : mj_fetch 149 92 = some (.iload 6, 0, 0) := by decide +kernel
theorem f_149_94 : mj_fetch 149 94 = some (.invokevirtual 214, 149, 0) := by decide +kernel
theorem f_149_97 : mj_fetch 149 97 = some (.goto 80, 0, 0) := by decide +kernel
theorem f_149_177 : mj_fetch 149 177 = some (.return_, 0, 0) := by decide +kernel
theorem f_149_100 : mj_fetch 149 100 = some (.iload 7, 0, 0) := by decide +kernel
theorem f_149_102 : mj_fetch 149 102 = some (.bipush 18, 0, 0) := by decide +kernel
theorem f_149_104 : mj_fetch 149 104 = some (.if_icmp .ge 39, 0, 0) := by decide +kernel
theorem f_149_107 : mj_fetch 149 107 = some (.aload_n 0, 0, 0) := by decide +kernel
theorem f_149_108 : mj_fetch 149 108 = some (.iload_n 1, 0, 0) := by decide +kernel
theorem f_149_109 : mj_fetch 149 109 = some (.iload_n 2, 0, 0) := by decide +kernel
theorem f_149_110 : mj_fetch 149 110 = some (.iload_n 3, 0, 0) := by decide +kernel
theorem f_149_111 : mj_fetch 149 111 = some (.iload_n 3, 0, 0) := by decide +kernel
theorem f_149_112 : mj_fetch 149 112 = some (.iload 8, 0, 0) := by decide +kernel
theorem f_149_114 : mj_fetch 149 114 = some (.iadd, 0, 0) := by decide +kernel
theorem f_149_115 : mj_fetch 149 115 = some (.iload 5, 0, 0) := by decide +kernel
theorem f_149_117 : mj_fetch 149 117 = some (.iload 6, 0, 0) := by decide +kernel
theorem f_149_119 : mj_fetch 149 119 = some (.invokevirtual 214, 149, 0) := by decide +kernel
theorem f_149_122 : mj_fetch 149 122 = some (.aload_n 0, 0, 0) := by decide +kernel
theorem f_149_123 : mj_fetch 149 123 = some (.iload_n 1, 0, 0) := by decide +kernel
theorem f_149_124 : mj_fetch 149 124 = some (.iload_n 2, 0, 0) := by decide +kernel
theorem f_149_125 : mj_fetch 149 125 = some (.iload_n 3, 0, 0) := by decide +kernel
theorem f_149_126 : mj_fetch 149 126 = some (.iload 8, 0, 0) := by decide +kernel
theorem f_149_128 : mj_fetch 149 128 = some (.iadd, 0, 0) := by decide +kernel
theorem f_149_129 : mj_fetch 149 129 = some (.iconst 1, 0, 0) := by decide +kernel
theorem f_149_130 : mj_fetch 149 130 = some (.iadd, 0, 0) := by decide +kernel
theorem f_149_131 : mj_fetch 149 131 = some (.iload 4, 0, 0) := by decide +kernel
theorem f_149_133 : mj_fetch 149 133 = some (.iload 5, 0, 0) := by decide +kernel
theorem f_149_135 : mj_fetch 149 135 = some (.iload 6, 0, 0) := by decide +kernel
theorem f_149_137 : mj_fetch 149 137 = some (.invokevirtual 214, 149, 0) := by decide +kernel
theorem f_149_140 : mj_fetch 149 140 = some (.goto 37, 0, 0) := by decide +kernel
theorem f_149_143 : mj_fetch 149 143 = some (.aload_n 0, 0, 0) := by decide +kernel
theorem f_149_144 : mj_fetch 149 144 = some (.iload_n 1, 0, 0) := by decide +kernel
theorem f_149_145 : mj_fetch 149 145 = some (.iload_n 2, 0, 0) := by decide +kernel
theorem f_149_146 : mj_fetch 149 146 = some (.iload_n 3, 0, 0) := by decide +kernel
theorem f_149_147 : mj_fetch 149 147 = some (.iload 4, 0, 0) := by decide +kernel
theorem f_149_149 : mj_fetch 149 149 = some (.iload 5, 0, 0) := by decide +kernel
theorem f_149_151 : mj_fetch 149 151 = some (.iload 5, 0, 0) := by decide +kernel
theorem f_149_153 : mj_fetch 149 153 = some (.iload 8, 0, 0) := by decide +kernel
theorem f_149_155 : mj_fetch 149 155 = some (.iadd, 0, 0) := by decide +kernel
theorem f_149_156 : mj_fetch 149 156 = some (.invokevirtual 214, 149, 0) := by decide +kernel
theorem f_149_159 : mj_fetch 149 159 = some (.aload_n 0, 0, 0) := by decide +kernel
theorem f_149_160 : mj_fetch 149 160 = some (.iload_n 1, 0, 0) := by decide +kernel
theorem f_149_161 : mj_fetch 149 161 = some (.iload_n 2, 0, 0) := by decide +kernel
theorem f_149_162 : mj_fetch 149 162 = some (.iload_n 3, 0, 0) := by decide +kernel
theorem f_149_163 : mj_fetch 149 163 = some (.iload 4, 0, 0) := by decide +kernel
theorem f_149_165 : mj_fetch 149 165 = some (.iload 5, 0, 0) := by decide +kernel
theorem f_149_167 : mj_fetch 149 167 = some (.iload 8, 0, 0) := by decide +kernel
theorem f_149_169 : mj_fetch 149 169 = some (.iadd, 0, 0) := by decide +kernel
theorem f_149_170 : mj_fetch 149 170 = some (.iconst 1, 0, 0) := by decide +kernel
theorem f_149_171 : mj_fetch 149 171 = some (.iadd, 0, 0) := by decide +kernel
theorem f_149_172 : mj_fetch 149 172 = some (.iload 6, 0, 0) := by decide +kernel
theorem f_149_174 : mj_fetch 149 174 = some (.invokevirtual 214, 149, 0) := by decide +kernel
/-! ROWS OF LEAST PROOFS -/
theorem fo_in {cut val : Nat → Nat} : ∀ (n i : Nat) (x : Nat × Nat), fo cut val n i x = x ∨ ∃ k, i ≤ k ∧ k < i + n ∧ fo cut val n i x = (val k, cut k)
  | 0, i, x => Or.inl rfl
  | n + 1, i, x => by
    rcases fo_in (cut := cut) (val := val) n (i + 1) (bt x (cut i) (val i)) with q | ⟨k, k1, k2, q⟩
    · show fo cut val n (i + 1) (bt x (cut i) (val i)) = x ∨ ∃ k, i ≤ k ∧ k < i + (n + 1) ∧ fo cut val n (i + 1) (bt x (cut i) (val i)) = (val k, cut k)
      rw [q]
      unfold bt
      split
      · right; exact ⟨i, Nat.le_refl _, by omega, rfl⟩
      · left; rfl
    · right; exact ⟨k, by omega, by omega, q⟩
theorem LV_cut (G : Gd) {a b c d e f : Nat} (h1 : a ≤ b) (h2 : c ≤ d) (h3 : e ≤ f) (b5 : b ≤ 5) (d5 : d ≤ 5) (f5 : f ≤ 5) : ((LV G a b c d e f).2 < 2 ∧ (LV G a b c d e f).1 = 1 ∧ ¬ NU G a b c d e f) ∨ (NU G a b c d e f ∧ ((∃ i, i < b - a ∧ (LV G a b c d e f).2 = 2 + i ∧ (LV G a b c d e f).1 = (LV G a (a + i) c d e f).1 + (LV G (a + i + 1) b c d e f).1) ∨ (∃ i, i < d - c ∧ (LV G a b c d e f).2 = 10 + i ∧ (LV G a b c d e f).1 = (LV G a b c (c + i) e f).1 + (LV G a b (c + i + 1) d e f).1) ∨ (∃ i, i < f - e ∧ (LV G a b c d e f).2 = 18 + i ∧ (LV G a b c d e f).1 = (LV G a b c d e (e + i)).1 + (LV G a b c d (e + i + 1) f).1))) := by
  by_cases g0 : gcN G a b c d e f = 0
  · left
    rw [LV_eq G (by unfold spn; omega), if_pos g0]
    exact ⟨by decide, rfl, fun q => q.1 g0⟩
  · by_cases gz : gcN G a b c d e f = szN a b c d e f
    · left
      rw [LV_eq G (by unfold spn; omega), if_neg g0, if_pos gz]
      exact ⟨by decide, rfl, fun q => q.2 gz⟩
    · right
      refine ⟨⟨g0, gz⟩, ?_⟩
      have hq := LV_fo3 G h1 h2 h3 b5 d5 f5 g0 gz 0
      have h216 := LV_216 G h1 h2 h3 b5 d5 f5
      unfold fo3 at hq
      rcases fo_in (cut := fun i => 18 + i - e) (val := fun i => (LV G a b c d e i).1 + (LV G a b c d (i + 1) f).1) (f - e) e (fo (fun i => 10 + i - c) (fun i => (LV G a b c i e f).1 + (LV G a b (i + 1) d e f).1) (d - c) c
          (fo (fun i => 2 + i - a) (fun i => (LV G a i c d e f).1 + (LV G (i + 1) b c d e f).1) (b - a) a (1000, 0))) with q | ⟨k, k1, k2, q⟩
      · rw [q] at hq
        rcases fo_in (cut := fun i => 10 + i - c) (val := fun i => (LV G a b c i e f).1 + (LV G a b (i + 1) d e f).1) (d - c) c
          (fo (fun i => 2 + i - a) (fun i => (LV G a i c d e f).1 + (LV G (i + 1) b c d e f).1) (b - a) a (1000, 0)) with q | ⟨k, k1, k2, q⟩
        · rw [q] at hq
          rcases fo_in (cut := fun i => 2 + i - a) (val := fun i => (LV G a i c d e f).1 + (LV G (i + 1) b c d e f).1) (b - a) a (1000, 0) with q | ⟨k, k1, k2, q⟩
          · rw [q] at hq
            rw [hq] at h216
            exact absurd h216 (by decide)
          · rw [q] at hq
            obtain ⟨i, rfl⟩ : ∃ i, k = a + i := ⟨k - a, by omega⟩
            exact Or.inl ⟨i, by omega, by rw [hq]; show 2 + (a + i) - a = 2 + i; omega, by rw [hq]⟩
        · rw [q] at hq
          obtain ⟨i, rfl⟩ : ∃ i, k = c + i := ⟨k - c, by omega⟩
          exact Or.inr (Or.inl ⟨i, by omega, by rw [hq]; show 10 + (c + i) - c = 10 + i; omega, by rw [hq]⟩)
      · rw [q] at hq
        obtain ⟨i, rfl⟩ : ∃ i, k = e + i := ⟨k - e, by omega⟩
        exact Or.inr (Or.inr ⟨i, by omega, by rw [hq]; show 18 + (e + i) - e = 18 + i; omega, by rw [hq]⟩)
def pf (G : Gd) : Nat → Nat → Nat → Nat → Nat → Nat → Nat → List Nat
  | 0, _, _, _, _, _, _ => []
  | s + 1, a, b, c, d, e, f =>
    if (LV G a b c d e f).2 < 2 then [(LV G a b c d e f).2]
    else if (LV G a b c d e f).2 < 10 then [(LV G a b c d e f).2] ++ pf G s a (a + ((LV G a b c d e f).2 - 2) % 8) c d e f ++ pf G s (a + ((LV G a b c d e f).2 - 2) % 8 + 1) b c d e f
    else if (LV G a b c d e f).2 < 18 then [(LV G a b c d e f).2] ++ pf G s a b c (c + ((LV G a b c d e f).2 - 2) % 8) e f ++ pf G s a b (c + ((LV G a b c d e f).2 - 2) % 8 + 1) d e f
    else [(LV G a b c d e f).2] ++ pf G s a b c d e (e + ((LV G a b c d e f).2 - 2) % 8) ++ pf G s a b c d (e + ((LV G a b c d e f).2 - 2) % 8 + 1) f
/-- the row of the least proof of a box -/
def PF (G : Gd) (a b c d e f : Nat) : List Nat := pf G 16 a b c d e f
theorem pf_leaf {G : Gd} {s a b c d e f : Nat} (h : (LV G a b c d e f).2 < 2) : pf G (s + 1) a b c d e f = [(LV G a b c d e f).2] := by
  unfold pf
  rw [if_pos h]

theorem pf_c0 {G : Gd} {s a b c d e f i : Nat} (hi : i < 8) (h : (LV G a b c d e f).2 = 2 + i) : pf G (s + 1) a b c d e f = [2 + i] ++ pf G s a (a + i) c d e f ++ pf G s (a + i + 1) b c d e f := by
  conv => lhs; unfold pf
  rw [h, if_neg (show ¬ 2 + i < 2 by omega), if_pos (show 2 + i < 10 by omega), show (2 + i - 2) % 8 = i by omega]
theorem pf_c1 {G : Gd} {s a b c d e f i : Nat} (hi : i < 8) (h : (LV G a b c d e f).2 = 10 + i) : pf G (s + 1) a b c d e f = [10 + i] ++ pf G s a b c (c + i) e f ++ pf G s a b (c + i + 1) d e f := by
  conv => lhs; unfold pf
  rw [h, if_neg (show ¬ 10 + i < 2 by omega), if_neg (show ¬ 10 + i < 10 by omega), if_pos (show 10 + i < 18 by omega), show (10 + i - 2) % 8 = i by omega]
theorem pf_c2 {G : Gd} {s a b c d e f i : Nat} (hi : i < 8) (h : (LV G a b c d e f).2 = 18 + i) : pf G (s + 1) a b c d e f = [18 + i] ++ pf G s a b c d e (e + i) ++ pf G s a b c d (e + i + 1) f := by
  conv => lhs; unfold pf
  rw [h, if_neg (show ¬ 18 + i < 2 by omega), if_neg (show ¬ 18 + i < 10 by omega), if_neg (show ¬ 18 + i < 18 by omega), show (18 + i - 2) % 8 = i by omega]
theorem pf_step (G : Gd) : ∀ (s a b c d e f : Nat), a ≤ b → c ≤ d → e ≤ f → b ≤ 5 → d ≤ 5 → f ≤ 5 → spn a b c d e f < s → pf G (s + 1) a b c d e f = pf G s a b c d e f
  | 0, a, b, c, d, e, f, _, _, _, _, _, _, h => absurd h (Nat.not_lt_zero _)
  | s + 1, a, b, c, d, e, f, h1, h2, h3, b5, d5, f5, h => by
    unfold spn at h
    rcases LV_cut G h1 h2 h3 b5 d5 f5 with q | ⟨_, ⟨i, i1, i2, _⟩ | ⟨i, i1, i2, _⟩ | ⟨i, i1, i2, _⟩⟩
    · rw [pf_leaf q.1, pf_leaf q.1]
    · rw [pf_c0 (by omega) i2, pf_c0 (by omega) i2, pf_step G s a (a + i) c d e f (by omega) (by omega) (by omega) (by omega) (by omega) (by omega) (by unfold spn; omega), pf_step G s (a + i + 1) b c d e f (by omega) (by omega) (by omega) (by omega) (by omega) (by omega) (by unfold spn; omega)]
    · rw [pf_c1 (by omega) i2, pf_c1 (by omega) i2, pf_step G s a b c (c + i) e f (by omega) (by omega) (by omega) (by omega) (by omega) (by omega) (by unfold spn; omega), pf_step G s a b (c + i + 1) d e f (by omega) (by omega) (by omega) (by omega) (by omega) (by omega) (by unfold spn; omega)]
    · rw [pf_c2 (by omega) i2, pf_c2 (by omega) i2, pf_step G s a b c d e (e + i) (by omega) (by omega) (by omega) (by omega) (by omega) (by omega) (by unfold spn; omega), pf_step G s a b c d (e + i + 1) f (by omega) (by omega) (by omega) (by omega) (by omega) (by omega) (by unfold spn; omega)]
theorem PF_c0 {G : Gd} {a b c d e f i : Nat} (h1 : a ≤ b) (h2 : c ≤ d) (h3 : e ≤ f) (b5 : b ≤ 5) (d5 : d ≤ 5) (f5 : f ≤ 5) (hi : i < b - a) (h : (LV G a b c d e f).2 = 2 + i) : PF G a b c d e f = [2 + i] ++ PF G a (a + i) c d e f ++ PF G (a + i + 1) b c d e f := by
  unfold PF
  rw [pf_c0 (by omega) h, pf_step G 15 a (a + i) c d e f (by omega) (by omega) (by omega) (by omega) (by omega) (by omega) (by unfold spn; omega), pf_step G 15 (a + i + 1) b c d e f (by omega) (by omega) (by omega) (by omega) (by omega) (by omega) (by unfold spn; omega)]
theorem PF_c1 {G : Gd} {a b c d e f i : Nat} (h1 : a ≤ b) (h2 : c ≤ d) (h3 : e ≤ f) (b5 : b ≤ 5) (d5 : d ≤ 5) (f5 : f ≤ 5) (hi : i < d - c) (h : (LV G a b c d e f).2 = 10 + i) : PF G a b c d e f = [10 + i] ++ PF G a b c (c + i) e f ++ PF G a b (c + i + 1) d e f := by
  unfold PF
  rw [pf_c1 (by omega) h, pf_step G 15 a b c (c + i) e f (by omega) (by omega) (by omega) (by omega) (by omega) (by omega) (by unfold spn; omega), pf_step G 15 a b (c + i + 1) d e f (by omega) (by omega) (by omega) (by omega) (by omega) (by omega) (by unfold spn; omega)]
theorem PF_c2 {G : Gd} {a b c d e f i : Nat} (h1 : a ≤ b) (h2 : c ≤ d) (h3 : e ≤ f) (b5 : b ≤ 5) (d5 : d ≤ 5) (f5 : f ≤ 5) (hi : i < f - e) (h : (LV G a b c d e f).2 = 18 + i) : PF G a b c d e f = [18 + i] ++ PF G a b c d e (e + i) ++ PF G a b c d (e + i + 1) f := by
  unfold PF
  rw [pf_c2 (by omega) h, pf_step G 15 a b c d e (e + i) (by omega) (by omega) (by omega) (by omega) (by omega) (by omega) (by unfold spn; omega), pf_step G 15 a b c d (e + i + 1) f (by omega) (by omega) (by omega) (by omega) (by omega) (by omega) (by unfold spn; omega)]
theorem PF_leaf {G : Gd} {a b c d e f : Nat} (h : (LV G a b c d e f).2 < 2) : PF G a b c d e f = [(LV G a b c d e f).2] := pf_leaf h
theorem PF_len (G : Gd) : ∀ (s a b c d e f : Nat), a ≤ b → c ≤ d → e ≤ f → b ≤ 5 → d ≤ 5 → f ≤ 5 → spn a b c d e f < s → (PF G a b c d e f).length + 1 = 2 * (LV G a b c d e f).1
  | 0, a, b, c, d, e, f, _, _, _, _, _, _, h => absurd h (Nat.not_lt_zero _)
  | s + 1, a, b, c, d, e, f, h1, h2, h3, b5, d5, f5, h => by
    unfold spn at h
    rcases LV_cut G h1 h2 h3 b5 d5 f5 with q | ⟨_, ⟨i, i1, i2, i3⟩ | ⟨i, i1, i2, i3⟩ | ⟨i, i1, i2, i3⟩⟩
    · rw [PF_leaf q.1, q.2.1]; rfl
    · rw [PF_c0 h1 h2 h3 b5 d5 f5 i1 i2, i3]
      have k1 := PF_len G s a (a + i) c d e f (by omega) (by omega) (by omega) (by omega) (by omega) (by omega) (by unfold spn; omega)
      have k2 := PF_len G s (a + i + 1) b c d e f (by omega) (by omega) (by omega) (by omega) (by omega) (by omega) (by unfold spn; omega)
      simp only [List.length_append, List.length_cons, List.length_nil]
      omega
    · rw [PF_c1 h1 h2 h3 b5 d5 f5 i1 i2, i3]
      have k1 := PF_len G s a b c (c + i) e f (by omega) (by omega) (by omega) (by omega) (by omega) (by omega) (by unfold spn; omega)
      have k2 := PF_len G s a b (c + i + 1) d e f (by omega) (by omega) (by omega) (by omega) (by omega) (by omega) (by unfold spn; omega)
      simp only [List.length_append, List.length_cons, List.length_nil]
      omega
    · rw [PF_c2 h1 h2 h3 b5 d5 f5 i1 i2, i3]
      have k1 := PF_len G s a b c d e (e + i) (by omega) (by omega) (by omega) (by omega) (by omega) (by omega) (by unfold spn; omega)
      have k2 := PF_len G s a b c d (e + i + 1) f (by omega) (by omega) (by omega) (by omega) (by omega) (by omega) (by unfold spn; omega)
      simp only [List.length_append, List.length_cons, List.length_nil]
      omega
theorem getD_apL {l1 l2 : List Nat} {n d : Nat} (h : n < l1.length) : (l1 ++ l2).getD n d = l1.getD n d := by
  rw [List.getD_eq_getElem?_getD, List.getD_eq_getElem?_getD, List.getElem?_append_left h]
theorem getD_apR {l1 l2 : List Nat} {n d : Nat} (h : l1.length ≤ n) : (l1 ++ l2).getD n d = l2.getD (n - l1.length) d := by
  rw [List.getD_eq_getElem?_getD, List.getD_eq_getElem?_getD, List.getElem?_append_right h]
/-- behind a writing: the row holds the list from m on -/
def WrQ (h h' : mj_H) (m : Nat) (l : List Nat) : Prop := Rw h h' [33, 50] ∧ (∀ q, ¬ q = 26 → mj_I h' 33 q = mj_I h 33 q) ∧ mj_I h' 33 26 = nI (m + l.length) ∧ ∀ q, mj_I h' 50 q = if m ≤ q ∧ q < m + l.length then nI (l.getD (q - m) 0) else mj_I h 50 q
theorem WrQ.one (h : mj_H) (m v : Nat) : WrQ h (mj_setI (mj_setI h 50 m (nI v)) 33 26 (nI (m + 1))) m [v] := by
  refine ⟨((Rw.rf h _).set (by decide)).set (by decide), fun q hq => (mj_I_ne hq).trans (congrFun (mj_I_other (by decide)) q), mj_I_at _ _ _ _, fun q => ?_⟩
  rw [mj_I_other (by decide)]
  by_cases hq : q = m
  · subst hq
    rw [mj_I_at, if_pos ⟨Nat.le_refl _, by show q < q + 1; omega⟩, Nat.sub_self]
    rfl
  · rw [mj_I_ne hq, if_neg (fun z => hq (by have := z.2; simp only [List.length_cons, List.length_nil] at this; omega))]
theorem WrQ.trans {h g k : mj_H} {m : Nat} {l1 l2 : List Nat} (a : WrQ h g m l1) (b : WrQ g k (m + l1.length) l2) : WrQ h k m (l1 ++ l2) := by
  refine ⟨a.1.trans b.1, fun q hq => (b.2.1 q hq).trans (a.2.1 q hq), by rw [b.2.2.1, List.length_append, Nat.add_assoc], fun q => ?_⟩
  rw [b.2.2.2 q, a.2.2.2 q, List.length_append]
  by_cases h1 : m ≤ q ∧ q < m + l1.length
  · rw [if_neg (by omega), if_pos h1, if_pos (by omega), getD_apL (by omega)]
  · rw [if_neg h1]
    by_cases h2 : m + l1.length ≤ q ∧ q < m + l1.length + l2.length
    · rw [if_pos h2, if_pos (by omega), getD_apR (by omega), show q - m - l1.length = q - (m + l1.length) by omega]
    · rw [if_neg h2, if_neg (by omega)]
theorem CL.wr {h g : mj_H} {jm w m : Nat} {G : Gd} {W : Nat → Nat} {l : List Nat} (c : CL h jm w G W) (r : WrQ h g m l) : CL g jm w G W := by
  have e36 : mj_I g 36 = mj_I h 36 := r.1.i (by decide)
  have e45 : mj_I g 45 = mj_I h 45 := r.1.i (by decide)
  have e46 : mj_I g 46 = mj_I h 46 := r.1.i (by decide)
  have e47 : mj_I g 47 = mj_I h 47 := r.1.i (by decide)
  have e48 : mj_I g 48 = mj_I h 48 := r.1.i (by decide)
  have e49 : mj_I g 49 = mj_I h 49 := r.1.i (by decide)
  refine ⟨MW_rw c.1 r.1 (by decide), c.2.1, (r.2.1 22 (by decide)).trans c.2.2.1, WN_to e45 e46 e47 c.2.2.2.1, fun t p l => (wg_to e36 e45 e46 w t p l).trans (c.2.2.2.2.1 t p l), fun a ha => by unfold wlo; rw [e46]; exact c.2.2.2.2.2.1 a ha, ?_, MC.eq e48 c.2.2.2.2.2.2.2⟩
  unfold MO
  rw [e48, e49]
  exact c.2.2.2.2.2.2.1
theorem ST_wr {h g : mj_H} {m : Nat} {l : List Nat} (r : WrQ h g m l) {a b c d e f : Nat} (s : ST h a b c d e f) : ST g a b c d e f := by
  unfold ST
  rw [r.1.i (by decide)]
  exact s
/-- the contract of write on boxes of span s at most -/
def WrP (jm w : Nat) (G : Gd) (W : Nat → Nat) (s : Nat) : Prop := ∀ (a b c d e f m : Nat) (h : mj_H), BX W a b c d e f → spn a b c d e f ≤ s → CL h jm w G W → ST h a b c d e f → mj_I h 33 26 = nI m → m + 2 * (LV G a b c d e f).1 ≤ 501 →
  mxc (1 + s) 149 [.ref 33, .int (nI a), .int (nI b), .int (nI c), .int (nI d), .int (nI e), .int (nI f)] h (fun r h' => r = none ∧ WrQ h h' m (PF G a b c d e f))

set_option maxRecDepth 20000 in
set_option maxHeartbeats 4000000 in
theorem write_0 {jm w : Nat} {G : Gd} {W : Nat → Nat} (hW5 : W 0 ≤ 5 ∧ W 1 ≤ 5 ∧ W 2 ≤ 5) : WrP jm w G W 0 := by
  intro a b c d e f m h hB hsp hC hST e26 hm
  have S := hC.1.1
  have hB5 := hB
  unfold BX at hB5
  have hm2 := (hC.2.2.2.2.2.2.1 a b c d e f hB).resolve_left hST
  have e49v := hm2.2
  have pp := LV_pos G a b c d e f
  have hk : bx a b c d e f < 46656 := bx_lt (by omega)
  rcases LV_cut G (a := a) (b := b) (c := c) (d := d) (e := e) (f := f) (by omega) (by omega) (by omega) (by omega) (by omega) (by omega) with q | ⟨hNU, ⟨i, i1, i2, i3⟩ | ⟨i, i1, i2, i3⟩ | ⟨i, i1, i2, i3⟩⟩
  · obtain ⟨v, hv⟩ : ∃ v, (LV G a b c d e f).2 = v := ⟨_, rfl⟩
    have e49 : mj_I h 49 (bx a b c d e f) = nI v := by rw [e49v, hv]
    have hv2 : v < 2 := by omega
    show mx (1 + 0) 149 0 [.ref 33, .int (nI a), .int (nI b), .int (nI c), .int (nI d), .int (nI e), .int (nI f), mj_unset, mj_unset] [] h _
    refine x_aload_n f_149_0 rfl ?_
    refine x_getR f_149_1 S.k33 (by decide) S.r24 ?_
    refine x_iload_n f_149_4 rfl ?_
    refine x_iload_n f_149_5 rfl ?_
    refine x_iload_n f_149_6 rfl ?_
    refine x_iload f_149_7 rfl ?_
    refine x_iload f_149_9 rfl ?_
    refine x_iload f_149_11 rfl ?_
    refine x_callSe f_149_13 (c_boxOf _ _ _ _ _ _ _) (by omega) rfl rfl rfl (Nat.le_of_ble_eq_true rfl) rfl ?_
    refine x_iald (j := (bx a b c d e f)) f_149_16 S.k49 (by omega) (by decide) ?_
    refine x_topi (w := nI v) e49 ?_
    refine x_istore (ls1 := [.ref 33, .int (nI a), .int (nI b), .int (nI c), .int (nI d), .int (nI e), .int (nI f), .int (nI v), mj_unset]) f_149_17 (Nat.le_of_ble_eq_true rfl) rfl ?_
    refine x_aload_n f_149_19 rfl ?_
    refine x_getR f_149_20 S.k33 (by decide) S.r25 ?_
    refine x_aload_n f_149_23 rfl ?_
    refine x_getI f_149_24 S.k33 (by decide) ?_
    refine x_topi (w := nI m) e26 ?_
    refine x_iload f_149_27 rfl ?_
    refine x_iast (j := m) f_149_29 S.k50 (by decide) (by omega) (by decide) ?_
    refine x_aload_n f_149_30 rfl ?_
    refine x_dup f_149_31 rfl ?_
    refine x_getI f_149_32 S.k33 (by decide) ?_
    refine x_topi (w := nI m) ((congrFun (mj_I_other (by decide)) _).trans (e26)) ?_
    refine x_iconst (v := nI 1) f_149_35 (by decide) ?_
    refine x_iaddN f_149_36 ?_
    refine x_putI f_149_37 S.k33 (by decide) ?_
    refine x_iload f_149_40 rfl ?_
    refine x_iconst (v := nI 2) f_149_42 (by decide) ?_
    refine x_icmpN_ge (t := 47) f_149_43 (by decide) (by omega) (by decide) (fun c_1 => by omega) (fun c_1 => ?_)
    refine x_retV f_149_46 rfl ?_
    refine ⟨rfl, ?_⟩
    rw [PF_leaf q.1]
    rw [hv]
    exact WrQ.one h m v
  · unfold spn at hsp; omega
  · unfold spn at hsp; omega
  · unfold spn at hsp; omega
set_option maxRecDepth 20000 in
set_option maxHeartbeats 4000000 in
theorem write_s {jm w s : Nat} {G : Gd} {W : Nat → Nat} (hW5 : W 0 ≤ 5 ∧ W 1 ≤ 5 ∧ W 2 ≤ 5) (IH : WrP jm w G W s) : WrP jm w G W (s + 1) := by
  intro a b c d e f m h hB hsp hC hST e26 hm
  have S := hC.1.1
  have hB5 := hB
  unfold BX at hB5
  have hm2 := (hC.2.2.2.2.2.2.1 a b c d e f hB).resolve_left hST
  have e49v := hm2.2
  have pp := LV_pos G a b c d e f
  have hk : bx a b c d e f < 46656 := bx_lt (by omega)
  rcases LV_cut G (a := a) (b := b) (c := c) (d := d) (e := e) (f := f) (by omega) (by omega) (by omega) (by omega) (by omega) (by omega) with q | ⟨hNU, ⟨i, i1, i2, i3⟩ | ⟨i, i1, i2, i3⟩ | ⟨i, i1, i2, i3⟩⟩
  · obtain ⟨v, hv⟩ : ∃ v, (LV G a b c d e f).2 = v := ⟨_, rfl⟩
    have e49 : mj_I h 49 (bx a b c d e f) = nI v := by rw [e49v, hv]
    have hv2 : v < 2 := by omega
    show mx (1 + (s + 1)) 149 0 [.ref 33, .int (nI a), .int (nI b), .int (nI c), .int (nI d), .int (nI e), .int (nI f), mj_unset, mj_unset] [] h _
    refine x_aload_n f_149_0 rfl ?_
    refine x_getR f_149_1 S.k33 (by decide) S.r24 ?_
    refine x_iload_n f_149_4 rfl ?_
    refine x_iload_n f_149_5 rfl ?_
    refine x_iload_n f_149_6 rfl ?_
    refine x_iload f_149_7 rfl ?_
    refine x_iload f_149_9 rfl ?_
    refine x_iload f_149_11 rfl ?_
    refine x_callSe f_149_13 (c_boxOf _ _ _ _ _ _ _) (by omega) rfl rfl rfl (Nat.le_of_ble_eq_true rfl) rfl ?_
    refine x_iald (j := (bx a b c d e f)) f_149_16 S.k49 (by omega) (by decide) ?_
    refine x_topi (w := nI v) e49 ?_
    refine x_istore (ls1 := [.ref 33, .int (nI a), .int (nI b), .int (nI c), .int (nI d), .int (nI e), .int (nI f), .int (nI v), mj_unset]) f_149_17 (Nat.le_of_ble_eq_true rfl) rfl ?_
    refine x_aload_n f_149_19 rfl ?_
    refine x_getR f_149_20 S.k33 (by decide) S.r25 ?_
    refine x_aload_n f_149_23 rfl ?_
    refine x_getI f_149_24 S.k33 (by decide) ?_
    refine x_topi (w := nI m) e26 ?_
    refine x_iload f_149_27 rfl ?_
    refine x_iast (j := m) f_149_29 S.k50 (by decide) (by omega) (by decide) ?_
    refine x_aload_n f_149_30 rfl ?_
    refine x_dup f_149_31 rfl ?_
    refine x_getI f_149_32 S.k33 (by decide) ?_
    refine x_topi (w := nI m) ((congrFun (mj_I_other (by decide)) _).trans (e26)) ?_
    refine x_iconst (v := nI 1) f_149_35 (by decide) ?_
    refine x_iaddN f_149_36 ?_
    refine x_putI f_149_37 S.k33 (by decide) ?_
    refine x_iload f_149_40 rfl ?_
    refine x_iconst (v := nI 2) f_149_42 (by decide) ?_
    refine x_icmpN_ge (t := 47) f_149_43 (by decide) (by omega) (by decide) (fun c_1 => by omega) (fun c_1 => ?_)
    refine x_retV f_149_46 rfl ?_
    refine ⟨rfl, ?_⟩
    rw [PF_leaf q.1]
    rw [hv]
    exact WrQ.one h m v
  · have q0 := WrQ.one h m (2 + i)
    have hC1 := hC.wr q0
    have hMC := (hC.2.2.2.2.2.2.2 a b c d e f hB hST hNU).1 (a + i) (by omega) (by omega)
    have hS1 := ST_wr q0 hMC.1
    have hS2 := ST_wr q0 hMC.2
    have e49 : mj_I h 49 (bx a b c d e f) = nI (2 + i) := by rw [e49v, i2]
    have l1 := PF_len G 16 a (a + i) c d e f (by omega) (by omega) (by omega) (by omega) (by omega) (by omega) (by unfold spn; omega)
    have p1 := LV_pos G a (a + i) c d e f
    have p2 := LV_pos G (a + i + 1) b c d e f
    have hB1 : BX W a (a + i) c d e f := by unfold BX; omega
    have hB2 : BX W (a + i + 1) b c d e f := by unfold BX; omega
    unfold spn at hsp
    show mx (1 + (s + 1)) 149 0 [.ref 33, .int (nI a), .int (nI b), .int (nI c), .int (nI d), .int (nI e), .int (nI f), mj_unset, mj_unset] [] h _
    refine x_aload_n f_149_0 rfl ?_
    refine x_getR f_149_1 S.k33 (by decide) S.r24 ?_
    refine x_iload_n f_149_4 rfl ?_
    refine x_iload_n f_149_5 rfl ?_
    refine x_iload_n f_149_6 rfl ?_
    refine x_iload f_149_7 rfl ?_
    refine x_iload f_149_9 rfl ?_
    refine x_iload f_149_11 rfl ?_
    refine x_callSe f_149_13 (c_boxOf _ _ _ _ _ _ _) (by omega) rfl rfl rfl (Nat.le_of_ble_eq_true rfl) rfl ?_
    refine x_iald (j := (bx a b c d e f)) f_149_16 S.k49 (by omega) (by decide) ?_
    refine x_topi (w := nI (2 + i)) e49 ?_
    refine x_istore (ls1 := [.ref 33, .int (nI a), .int (nI b), .int (nI c), .int (nI d), .int (nI e), .int (nI f), .int (nI (2 + i)), mj_unset]) f_149_17 (Nat.le_of_ble_eq_true rfl) rfl ?_
    refine x_aload_n f_149_19 rfl ?_
    refine x_getR f_149_20 S.k33 (by decide) S.r25 ?_
    refine x_aload_n f_149_23 rfl ?_
    refine x_getI f_149_24 S.k33 (by decide) ?_
    refine x_topi (w := nI m) e26 ?_
    refine x_iload f_149_27 rfl ?_
    refine x_iast (j := m) f_149_29 S.k50 (by decide) (by omega) (by decide) ?_
    refine x_aload_n f_149_30 rfl ?_
    refine x_dup f_149_31 rfl ?_
    refine x_getI f_149_32 S.k33 (by decide) ?_
    refine x_topi (w := nI m) ((congrFun (mj_I_other (by decide)) _).trans (e26)) ?_
    refine x_iconst (v := nI 1) f_149_35 (by decide) ?_
    refine x_iaddN f_149_36 ?_
    refine x_putI f_149_37 S.k33 (by decide) ?_
    refine x_iload f_149_40 rfl ?_
    refine x_iconst (v := nI 2) f_149_42 (by decide) ?_
    refine x_icmpN_ge (t := 47) f_149_43 (by decide) (by omega) (by decide) (fun c_1 => ?_) (fun c_1 => by omega)
    refine x_iload f_149_47 rfl ?_
    refine x_iconst (v := nI 2) f_149_49 (by decide) ?_
    refine x_isubN f_149_50 (by omega) ?_
    refine x_bipush (v := nI 8) f_149_51 (by decide) ?_
    refine x_iremN f_149_53 (by omega) (by decide) (by decide) ?_
    refine x_topi (w := nI i) (by rw [show (2 + i - 2) % 8 = i by omega]) ?_
    refine x_istore (ls1 := [.ref 33, .int (nI a), .int (nI b), .int (nI c), .int (nI d), .int (nI e), .int (nI f), .int (nI (2 + i)), .int (nI i)]) f_149_54 (Nat.le_of_ble_eq_true rfl) rfl ?_
    refine x_iload f_149_56 rfl ?_
    refine x_bipush (v := nI 10) f_149_58 (by decide) ?_
    refine x_icmpN_ge (t := 100) f_149_60 (by decide) (by omega) (by decide) (fun c_2 => by omega) (fun c_2 => ?_)
    refine x_aload_n f_149_63 rfl ?_
    refine x_iload_n f_149_64 rfl ?_
    refine x_iload_n f_149_65 rfl ?_
    refine x_iload f_149_66 rfl ?_
    refine x_iaddN f_149_68 ?_
    refine x_iload_n f_149_69 rfl ?_
    refine x_iload f_149_70 rfl ?_
    refine x_iload f_149_72 rfl ?_
    refine x_iload f_149_74 rfl ?_
    refine x_callV f_149_76 (IH a (a + i) c d e f (m + 1) _ hB1 (by unfold spn; omega) hC1 hS1 q0.2.2.1 (by omega)) (by omega) S.k33 (by decide) rfl rfl (Nat.le_of_ble_eq_true rfl) rfl ?_
    rintro _ g1 ⟨rfl, q1⟩
    have hC2 := hC1.wr q1
    have e2 := q1.2.2.1
    have S := hC2.1.1
    refine x_aload_n f_149_79 rfl ?_
    refine x_iload_n f_149_80 rfl ?_
    refine x_iload f_149_81 rfl ?_
    refine x_iaddN f_149_83 ?_
    refine x_iconst (v := nI 1) f_149_84 (by decide) ?_
    refine x_iaddN f_149_85 ?_
    refine x_iload_n f_149_86 rfl ?_
    refine x_iload_n f_149_87 rfl ?_
    refine x_iload f_149_88 rfl ?_
    refine x_iload f_149_90 rfl ?_
    refine x_iload f_149_92 rfl ?_
    refine x_callV f_149_94 (IH (a + i + 1) b c d e f (m + 1 + (PF G a (a + i) c d e f).length) _ hB2 (by unfold spn; omega) hC2 (ST_wr q1 hS2) q1.2.2.1 (by omega)) (by omega) S.k33 (by decide) rfl rfl (Nat.le_of_ble_eq_true rfl) rfl ?_
    rintro _ g2 ⟨rfl, q2⟩
    refine x_goto (t := 177) f_149_97 (by decide) ?_
    refine x_retV f_149_177 rfl ?_
    refine ⟨rfl, ?_⟩
    rw [PF_c0 hB.1 hB.2.2.1 hB.2.2.2.2.1 (by omega) (by omega) (by omega) i1 i2]
    rw [List.append_assoc]
    exact q0.trans (q1.trans q2)
  · have q0 := WrQ.one h m (10 + i)
    have hC1 := hC.wr q0
    have hMC := (hC.2.2.2.2.2.2.2 a b c d e f hB hST hNU).2.1 (c + i) (by omega) (by omega)
    have hS1 := ST_wr q0 hMC.1
    have hS2 := ST_wr q0 hMC.2
    have e49 : mj_I h 49 (bx a b c d e f) = nI (10 + i) := by rw [e49v, i2]
    have l1 := PF_len G 16 a b c (c + i) e f (by omega) (by omega) (by omega) (by omega) (by omega) (by omega) (by unfold spn; omega)
    have p1 := LV_pos G a b c (c + i) e f
    have p2 := LV_pos G a b (c + i + 1) d e f
    have hB1 : BX W a b c (c + i) e f := by unfold BX; omega
    have hB2 : BX W a b (c + i + 1) d e f := by unfold BX; omega
    unfold spn at hsp
    show mx (1 + (s + 1)) 149 0 [.ref 33, .int (nI a), .int (nI b), .int (nI c), .int (nI d), .int (nI e), .int (nI f), mj_unset, mj_unset] [] h _
    refine x_aload_n f_149_0 rfl ?_
    refine x_getR f_149_1 S.k33 (by decide) S.r24 ?_
    refine x_iload_n f_149_4 rfl ?_
    refine x_iload_n f_149_5 rfl ?_
    refine x_iload_n f_149_6 rfl ?_
    refine x_iload f_149_7 rfl ?_
    refine x_iload f_149_9 rfl ?_
    refine x_iload f_149_11 rfl ?_
    refine x_callSe f_149_13 (c_boxOf _ _ _ _ _ _ _) (by omega) rfl rfl rfl (Nat.le_of_ble_eq_true rfl) rfl ?_
    refine x_iald (j := (bx a b c d e f)) f_149_16 S.k49 (by omega) (by decide) ?_
    refine x_topi (w := nI (10 + i)) e49 ?_
    refine x_istore (ls1 := [.ref 33, .int (nI a), .int (nI b), .int (nI c), .int (nI d), .int (nI e), .int (nI f), .int (nI (10 + i)), mj_unset]) f_149_17 (Nat.le_of_ble_eq_true rfl) rfl ?_
    refine x_aload_n f_149_19 rfl ?_
    refine x_getR f_149_20 S.k33 (by decide) S.r25 ?_
    refine x_aload_n f_149_23 rfl ?_
    refine x_getI f_149_24 S.k33 (by decide) ?_
    refine x_topi (w := nI m) e26 ?_
    refine x_iload f_149_27 rfl ?_
    refine x_iast (j := m) f_149_29 S.k50 (by decide) (by omega) (by decide) ?_
    refine x_aload_n f_149_30 rfl ?_
    refine x_dup f_149_31 rfl ?_
    refine x_getI f_149_32 S.k33 (by decide) ?_
    refine x_topi (w := nI m) ((congrFun (mj_I_other (by decide)) _).trans (e26)) ?_
    refine x_iconst (v := nI 1) f_149_35 (by decide) ?_
    refine x_iaddN f_149_36 ?_
    refine x_putI f_149_37 S.k33 (by decide) ?_
    refine x_iload f_149_40 rfl ?_
    refine x_iconst (v := nI 2) f_149_42 (by decide) ?_
    refine x_icmpN_ge (t := 47) f_149_43 (by decide) (by omega) (by decide) (fun c_1 => ?_) (fun c_1 => by omega)
    refine x_iload f_149_47 rfl ?_
    refine x_iconst (v := nI 2) f_149_49 (by decide) ?_
    refine x_isubN f_149_50 (by omega) ?_
    refine x_bipush (v := nI 8) f_149_51 (by decide) ?_
    refine x_iremN f_149_53 (by omega) (by decide) (by decide) ?_
    refine x_topi (w := nI i) (by rw [show (10 + i - 2) % 8 = i by omega]) ?_
    refine x_istore (ls1 := [.ref 33, .int (nI a), .int (nI b), .int (nI c), .int (nI d), .int (nI e), .int (nI f), .int (nI (10 + i)), .int (nI i)]) f_149_54 (Nat.le_of_ble_eq_true rfl) rfl ?_
    refine x_iload f_149_56 rfl ?_
    refine x_bipush (v := nI 10) f_149_58 (by decide) ?_
    refine x_icmpN_ge (t := 100) f_149_60 (by decide) (by omega) (by decide) (fun c_2 => ?_) (fun c_2 => by omega)
    refine x_iload f_149_100 rfl ?_
    refine x_bipush (v := nI 18) f_149_102 (by decide) ?_
    refine x_icmpN_ge (t := 143) f_149_104 (by decide) (by omega) (by decide) (fun c_3 => by omega) (fun c_3 => ?_)
    refine x_aload_n f_149_107 rfl ?_
    refine x_iload_n f_149_108 rfl ?_
    refine x_iload_n f_149_109 rfl ?_
    refine x_iload_n f_149_110 rfl ?_
    refine x_iload_n f_149_111 rfl ?_
    refine x_iload f_149_112 rfl ?_
    refine x_iaddN f_149_114 ?_
    refine x_iload f_149_115 rfl ?_
    refine x_iload f_149_117 rfl ?_
    refine x_callV f_149_119 (IH a b c (c + i) e f (m + 1) _ hB1 (by unfold spn; omega) hC1 hS1 q0.2.2.1 (by omega)) (by omega) S.k33 (by decide) rfl rfl (Nat.le_of_ble_eq_true rfl) rfl ?_
    rintro _ g1 ⟨rfl, q1⟩
    have hC2 := hC1.wr q1
    have e2 := q1.2.2.1
    have S := hC2.1.1
    refine x_aload_n f_149_122 rfl ?_
    refine x_iload_n f_149_123 rfl ?_
    refine x_iload_n f_149_124 rfl ?_
    refine x_iload_n f_149_125 rfl ?_
    refine x_iload f_149_126 rfl ?_
    refine x_iaddN f_149_128 ?_
    refine x_iconst (v := nI 1) f_149_129 (by decide) ?_
    refine x_iaddN f_149_130 ?_
    refine x_iload f_149_131 rfl ?_
    refine x_iload f_149_133 rfl ?_
    refine x_iload f_149_135 rfl ?_
    refine x_callV f_149_137 (IH a b (c + i + 1) d e f (m + 1 + (PF G a b c (c + i) e f).length) _ hB2 (by unfold spn; omega) hC2 (ST_wr q1 hS2) q1.2.2.1 (by omega)) (by omega) S.k33 (by decide) rfl rfl (Nat.le_of_ble_eq_true rfl) rfl ?_
    rintro _ g2 ⟨rfl, q2⟩
    refine x_goto (t := 177) f_149_140 (by decide) ?_
    refine x_retV f_149_177 rfl ?_
    refine ⟨rfl, ?_⟩
    rw [PF_c1 hB.1 hB.2.2.1 hB.2.2.2.2.1 (by omega) (by omega) (by omega) i1 i2]
    rw [List.append_assoc]
    exact q0.trans (q1.trans q2)
  · have q0 := WrQ.one h m (18 + i)
    have hC1 := hC.wr q0
    have hMC := (hC.2.2.2.2.2.2.2 a b c d e f hB hST hNU).2.2 (e + i) (by omega) (by omega)
    have hS1 := ST_wr q0 hMC.1
    have hS2 := ST_wr q0 hMC.2
    have e49 : mj_I h 49 (bx a b c d e f) = nI (18 + i) := by rw [e49v, i2]
    have l1 := PF_len G 16 a b c d e (e + i) (by omega) (by omega) (by omega) (by omega) (by omega) (by omega) (by unfold spn; omega)
    have p1 := LV_pos G a b c d e (e + i)
    have p2 := LV_pos G a b c d (e + i + 1) f
    have hB1 : BX W a b c d e (e + i) := by unfold BX; omega
    have hB2 : BX W a b c d (e + i + 1) f := by unfold BX; omega
    unfold spn at hsp
    show mx (1 + (s + 1)) 149 0 [.ref 33, .int (nI a), .int (nI b), .int (nI c), .int (nI d), .int (nI e), .int (nI f), mj_unset, mj_unset] [] h _
    refine x_aload_n f_149_0 rfl ?_
    refine x_getR f_149_1 S.k33 (by decide) S.r24 ?_
    refine x_iload_n f_149_4 rfl ?_
    refine x_iload_n f_149_5 rfl ?_
    refine x_iload_n f_149_6 rfl ?_
    refine x_iload f_149_7 rfl ?_
    refine x_iload f_149_9 rfl ?_
    refine x_iload f_149_11 rfl ?_
    refine x_callSe f_149_13 (c_boxOf _ _ _ _ _ _ _) (by omega) rfl rfl rfl (Nat.le_of_ble_eq_true rfl) rfl ?_
    refine x_iald (j := (bx a b c d e f)) f_149_16 S.k49 (by omega) (by decide) ?_
    refine x_topi (w := nI (18 + i)) e49 ?_
    refine x_istore (ls1 := [.ref 33, .int (nI a), .int (nI b), .int (nI c), .int (nI d), .int (nI e), .int (nI f), .int (nI (18 + i)), mj_unset]) f_149_17 (Nat.le_of_ble_eq_true rfl) rfl ?_
    refine x_aload_n f_149_19 rfl ?_
    refine x_getR f_149_20 S.k33 (by decide) S.r25 ?_
    refine x_aload_n f_149_23 rfl ?_
    refine x_getI f_149_24 S.k33 (by decide) ?_
    refine x_topi (w := nI m) e26 ?_
    refine x_iload f_149_27 rfl ?_
    refine x_iast (j := m) f_149_29 S.k50 (by decide) (by omega) (by decide) ?_
    refine x_aload_n f_149_30 rfl ?_
    refine x_dup f_149_31 rfl ?_
    refine x_getI f_149_32 S.k33 (by decide) ?_
    refine x_topi (w := nI m) ((congrFun (mj_I_other (by decide)) _).trans (e26)) ?_
    refine x_iconst (v := nI 1) f_149_35 (by decide) ?_
    refine x_iaddN f_149_36 ?_
    refine x_putI f_149_37 S.k33 (by decide) ?_
    refine x_iload f_149_40 rfl ?_
    refine x_iconst (v := nI 2) f_149_42 (by decide) ?_
    refine x_icmpN_ge (t := 47) f_149_43 (by decide) (by omega) (by decide) (fun c_1 => ?_) (fun c_1 => by omega)
    refine x_iload f_149_47 rfl ?_
    refine x_iconst (v := nI 2) f_149_49 (by decide) ?_
    refine x_isubN f_149_50 (by omega) ?_
    refine x_bipush (v := nI 8) f_149_51 (by decide) ?_
    refine x_iremN f_149_53 (by omega) (by decide) (by decide) ?_
    refine x_topi (w := nI i) (by rw [show (18 + i - 2) % 8 = i by omega]) ?_
    refine x_istore (ls1 := [.ref 33, .int (nI a), .int (nI b), .int (nI c), .int (nI d), .int (nI e), .int (nI f), .int (nI (18 + i)), .int (nI i)]) f_149_54 (Nat.le_of_ble_eq_true rfl) rfl ?_
    refine x_iload f_149_56 rfl ?_
    refine x_bipush (v := nI 10) f_149_58 (by decide) ?_
    refine x_icmpN_ge (t := 100) f_149_60 (by decide) (by omega) (by decide) (fun c_2 => ?_) (fun c_2 => by omega)
    refine x_iload f_149_100 rfl ?_
    refine x_bipush (v := nI 18) f_149_102 (by decide) ?_
    refine x_icmpN_ge (t := 143) f_149_104 (by decide) (by omega) (by decide) (fun c_3 => ?_) (fun c_3 => by omega)
    refine x_aload_n f_149_143 rfl ?_
    refine x_iload_n f_149_144 rfl ?_
    refine x_iload_n f_149_145 rfl ?_
    refine x_iload_n f_149_146 rfl ?_
    refine x_iload f_149_147 rfl ?_
    refine x_iload f_149_149 rfl ?_
    refine x_iload f_149_151 rfl ?_
    refine x_iload f_149_153 rfl ?_
    refine x_iaddN f_149_155 ?_
    refine x_callV f_149_156 (IH a b c d e (e + i) (m + 1) _ hB1 (by unfold spn; omega) hC1 hS1 q0.2.2.1 (by omega)) (by omega) S.k33 (by decide) rfl rfl (Nat.le_of_ble_eq_true rfl) rfl ?_
    rintro _ g1 ⟨rfl, q1⟩
    have hC2 := hC1.wr q1
    have e2 := q1.2.2.1
    have S := hC2.1.1
    refine x_aload_n f_149_159 rfl ?_
    refine x_iload_n f_149_160 rfl ?_
    refine x_iload_n f_149_161 rfl ?_
    refine x_iload_n f_149_162 rfl ?_
    refine x_iload f_149_163 rfl ?_
    refine x_iload f_149_165 rfl ?_
    refine x_iload f_149_167 rfl ?_
    refine x_iaddN f_149_169 ?_
    refine x_iconst (v := nI 1) f_149_170 (by decide) ?_
    refine x_iaddN f_149_171 ?_
    refine x_iload f_149_172 rfl ?_
    refine x_callV f_149_174 (IH a b c d (e + i + 1) f (m + 1 + (PF G a b c d e (e + i)).length) _ hB2 (by unfold spn; omega) hC2 (ST_wr q1 hS2) q1.2.2.1 (by omega)) (by omega) S.k33 (by decide) rfl rfl (Nat.le_of_ble_eq_true rfl) rfl ?_
    rintro _ g2 ⟨rfl, q2⟩
    refine x_retV f_149_177 rfl ?_
    refine ⟨rfl, ?_⟩
    rw [PF_c2 hB.1 hB.2.2.1 hB.2.2.2.2.1 (by omega) (by omega) (by omega) i1 i2]
    rw [List.append_assoc]
    exact q0.trans (q1.trans q2)
theorem write_all {jm w : Nat} {G : Gd} {W : Nat → Nat} (hW5 : W 0 ≤ 5 ∧ W 1 ≤ 5 ∧ W 2 ≤ 5) : ∀ s, WrP jm w G W s
  | 0 => write_0 hW5
  | s + 1 => write_s hW5 (write_all hW5 s)
end
section
theorem f_150_0 : mj_fetch 150 0 = some (.aload_n 0, 0, 0) := by decide +kernel
theorem f_150_1 : mj_fetch 150 1 = some (.iload_n 1, 0, 0) := by decide +kernel
theorem f_150_2 : mj_fetch 150 2 = some (.invokevirtual 208, 147, 0) := by decide +kernel
theorem f_150_5 : mj_fetch 150 5 = some (.pop, 0, 0) := by decide +kernel
theorem f_150_6 : mj_fetch 150 6 = some (.aload_n 0, 0, 0) := by decide +kernel
theorem f_150_7 : mj_fetch 150 7 = some (.iconst 0, 0, 0) := by decide +kernel
theorem f_150_8 : mj_fetch 150 8 = some (.putfield 211, 11, 26) := by decide +kernel
theorem f_150_11 : mj_fetch 150 11 = some (.aload_n 0, 0, 0) := by decide +kernel
theorem f_150_12 : mj_fetch 150 12 = some (.iconst 0, 0, 0) := by decide +kernel
theorem f_150_13 : mj_fetch 150 13 = some (.aload_n 0, 0, 0) := by decide +kernel
theorem f_150_14 : mj_fetch 150 14 = some (.iconst 0, 0, 0) := by decide +kernel
theorem f_150_15 : mj_fetch 150 15 = some (.invokevirtual 188, 143, 0) := by decide +kernel
theorem f_150_18 : mj_fetch 150 18 = some (.iconst 0, 0, 0) := by decide +kernel
theorem f_150_19 : mj_fetch 150 19 = some (.aload_n 0, 0, 0) := by decide +kernel
theorem f_150_20 : mj_fetch 150 20 = some (.iconst 1, 0, 0) := by decide +kernel
theorem f_150_21 : mj_fetch 150 21 = some (.invokevirtual 188, 143, 0) := by decide +kernel
theorem f_150_24 : mj_fetch 150 24 = some (.iconst 0, 0, 0) := by decide +kernel
theorem f_150_25 : mj_fetch 150 25 = some (.aload_n 0, 0, 0) := by decide +kernel
theorem f_150_26 : mj_fetch 150 26 = some (.iconst 2, 0, 0) := by decide +kernel
theorem f_150_27 : mj_fetch 150 27 = some (.invokevirtual 188, 143, 0) := by decide +kernel
theorem f_150_30 : mj_fetch 150 30 = some (.invokevirtual 214, 149, 0) := by decide +kernel
theorem f_150_33 : mj_fetch 150 33 = some (.return_, 0, 0) := by decide +kernel
theorem f_151_0 : mj_fetch 151 0 = some (.aload_n 0, 0, 0) := by decide +kernel
theorem f_151_1 : mj_fetch 151 1 = some (.iload_n 1, 0, 0) := by decide +kernel
theorem f_151_2 : mj_fetch 151 2 = some (.invokevirtual 185, 137, 0) := by decide +kernel
theorem f_151_5 : mj_fetch 151 5 = some (.ifCond .ne 5, 0, 0) := by decide +kernel
theorem f_151_8 : mj_fetch 151 8 = some (.iconst (-1), 0, 0) := by decide +kernel
theorem f_151_9 : mj_fetch 151 9 = some (.ireturn, 0, 0) := by decide +kernel
theorem f_151_10 : mj_fetch 151 10 = some (.aload_n 0, 0, 0) := by decide +kernel
theorem f_151_11 : mj_fetch 151 11 = some (.iload_n 1, 0, 0) := by decide +kernel
theorem f_151_12 : mj_fetch 151 12 = some (.invokevirtual 218, 150, 0) := by decide +kernel
theorem f_151_15 : mj_fetch 151 15 = some (.iload_n 2, 0, 0) := by decide +kernel
theorem f_151_16 : mj_fetch 151 16 = some (.iconst (-1), 0, 0) := by decide +kernel
theorem f_151_17 : mj_fetch 151 17 = some (.if_icmp .ne 10, 0, 0) := by decide +kernel
theorem f_151_20 : mj_fetch 151 20 = some (.aload_n 0, 0, 0) := by decide +kernel
theorem f_151_21 : mj_fetch 151 21 = some (.getfield 211, 11, 26) := by decide +kernel
theorem f_151_24 : mj_fetch 151 24 = some (.goto 27, 0, 0) := by decide +kernel
theorem f_151_27 : mj_fetch 151 27 = some (.iload_n 2, 0, 0) := by decide +kernel
theorem f_151_28 : mj_fetch 151 28 = some (.iconst 0, 0, 0) := by decide +kernel
theorem f_151_29 : mj_fetch 151 29 = some (.aload_n 0, 0, 0) := by decide +kernel
theorem f_151_30 : mj_fetch 151 30 = some (.getfield 211, 11, 26) := by decide +kernel
theorem f_151_33 : mj_fetch 151 33 = some (.iconst 1, 0, 0) := by decide +kernel
theorem f_151_34 : mj_fetch 151 34 = some (.isub, 0, 0) := by decide +kernel
theorem f_151_35 : mj_fetch 151 35 = some (.invokestatic 100, 112, 0) := by decide +kernel
theorem f_151_38 : mj_fetch 151 38 = some (.ifCond .eq 12, 0, 0) := by decide +kernel
theorem f_151_41 : mj_fetch 151 41 = some (.aload_n 0, 0, 0) := by decide +kernel
theorem f_151_42 : mj_fetch 151 42 = some (.getfield 60, 11, 25) := by decide +kernel
theorem f_151_45 : mj_fetch 151 45 = some (.iload_n 2, 0, 0) := by decide +kernel
theorem f_151_46 : mj_fetch 151 46 = some (.iaload, 0, 0) := by decide +kernel
theorem f_151_47 : mj_fetch 151 47 = some (.goto 4, 0, 0) := by decide +kernel
theorem f_151_50 : mj_fetch 151 50 = some (.iconst (-1), 0, 0) := by decide +kernel
theorem f_151_51 : mj_fetch 151 51 = some (.ireturn, 0, 0) := by decide +kernel
theorem f_153_17 : mj_fetch 153 17 = some (.iload_n 2, 0, 0) := by decide +kernel
theorem f_153_18 : mj_fetch 153 18 = some (.aload_n 0, 0, 0) := by decide +kernel
theorem f_153_19 : mj_fetch 153 19 = some (.getfield 211, 11, 26) := by decide +kernel
theorem f_153_22 : mj_fetch 153 22 = some (.if_icmp .ge 21, 0, 0) := by decide +kernel
theorem f_153_25 : mj_fetch 153 25 = some (.aload_n 0, 0, 0) := by decide +kernel
theorem f_153_26 : mj_fetch 153 26 = some (.getfield 63, 11, 27) := by decide +kernel
theorem f_153_29 : mj_fetch 153 29 = some (.iload_n 2, 0, 0) := by decide +kernel
theorem f_153_30 : mj_fetch 153 30 = some (.aload_n 0, 0, 0) := by decide +kernel
theorem f_153_31 : mj_fetch 153 31 = some (.getfield 60, 11, 25) := by decide +kernel
theorem f_153_34 : mj_fetch 153 34 = some (.iload_n 2, 0, 0) := by decide +kernel
theorem f_153_35 : mj_fetch 153 35 = some (.iaload, 0, 0) := by decide +kernel
theorem f_153_36 : mj_fetch 153 36 = some (.iastore, 0, 0) := by decide +kernel
theorem f_153_37 : mj_fetch 153 37 = some (.iinc 2 1, 0, 0) := by decide +kernel
theorem f_153_40 : mj_fetch 153 40 = some (.goto (-23), 0, 0) := by decide +kernel
theorem f_153_43 : mj_fetch 153 43 = some (.aload_n 0, 0, 0) := by decide +kernel
theorem f_153_44 : mj_fetch 153 44 = some (.aload_n 0, 0, 0) := by decide +kernel
theorem f_153_45 : mj_fetch 153 45 = some (.getfield 211, 11, 26) := by decide +kernel
theorem f_153_48 : mj_fetch 153 48 = some (.putfield 222, 11, 28) := by decide +kernel
theorem f_153_51 : mj_fetch 153 51 = some (.aload_n 0, 0, 0) := by decide +kernel
theorem f_153_52 : mj_fetch 153 52 = some (.getfield 222, 11, 28) := by decide +kernel
theorem f_153_55 : mj_fetch 153 55 = some (.ireturn, 0, 0) := by decide +kernel
theorem f_153_0 : mj_fetch 153 0 = some (.aload_n 0, 0, 0) := by decide +kernel
theorem f_153_1 : mj_fetch 153 1 = some (.iload_n 1, 0, 0) := by decide +kernel
theorem f_153_2 : mj_fetch 153 2 = some (.invokevirtual 185, 137, 0) := by decide +kernel
theorem f_153_5 : mj_fetch 153 5 = some (.ifCond .ne 5, 0, 0) := by decide +kernel
theorem f_153_8 : mj_fetch 153 8 = some (.iconst (-1), 0, 0) := by decide +kernel
theorem f_153_9 : mj_fetch 153 9 = some (.ireturn, 0, 0) := by decide +kernel
theorem f_153_10 : mj_fetch 153 10 = some (.aload_n 0, 0, 0) := by decide +kernel
theorem f_153_11 : mj_fetch 153 11 = some (.iload_n 1, 0, 0) := by decide +kernel
theorem f_153_12 : mj_fetch 153 12 = some (.invokevirtual 218, 150, 0) := by decide +kernel
theorem f_153_15 : mj_fetch 153 15 = some (.iconst 0, 0, 0) := by decide +kernel
theorem f_153_16 : mj_fetch 153 16 = some (.istore_n 2, 0, 0) := by decide +kernel
/-- the row of the least proof of a window -/
def PW (h : mj_H) (w : Nat) : List Nat := PF (wg h w) 0 (Wd h w 0) 0 (Wd h w 1) 0 (Wd h w 2)
theorem PW_len {h : mj_H} {w jm : Nat} (hN : WN h w jm) : (PW h w).length + 1 = 2 * (LW h w).1 := by
  have k := Wd_5 hN
  exact PF_len (wg h w) 16 0 (Wd h w 0) 0 (Wd h w 1) 0 (Wd h w 2) (by omega) (by omega) (by omega) (by omega) (by omega) (by omega) (by unfold spn; omega)
theorem LW_216 {h : mj_H} {w jm : Nat} (hN : WN h w jm) : (LW h w).1 ≤ 216 := by
  have k := Wd_5 hN
  exact LV_216 (wg h w) (by omega) (by omega) (by omega) (by omega) (by omega) (by omega)
theorem SQ.wr {h g k : mj_H} {jm m : Nat} {l : List Nat} (a : SQ h g jm) (r : WrQ g k m l) : SQ h k jm := by
  refine ⟨MW_rw a.1 r.1 (by decide), a.2.1.trans (r.1.mono (by decide)), fun q hq => (r.2.1 q (fun z => hq (by rw [z]; decide))).trans (a.2.2 q hq)⟩
theorem CL.set26 {g : mj_H} {jm w : Nat} {G : Gd} {W : Nat → Nat} {x : Int32} (c : CL g jm w G W) : CL (mj_setI g 33 26 x) jm w G W := by
  have e36 : mj_I (mj_setI g 33 26 x) 36 = mj_I g 36 := mj_I_other (by decide)
  have e45 : mj_I (mj_setI g 33 26 x) 45 = mj_I g 45 := mj_I_other (by decide)
  have e46 : mj_I (mj_setI g 33 26 x) 46 = mj_I g 46 := mj_I_other (by decide)
  have e47 : mj_I (mj_setI g 33 26 x) 47 = mj_I g 47 := mj_I_other (by decide)
  have e48 : mj_I (mj_setI g 33 26 x) 48 = mj_I g 48 := mj_I_other (by decide)
  have e49 : mj_I (mj_setI g 33 26 x) 49 = mj_I g 49 := mj_I_other (by decide)
  refine ⟨MW_33 c.1, c.2.1, (mj_I_ne (by decide)).trans c.2.2.1, WN_to e45 e46 e47 c.2.2.2.1, fun t p l => (wg_to e36 e45 e46 w t p l).trans (c.2.2.2.2.1 t p l), fun a ha => by unfold wlo; rw [e46]; exact c.2.2.2.2.2.1 a ha, ?_, MC.eq e48 c.2.2.2.2.2.2.2⟩
  unfold MO
  rw [e48, e49]
  exact c.2.2.2.2.2.2.1

set_option maxRecDepth 20000 in
set_option maxHeartbeats 4000000 in
theorem c_writeOut {h : mj_H} {jm w : Nat} (hW : MW h jm) (hw : w < 10) (hN : WN h w jm) : mxc 24 150 [.ref 33, .int (nI w)] h (fun r h' => r = none ∧ SQ h h' jm ∧ mj_I h' 33 26 = nI (PW h w).length ∧ ∀ q, q < (PW h w).length → mj_I h' 50 q = nI ((PW h w).getD q 0)) := by
  have S : SM h := hW.1
  have h216 := LW_216 hN
  have hw5 := Wd_5 hN
  show mx 24 150 0 [.ref 33, .int (nI w)] [] h _
  refine x_aload_n f_150_0 rfl ?_
  refine x_iload_n f_150_1 rfl ?_
  refine x_callV f_150_2 (c_prove hW hw hN) (by omega) S.k33 (by decide) rfl rfl (Nat.le_of_ble_eq_true rfl) rfl ?_
  rintro _ g ⟨rfl, hC, hST, hq⟩
  have S := hC.1.1
  refine x_pop f_150_5 rfl ?_
  refine x_aload_n f_150_6 rfl ?_
  refine x_iconst (v := nI 0) f_150_7 (by decide) ?_
  refine x_putI f_150_8 S.k33 (by decide) ?_
  have hST2 : ST (mj_setI g 33 26 (nI 0)) 0 (Wd h w 0) 0 (Wd h w 1) 0 (Wd h w 2) := by unfold ST; rw [mj_I_other (by decide)]; exact hST
  have f46 : mj_I g 46 = mj_I h 46 := hq.2.1.i (by decide)
  have f47 : mj_I g 47 = mj_I h 47 := hq.2.1.i (by decide)
  have hWd : ∀ a, a < 3 → whi (mj_setI g 33 26 (nI 0)) w a - wlo (mj_setI g 33 26 (nI 0)) w a = Wd h w a := fun a _ => by unfold Wd whi wlo; rw [mj_I_other (by decide), mj_I_other (by decide), f46, f47]
  refine x_aload_n f_150_11 rfl ?_
  refine x_iconst (v := nI 0) f_150_12 (by decide) ?_
  refine x_aload_n f_150_13 rfl ?_
  refine x_iconst (v := nI 0) f_150_14 (by decide) ?_
  refine x_callVe f_150_15 (c_wideC hC.set26 hWd (by decide)) (by omega) S.k33 (by decide) rfl rfl (Nat.le_of_ble_eq_true rfl) rfl ?_
  refine x_iconst (v := nI 0) f_150_18 (by decide) ?_
  refine x_aload_n f_150_19 rfl ?_
  refine x_iconst (v := nI 1) f_150_20 (by decide) ?_
  refine x_callVe f_150_21 (c_wideC hC.set26 hWd (by decide)) (by omega) S.k33 (by decide) rfl rfl (Nat.le_of_ble_eq_true rfl) rfl ?_
  refine x_iconst (v := nI 0) f_150_24 (by decide) ?_
  refine x_aload_n f_150_25 rfl ?_
  refine x_iconst (v := nI 2) f_150_26 (by decide) ?_
  refine x_callVe f_150_27 (c_wideC hC.set26 hWd (by decide)) (by omega) S.k33 (by decide) rfl rfl (Nat.le_of_ble_eq_true rfl) rfl ?_
  refine x_callV f_150_30 (write_all (Wd_5 hN) 15 0 (Wd h w 0) 0 (Wd h w 1) 0 (Wd h w 2) 0 _ (by unfold BX; omega) (by unfold spn; omega) hC.set26 hST2 (mj_I_at _ _ _ _) (by show 0 + 2 * (LW h w).1 ≤ 501; omega)) (by omega) S.k33 (by decide) rfl rfl (Nat.le_of_ble_eq_true rfl) rfl ?_
  rintro _ g2 ⟨rfl, q2⟩
  refine x_retV f_150_33 rfl ?_
  refine ⟨rfl, (hq.set33 (by decide)).wr q2, ?_, fun q hq => ?_⟩
  · rw [q2.2.2.1, Nat.zero_add]; rfl
  · rw [q2.2.2.2 q, Nat.zero_add, if_pos ⟨Nat.zero_le _, hq⟩]; rfl
/-- what is answered of a row of numbers -/
def pwA (l : List Nat) (k : Int32) : Int32 := if k = -1 then nI l.length else if mIn k l.length then nI (l.getD k.toNatClampNeg 0) else -1
set_option maxRecDepth 20000 in
theorem c_proof {h : mj_H} {jm wm : Nat} (hW : MW h jm) (h_wm : wm ≤ 10) (e_wm : mj_I h 33 21 = nI wm) (hNN : ∀ i, i < wm → WN h i jm) (w : Int32) (k : Int32) : mxc 25 151 [.ref 33, .int w, .int k] h (fun r h' => if mIn w wm then r = some (.int (pwA (PW h w.toNatClampNeg) k)) ∧ SQ h h' jm else r = some (.int (-1)) ∧ h' = h) := by
  have S : SM h := hW.1
  show mx 25 151 0 [.ref 33, .int w, .int k] [] h _
  refine x_aload_n f_151_0 rfl ?_
  refine x_iload_n f_151_1 rfl ?_
  refine x_callVe f_151_2 (c_isWindow hW.1 _ (n := wm) (by omega) e_wm) (by omega) S.k33 (by decide) rfl rfl (Nat.le_of_ble_eq_true rfl) rfl ?_
  refine x_ifB_ne (t := 10) f_151_5 (by decide) (fun c_1 => ?_) (fun c_1 => ?_)
  · obtain ⟨i, h_i, rfl⟩ := mIn_of c_1 (by omega)
    have hN := hNN i h_i
    have hl := PW_len hN
    have h216 := LW_216 hN
    simp only [nI_clamp (show i < 2 ^ 31 by omega)]
    refine x_aload_n f_151_10 rfl ?_
    refine x_iload_n f_151_11 rfl ?_
    refine x_callV f_151_12 (c_writeOut hW (by omega) hN) (by omega) S.k33 (by decide) rfl rfl (Nat.le_of_ble_eq_true rfl) rfl ?_
    rintro _ g ⟨rfl, hq, e26, e50⟩
    have S := hq.1.1
    refine x_iload_n f_151_15 rfl ?_
    refine x_iconst (v := -1) f_151_16 (by decide) ?_
    refine x_icmp_ne (t := 27) f_151_17 (by decide) (fun c_2 => ?_) (fun c_2 => ?_)
    · refine x_iload_n f_151_27 rfl ?_
      refine x_iconst (v := nI 0) f_151_28 (by decide) ?_
      refine x_aload_n f_151_29 rfl ?_
      refine x_getI f_151_30 S.k33 (by decide) ?_
      refine x_topi (w := nI ((PW h i).length)) e26 ?_
      refine x_iconst (v := nI 1) f_151_33 (by decide) ?_
      refine x_isub f_151_34 ?_
      refine x_callSe f_151_35 (c_inM _ _ (n := ((PW h i).length)) (by omega)) (by omega) rfl rfl rfl (Nat.le_of_ble_eq_true rfl) rfl ?_
      refine x_ifB_eq (t := 50) f_151_38 (by decide) (fun c_3 => ?_) (fun c_3 => ?_)
      · refine x_iconst (v := -1) f_151_50 (by decide) ?_
        refine x_retI f_151_51 rfl ?_
        exact mj_qT c_1 ⟨by unfold pwA; rw [if_neg c_2, if_neg c_3], hq⟩
      · obtain ⟨n, h_n, rfl⟩ := mIn_of c_3 (by omega)
        refine x_aload_n f_151_41 rfl ?_
        refine x_getR f_151_42 S.k33 (by decide) S.r25 ?_
        refine x_iload_n f_151_45 rfl ?_
        refine x_iald (j := n) f_151_46 S.k50 (by omega) (by decide) ?_
        refine x_topi (w := nI ((PW h i).getD n 0)) (e50 n h_n) ?_
        refine x_goto (t := 51) f_151_47 (by decide) ?_
        refine x_retI f_151_51 rfl ?_
        exact mj_qT c_1 ⟨by unfold pwA; rw [if_neg c_2, if_pos c_3, nI_clamp (show n < 2 ^ 31 by omega)], hq⟩
    · refine x_aload_n f_151_20 rfl ?_
      refine x_getI f_151_21 S.k33 (by decide) ?_
      refine x_topi (w := nI ((PW h i).length)) e26 ?_
      refine x_goto (t := 51) f_151_24 (by decide) ?_
      refine x_retI f_151_51 rfl ?_
      exact mj_qT c_1 ⟨by unfold pwA; rw [if_pos c_2], hq⟩
  · refine x_iconst (v := -1) f_151_8 (by decide) ?_
    refine x_retI f_151_9 rfl ?_
    exact mj_qF c_1 ⟨rfl, rfl⟩
set_option maxRecDepth 20000 in
theorem copy_l {h : mj_H} {v1 : Value} {l : List Nat} {N : Nat} (hN : l.length = N) (hN5 : N ≤ 500) {Q : Option Value → mj_H → Prop} (K : ∀ g : mj_H, SM g → Rw h g [51] → mj_I g 33 26 = nI N → (∀ q, mj_I g 51 q = if q < N then nI (l.getD q 0) else mj_I h 51 q) → mx 25 153 43 [.ref 33, v1, .int (nI N)] [] g Q) :
    ∀ (n k : Nat) (g : mj_H), k + n = N → SM g → Rw h g [51] → mj_I g 33 26 = nI N → (∀ q, q < N → mj_I g 50 q = nI (l.getD q 0)) → (∀ q, mj_I g 51 q = if q < k then nI (l.getD q 0) else mj_I h 51 q) → mx 25 153 17 [.ref 33, v1, .int (nI k)] [] g Q := by
  intro n
  induction n with
  | zero =>
    intro k g hk S hR e26 e50 hz
    have hkk : k = N := by omega
    subst hkk
    refine x_iload_n f_153_17 rfl ?_
    refine x_aload_n f_153_18 rfl ?_
    refine x_getI f_153_19 S.k33 (by decide) ?_
    refine x_topi (w := nI k) e26 ?_
    refine x_icmpN_ge (t := 43) f_153_22 (by decide) (by omega) (by omega) (fun c_1 => ?_) (fun c_1 => by omega)
    exact K g S hR e26 hz
  | succ n ih =>
    intro k g hk S hR e26 e50 hz
    refine x_iload_n f_153_17 rfl ?_
    refine x_aload_n f_153_18 rfl ?_
    refine x_getI f_153_19 S.k33 (by decide) ?_
    refine x_topi (w := nI N) e26 ?_
    refine x_icmpN_ge (t := 43) f_153_22 (by decide) (by omega) (by omega) (fun c_1 => by omega) (fun c_1 => ?_)
    refine x_aload_n f_153_25 rfl ?_
    refine x_getR f_153_26 S.k33 (by decide) S.r27 ?_
    refine x_iload_n f_153_29 rfl ?_
    refine x_aload_n f_153_30 rfl ?_
    refine x_getR f_153_31 S.k33 (by decide) S.r25 ?_
    refine x_iload_n f_153_34 rfl ?_
    refine x_iald (j := k) f_153_35 S.k50 (by omega) (by decide) ?_
    refine x_topi (w := nI (l.getD k 0)) (e50 k (by omega)) ?_
    refine x_iast (j := k) f_153_36 S.k51 (by decide) (by omega) (by decide) ?_
    refine x_iinc (v := nI (k + 1)) (ls1 := [.ref 33, v1, .int (nI (k + 1))]) f_153_37 rfl (by exact nI_add _ 1) rfl ?_
    refine x_goto (t := 17) f_153_40 (by decide) ?_
    refine ih (k + 1) _ (by omega) S (hR.set (by decide)) ((congrFun (mj_I_other (by decide)) 26).trans e26) (fun q hq => (congrFun (mj_I_other (by decide)) q).trans (e50 q hq)) (fun q => ?_)
    by_cases hqk : q = k
    · subst hqk; rw [mj_I_at, if_pos (by omega)]
    · rw [mj_I_ne hqk, hz q]
      by_cases h1 : q < k
      · rw [if_pos h1, if_pos (by omega)]
      · rw [if_neg h1, if_neg (by omega)]
set_option maxRecDepth 20000 in
theorem c_copy {h : mj_H} {jm wm : Nat} (hW : MW h jm) (h_wm : wm ≤ 10) (e_wm : mj_I h 33 21 = nI wm) (hNN : ∀ i, i < wm → WN h i jm) (w : Int32) : mxc 25 153 [.ref 33, .int w] h (fun r h' => if mIn w wm then r = some (.int (nI (PW h w.toNatClampNeg).length)) ∧ ∃ g, SQ h g jm ∧ Rw g h' [33, 51] ∧ (∀ q, ¬ q = 28 → mj_I h' 33 q = mj_I g 33 q) ∧ mj_I h' 33 28 = nI (PW h w.toNatClampNeg).length ∧ (∀ q, mj_I h' 51 q = if q < (PW h w.toNatClampNeg).length then nI ((PW h w.toNatClampNeg).getD q 0) else mj_I g 51 q) else r = some (.int (-1)) ∧ h' = h) := by
  have S : SM h := hW.1
  show mx 25 153 0 [.ref 33, .int w, mj_unset] [] h _
  refine x_aload_n f_153_0 rfl ?_
  refine x_iload_n f_153_1 rfl ?_
  refine x_callVe f_153_2 (c_isWindow hW.1 _ (n := wm) (by omega) e_wm) (by omega) S.k33 (by decide) rfl rfl (Nat.le_of_ble_eq_true rfl) rfl ?_
  refine x_ifB_ne (t := 10) f_153_5 (by decide) (fun c_1 => ?_) (fun c_1 => ?_)
  · obtain ⟨i, h_i, rfl⟩ := mIn_of c_1 (by omega)
    have hN := hNN i h_i
    have hl := PW_len hN
    have h216 := LW_216 hN
    simp only [nI_clamp (show i < 2 ^ 31 by omega)]
    refine x_aload_n f_153_10 rfl ?_
    refine x_iload_n f_153_11 rfl ?_
    refine x_callV f_153_12 (c_writeOut hW (by omega) hN) (by omega) S.k33 (by decide) rfl rfl (Nat.le_of_ble_eq_true rfl) rfl ?_
    rintro _ g ⟨rfl, hq, e26, e50⟩
    have S := hq.1.1
    refine x_iconst (v := nI 0) f_153_15 (by decide) ?_
    refine x_istore_n (ls1 := [.ref 33, .int (nI i), .int (nI 0)]) f_153_16 (Nat.le_of_ble_eq_true rfl) rfl ?_
    refine copy_l (h := g) (l := PW h i) (N := (PW h i).length) rfl (by omega) ?_ _ 0 g (Nat.zero_add _) S (Rw.rf _ _) e26 e50 (fun q => by rw [if_neg (by omega)])
    intro g2 S hR f26 hz
    refine x_aload_n f_153_43 rfl ?_
    refine x_aload_n f_153_44 rfl ?_
    refine x_getI f_153_45 S.k33 (by decide) ?_
    refine x_topi (w := nI ((PW h i).length)) f26 ?_
    refine x_putI f_153_48 S.k33 (by decide) ?_
    refine x_aload_n f_153_51 rfl ?_
    refine x_getI f_153_52 S.k33 (by decide) ?_
    refine x_topi (w := nI ((PW h i).length)) (mj_I_at _ _ _ _) ?_
    refine x_retI f_153_55 rfl ?_
    refine mj_qT c_1 ⟨rfl, g, hq, (hR.mono (by decide)).trans ((Rw.rf _ _).set (by decide)), fun q hq => (mj_I_ne hq).trans (congrFun (hR.i (by decide)) q), mj_I_at _ _ _ _, fun q => ?_⟩
    rw [mj_I_other (by decide)]
    exact hz q
  · refine x_iconst (v := -1) f_153_8 (by decide) ?_
    refine x_retI f_153_9 rfl ?_
    exact mj_qF c_1 ⟨rfl, rfl⟩
end
section
theorem f_156_0 : mj_fetch 156 0 = some (.aload_n 0, 0, 0) := by decide +kernel
theorem f_156_1 : mj_fetch 156 1 = some (.getfield 225, 11, 30) := by decide +kernel
theorem f_156_4 : mj_fetch 156 4 = some (.iconst (-1), 0, 0) := by decide +kernel
theorem f_156_5 : mj_fetch 156 5 = some (.if_icmp .eq 4, 0, 0) := by decide +kernel
theorem f_156_8 : mj_fetch 156 8 = some (.return_, 0, 0) := by decide +kernel
theorem f_156_9 : mj_fetch 156 9 = some (.aload_n 0, 0, 0) := by decide +kernel
theorem f_156_10 : mj_fetch 156 10 = some (.getfield 228, 11, 29) := by decide +kernel
theorem f_156_13 : mj_fetch 156 13 = some (.aload_n 0, 0, 0) := by decide +kernel
theorem f_156_14 : mj_fetch 156 14 = some (.getfield 222, 11, 28) := by decide +kernel
theorem f_156_17 : mj_fetch 156 17 = some (.if_icmp .ne 12, 0, 0) := by decide +kernel
theorem f_156_20 : mj_fetch 156 20 = some (.aload_n 0, 0, 0) := by decide +kernel
theorem f_156_21 : mj_fetch 156 21 = some (.aload_n 0, 0, 0) := by decide +kernel
theorem f_156_22 : mj_fetch 156 22 = some (.getfield 228, 11, 29) := by decide +kernel
theorem f_156_25 : mj_fetch 156 25 = some (.putfield 225, 11, 30) := by decide +kernel
theorem f_156_28 : mj_fetch 156 28 = some (.return_, 0, 0) := by decide +kernel
theorem f_156_29 : mj_fetch 156 29 = some (.aload_n 0, 0, 0) := by decide +kernel
theorem f_156_30 : mj_fetch 156 30 = some (.getfield 63, 11, 27) := by decide +kernel
theorem f_156_33 : mj_fetch 156 33 = some (.aload_n 0, 0, 0) := by decide +kernel
theorem f_156_34 : mj_fetch 156 34 = some (.getfield 228, 11, 29) := by decide +kernel
theorem f_156_37 : mj_fetch 156 37 = some (.iaload, 0, 0) := by decide +kernel
theorem f_156_38 : mj_fetch 156 38 = some (.istore 7, 0, 0) := by decide +kernel
theorem f_156_40 : mj_fetch 156 40 = some (.iload 7, 0, 0) := by decide +kernel
theorem f_156_42 : mj_fetch 156 42 = some (.iconst 2, 0, 0) := by decide +kernel
theorem f_156_43 : mj_fetch 156 43 = some (.if_icmp .ge 64, 0, 0) := by decide +kernel
theorem f_156_46 : mj_fetch 156 46 = some (.aload_n 0, 0, 0) := by decide +kernel
theorem f_156_47 : mj_fetch 156 47 = some (.iload_n 1, 0, 0) := by decide +kernel
theorem f_156_48 : mj_fetch 156 48 = some (.iload_n 2, 0, 0) := by decide +kernel
theorem f_156_49 : mj_fetch 156 49 = some (.iload_n 3, 0, 0) := by decide +kernel
theorem f_156_50 : mj_fetch 156 50 = some (.iload 4, 0, 0) := by decide +kernel
theorem f_156_52 : mj_fetch 156 52 = some (.iload 5, 0, 0) := by decide +kernel
theorem f_156_54 : mj_fetch 156 54 = some (.iload 6, 0, 0) := by decide +kernel
theorem f_156_56 : mj_fetch 156 56 = some (.invokevirtual 191, 141, 0) := by decide +kernel
theorem f_156_59 : mj_fetch 156 59 = some (.istore 8, 0, 0) := by decide +kernel
theorem f_156_61 : mj_fetch 156 61 = some (.iload 8, 0, 0) := by decide +kernel
theorem f_156_63 : mj_fetch 156 63 = some (.iload 7, 0, 0) := by decide +kernel
theorem f_156_65 : mj_fetch 156 65 = some (.ifCond .ne 18, 0, 0) := by decide +kernel
theorem f_156_68 : mj_fetch 156 68 = some (.iload_n 1, 0, 0) := by decide +kernel
theorem f_156_69 : mj_fetch 156 69 = some (.iload_n 2, 0, 0) := by decide +kernel
theorem f_156_70 : mj_fetch 156 70 = some (.iload_n 3, 0, 0) := by decide +kernel
theorem f_156_71 : mj_fetch 156 71 = some (.iload 4, 0, 0) := by decide +kernel
theorem f_156_73 : mj_fetch 156 73 = some (.iload 5, 0, 0) := by decide +kernel
theorem f_156_75 : mj_fetch 156 75 = some (.iload 6, 0, 0) := by decide +kernel
theorem f_156_77 : mj_fetch 156 77 = some (.invokestatic 198, 142, 0) := by decide +kernel
theorem f_156_80 : mj_fetch 156 80 = some (.goto 4, 0, 0) := by decide +kernel
theorem f_156_83 : mj_fetch 156 83 = some (.iconst 0, 0, 0) := by decide +kernel
theorem f_156_84 : mj_fetch 156 84 = some (.if_icmp .eq 12, 0, 0) := by decide +kernel
theorem f_156_87 : mj_fetch 156 87 = some (.aload_n 0, 0, 0) := by decide +kernel
theorem f_156_88 : mj_fetch 156 88 = some (.aload_n 0, 0, 0) := by decide +kernel
theorem f_156_89 : mj_fetch 156 89 = some (.getfield 228, 11, 29) := by decide +kernel
theorem f_156_92 : mj_fetch 156 92 = some (.putfield 225, 11, 30) := by decide +kernel
theorem f_156_95 : mj_fetch 156 95 = some (.return_, 0, 0) := by decide +kernel
theorem f_156_96 : mj_fetch 156 96 = some (.aload_n 0, 0, 0) := by decide +kernel
theorem f_156_97 : mj_fetch 156 97 = some (.dup, 0, 0) := by decide +kernel
theorem f_156_98 : mj_fetch 156 98 = some (.getfield 228, 11, 29) := by decide +kernel
theorem f_156_101 : mj_fetch 156 101 = some (.iconst 1, 0, 0) := by decide +kernel
theorem f_156_102 : mj_fetch 156 102 = some (.iadd, 0, 0) := by decide +kernel
theorem f_156_103 : mj_fetch 156 103 = some (.putfield 228, 11, 29) := by decide +kernel
theorem f_156_106 : mj_fetch 156 106 = some (.return_, 0, 0) := by decide +kernel
theorem f_156_107 : mj_fetch 156 107 = some (.iload 7, 0, 0) := by decide +kernel
theorem f_156_109 : mj_fetch 156 109 = some (.iconst 2, 0, 0) := by decide +kernel
theorem f_156_110 : mj_fetch 156 110 = some (.isub, 0, 0) := by decide +kernel
theorem f_156_111 : mj_fetch 156 111 = some (.bipush 8, 0, 0) := by decide +kernel
theorem f_156_113 : mj_fetch 156 113 = some (.idiv, 0, 0) := by decide +kernel
theorem f_156_114 : mj_fetch 156 114 = some (.istore 8, 0, 0) := by decide +kernel
theorem f_156_116 : mj_fetch 156 116 = some (.iload 7, 0, 0) := by decide +kernel
theorem f_156_118 : mj_fetch 156 118 = some (.iconst 2, 0, 0) := by decide +kernel
theorem f_156_119 : mj_fetch 156 119 = some (.isub, 0, 0) := by decide +kernel
theorem f_156_120 : mj_fetch 156 120 = some (.bipush 8, 0, 0) := by decide +kernel
theorem f_156_122 : mj_fetch 156 122 = some (.irem, 0, 0) := by decide +kernel
theorem f_156_123 : mj_fetch 156 123 = some (.istore 9, 0, 0) := by decide +kernel
theorem f_156_125 : mj_fetch 156 125 = some (.iload 8, 0, 0) := by decide +kernel
theorem f_156_127 : mj_fetch 156 127 = some (.ifCond .ne 9, 0, 0) := by decide +kernel
theorem f_156_130 : mj_fetch 156 130 = some (.iload_n 2, 0, 0) := by decide +kernel
theorem f_156_131 : mj_fetch 156 131 = some (.iload_n 1, 0, 0) := by decide +kernel
theorem f_156_132 : mj_fetch 156 132 = some (.isub, 0, 0) := by decide +kernel
theorem f_156_133 : mj_fetch 156 133 = some (.goto 31, 0, 0) := by decide +kernel
theorem f_156_164 : mj_fetch 156 164 = some (.istore 10, 0, 0) := by decide +kernel
theorem f_156_166 : mj_fetch 156 166 = some (.iload 9, 0, 0) := by decide +kernel
theorem f_156_168 : mj_fetch 156 168 = some (.iload 10, 0, 0) := by decide +kernel
theorem f_156_170 : mj_fetch 156 170 = some (.if_icmp .lt 12, 0, 0) := by decide +kernel
theorem f_156_173 : mj_fetch 156 173 = some (.aload_n 0, 0, 0) := by decide +kernel
theorem f_156_174 : mj_fetch 156 174 = some (.aload_n 0, 0, 0) := by decide +kernel
theorem f_156_175 : mj_fetch 156 175 = some (.getfield 228, 11, 29) := by decide +kernel
theorem f_156_178 : mj_fetch 156 178 = some (.putfield 225, 11, 30) := by decide +kernel
theorem f_156_181 : mj_fetch 156 181 = some (.return_, 0, 0) := by decide +kernel
theorem f_156_136 : mj_fetch 156 136 = some (.iload 8, 0, 0) := by decide +kernel
theorem f_156_138 : mj_fetch 156 138 = some (.iconst 1, 0, 0) := by decide +kernel
theorem f_156_139 : mj_fetch 156 139 = some (.if_icmp .ne 10, 0, 0) := by decide +kernel
theorem f_156_142 : mj_fetch 156 142 = some (.iload 4, 0, 0) := by decide +kernel
theorem f_156_144 : mj_fetch 156 144 = some (.iload_n 3, 0, 0) := by decide +kernel
theorem f_156_145 : mj_fetch 156 145 = some (.isub, 0, 0) := by decide +kernel
theorem f_156_146 : mj_fetch 156 146 = some (.goto 18, 0, 0) := by decide +kernel
theorem f_156_149 : mj_fetch 156 149 = some (.iload 8, 0, 0) := by decide +kernel
theorem f_156_151 : mj_fetch 156 151 = some (.iconst 2, 0, 0) := by decide +kernel
theorem f_156_152 : mj_fetch 156 152 = some (.if_icmp .ne 11, 0, 0) := by decide +kernel
theorem f_156_155 : mj_fetch 156 155 = some (.iload 6, 0, 0) := by decide +kernel
theorem f_156_157 : mj_fetch 156 157 = some (.iload 5, 0, 0) := by decide +kernel
theorem f_156_159 : mj_fetch 156 159 = some (.isub, 0, 0) := by decide +kernel
theorem f_156_160 : mj_fetch 156 160 = some (.goto 4, 0, 0) := by decide +kernel
theorem f_156_163 : mj_fetch 156 163 = some (.iconst 0, 0, 0) := by decide +kernel
theorem f_156_182 : mj_fetch 156 182 = some (.aload_n 0, 0, 0) := by decide +kernel
theorem f_156_183 : mj_fetch 156 183 = some (.dup, 0, 0) := by decide +kernel
theorem f_156_184 : mj_fetch 156 184 = some (.getfield 228, 11, 29) := by decide +kernel
theorem f_156_187 : mj_fetch 156 187 = some (.iconst 1, 0, 0) := by decide +kernel
theorem f_156_188 : mj_fetch 156 188 = some (.iadd, 0, 0) := by decide +kernel
theorem f_156_189 : mj_fetch 156 189 = some (.putfield 228, 11, 29) := by decide +kernel
theorem f_156_192 : mj_fetch 156 192 = some (.iload 8, 0, 0) := by decide +kernel
theorem f_156_194 : mj_fetch 156 194 = some (.ifCond .ne 40, 0, 0) := by decide +kernel
theorem f_156_197 : mj_fetch 156 197 = some (.aload_n 0, 0, 0) := by decide +kernel
theorem f_156_198 : mj_fetch 156 198 = some (.iload_n 1, 0, 0) := by decide +kernel
theorem f_156_199 : mj_fetch 156 199 = some (.iload_n 1, 0, 0) := by decide +kernel
theorem f_156_200 : mj_fetch 156 200 = some (.iload 9, 0, 0) := by decide +kernel
theorem f_156_202 : mj_fetch 156 202 = some (.iadd, 0, 0) := by decide +kernel
theorem f_156_203 : mj_fetch 156 203 = some (.iload_n 3, 0, 0) := by decide +kernel
theorem f_156_204 : mj_fetch 156 204 = some (.iload 4, 0, 0) := by decide +kernel
theorem f_156_206 : mj_fetch 156 206 = some (.iload 5, 0, 0) := by decide +kernel
theorem f_156_208 : mj_fetch 156 208 = some (.iload 6, 0, 0) := by decide +kernel
theorem f_156_210 : mj_fetch 156 210 = some (.invokevirtual 231, 156, 0) := by decide +kernel
theorem f_156_213 : mj_fetch 156 213 = some (.aload_n 0, 0, 0) := by decide +kernel
theorem f_156_214 : mj_fetch 156 214 = some (.iload_n 1, 0, 0) := by decide +kernel
theorem f_156_215 : mj_fetch 156 215 = some (.iload 9, 0, 0) := by decide +kernel
theorem f_156_217 : mj_fetch 156 217 = some (.iadd, 0, 0) := by decide +kernel
theorem f_156_218 : mj_fetch 156 218 = some (.iconst 1, 0, 0) := by decide +kernel
theorem f_156_219 : mj_fetch 156 219 = some (.iadd, 0, 0) := by decide +kernel
theorem f_156_220 : mj_fetch 156 220 = some (.iload_n 2, 0, 0) := by decide +kernel
theorem f_156_221 : mj_fetch 156 221 = some (.iload_n 3, 0, 0) := by decide +kernel
theorem f_156_222 : mj_fetch 156 222 = some (.iload 4, 0, 0) := by decide +kernel
theorem f_156_224 : mj_fetch 156 224 = some (.iload 5, 0, 0) := by decide +kernel
theorem f_156_226 : mj_fetch 156 226 = some (.iload 6, 0, 0) := by decide +kernel
theorem f_156_228 : mj_fetch 156 228 = some (.invokevirtual 231, 156, 0) := by decide +kernel
theorem f_156_231 : mj_fetch 156 231 = some (.goto 79, 0, 0) := by decide +kernel
theorem f_156_310 : mj_fetch 156 310 = some (.return_, 0, 0) := by decide +kernel
theorem f_156_234 : mj_fetch 156 234 = some (.iload 8, 0, 0) := by decide +kernel
theorem f_156_236 : mj_fetch 156 236 = some (.iconst 1, 0, 0) := by decide +kernel
theorem f_156_237 : mj_fetch 156 237 = some (.if_icmp .ne 39, 0, 0) := by decide +kernel
theorem f_156_240 : mj_fetch 156 240 = some (.aload_n 0, 0, 0) := by decide +kernel
theorem f_156_241 : mj_fetch 156 241 = some (.iload_n 1, 0, 0) := by decide +kernel
theorem f_156_242 : mj_fetch 156 242 = some (.iload_n 2, 0, 0) := by decide +kernel
theorem f_156_243 : mj_fetch 156 243 = some (.iload_n 3, 0, 0) := by decide +kernel
theorem f_156_244 : mj_fetch 156 244 = some (.iload_n 3, 0, 0) := by decide +kernel
theorem f_156_245 : mj_fetch 156 245 = some (.iload 9, 0, 0) := by decide +kernel
theorem f_156_247 : mj_fetch 156 247 = some (.iadd, 0, 0) := by decide +kernel
theorem f_156_248 : mj_fetch 156 248 = some (.iload 5, 0, 0) := by decide +kernel
theorem f_156_250 : mj_fetch 156 250 = some (.iload 6, 0, 0) := by decide +kernel
theorem f_156_252 : mj_fetch 156 252 = some (.invokevirtual 231, 156, 0) := by decide +kernel
theorem f_156_255 : mj_fetch 156 255 = some (.aload_n 0, 0, 0) := by decide +kernel
theorem f_156_256 : mj_fetch 156 256 = some (.iload_n 1, 0, 0) := by decide +kernel
theorem f_156_257 : mj_fetch 156 257 = some (.iload_n 2, 0, 0) := by decide +kernel
theorem f_156_258 : mj_fetch 156 258 = some (.iload_n 3, 0, 0) := by decide +kernel
theorem f_156_259 : mj_fetch 156 259 = some (.iload 9, 0, 0) := by decide +kernel
theorem f_156_261 : mj_fetch 156 261 = some (.iadd, 0, 0) := by decide +kernel
theorem f_156_262 : mj_fetch 156 262 = some (.iconst 1, 0, 0) := by decide +kernel
theorem f_156_263 : mj_fetch 156 263 = some (.iadd, 0, 0) := by decide +kernel
theorem f_156_264 : mj_fetch 156 264 = some (.iload 4, 0, 0) := by decide +kernel
theorem f_156_266 : mj_fetch 156 266 = some (.iload 5, 0, 0) := by decide +kernel
theorem f_156_268 : mj_fetch 156 268 = some (.iload 6, 0, 0) := by decide +kernel
theorem f_156_270 : mj_fetch 156 270 = some (.invokevirtual 231, 156, 0) := by decide +kernel
theorem f_156_273 : mj_fetch 156 273 = some (.goto 37, 0, 0) := by decide +kernel
theorem f_156_276 : mj_fetch 156 276 = some (.aload_n 0, 0, 0) := by decide +kernel
theorem f_156_277 : mj_fetch 156 277 = some (.iload_n 1, 0, 0) := by decide +kernel
theorem f_156_278 : mj_fetch 156 278 = some (.iload_n 2, 0, 0) := by decide +kernel
theorem f_156_279 : mj_fetch 156 279 = some (.iload_n 3, 0, 0) := by decide +kernel
theorem f_156_280 : mj_fetch 156 280 = some (.iload 4, 0, 0) := by decide +kernel
theorem f_156_282 : mj_fetch 156 282 = some (.iload 5, 0, 0) := by decide +kernel
theorem f_156_284 : mj_fetch 156 284 = some (.iload 5, 0, 0) := by decide +kernel
theorem f_156_286 : mj_fetch 156 286 = some (.iload 9, 0, 0) := by decide +kernel
theorem f_156_288 : mj_fetch 156 288 = some (.iadd, 0, 0) := by decide +kernel
theorem f_156_289 : mj_fetch 156 289 = some (.invokevirtual 231, 156, 0) := by decide +kernel
theorem f_156_292 : mj_fetch 156 292 = some (.aload_n 0, 0, 0) := by decide +kernel
theorem f_156_293 : mj_fetch 156 293 = some (.iload_n 1, 0, 0) := by decide +kernel
theorem f_156_294 : mj_fetch 156 294 = some (.iload_n 2, 0, 0) := by decide +kernel
theorem f_156_295 : mj_fetch 156 295 = some (.iload_n 3, 0, 0) := by decide +kernel
theorem f_156_296 : mj_fetch 156 296 = some (.iload 4, 0, 0) := by decide +kernel
theorem f_156_298 : mj_fetch 156 298 = some (.iload 5, 0, 0) := by decide +kernel
theorem f_156_300 : mj_fetch 156 300 = some (.iload 9, 0, 0) := by decide +kernel
theorem f_156_302 : mj_fetch 156 302 = some (.iadd, 0, 0) := by decide +kernel
theorem f_156_303 : mj_fetch 156 303 = some (.iconst 1, 0, 0) := by decide +kernel
theorem f_156_304 : mj_fetch 156 304 = some (.iadd, 0, 0) := by decide +kernel
theorem f_156_305 : mj_fetch 156 305 = some (.iload 6, 0, 0) := by decide +kernel
theorem f_156_307 : mj_fetch 156 307 = some (.invokevirtual 231, 156, 0) := by decide +kernel
/-! A ROW OF NUMBERS followed through the boxes of a window: the boxes that wait, the place; none: it is right -/
abbrev Bx6 : Type := Nat × Nat × Nat × Nat × Nat × Nat
def ck (G : Gd) (T : Nat → Nat) (n : Nat) : Nat → Nat → List Bx6 → Option Nat
  | 0, p, _ => some p
  | _ + 1, p, [] => if p < n then some p else none
  | k + 1, p, (a, b, c, d, e, f) :: r => if p = n then some p else
    if T p < 2 then (if gcN G a b c d e f = (if T p = 0 then szN a b c d e f else 0) then ck G T n k (p + 1) r else some p)
    else if T p < 10 then (if T p - 2 < b - a then ck G T n k (p + 1) ((a, a + (T p - 2), c, d, e, f) :: (a + (T p - 2) + 1, b, c, d, e, f) :: r) else some p)
    else if T p < 18 then (if T p - 10 < d - c then ck G T n k (p + 1) ((a, b, c, c + (T p - 10), e, f) :: (a, b, c + (T p - 10) + 1, d, e, f) :: r) else some p)
    else if T p < 26 then (if T p - 18 < f - e then ck G T n k (p + 1) ((a, b, c, d, e, e + (T p - 18)) :: (a, b, c, d, e + (T p - 18) + 1, f) :: r) else some p)
    else some p
def CK (G : Gd) (T : Nat → Nat) (n p : Nat) (r : List Bx6) : Option Nat := ck G T n (n + 1 - p) p r
theorem CK_nil (G : Gd) (T : Nat → Nat) {n p : Nat} (hp : p ≤ n) : CK G T n p [] = if p < n then some p else none := by
  unfold CK
  rw [show n + 1 - p = n - p + 1 by omega]
  rfl
theorem CK_end (G : Gd) (T : Nat → Nat) {n : Nat} (x : Bx6) (r : List Bx6) : CK G T n n (x :: r) = some n := by
  obtain ⟨a, b, c, d, e, f⟩ := x
  unfold CK
  rw [show n + 1 - n = 0 + 1 by omega]
  unfold ck
  rw [if_pos rfl]
theorem CK_cons (G : Gd) (T : Nat → Nat) {n p : Nat} (hp : p < n) (a b c d e f : Nat) (r : List Bx6) : CK G T n p ((a, b, c, d, e, f) :: r) =
    if T p < 2 then (if gcN G a b c d e f = (if T p = 0 then szN a b c d e f else 0) then CK G T n (p + 1) r else some p)
    else if T p < 10 then (if T p - 2 < b - a then CK G T n (p + 1) ((a, a + (T p - 2), c, d, e, f) :: (a + (T p - 2) + 1, b, c, d, e, f) :: r) else some p)
    else if T p < 18 then (if T p - 10 < d - c then CK G T n (p + 1) ((a, b, c, c + (T p - 10), e, f) :: (a, b, c + (T p - 10) + 1, d, e, f) :: r) else some p)
    else if T p < 26 then (if T p - 18 < f - e then CK G T n (p + 1) ((a, b, c, d, e, e + (T p - 18)) :: (a, b, c, d, e + (T p - 18) + 1, f) :: r) else some p)
    else some p := by
  unfold CK
  rw [show n + 1 - p = n - p + 1 by omega, show n + 1 - (p + 1) = n - p by omega]
  conv => lhs; unfold ck
  rw [if_neg (show ¬ p = n by omega)]
/-- where a following stands: it goes on at a place, or was wrong at one -/
def CX (G : Gd) (T : Nat → Nat) (n : Nat) (x : Bool × Nat) (r : List Bx6) : Option Nat := if x.1 = true then CK G T n x.2 r else some x.2
def FS (h : mj_H) (n : Nat) (x : Bool × Nat) : Prop := x.2 ≤ n ∧ if x.1 = true then mj_I h 33 30 = -1 ∧ mj_I h 33 29 = nI x.2 else mj_I h 33 30 = nI x.2
def FI (h : mj_H) (jm w : Nat) (G : Gd) (W : Nat → Nat) (n : Nat) (T : Nat → Nat) : Prop := MW h jm ∧ w < 10 ∧ mj_I h 33 22 = nI w ∧ WN h w jm ∧ (∀ t p l, wg h w t p l = G t p l) ∧ (∀ a, a < 3 → wlo h w a + W a ≤ 9 ∧ W a ≤ 5) ∧ mj_I h 33 28 = nI n ∧ n ≤ 500 ∧ ∀ q, q < n → mj_I h 51 q = nI (T q) ∧ T q ≤ 31
def FE (h g : mj_H) (jm : Nat) : Prop := MW g jm ∧ Rw h g [33, 39, 40, 41, 42, 43, 44] ∧ ∀ q, q ∉ [14, 15, 17, 29, 30] → mj_I g 33 q = mj_I h 33 q
theorem FE.rf {h : mj_H} {jm : Nat} (w : MW h jm) : FE h h jm := ⟨w, Rw.rf _ _, fun _ _ => rfl⟩
theorem FE.trans {h g k : mj_H} {jm : Nat} (a : FE h g jm) (b : FE g k jm) : FE h k jm := ⟨b.1, a.2.1.trans b.2.1, fun q hq => (b.2.2 q hq).trans (a.2.2 q hq)⟩
theorem FE.mv {h g : mj_H} {jm : Nat} (a : MV h g jm) : FE h g jm := ⟨a.1, a.2.1.mono (by decide), fun q hq => a.2.2 q (fun z => hq (by rw [z]; decide)) (fun z => hq (by rw [z]; decide)) (fun z => hq (by rw [z]; decide))⟩
theorem FE.set {h g : mj_H} {jm i : Nat} {x : Int32} (a : FE h g jm) (hi : i ∈ [14, 15, 17, 29, 30]) : FE h (mj_setI g 33 i x) jm :=
  ⟨MW_33 a.1, a.2.1.set (by decide), fun q hq => (mj_I_ne (fun z => hq (by rw [z]; exact hi))).trans (a.2.2 q hq)⟩
theorem FE.sq {h g : mj_H} {jm : Nat} (a : FE h g jm) : SQ h g jm := ⟨a.1, a.2.1.mono (by decide), fun q hq => a.2.2 q (fun z => hq (by revert z; simp only [List.mem_cons, List.not_mem_nil, or_false]; omega))⟩
theorem FI.to {h g : mj_H} {jm w n : Nat} {G : Gd} {W T : Nat → Nat} (c : FI h jm w G W n T) (e : FE h g jm) : FI g jm w G W n T := by
  have e36 : mj_I g 36 = mj_I h 36 := e.2.1.i (by decide)
  have e45 : mj_I g 45 = mj_I h 45 := e.2.1.i (by decide)
  have e46 : mj_I g 46 = mj_I h 46 := e.2.1.i (by decide)
  have e47 : mj_I g 47 = mj_I h 47 := e.2.1.i (by decide)
  have e51 : mj_I g 51 = mj_I h 51 := e.2.1.i (by decide)
  exact ⟨e.1, c.2.1, (e.2.2 22 (by decide)).trans c.2.2.1, WN_to e45 e46 e47 c.2.2.2.1, fun t p l => (wg_to e36 e45 e46 w t p l).trans (c.2.2.2.2.1 t p l), fun a ha => by unfold wlo; rw [e46]; exact c.2.2.2.2.2.1 a ha, (e.2.2 28 (by decide)).trans c.2.2.2.2.2.2.1, c.2.2.2.2.2.2.2.1, fun q hq => by rw [e51]; exact c.2.2.2.2.2.2.2.2 q hq⟩
/-- the contract of follow on boxes of span s at most -/
def FoP (jm w : Nat) (G : Gd) (W : Nat → Nat) (n : Nat) (T : Nat → Nat) (s : Nat) : Prop := ∀ (a b c d e f : Nat) (x : Bool × Nat) (h : mj_H), BX W a b c d e f → spn a b c d e f ≤ s → FI h jm w G W n T → FS h n x →
  mxc (7 + s) 156 [.ref 33, .int (nI a), .int (nI b), .int (nI c), .int (nI d), .int (nI e), .int (nI f)] h (fun r h' => r = none ∧ FE h h' jm ∧ ∃ x', FS h' n x' ∧ ∀ r, CX G T n x ((a, b, c, d, e, f) :: r) = CX G T n x' r)
theorem FS_bad {h : mj_H} {n p : Nat} (hp : p ≤ n) (e : mj_I h 33 30 = nI p) : FS h n (false, p) := ⟨hp, e⟩
theorem FS_ok {h : mj_H} {n p : Nat} (hp : p ≤ n) (e1 : mj_I h 33 30 = -1) (e2 : mj_I h 33 29 = nI p) : FS h n (true, p) := ⟨hp, e1, e2⟩
theorem nI_ne_m1 {p : Nat} (hp : p < 2 ^ 31) : ¬ nI p = -1 := by
  intro q
  have := congrArg Int32.toInt q
  rw [nI_toInt hp] at this
  have k : (-1 : Int32).toInt = -1 := rfl
  omega


set_option maxRecDepth 20000 in
set_option maxHeartbeats 4000000 in
theorem follow_0 {jm w n : Nat} {G : Gd} {W T : Nat → Nat} : FoP jm w G W n T 0 := by
  intro a b c d e f x h hB hsp hF hX
  have S := hF.1.1
  have hB5 := hB
  unfold BX at hB5
  have a0 := hF.2.2.2.2.2.1 0 (by decide)
  have a1 := hF.2.2.2.2.2.1 1 (by decide)
  have a2 := hF.2.2.2.2.2.1 2 (by decide)
  have e28 := hF.2.2.2.2.2.2.1
  have hn5 := hF.2.2.2.2.2.2.2.1
  have hT := hF.2.2.2.2.2.2.2.2
  unfold spn at hsp
  obtain ⟨y, p⟩ := x
  obtain ⟨hp, hX⟩ := hX
  replace hp : p ≤ n := hp
  cases y with
  | false =>
    have e30 : mj_I h 33 30 = nI p := hX
    show mx (7 + 0) 156 0 [.ref 33, .int (nI a), .int (nI b), .int (nI c), .int (nI d), .int (nI e), .int (nI f), mj_unset, mj_unset, mj_unset, mj_unset] [] h _
    refine x_aload_n f_156_0 rfl ?_
    refine x_getI f_156_1 S.k33 (by decide) ?_
    refine x_topi (w := nI p) e30 ?_
    refine x_iconst (v := -1) f_156_4 (by decide) ?_
    refine x_icmp_eq (t := 9) f_156_5 (by decide) (fun c_1 => absurd c_1 (nI_ne_m1 (by omega))) (fun c_1 => ?_)
    refine x_retV f_156_8 rfl ?_
    exact ⟨rfl, FE.rf hF.1, (false, p), FS_bad hp e30, fun r => rfl⟩
  | true =>
    have e30 : mj_I h 33 30 = -1 := hX.1
    have e29 : mj_I h 33 29 = nI p := hX.2
    by_cases hpn : p = n
    · show mx (7 + 0) 156 0 [.ref 33, .int (nI a), .int (nI b), .int (nI c), .int (nI d), .int (nI e), .int (nI f), mj_unset, mj_unset, mj_unset, mj_unset] [] h _
      refine x_aload_n f_156_0 rfl ?_
      refine x_getI f_156_1 S.k33 (by decide) ?_
      refine x_topi (w := -1) e30 ?_
      refine x_iconst (v := -1) f_156_4 (by decide) ?_
      refine x_icmp_eq (t := 9) f_156_5 (by decide) (fun c_1 => ?_) (fun c_1 => absurd rfl c_1)
      refine x_aload_n f_156_9 rfl ?_
      refine x_getI f_156_10 S.k33 (by decide) ?_
      refine x_topi (w := nI p) e29 ?_
      refine x_aload_n f_156_13 rfl ?_
      refine x_getI f_156_14 S.k33 (by decide) ?_
      refine x_topi (w := nI n) e28 ?_
      refine x_icmpN_ne (t := 29) f_156_17 (by decide) (by omega) (by omega) (fun c_1 => by omega) (fun c_1 => ?_)
      refine x_aload_n f_156_20 rfl ?_
      refine x_aload_n f_156_21 rfl ?_
      refine x_getI f_156_22 S.k33 (by decide) ?_
      refine x_topi (w := nI p) e29 ?_
      refine x_putI f_156_25 S.k33 (by decide) ?_
      refine x_retV f_156_28 rfl ?_
      refine ⟨rfl, (FE.rf hF.1).set (by decide), (false, p), FS_bad hp (mj_I_at _ _ _ _), fun r => ?_⟩
      show CK G T n p _ = some p
      rw [hpn]
      exact CK_end G T _ r
    · replace hpn : p < n := by omega
      have h31 := (hT p hpn).2
      have hcases : T p < 2 ∨ (∃ i, i < 8 ∧ T p = 2 + i) ∨ (∃ i, i < 8 ∧ T p = 10 + i) ∨ (∃ i, i < 8 ∧ T p = 18 + i) ∨ (∃ i, i < 8 ∧ T p = 26 + i) := by
        by_cases k1 : T p < 2
        · exact Or.inl k1
        · by_cases k2 : T p < 10
          · exact Or.inr (Or.inl ⟨T p - 2, by omega, by omega⟩)
          · by_cases k3 : T p < 18
            · exact Or.inr (Or.inr (Or.inl ⟨T p - 10, by omega, by omega⟩))
            · by_cases k4 : T p < 26
              · exact Or.inr (Or.inr (Or.inr (Or.inl ⟨T p - 18, by omega, by omega⟩)))
              · exact Or.inr (Or.inr (Or.inr (Or.inr ⟨T p - 26, by omega, by omega⟩)))
      rcases hcases with hv2 | ⟨i, i8, e_T⟩ | ⟨i, i8, e_T⟩ | ⟨i, i8, e_T⟩ | ⟨i, i8, e_T⟩
      · have gle := gcN_le G (a := a) (b := b) (c := c) (d := d) (e := e) (f := f) (by omega) (by omega) (by omega)
        have sle := sz_216 (a := a) (b := b) (c := c) (d := d) (e := e) (f := f) (by omega) (by omega) (by omega)
        show mx (7 + 0) 156 0 [.ref 33, .int (nI a), .int (nI b), .int (nI c), .int (nI d), .int (nI e), .int (nI f), mj_unset, mj_unset, mj_unset, mj_unset] [] h _
        refine x_aload_n f_156_0 rfl ?_
        refine x_getI f_156_1 S.k33 (by decide) ?_
        refine x_topi (w := -1) e30 ?_
        refine x_iconst (v := -1) f_156_4 (by decide) ?_
        refine x_icmp_eq (t := 9) f_156_5 (by decide) (fun c_1 => ?_) (fun c_1 => absurd rfl c_1)
        refine x_aload_n f_156_9 rfl ?_
        refine x_getI f_156_10 S.k33 (by decide) ?_
        refine x_topi (w := nI p) e29 ?_
        refine x_aload_n f_156_13 rfl ?_
        refine x_getI f_156_14 S.k33 (by decide) ?_
        refine x_topi (w := nI n) e28 ?_
        refine x_icmpN_ne (t := 29) f_156_17 (by decide) (by omega) (by omega) (fun c_1 => ?_) (fun c_1 => by omega)
        refine x_aload_n f_156_29 rfl ?_
        refine x_getR f_156_30 S.k33 (by decide) S.r27 ?_
        refine x_aload_n f_156_33 rfl ?_
        refine x_getI f_156_34 S.k33 (by decide) ?_
        refine x_topi (w := nI p) e29 ?_
        refine x_iald (j := p) f_156_37 S.k51 (by omega) (by decide) ?_
        refine x_topi (w := nI (T p)) (hT p hpn).1 ?_
        refine x_istore (ls1 := [.ref 33, .int (nI a), .int (nI b), .int (nI c), .int (nI d), .int (nI e), .int (nI f), .int (nI (T p)), mj_unset, mj_unset, mj_unset]) f_156_38 (Nat.le_of_ble_eq_true rfl) rfl ?_
        refine x_iload f_156_40 rfl ?_
        refine x_iconst (v := nI 2) f_156_42 (by decide) ?_
        refine x_icmpN_ge (t := 107) f_156_43 (by decide) (by omega) (by decide) (fun c_2 => by omega) (fun c_2 => ?_)
        refine x_aload_n f_156_46 rfl ?_
        refine x_iload_n f_156_47 rfl ?_
        refine x_iload_n f_156_48 rfl ?_
        refine x_iload_n f_156_49 rfl ?_
        refine x_iload f_156_50 rfl ?_
        refine x_iload f_156_52 rfl ?_
        refine x_iload f_156_54 rfl ?_
        refine x_callV f_156_56 (c_goodIn hF.2.1 hF.2.2.1 hF.2.2.2.1 hF.1 (by omega) (by omega) (by omega) (by omega) (by omega) (by omega)) (by omega) S.k33 (by decide) rfl rfl (Nat.le_of_ble_eq_true rfl) rfl ?_
        rintro _ g ⟨rfl, hv⟩
        have S := hv.1.1
        have e29 : mj_I g 33 29 = nI p := (hv.2.2 29 (by decide) (by decide) (by decide)).trans e29
        have e30 : mj_I g 33 30 = -1 := (hv.2.2 30 (by decide) (by decide) (by decide)).trans e30
        refine x_istore (ls1 := [.ref 33, .int (nI a), .int (nI b), .int (nI c), .int (nI d), .int (nI e), .int (nI f), .int (nI (T p)), .int (nI (gc h w a b c d e f)), mj_unset, mj_unset]) f_156_59 (Nat.le_of_ble_eq_true rfl) rfl ?_
        rw [gc_eq hF.2.2.2.2.1]
        refine x_iload f_156_61 rfl ?_
        refine x_iload f_156_63 rfl ?_
        refine x_ifN_ne (t := 83) f_156_65 (by decide) (by omega) (fun c_z => ?_) (fun c_z => ?_)
        · refine x_iconst (v := nI 0) f_156_83 (by decide) ?_
          refine x_icmpN_eq (t := 96) f_156_84 (by decide) (by omega) (by decide) (fun c_g => ?_) (fun c_g => ?_)
          · refine x_aload_n f_156_96 rfl ?_
            refine x_dup f_156_97 rfl ?_
            refine x_getI f_156_98 S.k33 (by decide) ?_
            refine x_topi (w := nI p) e29 ?_
            refine x_iconst (v := nI 1) f_156_101 (by decide) ?_
            refine x_iaddN f_156_102 ?_
            refine x_putI f_156_103 S.k33 (by decide) ?_
            refine x_retV f_156_106 rfl ?_
            refine ⟨rfl, (FE.mv hv).set (by decide), (true, p + 1), FS_ok (by omega) ((mj_I_ne (by decide)).trans e30) (mj_I_at _ _ _ _), fun r => ?_⟩
            show CK G T n p _ = CK G T n (p + 1) r
            rw [CK_cons G T hpn, if_pos hv2]
            first | rw [if_pos c_z, if_pos c_g] | rw [if_neg c_z, if_pos c_g]
          · refine x_aload_n f_156_87 rfl ?_
            refine x_aload_n f_156_88 rfl ?_
            refine x_getI f_156_89 S.k33 (by decide) ?_
            refine x_topi (w := nI p) e29 ?_
            refine x_putI f_156_92 S.k33 (by decide) ?_
            refine x_retV f_156_95 rfl ?_
            refine ⟨rfl, (FE.mv hv).set (by decide), (false, p), FS_bad (by omega) (mj_I_at _ _ _ _), fun r => ?_⟩
            show CK G T n p _ = some p
            rw [CK_cons G T hpn, if_pos hv2]
            first | rw [if_pos c_z, if_neg c_g] | rw [if_neg c_z, if_neg c_g]
        · refine x_iload_n f_156_68 rfl ?_
          refine x_iload_n f_156_69 rfl ?_
          refine x_iload_n f_156_70 rfl ?_
          refine x_iload f_156_71 rfl ?_
          refine x_iload f_156_73 rfl ?_
          refine x_iload f_156_75 rfl ?_
          refine x_callSe f_156_77 (c_sizeOf _ _ _ _ _ _ _) (by omega) rfl rfl rfl (Nat.le_of_ble_eq_true rfl) rfl ?_
          refine x_goto (t := 84) f_156_80 (by decide) ?_
          refine x_topi (w := nI (szN a b c d e f)) (sz_eq hB5.1 hB5.2.2.1 hB5.2.2.2.2.1) ?_
          refine x_icmpN_eq (t := 96) f_156_84 (by decide) (by omega) (by omega) (fun c_g => ?_) (fun c_g => ?_)
          · refine x_aload_n f_156_96 rfl ?_
            refine x_dup f_156_97 rfl ?_
            refine x_getI f_156_98 S.k33 (by decide) ?_
            refine x_topi (w := nI p) e29 ?_
            refine x_iconst (v := nI 1) f_156_101 (by decide) ?_
            refine x_iaddN f_156_102 ?_
            refine x_putI f_156_103 S.k33 (by decide) ?_
            refine x_retV f_156_106 rfl ?_
            refine ⟨rfl, (FE.mv hv).set (by decide), (true, p + 1), FS_ok (by omega) ((mj_I_ne (by decide)).trans e30) (mj_I_at _ _ _ _), fun r => ?_⟩
            show CK G T n p _ = CK G T n (p + 1) r
            rw [CK_cons G T hpn, if_pos hv2]
            first | rw [if_pos c_z, if_pos c_g] | rw [if_neg c_z, if_pos c_g]
          · refine x_aload_n f_156_87 rfl ?_
            refine x_aload_n f_156_88 rfl ?_
            refine x_getI f_156_89 S.k33 (by decide) ?_
            refine x_topi (w := nI p) e29 ?_
            refine x_putI f_156_92 S.k33 (by decide) ?_
            refine x_retV f_156_95 rfl ?_
            refine ⟨rfl, (FE.mv hv).set (by decide), (false, p), FS_bad (by omega) (mj_I_at _ _ _ _), fun r => ?_⟩
            show CK G T n p _ = some p
            rw [CK_cons G T hpn, if_pos hv2]
            first | rw [if_pos c_z, if_neg c_g] | rw [if_neg c_z, if_neg c_g]
      · have e51 : mj_I h 51 p = nI (2 + i) := by rw [(hT p hpn).1, e_T]
        show mx (7 + 0) 156 0 [.ref 33, .int (nI a), .int (nI b), .int (nI c), .int (nI d), .int (nI e), .int (nI f), mj_unset, mj_unset, mj_unset, mj_unset] [] h _
        refine x_aload_n f_156_0 rfl ?_
        refine x_getI f_156_1 S.k33 (by decide) ?_
        refine x_topi (w := -1) e30 ?_
        refine x_iconst (v := -1) f_156_4 (by decide) ?_
        refine x_icmp_eq (t := 9) f_156_5 (by decide) (fun c_1 => ?_) (fun c_1 => absurd rfl c_1)
        refine x_aload_n f_156_9 rfl ?_
        refine x_getI f_156_10 S.k33 (by decide) ?_
        refine x_topi (w := nI p) e29 ?_
        refine x_aload_n f_156_13 rfl ?_
        refine x_getI f_156_14 S.k33 (by decide) ?_
        refine x_topi (w := nI n) e28 ?_
        refine x_icmpN_ne (t := 29) f_156_17 (by decide) (by omega) (by omega) (fun c_1 => ?_) (fun c_1 => by omega)
        refine x_aload_n f_156_29 rfl ?_
        refine x_getR f_156_30 S.k33 (by decide) S.r27 ?_
        refine x_aload_n f_156_33 rfl ?_
        refine x_getI f_156_34 S.k33 (by decide) ?_
        refine x_topi (w := nI p) e29 ?_
        refine x_iald (j := p) f_156_37 S.k51 (by omega) (by decide) ?_
        refine x_topi (w := nI (2 + i)) e51 ?_
        refine x_istore (ls1 := [.ref 33, .int (nI a), .int (nI b), .int (nI c), .int (nI d), .int (nI e), .int (nI f), .int (nI (2 + i)), mj_unset, mj_unset, mj_unset]) f_156_38 (Nat.le_of_ble_eq_true rfl) rfl ?_
        refine x_iload f_156_40 rfl ?_
        refine x_iconst (v := nI 2) f_156_42 (by decide) ?_
        refine x_icmpN_ge (t := 107) f_156_43 (by decide) (by omega) (by decide) (fun c_2 => ?_) (fun c_2 => by omega)
        refine x_iload f_156_107 rfl ?_
        refine x_iconst (v := nI 2) f_156_109 (by decide) ?_
        refine x_isubN f_156_110 (by omega) ?_
        refine x_bipush (v := nI 8) f_156_111 (by decide) ?_
        refine x_idivN f_156_113 (by omega) (by decide) (by decide) ?_
        refine x_topi (w := nI 0) (by rw [show (2 + i - 2) / 8 = 0 by omega]) ?_
        refine x_istore (ls1 := [.ref 33, .int (nI a), .int (nI b), .int (nI c), .int (nI d), .int (nI e), .int (nI f), .int (nI (2 + i)), .int (nI 0), mj_unset, mj_unset]) f_156_114 (Nat.le_of_ble_eq_true rfl) rfl ?_
        refine x_iload f_156_116 rfl ?_
        refine x_iconst (v := nI 2) f_156_118 (by decide) ?_
        refine x_isubN f_156_119 (by omega) ?_
        refine x_bipush (v := nI 8) f_156_120 (by decide) ?_
        refine x_iremN f_156_122 (by omega) (by decide) (by decide) ?_
        refine x_topi (w := nI i) (by rw [show (2 + i - 2) % 8 = i by omega]) ?_
        refine x_istore (ls1 := [.ref 33, .int (nI a), .int (nI b), .int (nI c), .int (nI d), .int (nI e), .int (nI f), .int (nI (2 + i)), .int (nI 0), .int (nI i), mj_unset]) f_156_123 (Nat.le_of_ble_eq_true rfl) rfl ?_
        refine x_iload f_156_125 rfl ?_
        refine x_ifN_ne (t := 136) f_156_127 (by decide) (by decide) (fun c_3 => by omega) (fun c_3 => ?_)
        refine x_iload_n f_156_130 rfl ?_
        refine x_iload_n f_156_131 rfl ?_
        refine x_isubN f_156_132 (by omega) ?_
        refine x_goto (t := 164) f_156_133 (by decide) ?_
        refine x_istore (ls1 := [.ref 33, .int (nI a), .int (nI b), .int (nI c), .int (nI d), .int (nI e), .int (nI f), .int (nI (2 + i)), .int (nI 0), .int (nI i), .int (nI (b - a))]) f_156_164 (Nat.le_of_ble_eq_true rfl) rfl ?_
        refine x_iload f_156_166 rfl ?_
        refine x_iload f_156_168 rfl ?_
        refine x_icmpN_lt (t := 182) f_156_170 (by decide) (by omega) (by omega) (fun c_m => by omega) (fun c_m => ?_)
        refine x_aload_n f_156_173 rfl ?_
        refine x_aload_n f_156_174 rfl ?_
        refine x_getI f_156_175 S.k33 (by decide) ?_
        refine x_topi (w := nI p) e29 ?_
        refine x_putI f_156_178 S.k33 (by decide) ?_
        refine x_retV f_156_181 rfl ?_
        refine ⟨rfl, (FE.rf hF.1).set (by decide), (false, p), FS_bad (by omega) (mj_I_at _ _ _ _), fun r => ?_⟩
        show CK G T n p _ = some p
        rw [CK_cons G T hpn, e_T, if_neg (show ¬ 2 + i < 2 by omega)]
        rw [if_pos (show 2 + i < 10 by omega), show 2 + i - 2 = i by omega, if_neg (show ¬ i < b - a by omega)]
      · have e51 : mj_I h 51 p = nI (10 + i) := by rw [(hT p hpn).1, e_T]
        show mx (7 + 0) 156 0 [.ref 33, .int (nI a), .int (nI b), .int (nI c), .int (nI d), .int (nI e), .int (nI f), mj_unset, mj_unset, mj_unset, mj_unset] [] h _
        refine x_aload_n f_156_0 rfl ?_
        refine x_getI f_156_1 S.k33 (by decide) ?_
        refine x_topi (w := -1) e30 ?_
        refine x_iconst (v := -1) f_156_4 (by decide) ?_
        refine x_icmp_eq (t := 9) f_156_5 (by decide) (fun c_1 => ?_) (fun c_1 => absurd rfl c_1)
        refine x_aload_n f_156_9 rfl ?_
        refine x_getI f_156_10 S.k33 (by decide) ?_
        refine x_topi (w := nI p) e29 ?_
        refine x_aload_n f_156_13 rfl ?_
        refine x_getI f_156_14 S.k33 (by decide) ?_
        refine x_topi (w := nI n) e28 ?_
        refine x_icmpN_ne (t := 29) f_156_17 (by decide) (by omega) (by omega) (fun c_1 => ?_) (fun c_1 => by omega)
        refine x_aload_n f_156_29 rfl ?_
        refine x_getR f_156_30 S.k33 (by decide) S.r27 ?_
        refine x_aload_n f_156_33 rfl ?_
        refine x_getI f_156_34 S.k33 (by decide) ?_
        refine x_topi (w := nI p) e29 ?_
        refine x_iald (j := p) f_156_37 S.k51 (by omega) (by decide) ?_
        refine x_topi (w := nI (10 + i)) e51 ?_
        refine x_istore (ls1 := [.ref 33, .int (nI a), .int (nI b), .int (nI c), .int (nI d), .int (nI e), .int (nI f), .int (nI (10 + i)), mj_unset, mj_unset, mj_unset]) f_156_38 (Nat.le_of_ble_eq_true rfl) rfl ?_
        refine x_iload f_156_40 rfl ?_
        refine x_iconst (v := nI 2) f_156_42 (by decide) ?_
        refine x_icmpN_ge (t := 107) f_156_43 (by decide) (by omega) (by decide) (fun c_2 => ?_) (fun c_2 => by omega)
        refine x_iload f_156_107 rfl ?_
        refine x_iconst (v := nI 2) f_156_109 (by decide) ?_
        refine x_isubN f_156_110 (by omega) ?_
        refine x_bipush (v := nI 8) f_156_111 (by decide) ?_
        refine x_idivN f_156_113 (by omega) (by decide) (by decide) ?_
        refine x_topi (w := nI 1) (by rw [show (10 + i - 2) / 8 = 1 by omega]) ?_
        refine x_istore (ls1 := [.ref 33, .int (nI a), .int (nI b), .int (nI c), .int (nI d), .int (nI e), .int (nI f), .int (nI (10 + i)), .int (nI 1), mj_unset, mj_unset]) f_156_114 (Nat.le_of_ble_eq_true rfl) rfl ?_
        refine x_iload f_156_116 rfl ?_
        refine x_iconst (v := nI 2) f_156_118 (by decide) ?_
        refine x_isubN f_156_119 (by omega) ?_
        refine x_bipush (v := nI 8) f_156_120 (by decide) ?_
        refine x_iremN f_156_122 (by omega) (by decide) (by decide) ?_
        refine x_topi (w := nI i) (by rw [show (10 + i - 2) % 8 = i by omega]) ?_
        refine x_istore (ls1 := [.ref 33, .int (nI a), .int (nI b), .int (nI c), .int (nI d), .int (nI e), .int (nI f), .int (nI (10 + i)), .int (nI 1), .int (nI i), mj_unset]) f_156_123 (Nat.le_of_ble_eq_true rfl) rfl ?_
        refine x_iload f_156_125 rfl ?_
        refine x_ifN_ne (t := 136) f_156_127 (by decide) (by decide) (fun c_3 => ?_) (fun c_3 => by omega)
        refine x_iload f_156_136 rfl ?_
        refine x_iconst (v := nI 1) f_156_138 (by decide) ?_
        refine x_icmpN_ne (t := 149) f_156_139 (by decide) (by decide) (by decide) (fun c_4 => by omega) (fun c_4 => ?_)
        refine x_iload f_156_142 rfl ?_
        refine x_iload_n f_156_144 rfl ?_
        refine x_isubN f_156_145 (by omega) ?_
        refine x_goto (t := 164) f_156_146 (by decide) ?_
        refine x_istore (ls1 := [.ref 33, .int (nI a), .int (nI b), .int (nI c), .int (nI d), .int (nI e), .int (nI f), .int (nI (10 + i)), .int (nI 1), .int (nI i), .int (nI (d - c))]) f_156_164 (Nat.le_of_ble_eq_true rfl) rfl ?_
        refine x_iload f_156_166 rfl ?_
        refine x_iload f_156_168 rfl ?_
        refine x_icmpN_lt (t := 182) f_156_170 (by decide) (by omega) (by omega) (fun c_m => by omega) (fun c_m => ?_)
        refine x_aload_n f_156_173 rfl ?_
        refine x_aload_n f_156_174 rfl ?_
        refine x_getI f_156_175 S.k33 (by decide) ?_
        refine x_topi (w := nI p) e29 ?_
        refine x_putI f_156_178 S.k33 (by decide) ?_
        refine x_retV f_156_181 rfl ?_
        refine ⟨rfl, (FE.rf hF.1).set (by decide), (false, p), FS_bad (by omega) (mj_I_at _ _ _ _), fun r => ?_⟩
        show CK G T n p _ = some p
        rw [CK_cons G T hpn, e_T, if_neg (show ¬ 10 + i < 2 by omega), if_neg (show ¬ 10 + i < 10 by omega)]
        rw [if_pos (show 10 + i < 18 by omega), show 10 + i - 10 = i by omega, if_neg (show ¬ i < d - c by omega)]
      · have e51 : mj_I h 51 p = nI (18 + i) := by rw [(hT p hpn).1, e_T]
        show mx (7 + 0) 156 0 [.ref 33, .int (nI a), .int (nI b), .int (nI c), .int (nI d), .int (nI e), .int (nI f), mj_unset, mj_unset, mj_unset, mj_unset] [] h _
        refine x_aload_n f_156_0 rfl ?_
        refine x_getI f_156_1 S.k33 (by decide) ?_
        refine x_topi (w := -1) e30 ?_
        refine x_iconst (v := -1) f_156_4 (by decide) ?_
        refine x_icmp_eq (t := 9) f_156_5 (by decide) (fun c_1 => ?_) (fun c_1 => absurd rfl c_1)
        refine x_aload_n f_156_9 rfl ?_
        refine x_getI f_156_10 S.k33 (by decide) ?_
        refine x_topi (w := nI p) e29 ?_
        refine x_aload_n f_156_13 rfl ?_
        refine x_getI f_156_14 S.k33 (by decide) ?_
        refine x_topi (w := nI n) e28 ?_
        refine x_icmpN_ne (t := 29) f_156_17 (by decide) (by omega) (by omega) (fun c_1 => ?_) (fun c_1 => by omega)
        refine x_aload_n f_156_29 rfl ?_
        refine x_getR f_156_30 S.k33 (by decide) S.r27 ?_
        refine x_aload_n f_156_33 rfl ?_
        refine x_getI f_156_34 S.k33 (by decide) ?_
        refine x_topi (w := nI p) e29 ?_
        refine x_iald (j := p) f_156_37 S.k51 (by omega) (by decide) ?_
        refine x_topi (w := nI (18 + i)) e51 ?_
        refine x_istore (ls1 := [.ref 33, .int (nI a), .int (nI b), .int (nI c), .int (nI d), .int (nI e), .int (nI f), .int (nI (18 + i)), mj_unset, mj_unset, mj_unset]) f_156_38 (Nat.le_of_ble_eq_true rfl) rfl ?_
        refine x_iload f_156_40 rfl ?_
        refine x_iconst (v := nI 2) f_156_42 (by decide) ?_
        refine x_icmpN_ge (t := 107) f_156_43 (by decide) (by omega) (by decide) (fun c_2 => ?_) (fun c_2 => by omega)
        refine x_iload f_156_107 rfl ?_
        refine x_iconst (v := nI 2) f_156_109 (by decide) ?_
        refine x_isubN f_156_110 (by omega) ?_
        refine x_bipush (v := nI 8) f_156_111 (by decide) ?_
        refine x_idivN f_156_113 (by omega) (by decide) (by decide) ?_
        refine x_topi (w := nI 2) (by rw [show (18 + i - 2) / 8 = 2 by omega]) ?_
        refine x_istore (ls1 := [.ref 33, .int (nI a), .int (nI b), .int (nI c), .int (nI d), .int (nI e), .int (nI f), .int (nI (18 + i)), .int (nI 2), mj_unset, mj_unset]) f_156_114 (Nat.le_of_ble_eq_true rfl) rfl ?_
        refine x_iload f_156_116 rfl ?_
        refine x_iconst (v := nI 2) f_156_118 (by decide) ?_
        refine x_isubN f_156_119 (by omega) ?_
        refine x_bipush (v := nI 8) f_156_120 (by decide) ?_
        refine x_iremN f_156_122 (by omega) (by decide) (by decide) ?_
        refine x_topi (w := nI i) (by rw [show (18 + i - 2) % 8 = i by omega]) ?_
        refine x_istore (ls1 := [.ref 33, .int (nI a), .int (nI b), .int (nI c), .int (nI d), .int (nI e), .int (nI f), .int (nI (18 + i)), .int (nI 2), .int (nI i), mj_unset]) f_156_123 (Nat.le_of_ble_eq_true rfl) rfl ?_
        refine x_iload f_156_125 rfl ?_
        refine x_ifN_ne (t := 136) f_156_127 (by decide) (by decide) (fun c_3 => ?_) (fun c_3 => by omega)
        refine x_iload f_156_136 rfl ?_
        refine x_iconst (v := nI 1) f_156_138 (by decide) ?_
        refine x_icmpN_ne (t := 149) f_156_139 (by decide) (by decide) (by decide) (fun c_4 => ?_) (fun c_4 => by omega)
        refine x_iload f_156_149 rfl ?_
        refine x_iconst (v := nI 2) f_156_151 (by decide) ?_
        refine x_icmpN_ne (t := 163) f_156_152 (by decide) (by decide) (by decide) (fun c_5 => by omega) (fun c_5 => ?_)
        refine x_iload f_156_155 rfl ?_
        refine x_iload f_156_157 rfl ?_
        refine x_isubN f_156_159 (by omega) ?_
        refine x_goto (t := 164) f_156_160 (by decide) ?_
        refine x_istore (ls1 := [.ref 33, .int (nI a), .int (nI b), .int (nI c), .int (nI d), .int (nI e), .int (nI f), .int (nI (18 + i)), .int (nI 2), .int (nI i), .int (nI (f - e))]) f_156_164 (Nat.le_of_ble_eq_true rfl) rfl ?_
        refine x_iload f_156_166 rfl ?_
        refine x_iload f_156_168 rfl ?_
        refine x_icmpN_lt (t := 182) f_156_170 (by decide) (by omega) (by omega) (fun c_m => by omega) (fun c_m => ?_)
        refine x_aload_n f_156_173 rfl ?_
        refine x_aload_n f_156_174 rfl ?_
        refine x_getI f_156_175 S.k33 (by decide) ?_
        refine x_topi (w := nI p) e29 ?_
        refine x_putI f_156_178 S.k33 (by decide) ?_
        refine x_retV f_156_181 rfl ?_
        refine ⟨rfl, (FE.rf hF.1).set (by decide), (false, p), FS_bad (by omega) (mj_I_at _ _ _ _), fun r => ?_⟩
        show CK G T n p _ = some p
        rw [CK_cons G T hpn, e_T, if_neg (show ¬ 18 + i < 2 by omega), if_neg (show ¬ 18 + i < 10 by omega), if_neg (show ¬ 18 + i < 18 by omega)]
        rw [if_pos (show 18 + i < 26 by omega), show 18 + i - 18 = i by omega, if_neg (show ¬ i < f - e by omega)]
      · have e51 : mj_I h 51 p = nI (26 + i) := by rw [(hT p hpn).1, e_T]
        show mx (7 + 0) 156 0 [.ref 33, .int (nI a), .int (nI b), .int (nI c), .int (nI d), .int (nI e), .int (nI f), mj_unset, mj_unset, mj_unset, mj_unset] [] h _
        refine x_aload_n f_156_0 rfl ?_
        refine x_getI f_156_1 S.k33 (by decide) ?_
        refine x_topi (w := -1) e30 ?_
        refine x_iconst (v := -1) f_156_4 (by decide) ?_
        refine x_icmp_eq (t := 9) f_156_5 (by decide) (fun c_1 => ?_) (fun c_1 => absurd rfl c_1)
        refine x_aload_n f_156_9 rfl ?_
        refine x_getI f_156_10 S.k33 (by decide) ?_
        refine x_topi (w := nI p) e29 ?_
        refine x_aload_n f_156_13 rfl ?_
        refine x_getI f_156_14 S.k33 (by decide) ?_
        refine x_topi (w := nI n) e28 ?_
        refine x_icmpN_ne (t := 29) f_156_17 (by decide) (by omega) (by omega) (fun c_1 => ?_) (fun c_1 => by omega)
        refine x_aload_n f_156_29 rfl ?_
        refine x_getR f_156_30 S.k33 (by decide) S.r27 ?_
        refine x_aload_n f_156_33 rfl ?_
        refine x_getI f_156_34 S.k33 (by decide) ?_
        refine x_topi (w := nI p) e29 ?_
        refine x_iald (j := p) f_156_37 S.k51 (by omega) (by decide) ?_
        refine x_topi (w := nI (26 + i)) e51 ?_
        refine x_istore (ls1 := [.ref 33, .int (nI a), .int (nI b), .int (nI c), .int (nI d), .int (nI e), .int (nI f), .int (nI (26 + i)), mj_unset, mj_unset, mj_unset]) f_156_38 (Nat.le_of_ble_eq_true rfl) rfl ?_
        refine x_iload f_156_40 rfl ?_
        refine x_iconst (v := nI 2) f_156_42 (by decide) ?_
        refine x_icmpN_ge (t := 107) f_156_43 (by decide) (by omega) (by decide) (fun c_2 => ?_) (fun c_2 => by omega)
        refine x_iload f_156_107 rfl ?_
        refine x_iconst (v := nI 2) f_156_109 (by decide) ?_
        refine x_isubN f_156_110 (by omega) ?_
        refine x_bipush (v := nI 8) f_156_111 (by decide) ?_
        refine x_idivN f_156_113 (by omega) (by decide) (by decide) ?_
        refine x_topi (w := nI 3) (by rw [show (26 + i - 2) / 8 = 3 by omega]) ?_
        refine x_istore (ls1 := [.ref 33, .int (nI a), .int (nI b), .int (nI c), .int (nI d), .int (nI e), .int (nI f), .int (nI (26 + i)), .int (nI 3), mj_unset, mj_unset]) f_156_114 (Nat.le_of_ble_eq_true rfl) rfl ?_
        refine x_iload f_156_116 rfl ?_
        refine x_iconst (v := nI 2) f_156_118 (by decide) ?_
        refine x_isubN f_156_119 (by omega) ?_
        refine x_bipush (v := nI 8) f_156_120 (by decide) ?_
        refine x_iremN f_156_122 (by omega) (by decide) (by decide) ?_
        refine x_topi (w := nI i) (by rw [show (26 + i - 2) % 8 = i by omega]) ?_
        refine x_istore (ls1 := [.ref 33, .int (nI a), .int (nI b), .int (nI c), .int (nI d), .int (nI e), .int (nI f), .int (nI (26 + i)), .int (nI 3), .int (nI i), mj_unset]) f_156_123 (Nat.le_of_ble_eq_true rfl) rfl ?_
        refine x_iload f_156_125 rfl ?_
        refine x_ifN_ne (t := 136) f_156_127 (by decide) (by decide) (fun c_3 => ?_) (fun c_3 => by omega)
        refine x_iload f_156_136 rfl ?_
        refine x_iconst (v := nI 1) f_156_138 (by decide) ?_
        refine x_icmpN_ne (t := 149) f_156_139 (by decide) (by decide) (by decide) (fun c_4 => ?_) (fun c_4 => by omega)
        refine x_iload f_156_149 rfl ?_
        refine x_iconst (v := nI 2) f_156_151 (by decide) ?_
        refine x_icmpN_ne (t := 163) f_156_152 (by decide) (by decide) (by decide) (fun c_5 => ?_) (fun c_5 => by omega)
        refine x_iconst (v := nI 0) f_156_163 (by decide) ?_
        refine x_istore (ls1 := [.ref 33, .int (nI a), .int (nI b), .int (nI c), .int (nI d), .int (nI e), .int (nI f), .int (nI (26 + i)), .int (nI 3), .int (nI i), .int (nI 0)]) f_156_164 (Nat.le_of_ble_eq_true rfl) rfl ?_
        refine x_iload f_156_166 rfl ?_
        refine x_iload f_156_168 rfl ?_
        refine x_icmpN_lt (t := 182) f_156_170 (by decide) (by omega) (by decide) (fun c_m => by omega) (fun c_m => ?_)
        refine x_aload_n f_156_173 rfl ?_
        refine x_aload_n f_156_174 rfl ?_
        refine x_getI f_156_175 S.k33 (by decide) ?_
        refine x_topi (w := nI p) e29 ?_
        refine x_putI f_156_178 S.k33 (by decide) ?_
        refine x_retV f_156_181 rfl ?_
        refine ⟨rfl, (FE.rf hF.1).set (by decide), (false, p), FS_bad (by omega) (mj_I_at _ _ _ _), fun r => ?_⟩
        show CK G T n p _ = some p
        rw [CK_cons G T hpn, e_T, if_neg (show ¬ 26 + i < 2 by omega), if_neg (show ¬ 26 + i < 10 by omega), if_neg (show ¬ 26 + i < 18 by omega), if_neg (show ¬ 26 + i < 26 by omega)]
set_option maxRecDepth 20000 in
set_option maxHeartbeats 4000000 in
theorem follow_s {jm w n s : Nat} {G : Gd} {W T : Nat → Nat} (IH : FoP jm w G W n T s) : FoP jm w G W n T (s + 1) := by
  intro a b c d e f x h hB hsp hF hX
  have S := hF.1.1
  have hB5 := hB
  unfold BX at hB5
  have a0 := hF.2.2.2.2.2.1 0 (by decide)
  have a1 := hF.2.2.2.2.2.1 1 (by decide)
  have a2 := hF.2.2.2.2.2.1 2 (by decide)
  have e28 := hF.2.2.2.2.2.2.1
  have hn5 := hF.2.2.2.2.2.2.2.1
  have hT := hF.2.2.2.2.2.2.2.2
  unfold spn at hsp
  obtain ⟨y, p⟩ := x
  obtain ⟨hp, hX⟩ := hX
  replace hp : p ≤ n := hp
  cases y with
  | false =>
    have e30 : mj_I h 33 30 = nI p := hX
    show mx (7 + (s + 1)) 156 0 [.ref 33, .int (nI a), .int (nI b), .int (nI c), .int (nI d), .int (nI e), .int (nI f), mj_unset, mj_unset, mj_unset, mj_unset] [] h _
    refine x_aload_n f_156_0 rfl ?_
    refine x_getI f_156_1 S.k33 (by decide) ?_
    refine x_topi (w := nI p) e30 ?_
    refine x_iconst (v := -1) f_156_4 (by decide) ?_
    refine x_icmp_eq (t := 9) f_156_5 (by decide) (fun c_1 => absurd c_1 (nI_ne_m1 (by omega))) (fun c_1 => ?_)
    refine x_retV f_156_8 rfl ?_
    exact ⟨rfl, FE.rf hF.1, (false, p), FS_bad hp e30, fun r => rfl⟩
  | true =>
    have e30 : mj_I h 33 30 = -1 := hX.1
    have e29 : mj_I h 33 29 = nI p := hX.2
    by_cases hpn : p = n
    · show mx (7 + (s + 1)) 156 0 [.ref 33, .int (nI a), .int (nI b), .int (nI c), .int (nI d), .int (nI e), .int (nI f), mj_unset, mj_unset, mj_unset, mj_unset] [] h _
      refine x_aload_n f_156_0 rfl ?_
      refine x_getI f_156_1 S.k33 (by decide) ?_
      refine x_topi (w := -1) e30 ?_
      refine x_iconst (v := -1) f_156_4 (by decide) ?_
      refine x_icmp_eq (t := 9) f_156_5 (by decide) (fun c_1 => ?_) (fun c_1 => absurd rfl c_1)
      refine x_aload_n f_156_9 rfl ?_
      refine x_getI f_156_10 S.k33 (by decide) ?_
      refine x_topi (w := nI p) e29 ?_
      refine x_aload_n f_156_13 rfl ?_
      refine x_getI f_156_14 S.k33 (by decide) ?_
      refine x_topi (w := nI n) e28 ?_
      refine x_icmpN_ne (t := 29) f_156_17 (by decide) (by omega) (by omega) (fun c_1 => by omega) (fun c_1 => ?_)
      refine x_aload_n f_156_20 rfl ?_
      refine x_aload_n f_156_21 rfl ?_
      refine x_getI f_156_22 S.k33 (by decide) ?_
      refine x_topi (w := nI p) e29 ?_
      refine x_putI f_156_25 S.k33 (by decide) ?_
      refine x_retV f_156_28 rfl ?_
      refine ⟨rfl, (FE.rf hF.1).set (by decide), (false, p), FS_bad hp (mj_I_at _ _ _ _), fun r => ?_⟩
      show CK G T n p _ = some p
      rw [hpn]
      exact CK_end G T _ r
    · replace hpn : p < n := by omega
      have h31 := (hT p hpn).2
      have hcases : T p < 2 ∨ (∃ i, i < 8 ∧ T p = 2 + i) ∨ (∃ i, i < 8 ∧ T p = 10 + i) ∨ (∃ i, i < 8 ∧ T p = 18 + i) ∨ (∃ i, i < 8 ∧ T p = 26 + i) := by
        by_cases k1 : T p < 2
        · exact Or.inl k1
        · by_cases k2 : T p < 10
          · exact Or.inr (Or.inl ⟨T p - 2, by omega, by omega⟩)
          · by_cases k3 : T p < 18
            · exact Or.inr (Or.inr (Or.inl ⟨T p - 10, by omega, by omega⟩))
            · by_cases k4 : T p < 26
              · exact Or.inr (Or.inr (Or.inr (Or.inl ⟨T p - 18, by omega, by omega⟩)))
              · exact Or.inr (Or.inr (Or.inr (Or.inr ⟨T p - 26, by omega, by omega⟩)))
      rcases hcases with hv2 | ⟨i, i8, e_T⟩ | ⟨i, i8, e_T⟩ | ⟨i, i8, e_T⟩ | ⟨i, i8, e_T⟩
      · have gle := gcN_le G (a := a) (b := b) (c := c) (d := d) (e := e) (f := f) (by omega) (by omega) (by omega)
        have sle := sz_216 (a := a) (b := b) (c := c) (d := d) (e := e) (f := f) (by omega) (by omega) (by omega)
        show mx (7 + (s + 1)) 156 0 [.ref 33, .int (nI a), .int (nI b), .int (nI c), .int (nI d), .int (nI e), .int (nI f), mj_unset, mj_unset, mj_unset, mj_unset] [] h _
        refine x_aload_n f_156_0 rfl ?_
        refine x_getI f_156_1 S.k33 (by decide) ?_
        refine x_topi (w := -1) e30 ?_
        refine x_iconst (v := -1) f_156_4 (by decide) ?_
        refine x_icmp_eq (t := 9) f_156_5 (by decide) (fun c_1 => ?_) (fun c_1 => absurd rfl c_1)
        refine x_aload_n f_156_9 rfl ?_
        refine x_getI f_156_10 S.k33 (by decide) ?_
        refine x_topi (w := nI p) e29 ?_
        refine x_aload_n f_156_13 rfl ?_
        refine x_getI f_156_14 S.k33 (by decide) ?_
        refine x_topi (w := nI n) e28 ?_
        refine x_icmpN_ne (t := 29) f_156_17 (by decide) (by omega) (by omega) (fun c_1 => ?_) (fun c_1 => by omega)
        refine x_aload_n f_156_29 rfl ?_
        refine x_getR f_156_30 S.k33 (by decide) S.r27 ?_
        refine x_aload_n f_156_33 rfl ?_
        refine x_getI f_156_34 S.k33 (by decide) ?_
        refine x_topi (w := nI p) e29 ?_
        refine x_iald (j := p) f_156_37 S.k51 (by omega) (by decide) ?_
        refine x_topi (w := nI (T p)) (hT p hpn).1 ?_
        refine x_istore (ls1 := [.ref 33, .int (nI a), .int (nI b), .int (nI c), .int (nI d), .int (nI e), .int (nI f), .int (nI (T p)), mj_unset, mj_unset, mj_unset]) f_156_38 (Nat.le_of_ble_eq_true rfl) rfl ?_
        refine x_iload f_156_40 rfl ?_
        refine x_iconst (v := nI 2) f_156_42 (by decide) ?_
        refine x_icmpN_ge (t := 107) f_156_43 (by decide) (by omega) (by decide) (fun c_2 => by omega) (fun c_2 => ?_)
        refine x_aload_n f_156_46 rfl ?_
        refine x_iload_n f_156_47 rfl ?_
        refine x_iload_n f_156_48 rfl ?_
        refine x_iload_n f_156_49 rfl ?_
        refine x_iload f_156_50 rfl ?_
        refine x_iload f_156_52 rfl ?_
        refine x_iload f_156_54 rfl ?_
        refine x_callV f_156_56 (c_goodIn hF.2.1 hF.2.2.1 hF.2.2.2.1 hF.1 (by omega) (by omega) (by omega) (by omega) (by omega) (by omega)) (by omega) S.k33 (by decide) rfl rfl (Nat.le_of_ble_eq_true rfl) rfl ?_
        rintro _ g ⟨rfl, hv⟩
        have S := hv.1.1
        have e29 : mj_I g 33 29 = nI p := (hv.2.2 29 (by decide) (by decide) (by decide)).trans e29
        have e30 : mj_I g 33 30 = -1 := (hv.2.2 30 (by decide) (by decide) (by decide)).trans e30
        refine x_istore (ls1 := [.ref 33, .int (nI a), .int (nI b), .int (nI c), .int (nI d), .int (nI e), .int (nI f), .int (nI (T p)), .int (nI (gc h w a b c d e f)), mj_unset, mj_unset]) f_156_59 (Nat.le_of_ble_eq_true rfl) rfl ?_
        rw [gc_eq hF.2.2.2.2.1]
        refine x_iload f_156_61 rfl ?_
        refine x_iload f_156_63 rfl ?_
        refine x_ifN_ne (t := 83) f_156_65 (by decide) (by omega) (fun c_z => ?_) (fun c_z => ?_)
        · refine x_iconst (v := nI 0) f_156_83 (by decide) ?_
          refine x_icmpN_eq (t := 96) f_156_84 (by decide) (by omega) (by decide) (fun c_g => ?_) (fun c_g => ?_)
          · refine x_aload_n f_156_96 rfl ?_
            refine x_dup f_156_97 rfl ?_
            refine x_getI f_156_98 S.k33 (by decide) ?_
            refine x_topi (w := nI p) e29 ?_
            refine x_iconst (v := nI 1) f_156_101 (by decide) ?_
            refine x_iaddN f_156_102 ?_
            refine x_putI f_156_103 S.k33 (by decide) ?_
            refine x_retV f_156_106 rfl ?_
            refine ⟨rfl, (FE.mv hv).set (by decide), (true, p + 1), FS_ok (by omega) ((mj_I_ne (by decide)).trans e30) (mj_I_at _ _ _ _), fun r => ?_⟩
            show CK G T n p _ = CK G T n (p + 1) r
            rw [CK_cons G T hpn, if_pos hv2]
            first | rw [if_pos c_z, if_pos c_g] | rw [if_neg c_z, if_pos c_g]
          · refine x_aload_n f_156_87 rfl ?_
            refine x_aload_n f_156_88 rfl ?_
            refine x_getI f_156_89 S.k33 (by decide) ?_
            refine x_topi (w := nI p) e29 ?_
            refine x_putI f_156_92 S.k33 (by decide) ?_
            refine x_retV f_156_95 rfl ?_
            refine ⟨rfl, (FE.mv hv).set (by decide), (false, p), FS_bad (by omega) (mj_I_at _ _ _ _), fun r => ?_⟩
            show CK G T n p _ = some p
            rw [CK_cons G T hpn, if_pos hv2]
            first | rw [if_pos c_z, if_neg c_g] | rw [if_neg c_z, if_neg c_g]
        · refine x_iload_n f_156_68 rfl ?_
          refine x_iload_n f_156_69 rfl ?_
          refine x_iload_n f_156_70 rfl ?_
          refine x_iload f_156_71 rfl ?_
          refine x_iload f_156_73 rfl ?_
          refine x_iload f_156_75 rfl ?_
          refine x_callSe f_156_77 (c_sizeOf _ _ _ _ _ _ _) (by omega) rfl rfl rfl (Nat.le_of_ble_eq_true rfl) rfl ?_
          refine x_goto (t := 84) f_156_80 (by decide) ?_
          refine x_topi (w := nI (szN a b c d e f)) (sz_eq hB5.1 hB5.2.2.1 hB5.2.2.2.2.1) ?_
          refine x_icmpN_eq (t := 96) f_156_84 (by decide) (by omega) (by omega) (fun c_g => ?_) (fun c_g => ?_)
          · refine x_aload_n f_156_96 rfl ?_
            refine x_dup f_156_97 rfl ?_
            refine x_getI f_156_98 S.k33 (by decide) ?_
            refine x_topi (w := nI p) e29 ?_
            refine x_iconst (v := nI 1) f_156_101 (by decide) ?_
            refine x_iaddN f_156_102 ?_
            refine x_putI f_156_103 S.k33 (by decide) ?_
            refine x_retV f_156_106 rfl ?_
            refine ⟨rfl, (FE.mv hv).set (by decide), (true, p + 1), FS_ok (by omega) ((mj_I_ne (by decide)).trans e30) (mj_I_at _ _ _ _), fun r => ?_⟩
            show CK G T n p _ = CK G T n (p + 1) r
            rw [CK_cons G T hpn, if_pos hv2]
            first | rw [if_pos c_z, if_pos c_g] | rw [if_neg c_z, if_pos c_g]
          · refine x_aload_n f_156_87 rfl ?_
            refine x_aload_n f_156_88 rfl ?_
            refine x_getI f_156_89 S.k33 (by decide) ?_
            refine x_topi (w := nI p) e29 ?_
            refine x_putI f_156_92 S.k33 (by decide) ?_
            refine x_retV f_156_95 rfl ?_
            refine ⟨rfl, (FE.mv hv).set (by decide), (false, p), FS_bad (by omega) (mj_I_at _ _ _ _), fun r => ?_⟩
            show CK G T n p _ = some p
            rw [CK_cons G T hpn, if_pos hv2]
            first | rw [if_pos c_z, if_neg c_g] | rw [if_neg c_z, if_neg c_g]
      · have e51 : mj_I h 51 p = nI (2 + i) := by rw [(hT p hpn).1, e_T]
        have q0 : FE h (mj_setI h 33 29 (nI (p + 1))) jm := (FE.rf hF.1).set (by decide)
        show mx (7 + (s + 1)) 156 0 [.ref 33, .int (nI a), .int (nI b), .int (nI c), .int (nI d), .int (nI e), .int (nI f), mj_unset, mj_unset, mj_unset, mj_unset] [] h _
        refine x_aload_n f_156_0 rfl ?_
        refine x_getI f_156_1 S.k33 (by decide) ?_
        refine x_topi (w := -1) e30 ?_
        refine x_iconst (v := -1) f_156_4 (by decide) ?_
        refine x_icmp_eq (t := 9) f_156_5 (by decide) (fun c_1 => ?_) (fun c_1 => absurd rfl c_1)
        refine x_aload_n f_156_9 rfl ?_
        refine x_getI f_156_10 S.k33 (by decide) ?_
        refine x_topi (w := nI p) e29 ?_
        refine x_aload_n f_156_13 rfl ?_
        refine x_getI f_156_14 S.k33 (by decide) ?_
        refine x_topi (w := nI n) e28 ?_
        refine x_icmpN_ne (t := 29) f_156_17 (by decide) (by omega) (by omega) (fun c_1 => ?_) (fun c_1 => by omega)
        refine x_aload_n f_156_29 rfl ?_
        refine x_getR f_156_30 S.k33 (by decide) S.r27 ?_
        refine x_aload_n f_156_33 rfl ?_
        refine x_getI f_156_34 S.k33 (by decide) ?_
        refine x_topi (w := nI p) e29 ?_
        refine x_iald (j := p) f_156_37 S.k51 (by omega) (by decide) ?_
        refine x_topi (w := nI (2 + i)) e51 ?_
        refine x_istore (ls1 := [.ref 33, .int (nI a), .int (nI b), .int (nI c), .int (nI d), .int (nI e), .int (nI f), .int (nI (2 + i)), mj_unset, mj_unset, mj_unset]) f_156_38 (Nat.le_of_ble_eq_true rfl) rfl ?_
        refine x_iload f_156_40 rfl ?_
        refine x_iconst (v := nI 2) f_156_42 (by decide) ?_
        refine x_icmpN_ge (t := 107) f_156_43 (by decide) (by omega) (by decide) (fun c_2 => ?_) (fun c_2 => by omega)
        refine x_iload f_156_107 rfl ?_
        refine x_iconst (v := nI 2) f_156_109 (by decide) ?_
        refine x_isubN f_156_110 (by omega) ?_
        refine x_bipush (v := nI 8) f_156_111 (by decide) ?_
        refine x_idivN f_156_113 (by omega) (by decide) (by decide) ?_
        refine x_topi (w := nI 0) (by rw [show (2 + i - 2) / 8 = 0 by omega]) ?_
        refine x_istore (ls1 := [.ref 33, .int (nI a), .int (nI b), .int (nI c), .int (nI d), .int (nI e), .int (nI f), .int (nI (2 + i)), .int (nI 0), mj_unset, mj_unset]) f_156_114 (Nat.le_of_ble_eq_true rfl) rfl ?_
        refine x_iload f_156_116 rfl ?_
        refine x_iconst (v := nI 2) f_156_118 (by decide) ?_
        refine x_isubN f_156_119 (by omega) ?_
        refine x_bipush (v := nI 8) f_156_120 (by decide) ?_
        refine x_iremN f_156_122 (by omega) (by decide) (by decide) ?_
        refine x_topi (w := nI i) (by rw [show (2 + i - 2) % 8 = i by omega]) ?_
        refine x_istore (ls1 := [.ref 33, .int (nI a), .int (nI b), .int (nI c), .int (nI d), .int (nI e), .int (nI f), .int (nI (2 + i)), .int (nI 0), .int (nI i), mj_unset]) f_156_123 (Nat.le_of_ble_eq_true rfl) rfl ?_
        refine x_iload f_156_125 rfl ?_
        refine x_ifN_ne (t := 136) f_156_127 (by decide) (by decide) (fun c_3 => by omega) (fun c_3 => ?_)
        refine x_iload_n f_156_130 rfl ?_
        refine x_iload_n f_156_131 rfl ?_
        refine x_isubN f_156_132 (by omega) ?_
        refine x_goto (t := 164) f_156_133 (by decide) ?_
        refine x_istore (ls1 := [.ref 33, .int (nI a), .int (nI b), .int (nI c), .int (nI d), .int (nI e), .int (nI f), .int (nI (2 + i)), .int (nI 0), .int (nI i), .int (nI (b - a))]) f_156_164 (Nat.le_of_ble_eq_true rfl) rfl ?_
        refine x_iload f_156_166 rfl ?_
        refine x_iload f_156_168 rfl ?_
        refine x_icmpN_lt (t := 182) f_156_170 (by decide) (by omega) (by omega) (fun c_m => ?_) (fun c_m => ?_)
        · refine x_aload_n f_156_182 rfl ?_
          refine x_dup f_156_183 rfl ?_
          refine x_getI f_156_184 S.k33 (by decide) ?_
          refine x_topi (w := nI p) e29 ?_
          refine x_iconst (v := nI 1) f_156_187 (by decide) ?_
          refine x_iaddN f_156_188 ?_
          refine x_putI f_156_189 S.k33 (by decide) ?_
          refine x_iload f_156_192 rfl ?_
          refine x_ifN_ne (t := 234) f_156_194 (by decide) (by decide) (fun c_4 => by omega) (fun c_4 => ?_)
          refine x_aload_n f_156_197 rfl ?_
          refine x_iload_n f_156_198 rfl ?_
          refine x_iload_n f_156_199 rfl ?_
          refine x_iload f_156_200 rfl ?_
          refine x_iaddN f_156_202 ?_
          refine x_iload_n f_156_203 rfl ?_
          refine x_iload f_156_204 rfl ?_
          refine x_iload f_156_206 rfl ?_
          refine x_iload f_156_208 rfl ?_
          refine x_callV f_156_210 (IH a (a + i) c d e f (true, p + 1) _ (by unfold BX; omega) (by unfold spn; omega) (hF.to q0) (FS_ok (by omega) ((mj_I_ne (by decide)).trans e30) (mj_I_at _ _ _ _))) (by omega) S.k33 (by decide) rfl rfl (Nat.le_of_ble_eq_true rfl) rfl ?_
          rintro _ g1 ⟨rfl, q1, x1, s1, t1⟩
          have S := q1.1.1
          refine x_aload_n f_156_213 rfl ?_
          refine x_iload_n f_156_214 rfl ?_
          refine x_iload f_156_215 rfl ?_
          refine x_iaddN f_156_217 ?_
          refine x_iconst (v := nI 1) f_156_218 (by decide) ?_
          refine x_iaddN f_156_219 ?_
          refine x_iload_n f_156_220 rfl ?_
          refine x_iload_n f_156_221 rfl ?_
          refine x_iload f_156_222 rfl ?_
          refine x_iload f_156_224 rfl ?_
          refine x_iload f_156_226 rfl ?_
          refine x_callV f_156_228 (IH (a + i + 1) b c d e f x1 _ (by unfold BX; omega) (by unfold spn; omega) ((hF.to q0).to q1) s1) (by omega) S.k33 (by decide) rfl rfl (Nat.le_of_ble_eq_true rfl) rfl ?_
          rintro _ g2 ⟨rfl, q2, x2, s2, t2⟩
          refine x_goto (t := 310) f_156_231 (by decide) ?_
          refine x_retV f_156_310 rfl ?_
          refine ⟨rfl, (q0.trans q1).trans q2, x2, s2, fun r => ?_⟩
          rw [← t2, ← t1]
          show CK G T n p _ = CK G T n (p + 1) _
          rw [CK_cons G T hpn, e_T, if_neg (show ¬ 2 + i < 2 by omega)]
          rw [if_pos (show 2 + i < 10 by omega), show 2 + i - 2 = i by omega, if_pos (show i < b - a by omega)]
        · refine x_aload_n f_156_173 rfl ?_
          refine x_aload_n f_156_174 rfl ?_
          refine x_getI f_156_175 S.k33 (by decide) ?_
          refine x_topi (w := nI p) e29 ?_
          refine x_putI f_156_178 S.k33 (by decide) ?_
          refine x_retV f_156_181 rfl ?_
          refine ⟨rfl, (FE.rf hF.1).set (by decide), (false, p), FS_bad (by omega) (mj_I_at _ _ _ _), fun r => ?_⟩
          show CK G T n p _ = some p
          rw [CK_cons G T hpn, e_T, if_neg (show ¬ 2 + i < 2 by omega)]
          rw [if_pos (show 2 + i < 10 by omega), show 2 + i - 2 = i by omega, if_neg (show ¬ i < b - a by omega)]
      · have e51 : mj_I h 51 p = nI (10 + i) := by rw [(hT p hpn).1, e_T]
        have q0 : FE h (mj_setI h 33 29 (nI (p + 1))) jm := (FE.rf hF.1).set (by decide)
        show mx (7 + (s + 1)) 156 0 [.ref 33, .int (nI a), .int (nI b), .int (nI c), .int (nI d), .int (nI e), .int (nI f), mj_unset, mj_unset, mj_unset, mj_unset] [] h _
        refine x_aload_n f_156_0 rfl ?_
        refine x_getI f_156_1 S.k33 (by decide) ?_
        refine x_topi (w := -1) e30 ?_
        refine x_iconst (v := -1) f_156_4 (by decide) ?_
        refine x_icmp_eq (t := 9) f_156_5 (by decide) (fun c_1 => ?_) (fun c_1 => absurd rfl c_1)
        refine x_aload_n f_156_9 rfl ?_
        refine x_getI f_156_10 S.k33 (by decide) ?_
        refine x_topi (w := nI p) e29 ?_
        refine x_aload_n f_156_13 rfl ?_
        refine x_getI f_156_14 S.k33 (by decide) ?_
        refine x_topi (w := nI n) e28 ?_
        refine x_icmpN_ne (t := 29) f_156_17 (by decide) (by omega) (by omega) (fun c_1 => ?_) (fun c_1 => by omega)
        refine x_aload_n f_156_29 rfl ?_
        refine x_getR f_156_30 S.k33 (by decide) S.r27 ?_
        refine x_aload_n f_156_33 rfl ?_
        refine x_getI f_156_34 S.k33 (by decide) ?_
        refine x_topi (w := nI p) e29 ?_
        refine x_iald (j := p) f_156_37 S.k51 (by omega) (by decide) ?_
        refine x_topi (w := nI (10 + i)) e51 ?_
        refine x_istore (ls1 := [.ref 33, .int (nI a), .int (nI b), .int (nI c), .int (nI d), .int (nI e), .int (nI f), .int (nI (10 + i)), mj_unset, mj_unset, mj_unset]) f_156_38 (Nat.le_of_ble_eq_true rfl) rfl ?_
        refine x_iload f_156_40 rfl ?_
        refine x_iconst (v := nI 2) f_156_42 (by decide) ?_
        refine x_icmpN_ge (t := 107) f_156_43 (by decide) (by omega) (by decide) (fun c_2 => ?_) (fun c_2 => by omega)
        refine x_iload f_156_107 rfl ?_
        refine x_iconst (v := nI 2) f_156_109 (by decide) ?_
        refine x_isubN f_156_110 (by omega) ?_
        refine x_bipush (v := nI 8) f_156_111 (by decide) ?_
        refine x_idivN f_156_113 (by omega) (by decide) (by decide) ?_
        refine x_topi (w := nI 1) (by rw [show (10 + i - 2) / 8 = 1 by omega]) ?_
        refine x_istore (ls1 := [.ref 33, .int (nI a), .int (nI b), .int (nI c), .int (nI d), .int (nI e), .int (nI f), .int (nI (10 + i)), .int (nI 1), mj_unset, mj_unset]) f_156_114 (Nat.le_of_ble_eq_true rfl) rfl ?_
        refine x_iload f_156_116 rfl ?_
        refine x_iconst (v := nI 2) f_156_118 (by decide) ?_
        refine x_isubN f_156_119 (by omega) ?_
        refine x_bipush (v := nI 8) f_156_120 (by decide) ?_
        refine x_iremN f_156_122 (by omega) (by decide) (by decide) ?_
        refine x_topi (w := nI i) (by rw [show (10 + i - 2) % 8 = i by omega]) ?_
        refine x_istore (ls1 := [.ref 33, .int (nI a), .int (nI b), .int (nI c), .int (nI d), .int (nI e), .int (nI f), .int (nI (10 + i)), .int (nI 1), .int (nI i), mj_unset]) f_156_123 (Nat.le_of_ble_eq_true rfl) rfl ?_
        refine x_iload f_156_125 rfl ?_
        refine x_ifN_ne (t := 136) f_156_127 (by decide) (by decide) (fun c_3 => ?_) (fun c_3 => by omega)
        refine x_iload f_156_136 rfl ?_
        refine x_iconst (v := nI 1) f_156_138 (by decide) ?_
        refine x_icmpN_ne (t := 149) f_156_139 (by decide) (by decide) (by decide) (fun c_4 => by omega) (fun c_4 => ?_)
        refine x_iload f_156_142 rfl ?_
        refine x_iload_n f_156_144 rfl ?_
        refine x_isubN f_156_145 (by omega) ?_
        refine x_goto (t := 164) f_156_146 (by decide) ?_
        refine x_istore (ls1 := [.ref 33, .int (nI a), .int (nI b), .int (nI c), .int (nI d), .int (nI e), .int (nI f), .int (nI (10 + i)), .int (nI 1), .int (nI i), .int (nI (d - c))]) f_156_164 (Nat.le_of_ble_eq_true rfl) rfl ?_
        refine x_iload f_156_166 rfl ?_
        refine x_iload f_156_168 rfl ?_
        refine x_icmpN_lt (t := 182) f_156_170 (by decide) (by omega) (by omega) (fun c_m => ?_) (fun c_m => ?_)
        · refine x_aload_n f_156_182 rfl ?_
          refine x_dup f_156_183 rfl ?_
          refine x_getI f_156_184 S.k33 (by decide) ?_
          refine x_topi (w := nI p) e29 ?_
          refine x_iconst (v := nI 1) f_156_187 (by decide) ?_
          refine x_iaddN f_156_188 ?_
          refine x_putI f_156_189 S.k33 (by decide) ?_
          refine x_iload f_156_192 rfl ?_
          refine x_ifN_ne (t := 234) f_156_194 (by decide) (by decide) (fun c_5 => ?_) (fun c_5 => by omega)
          refine x_iload f_156_234 rfl ?_
          refine x_iconst (v := nI 1) f_156_236 (by decide) ?_
          refine x_icmpN_ne (t := 276) f_156_237 (by decide) (by decide) (by decide) (fun c_6 => by omega) (fun c_6 => ?_)
          refine x_aload_n f_156_240 rfl ?_
          refine x_iload_n f_156_241 rfl ?_
          refine x_iload_n f_156_242 rfl ?_
          refine x_iload_n f_156_243 rfl ?_
          refine x_iload_n f_156_244 rfl ?_
          refine x_iload f_156_245 rfl ?_
          refine x_iaddN f_156_247 ?_
          refine x_iload f_156_248 rfl ?_
          refine x_iload f_156_250 rfl ?_
          refine x_callV f_156_252 (IH a b c (c + i) e f (true, p + 1) _ (by unfold BX; omega) (by unfold spn; omega) (hF.to q0) (FS_ok (by omega) ((mj_I_ne (by decide)).trans e30) (mj_I_at _ _ _ _))) (by omega) S.k33 (by decide) rfl rfl (Nat.le_of_ble_eq_true rfl) rfl ?_
          rintro _ g1 ⟨rfl, q1, x1, s1, t1⟩
          have S := q1.1.1
          refine x_aload_n f_156_255 rfl ?_
          refine x_iload_n f_156_256 rfl ?_
          refine x_iload_n f_156_257 rfl ?_
          refine x_iload_n f_156_258 rfl ?_
          refine x_iload f_156_259 rfl ?_
          refine x_iaddN f_156_261 ?_
          refine x_iconst (v := nI 1) f_156_262 (by decide) ?_
          refine x_iaddN f_156_263 ?_
          refine x_iload f_156_264 rfl ?_
          refine x_iload f_156_266 rfl ?_
          refine x_iload f_156_268 rfl ?_
          refine x_callV f_156_270 (IH a b (c + i + 1) d e f x1 _ (by unfold BX; omega) (by unfold spn; omega) ((hF.to q0).to q1) s1) (by omega) S.k33 (by decide) rfl rfl (Nat.le_of_ble_eq_true rfl) rfl ?_
          rintro _ g2 ⟨rfl, q2, x2, s2, t2⟩
          refine x_goto (t := 310) f_156_273 (by decide) ?_
          refine x_retV f_156_310 rfl ?_
          refine ⟨rfl, (q0.trans q1).trans q2, x2, s2, fun r => ?_⟩
          rw [← t2, ← t1]
          show CK G T n p _ = CK G T n (p + 1) _
          rw [CK_cons G T hpn, e_T, if_neg (show ¬ 10 + i < 2 by omega), if_neg (show ¬ 10 + i < 10 by omega)]
          rw [if_pos (show 10 + i < 18 by omega), show 10 + i - 10 = i by omega, if_pos (show i < d - c by omega)]
        · refine x_aload_n f_156_173 rfl ?_
          refine x_aload_n f_156_174 rfl ?_
          refine x_getI f_156_175 S.k33 (by decide) ?_
          refine x_topi (w := nI p) e29 ?_
          refine x_putI f_156_178 S.k33 (by decide) ?_
          refine x_retV f_156_181 rfl ?_
          refine ⟨rfl, (FE.rf hF.1).set (by decide), (false, p), FS_bad (by omega) (mj_I_at _ _ _ _), fun r => ?_⟩
          show CK G T n p _ = some p
          rw [CK_cons G T hpn, e_T, if_neg (show ¬ 10 + i < 2 by omega), if_neg (show ¬ 10 + i < 10 by omega)]
          rw [if_pos (show 10 + i < 18 by omega), show 10 + i - 10 = i by omega, if_neg (show ¬ i < d - c by omega)]
      · have e51 : mj_I h 51 p = nI (18 + i) := by rw [(hT p hpn).1, e_T]
        have q0 : FE h (mj_setI h 33 29 (nI (p + 1))) jm := (FE.rf hF.1).set (by decide)
        show mx (7 + (s + 1)) 156 0 [.ref 33, .int (nI a), .int (nI b), .int (nI c), .int (nI d), .int (nI e), .int (nI f), mj_unset, mj_unset, mj_unset, mj_unset] [] h _
        refine x_aload_n f_156_0 rfl ?_
        refine x_getI f_156_1 S.k33 (by decide) ?_
        refine x_topi (w := -1) e30 ?_
        refine x_iconst (v := -1) f_156_4 (by decide) ?_
        refine x_icmp_eq (t := 9) f_156_5 (by decide) (fun c_1 => ?_) (fun c_1 => absurd rfl c_1)
        refine x_aload_n f_156_9 rfl ?_
        refine x_getI f_156_10 S.k33 (by decide) ?_
        refine x_topi (w := nI p) e29 ?_
        refine x_aload_n f_156_13 rfl ?_
        refine x_getI f_156_14 S.k33 (by decide) ?_
        refine x_topi (w := nI n) e28 ?_
        refine x_icmpN_ne (t := 29) f_156_17 (by decide) (by omega) (by omega) (fun c_1 => ?_) (fun c_1 => by omega)
        refine x_aload_n f_156_29 rfl ?_
        refine x_getR f_156_30 S.k33 (by decide) S.r27 ?_
        refine x_aload_n f_156_33 rfl ?_
        refine x_getI f_156_34 S.k33 (by decide) ?_
        refine x_topi (w := nI p) e29 ?_
        refine x_iald (j := p) f_156_37 S.k51 (by omega) (by decide) ?_
        refine x_topi (w := nI (18 + i)) e51 ?_
        refine x_istore (ls1 := [.ref 33, .int (nI a), .int (nI b), .int (nI c), .int (nI d), .int (nI e), .int (nI f), .int (nI (18 + i)), mj_unset, mj_unset, mj_unset]) f_156_38 (Nat.le_of_ble_eq_true rfl) rfl ?_
        refine x_iload f_156_40 rfl ?_
        refine x_iconst (v := nI 2) f_156_42 (by decide) ?_
        refine x_icmpN_ge (t := 107) f_156_43 (by decide) (by omega) (by decide) (fun c_2 => ?_) (fun c_2 => by omega)
        refine x_iload f_156_107 rfl ?_
        refine x_iconst (v := nI 2) f_156_109 (by decide) ?_
        refine x_isubN f_156_110 (by omega) ?_
        refine x_bipush (v := nI 8) f_156_111 (by decide) ?_
        refine x_idivN f_156_113 (by omega) (by decide) (by decide) ?_
        refine x_topi (w := nI 2) (by rw [show (18 + i - 2) / 8 = 2 by omega]) ?_
        refine x_istore (ls1 := [.ref 33, .int (nI a), .int (nI b), .int (nI c), .int (nI d), .int (nI e), .int (nI f), .int (nI (18 + i)), .int (nI 2), mj_unset, mj_unset]) f_156_114 (Nat.le_of_ble_eq_true rfl) rfl ?_
        refine x_iload f_156_116 rfl ?_
        refine x_iconst (v := nI 2) f_156_118 (by decide) ?_
        refine x_isubN f_156_119 (by omega) ?_
        refine x_bipush (v := nI 8) f_156_120 (by decide) ?_
        refine x_iremN f_156_122 (by omega) (by decide) (by decide) ?_
        refine x_topi (w := nI i) (by rw [show (18 + i - 2) % 8 = i by omega]) ?_
        refine x_istore (ls1 := [.ref 33, .int (nI a), .int (nI b), .int (nI c), .int (nI d), .int (nI e), .int (nI f), .int (nI (18 + i)), .int (nI 2), .int (nI i), mj_unset]) f_156_123 (Nat.le_of_ble_eq_true rfl) rfl ?_
        refine x_iload f_156_125 rfl ?_
        refine x_ifN_ne (t := 136) f_156_127 (by decide) (by decide) (fun c_3 => ?_) (fun c_3 => by omega)
        refine x_iload f_156_136 rfl ?_
        refine x_iconst (v := nI 1) f_156_138 (by decide) ?_
        refine x_icmpN_ne (t := 149) f_156_139 (by decide) (by decide) (by decide) (fun c_4 => ?_) (fun c_4 => by omega)
        refine x_iload f_156_149 rfl ?_
        refine x_iconst (v := nI 2) f_156_151 (by decide) ?_
        refine x_icmpN_ne (t := 163) f_156_152 (by decide) (by decide) (by decide) (fun c_5 => by omega) (fun c_5 => ?_)
        refine x_iload f_156_155 rfl ?_
        refine x_iload f_156_157 rfl ?_
        refine x_isubN f_156_159 (by omega) ?_
        refine x_goto (t := 164) f_156_160 (by decide) ?_
        refine x_istore (ls1 := [.ref 33, .int (nI a), .int (nI b), .int (nI c), .int (nI d), .int (nI e), .int (nI f), .int (nI (18 + i)), .int (nI 2), .int (nI i), .int (nI (f - e))]) f_156_164 (Nat.le_of_ble_eq_true rfl) rfl ?_
        refine x_iload f_156_166 rfl ?_
        refine x_iload f_156_168 rfl ?_
        refine x_icmpN_lt (t := 182) f_156_170 (by decide) (by omega) (by omega) (fun c_m => ?_) (fun c_m => ?_)
        · refine x_aload_n f_156_182 rfl ?_
          refine x_dup f_156_183 rfl ?_
          refine x_getI f_156_184 S.k33 (by decide) ?_
          refine x_topi (w := nI p) e29 ?_
          refine x_iconst (v := nI 1) f_156_187 (by decide) ?_
          refine x_iaddN f_156_188 ?_
          refine x_putI f_156_189 S.k33 (by decide) ?_
          refine x_iload f_156_192 rfl ?_
          refine x_ifN_ne (t := 234) f_156_194 (by decide) (by decide) (fun c_6 => ?_) (fun c_6 => by omega)
          refine x_iload f_156_234 rfl ?_
          refine x_iconst (v := nI 1) f_156_236 (by decide) ?_
          refine x_icmpN_ne (t := 276) f_156_237 (by decide) (by decide) (by decide) (fun c_7 => ?_) (fun c_7 => by omega)
          refine x_aload_n f_156_276 rfl ?_
          refine x_iload_n f_156_277 rfl ?_
          refine x_iload_n f_156_278 rfl ?_
          refine x_iload_n f_156_279 rfl ?_
          refine x_iload f_156_280 rfl ?_
          refine x_iload f_156_282 rfl ?_
          refine x_iload f_156_284 rfl ?_
          refine x_iload f_156_286 rfl ?_
          refine x_iaddN f_156_288 ?_
          refine x_callV f_156_289 (IH a b c d e (e + i) (true, p + 1) _ (by unfold BX; omega) (by unfold spn; omega) (hF.to q0) (FS_ok (by omega) ((mj_I_ne (by decide)).trans e30) (mj_I_at _ _ _ _))) (by omega) S.k33 (by decide) rfl rfl (Nat.le_of_ble_eq_true rfl) rfl ?_
          rintro _ g1 ⟨rfl, q1, x1, s1, t1⟩
          have S := q1.1.1
          refine x_aload_n f_156_292 rfl ?_
          refine x_iload_n f_156_293 rfl ?_
          refine x_iload_n f_156_294 rfl ?_
          refine x_iload_n f_156_295 rfl ?_
          refine x_iload f_156_296 rfl ?_
          refine x_iload f_156_298 rfl ?_
          refine x_iload f_156_300 rfl ?_
          refine x_iaddN f_156_302 ?_
          refine x_iconst (v := nI 1) f_156_303 (by decide) ?_
          refine x_iaddN f_156_304 ?_
          refine x_iload f_156_305 rfl ?_
          refine x_callV f_156_307 (IH a b c d (e + i + 1) f x1 _ (by unfold BX; omega) (by unfold spn; omega) ((hF.to q0).to q1) s1) (by omega) S.k33 (by decide) rfl rfl (Nat.le_of_ble_eq_true rfl) rfl ?_
          rintro _ g2 ⟨rfl, q2, x2, s2, t2⟩
          refine x_retV f_156_310 rfl ?_
          refine ⟨rfl, (q0.trans q1).trans q2, x2, s2, fun r => ?_⟩
          rw [← t2, ← t1]
          show CK G T n p _ = CK G T n (p + 1) _
          rw [CK_cons G T hpn, e_T, if_neg (show ¬ 18 + i < 2 by omega), if_neg (show ¬ 18 + i < 10 by omega), if_neg (show ¬ 18 + i < 18 by omega)]
          rw [if_pos (show 18 + i < 26 by omega), show 18 + i - 18 = i by omega, if_pos (show i < f - e by omega)]
        · refine x_aload_n f_156_173 rfl ?_
          refine x_aload_n f_156_174 rfl ?_
          refine x_getI f_156_175 S.k33 (by decide) ?_
          refine x_topi (w := nI p) e29 ?_
          refine x_putI f_156_178 S.k33 (by decide) ?_
          refine x_retV f_156_181 rfl ?_
          refine ⟨rfl, (FE.rf hF.1).set (by decide), (false, p), FS_bad (by omega) (mj_I_at _ _ _ _), fun r => ?_⟩
          show CK G T n p _ = some p
          rw [CK_cons G T hpn, e_T, if_neg (show ¬ 18 + i < 2 by omega), if_neg (show ¬ 18 + i < 10 by omega), if_neg (show ¬ 18 + i < 18 by omega)]
          rw [if_pos (show 18 + i < 26 by omega), show 18 + i - 18 = i by omega, if_neg (show ¬ i < f - e by omega)]
      · have e51 : mj_I h 51 p = nI (26 + i) := by rw [(hT p hpn).1, e_T]
        show mx (7 + (s + 1)) 156 0 [.ref 33, .int (nI a), .int (nI b), .int (nI c), .int (nI d), .int (nI e), .int (nI f), mj_unset, mj_unset, mj_unset, mj_unset] [] h _
        refine x_aload_n f_156_0 rfl ?_
        refine x_getI f_156_1 S.k33 (by decide) ?_
        refine x_topi (w := -1) e30 ?_
        refine x_iconst (v := -1) f_156_4 (by decide) ?_
        refine x_icmp_eq (t := 9) f_156_5 (by decide) (fun c_1 => ?_) (fun c_1 => absurd rfl c_1)
        refine x_aload_n f_156_9 rfl ?_
        refine x_getI f_156_10 S.k33 (by decide) ?_
        refine x_topi (w := nI p) e29 ?_
        refine x_aload_n f_156_13 rfl ?_
        refine x_getI f_156_14 S.k33 (by decide) ?_
        refine x_topi (w := nI n) e28 ?_
        refine x_icmpN_ne (t := 29) f_156_17 (by decide) (by omega) (by omega) (fun c_1 => ?_) (fun c_1 => by omega)
        refine x_aload_n f_156_29 rfl ?_
        refine x_getR f_156_30 S.k33 (by decide) S.r27 ?_
        refine x_aload_n f_156_33 rfl ?_
        refine x_getI f_156_34 S.k33 (by decide) ?_
        refine x_topi (w := nI p) e29 ?_
        refine x_iald (j := p) f_156_37 S.k51 (by omega) (by decide) ?_
        refine x_topi (w := nI (26 + i)) e51 ?_
        refine x_istore (ls1 := [.ref 33, .int (nI a), .int (nI b), .int (nI c), .int (nI d), .int (nI e), .int (nI f), .int (nI (26 + i)), mj_unset, mj_unset, mj_unset]) f_156_38 (Nat.le_of_ble_eq_true rfl) rfl ?_
        refine x_iload f_156_40 rfl ?_
        refine x_iconst (v := nI 2) f_156_42 (by decide) ?_
        refine x_icmpN_ge (t := 107) f_156_43 (by decide) (by omega) (by decide) (fun c_2 => ?_) (fun c_2 => by omega)
        refine x_iload f_156_107 rfl ?_
        refine x_iconst (v := nI 2) f_156_109 (by decide) ?_
        refine x_isubN f_156_110 (by omega) ?_
        refine x_bipush (v := nI 8) f_156_111 (by decide) ?_
        refine x_idivN f_156_113 (by omega) (by decide) (by decide) ?_
        refine x_topi (w := nI 3) (by rw [show (26 + i - 2) / 8 = 3 by omega]) ?_
        refine x_istore (ls1 := [.ref 33, .int (nI a), .int (nI b), .int (nI c), .int (nI d), .int (nI e), .int (nI f), .int (nI (26 + i)), .int (nI 3), mj_unset, mj_unset]) f_156_114 (Nat.le_of_ble_eq_true rfl) rfl ?_
        refine x_iload f_156_116 rfl ?_
        refine x_iconst (v := nI 2) f_156_118 (by decide) ?_
        refine x_isubN f_156_119 (by omega) ?_
        refine x_bipush (v := nI 8) f_156_120 (by decide) ?_
        refine x_iremN f_156_122 (by omega) (by decide) (by decide) ?_
        refine x_topi (w := nI i) (by rw [show (26 + i - 2) % 8 = i by omega]) ?_
        refine x_istore (ls1 := [.ref 33, .int (nI a), .int (nI b), .int (nI c), .int (nI d), .int (nI e), .int (nI f), .int (nI (26 + i)), .int (nI 3), .int (nI i), mj_unset]) f_156_123 (Nat.le_of_ble_eq_true rfl) rfl ?_
        refine x_iload f_156_125 rfl ?_
        refine x_ifN_ne (t := 136) f_156_127 (by decide) (by decide) (fun c_3 => ?_) (fun c_3 => by omega)
        refine x_iload f_156_136 rfl ?_
        refine x_iconst (v := nI 1) f_156_138 (by decide) ?_
        refine x_icmpN_ne (t := 149) f_156_139 (by decide) (by decide) (by decide) (fun c_4 => ?_) (fun c_4 => by omega)
        refine x_iload f_156_149 rfl ?_
        refine x_iconst (v := nI 2) f_156_151 (by decide) ?_
        refine x_icmpN_ne (t := 163) f_156_152 (by decide) (by decide) (by decide) (fun c_5 => ?_) (fun c_5 => by omega)
        refine x_iconst (v := nI 0) f_156_163 (by decide) ?_
        refine x_istore (ls1 := [.ref 33, .int (nI a), .int (nI b), .int (nI c), .int (nI d), .int (nI e), .int (nI f), .int (nI (26 + i)), .int (nI 3), .int (nI i), .int (nI 0)]) f_156_164 (Nat.le_of_ble_eq_true rfl) rfl ?_
        refine x_iload f_156_166 rfl ?_
        refine x_iload f_156_168 rfl ?_
        refine x_icmpN_lt (t := 182) f_156_170 (by decide) (by omega) (by decide) (fun c_m => by omega) (fun c_m => ?_)
        refine x_aload_n f_156_173 rfl ?_
        refine x_aload_n f_156_174 rfl ?_
        refine x_getI f_156_175 S.k33 (by decide) ?_
        refine x_topi (w := nI p) e29 ?_
        refine x_putI f_156_178 S.k33 (by decide) ?_
        refine x_retV f_156_181 rfl ?_
        refine ⟨rfl, (FE.rf hF.1).set (by decide), (false, p), FS_bad (by omega) (mj_I_at _ _ _ _), fun r => ?_⟩
        show CK G T n p _ = some p
        rw [CK_cons G T hpn, e_T, if_neg (show ¬ 26 + i < 2 by omega), if_neg (show ¬ 26 + i < 10 by omega), if_neg (show ¬ 26 + i < 18 by omega), if_neg (show ¬ 26 + i < 26 by omega)]
theorem follow_all {jm w n : Nat} {G : Gd} {W T : Nat → Nat} : ∀ s, FoP jm w G W n T s
  | 0 => follow_0
  | s + 1 => follow_s (follow_all s)
end
section
theorem f_157_48 : mj_fetch 157 48 = some (.aload_n 0, 0, 0) := by decide +kernel
theorem f_157_49 : mj_fetch 157 49 = some (.getfield 225, 11, 30) := by decide +kernel
theorem f_157_52 : mj_fetch 157 52 = some (.iconst (-1), 0, 0) := by decide +kernel
theorem f_157_53 : mj_fetch 157 53 = some (.if_icmp .eq 10, 0, 0) := by decide +kernel
theorem f_157_56 : mj_fetch 157 56 = some (.aload_n 0, 0, 0) := by decide +kernel
theorem f_157_57 : mj_fetch 157 57 = some (.getfield 225, 11, 30) := by decide +kernel
theorem f_157_60 : mj_fetch 157 60 = some (.goto 22, 0, 0) := by decide +kernel
theorem f_157_82 : mj_fetch 157 82 = some (.ireturn, 0, 0) := by decide +kernel
theorem f_157_63 : mj_fetch 157 63 = some (.aload_n 0, 0, 0) := by decide +kernel
theorem f_157_64 : mj_fetch 157 64 = some (.getfield 228, 11, 29) := by decide +kernel
theorem f_157_67 : mj_fetch 157 67 = some (.aload_n 0, 0, 0) := by decide +kernel
theorem f_157_68 : mj_fetch 157 68 = some (.getfield 222, 11, 28) := by decide +kernel
theorem f_157_71 : mj_fetch 157 71 = some (.if_icmp .ge 10, 0, 0) := by decide +kernel
theorem f_157_74 : mj_fetch 157 74 = some (.aload_n 0, 0, 0) := by decide +kernel
theorem f_157_75 : mj_fetch 157 75 = some (.getfield 228, 11, 29) := by decide +kernel
theorem f_157_78 : mj_fetch 157 78 = some (.goto 4, 0, 0) := by decide +kernel
theorem f_157_81 : mj_fetch 157 81 = some (.iconst (-1), 0, 0) := by decide +kernel
theorem f_157_0 : mj_fetch 157 0 = some (.aload_n 0, 0, 0) := by decide +kernel
theorem f_157_1 : mj_fetch 157 1 = some (.iload_n 1, 0, 0) := by decide +kernel
theorem f_157_2 : mj_fetch 157 2 = some (.invokevirtual 185, 137, 0) := by decide +kernel
theorem f_157_5 : mj_fetch 157 5 = some (.ifCond .ne 6, 0, 0) := by decide +kernel
theorem f_157_8 : mj_fetch 157 8 = some (.bipush (-2), 0, 0) := by decide +kernel
theorem f_157_10 : mj_fetch 157 10 = some (.ireturn, 0, 0) := by decide +kernel
theorem f_157_11 : mj_fetch 157 11 = some (.aload_n 0, 0, 0) := by decide +kernel
theorem f_157_12 : mj_fetch 157 12 = some (.iload_n 1, 0, 0) := by decide +kernel
theorem f_157_13 : mj_fetch 157 13 = some (.putfield 179, 11, 22) := by decide +kernel
theorem f_157_16 : mj_fetch 157 16 = some (.aload_n 0, 0, 0) := by decide +kernel
theorem f_157_17 : mj_fetch 157 17 = some (.iconst 0, 0, 0) := by decide +kernel
theorem f_157_18 : mj_fetch 157 18 = some (.putfield 228, 11, 29) := by decide +kernel
theorem f_157_21 : mj_fetch 157 21 = some (.aload_n 0, 0, 0) := by decide +kernel
theorem f_157_22 : mj_fetch 157 22 = some (.iconst (-1), 0, 0) := by decide +kernel
theorem f_157_23 : mj_fetch 157 23 = some (.putfield 225, 11, 30) := by decide +kernel
theorem f_157_26 : mj_fetch 157 26 = some (.aload_n 0, 0, 0) := by decide +kernel
theorem f_157_27 : mj_fetch 157 27 = some (.iconst 0, 0, 0) := by decide +kernel
theorem f_157_28 : mj_fetch 157 28 = some (.aload_n 0, 0, 0) := by decide +kernel
theorem f_157_29 : mj_fetch 157 29 = some (.iconst 0, 0, 0) := by decide +kernel
theorem f_157_30 : mj_fetch 157 30 = some (.invokevirtual 188, 143, 0) := by decide +kernel
theorem f_157_33 : mj_fetch 157 33 = some (.iconst 0, 0, 0) := by decide +kernel
theorem f_157_34 : mj_fetch 157 34 = some (.aload_n 0, 0, 0) := by decide +kernel
theorem f_157_35 : mj_fetch 157 35 = some (.iconst 1, 0, 0) := by decide +kernel
theorem f_157_36 : mj_fetch 157 36 = some (.invokevirtual 188, 143, 0) := by decide +kernel
theorem f_157_39 : mj_fetch 157 39 = some (.iconst 0, 0, 0) := by decide +kernel
theorem f_157_40 : mj_fetch 157 40 = some (.aload_n 0, 0, 0) := by decide +kernel
theorem f_157_41 : mj_fetch 157 41 = some (.iconst 2, 0, 0) := by decide +kernel
theorem f_157_42 : mj_fetch 157 42 = some (.invokevirtual 188, 143, 0) := by decide +kernel
theorem f_157_45 : mj_fetch 157 45 = some (.invokevirtual 231, 156, 0) := by decide +kernel
/-- what is answered of a row that was followed -/
def ckA : Option Nat → Int32
  | none => -1
  | some p => nI p
/-- a told row against a window -/
def CW (h : mj_H) (w n : Nat) (T : Nat → Nat) : Option Nat := CK (wg h w) T n 0 [(0, Wd h w 0, 0, Wd h w 1, 0, Wd h w 2)]

set_option maxRecDepth 20000 in
set_option maxHeartbeats 4000000 in
theorem c_check {h : mj_H} {jm wm : Nat} (hW : MW h jm) (h_wm : wm ≤ 10) (e_wm : mj_I h 33 21 = nI wm) (hNN : ∀ i, i < wm → WN h i jm) (w : Int32) {n : Nat} {T : Nat → Nat} (h_tm : n ≤ 500) (e_tm : mj_I h 33 28 = nI n) (hT : ∀ q, q < n → mj_I h 51 q = nI (T q) ∧ T q ≤ 31) : mxc 23 157 [.ref 33, .int w] h (fun r h' => if mIn w wm then r = some (.int (ckA (CW h w.toNatClampNeg n T))) ∧ SQ h h' jm else r = some (.int (-2)) ∧ h' = h) := by
  have S : SM h := hW.1
  show mx 23 157 0 [.ref 33, .int w] [] h _
  refine x_aload_n f_157_0 rfl ?_
  refine x_iload_n f_157_1 rfl ?_
  refine x_callVe f_157_2 (c_isWindow hW.1 _ (n := wm) (by omega) e_wm) (by omega) S.k33 (by decide) rfl rfl (Nat.le_of_ble_eq_true rfl) rfl ?_
  refine x_ifB_ne (t := 11) f_157_5 (by decide) (fun c_1 => ?_) (fun c_1 => ?_)
  · obtain ⟨i, h_i, rfl⟩ := mIn_of c_1 (by omega)
    have hN := hNN i h_i
    have hw5 := Wd_5 hN
    simp only [nI_clamp (show i < 2 ^ 31 by omega)]
    refine x_aload_n f_157_11 rfl ?_
    refine x_iload_n f_157_12 rfl ?_
    refine x_putI f_157_13 S.k33 (by decide) ?_
    refine x_aload_n f_157_16 rfl ?_
    refine x_iconst (v := nI 0) f_157_17 (by decide) ?_
    refine x_putI f_157_18 S.k33 (by decide) ?_
    refine x_aload_n f_157_21 rfl ?_
    refine x_iconst (v := -1) f_157_22 (by decide) ?_
    refine x_putI f_157_23 S.k33 (by decide) ?_
    have hF : FI (mj_setI (mj_setI (mj_setI h 33 22 (nI i)) 33 29 (nI 0)) 33 30 (-1)) jm i (wg h i) (Wd h i) n T := by
      have e36 : mj_I (mj_setI (mj_setI (mj_setI h 33 22 (nI i)) 33 29 (nI 0)) 33 30 (-1)) 36 = mj_I h 36 := (mj_I_other (by decide)).trans ((mj_I_other (by decide)).trans (mj_I_other (by decide)))
      have e45 : mj_I (mj_setI (mj_setI (mj_setI h 33 22 (nI i)) 33 29 (nI 0)) 33 30 (-1)) 45 = mj_I h 45 := (mj_I_other (by decide)).trans ((mj_I_other (by decide)).trans (mj_I_other (by decide)))
      have e46 : mj_I (mj_setI (mj_setI (mj_setI h 33 22 (nI i)) 33 29 (nI 0)) 33 30 (-1)) 46 = mj_I h 46 := (mj_I_other (by decide)).trans ((mj_I_other (by decide)).trans (mj_I_other (by decide)))
      have e47 : mj_I (mj_setI (mj_setI (mj_setI h 33 22 (nI i)) 33 29 (nI 0)) 33 30 (-1)) 47 = mj_I h 47 := (mj_I_other (by decide)).trans ((mj_I_other (by decide)).trans (mj_I_other (by decide)))
      have e51 : mj_I (mj_setI (mj_setI (mj_setI h 33 22 (nI i)) 33 29 (nI 0)) 33 30 (-1)) 51 = mj_I h 51 := (mj_I_other (by decide)).trans ((mj_I_other (by decide)).trans (mj_I_other (by decide)))
      refine ⟨MW_33 (MW_33 (MW_33 hW)), by omega, (mj_I_ne (by decide)).trans ((mj_I_ne (by decide)).trans (mj_I_at _ _ _ _)), WN_to e45 e46 e47 hN, fun t p l => wg_to e36 e45 e46 i t p l, fun a ha => ?_, (mj_I_ne (by decide)).trans ((mj_I_ne (by decide)).trans ((mj_I_ne (by decide)).trans e_tm)), h_tm, fun q hq => by rw [e51]; exact hT q hq⟩
      have qa := hN.2.2 a ha
      have eq : wlo (mj_setI (mj_setI (mj_setI h 33 22 (nI i)) 33 29 (nI 0)) 33 30 (-1)) i a = wlo h i a := by unfold wlo; rw [e46]
      rw [eq]
      unfold Wd
      omega
    have hX : FS (mj_setI (mj_setI (mj_setI h 33 22 (nI i)) 33 29 (nI 0)) 33 30 (-1)) n (true, 0) := FS_ok (Nat.zero_le _) (mj_I_at _ _ _ _) ((mj_I_ne (by decide)).trans (mj_I_at _ _ _ _))
    have hWI : ∀ a, a < 3 → mxc 0 143 [.ref 33, .int (nI a)] (mj_setI (mj_setI (mj_setI h 33 22 (nI i)) 33 29 (nI 0)) 33 30 (-1)) (fun r h' => r = some (.int (nI (Wd h i a))) ∧ h' = mj_setI (mj_setI (mj_setI h 33 22 (nI i)) 33 29 (nI 0)) 33 30 (-1)) := by
      intro a ha
      have e46 : mj_I (mj_setI (mj_setI (mj_setI h 33 22 (nI i)) 33 29 (nI 0)) 33 30 (-1)) 46 = mj_I h 46 := (mj_I_other (by decide)).trans ((mj_I_other (by decide)).trans (mj_I_other (by decide)))
      have e47 : mj_I (mj_setI (mj_setI (mj_setI h 33 22 (nI i)) 33 29 (nI 0)) 33 30 (-1)) 47 = mj_I h 47 := (mj_I_other (by decide)).trans ((mj_I_other (by decide)).trans (mj_I_other (by decide)))
      have q := c_wide hF.1.1 hF.2.1 hF.2.2.1 hF.2.2.2.1 ha
      unfold whi wlo at q
      rw [e46, e47] at q
      exact q
    refine x_aload_n f_157_26 rfl ?_
    refine x_iconst (v := nI 0) f_157_27 (by decide) ?_
    refine x_aload_n f_157_28 rfl ?_
    refine x_iconst (v := nI 0) f_157_29 (by decide) ?_
    refine x_callVe f_157_30 (hWI 0 (by decide)) (by omega) S.k33 (by decide) rfl rfl (Nat.le_of_ble_eq_true rfl) rfl ?_
    refine x_iconst (v := nI 0) f_157_33 (by decide) ?_
    refine x_aload_n f_157_34 rfl ?_
    refine x_iconst (v := nI 1) f_157_35 (by decide) ?_
    refine x_callVe f_157_36 (hWI 1 (by decide)) (by omega) S.k33 (by decide) rfl rfl (Nat.le_of_ble_eq_true rfl) rfl ?_
    refine x_iconst (v := nI 0) f_157_39 (by decide) ?_
    refine x_aload_n f_157_40 rfl ?_
    refine x_iconst (v := nI 2) f_157_41 (by decide) ?_
    refine x_callVe f_157_42 (hWI 2 (by decide)) (by omega) S.k33 (by decide) rfl rfl (Nat.le_of_ble_eq_true rfl) rfl ?_
    refine x_callV f_157_45 (follow_all 15 0 (Wd h i 0) 0 (Wd h i 1) 0 (Wd h i 2) (true, 0) _ (by unfold BX; omega) (by unfold spn; omega) hF hX) (by omega) S.k33 (by decide) rfl rfl (Nat.le_of_ble_eq_true rfl) rfl ?_
    rintro _ g ⟨rfl, hE, x, sx, tx⟩
    have S := hE.1.1
    have tx0 := tx []
    have hsq : SQ h g jm := ((((SQ.rf hW).set33 (by decide)).set33 (by decide)).set33 (by decide)).trans hE.sq
    have e28 : mj_I g 33 28 = nI n := (hE.2.2 28 (by decide)).trans ((mj_I_ne (by decide)).trans ((mj_I_ne (by decide)).trans ((mj_I_ne (by decide)).trans e_tm)))
    obtain ⟨y, p⟩ := x
    obtain ⟨hp, sx⟩ := sx
    replace hp : p ≤ n := hp
    have c_1w := c_1
    cases y with
    | false =>
      have e30 : mj_I g 33 30 = nI p := sx
      refine x_aload_n f_157_48 rfl ?_
      refine x_getI f_157_49 S.k33 (by decide) ?_
      refine x_topi (w := nI p) e30 ?_
      refine x_iconst (v := -1) f_157_52 (by decide) ?_
      refine x_icmp_eq (t := 63) f_157_53 (by decide) (fun c_1 => absurd c_1 (nI_ne_m1 (by omega))) (fun c_1 => ?_)
      refine x_aload_n f_157_56 rfl ?_
      refine x_getI f_157_57 S.k33 (by decide) ?_
      refine x_topi (w := nI p) e30 ?_
      refine x_goto (t := 82) f_157_60 (by decide) ?_
      refine x_retI f_157_82 rfl ?_
      refine mj_qT c_1w ⟨?_, hsq⟩
      have q : CW h i n T = some p := tx0
      rw [q]
      rfl
    | true =>
      have e30 : mj_I g 33 30 = -1 := sx.1
      have e29 : mj_I g 33 29 = nI p := sx.2
      refine x_aload_n f_157_48 rfl ?_
      refine x_getI f_157_49 S.k33 (by decide) ?_
      refine x_topi (w := -1) e30 ?_
      refine x_iconst (v := -1) f_157_52 (by decide) ?_
      refine x_icmp_eq (t := 63) f_157_53 (by decide) (fun c_2 => ?_) (fun c_2 => absurd rfl c_2)
      refine x_aload_n f_157_63 rfl ?_
      refine x_getI f_157_64 S.k33 (by decide) ?_
      refine x_topi (w := nI p) e29 ?_
      refine x_aload_n f_157_67 rfl ?_
      refine x_getI f_157_68 S.k33 (by decide) ?_
      refine x_topi (w := nI n) e28 ?_
      refine x_icmpN_ge (t := 81) f_157_71 (by decide) (by omega) (by omega) (fun c_p => ?_) (fun c_p => ?_)
      · refine x_iconst (v := -1) f_157_81 (by decide) ?_
        refine x_retI f_157_82 rfl ?_
        refine mj_qT c_1w ⟨?_, hsq⟩
        have q : CW h i n T = none := by
          refine Eq.trans tx0 ?_
          show CK _ T n p [] = none
          rw [CK_nil _ T hp, if_neg (by omega)]
        rw [q]
        rfl
      · refine x_aload_n f_157_74 rfl ?_
        refine x_getI f_157_75 S.k33 (by decide) ?_
        refine x_topi (w := nI p) e29 ?_
        refine x_goto (t := 82) f_157_78 (by decide) ?_
        refine x_retI f_157_82 rfl ?_
        refine mj_qT c_1w ⟨?_, hsq⟩
        have q : CW h i n T = some p := by
          refine Eq.trans tx0 ?_
          show CK _ T n p [] = some p
          rw [CK_nil _ T hp, if_pos (by omega)]
        rw [q]
        rfl
  · refine x_bipush (v := -2) f_157_8 (by decide) ?_
    refine x_retI f_157_10 rfl ?_
    exact mj_qF c_1 ⟨rfl, rfl⟩
end
