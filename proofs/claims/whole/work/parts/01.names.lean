-- ===== PART A: goes FIRST, ahead of the names: the tables' words, and 'selects' of the private methods out of them =====
/-- a private method of a class that the tables say can be made, by its rows of tables_1 -/
def lw_okq (q : MethodName × Nat) : Prop := (q.1.cls ≠ "java/lang/invoke/MethodHandle" ∧ q.1.cls ≠ "java/lang/invoke/VarHandle") ∧ Cond.instantiable q.1.cls q.2 ∈ tables_1 ∧ Cond.privateMethod q.1 ∈ tables_1 ∧ Cond.instanceMethod q.1 ∈ tables_1
theorem lw_p0 : lw_okq (⟨"RubbedWelds", "stuffAt", "(I)LRubbedWelds$Stuff;"⟩, 13) := ⟨⟨by decide +kernel, by decide +kernel⟩, List.mem_of_getElem? (i := 20) (by decide +kernel), List.mem_of_getElem? (i := 253) (by decide +kernel), List.mem_of_getElem? (i := 254) (by decide +kernel)⟩
theorem lw_p1 : lw_okq (⟨"RubbedWelds$Stuff", "isBarred", "(I)Z"⟩, 2) := ⟨⟨by decide +kernel, by decide +kernel⟩, List.mem_of_getElem? (i := 235) (by decide +kernel), List.mem_of_getElem? (i := 257) (by decide +kernel), List.mem_of_getElem? (i := 258) (by decide +kernel)⟩
theorem lw_p2 : lw_okq (⟨"RubbedWelds$Stuff", "barFrom", "(I)V"⟩, 2) := ⟨⟨by decide +kernel, by decide +kernel⟩, List.mem_of_getElem? (i := 235) (by decide +kernel), List.mem_of_getElem? (i := 261) (by decide +kernel), List.mem_of_getElem? (i := 262) (by decide +kernel)⟩
theorem lw_p3 : lw_okq (⟨"RubbedWelds$Job", "join", "(LRubbedWelds$Stuff;LRubbedWelds$Stuff;I)V"⟩, 5) := ⟨⟨by decide +kernel, by decide +kernel⟩, List.mem_of_getElem? (i := 268) (by decide +kernel), List.mem_of_getElem? (i := 293) (by decide +kernel), List.mem_of_getElem? (i := 294) (by decide +kernel)⟩
theorem lw_p4 : lw_okq (⟨"RubbedWelds", "weldOf", "(II)Z"⟩, 13) := ⟨⟨by decide +kernel, by decide +kernel⟩, List.mem_of_getElem? (i := 20) (by decide +kernel), List.mem_of_getElem? (i := 319) (by decide +kernel), List.mem_of_getElem? (i := 320) (by decide +kernel)⟩
theorem lw_p5 : lw_okq (⟨"RubbedWelds", "jobAt", "(I)LRubbedWelds$Job;"⟩, 13) := ⟨⟨by decide +kernel, by decide +kernel⟩, List.mem_of_getElem? (i := 20) (by decide +kernel), List.mem_of_getElem? (i := 323) (by decide +kernel), List.mem_of_getElem? (i := 324) (by decide +kernel)⟩
theorem lw_p6 : lw_okq (⟨"RubbedWelds$Bench", "weld", "(LRubbedWelds$Job;I)V"⟩, 9) := ⟨⟨by decide +kernel, by decide +kernel⟩, List.mem_of_getElem? (i := 34) (by decide +kernel), List.mem_of_getElem? (i := 330) (by decide +kernel), List.mem_of_getElem? (i := 331) (by decide +kernel)⟩
theorem lw_p7 : lw_okq (⟨"RubbedWelds$Bench", "layCold", "()V"⟩, 9) := ⟨⟨by decide +kernel, by decide +kernel⟩, List.mem_of_getElem? (i := 34) (by decide +kernel), List.mem_of_getElem? (i := 334) (by decide +kernel), List.mem_of_getElem? (i := 335) (by decide +kernel)⟩
theorem lw_p8 : lw_okq (⟨"RubbedWelds$Bench", "rub", "(LRubbedWelds$Job;I)Z"⟩, 9) := ⟨⟨by decide +kernel, by decide +kernel⟩, List.mem_of_getElem? (i := 34) (by decide +kernel), List.mem_of_getElem? (i := 338) (by decide +kernel), List.mem_of_getElem? (i := 339) (by decide +kernel)⟩
theorem lw_p9 : lw_okq (⟨"RubbedWelds$Bench", "tick", "(LRubbedWelds$Job;II)Z"⟩, 9) := ⟨⟨by decide +kernel, by decide +kernel⟩, List.mem_of_getElem? (i := 34) (by decide +kernel), List.mem_of_getElem? (i := 345) (by decide +kernel), List.mem_of_getElem? (i := 346) (by decide +kernel)⟩
theorem lw_p10 : lw_okq (⟨"RubbedWelds$Bench", "outOfAll", "()I"⟩, 9) := ⟨⟨by decide +kernel, by decide +kernel⟩, List.mem_of_getElem? (i := 34) (by decide +kernel), List.mem_of_getElem? (i := 350) (by decide +kernel), List.mem_of_getElem? (i := 351) (by decide +kernel)⟩
theorem lw_p11 : lw_okq (⟨"RubbedWelds$Bench", "press", "(LRubbedWelds$Job;I)V"⟩, 9) := ⟨⟨by decide +kernel, by decide +kernel⟩, List.mem_of_getElem? (i := 34) (by decide +kernel), List.mem_of_getElem? (i := 354) (by decide +kernel), List.mem_of_getElem? (i := 355) (by decide +kernel)⟩
theorem lw_p12 : lw_okq (⟨"RubbedWelds$Bench", "cool", "(LRubbedWelds$Job;)V"⟩, 9) := ⟨⟨by decide +kernel, by decide +kernel⟩, List.mem_of_getElem? (i := 34) (by decide +kernel), List.mem_of_getElem? (i := 358) (by decide +kernel), List.mem_of_getElem? (i := 359) (by decide +kernel)⟩
theorem lw_p13 : lw_okq (⟨"RubbedWelds$Bench", "firstFault", "(LRubbedWelds$Job;)I"⟩, 9) := ⟨⟨by decide +kernel, by decide +kernel⟩, List.mem_of_getElem? (i := 34) (by decide +kernel), List.mem_of_getElem? (i := 362) (by decide +kernel), List.mem_of_getElem? (i := 363) (by decide +kernel)⟩
theorem lw_p14 : lw_okq (⟨"RubbedWelds$Bench", "faultOf", "(LRubbedWelds$Job;I)I"⟩, 9) := ⟨⟨by decide +kernel, by decide +kernel⟩, List.mem_of_getElem? (i := 34) (by decide +kernel), List.mem_of_getElem? (i := 366) (by decide +kernel), List.mem_of_getElem? (i := 367) (by decide +kernel)⟩
theorem lw_p15 : lw_okq (⟨"RubbedWelds$Job", "judge", "(IZ)V"⟩, 5) := ⟨⟨by decide +kernel, by decide +kernel⟩, List.mem_of_getElem? (i := 268) (by decide +kernel), List.mem_of_getElem? (i := 370) (by decide +kernel), List.mem_of_getElem? (i := 371) (by decide +kernel)⟩
def lw_privs_1 : List (MethodName × Nat) := [(⟨"RubbedWelds", "stuffAt", "(I)LRubbedWelds$Stuff;"⟩, 13), (⟨"RubbedWelds$Stuff", "isBarred", "(I)Z"⟩, 2), (⟨"RubbedWelds$Stuff", "barFrom", "(I)V"⟩, 2), (⟨"RubbedWelds$Job", "join", "(LRubbedWelds$Stuff;LRubbedWelds$Stuff;I)V"⟩, 5), (⟨"RubbedWelds", "weldOf", "(II)Z"⟩, 13), (⟨"RubbedWelds", "jobAt", "(I)LRubbedWelds$Job;"⟩, 13), (⟨"RubbedWelds$Bench", "weld", "(LRubbedWelds$Job;I)V"⟩, 9), (⟨"RubbedWelds$Bench", "layCold", "()V"⟩, 9), (⟨"RubbedWelds$Bench", "rub", "(LRubbedWelds$Job;I)Z"⟩, 9), (⟨"RubbedWelds$Bench", "tick", "(LRubbedWelds$Job;II)Z"⟩, 9), (⟨"RubbedWelds$Bench", "outOfAll", "()I"⟩, 9), (⟨"RubbedWelds$Bench", "press", "(LRubbedWelds$Job;I)V"⟩, 9), (⟨"RubbedWelds$Bench", "cool", "(LRubbedWelds$Job;)V"⟩, 9), (⟨"RubbedWelds$Bench", "firstFault", "(LRubbedWelds$Job;)I"⟩, 9), (⟨"RubbedWelds$Bench", "faultOf", "(LRubbedWelds$Job;I)I"⟩, 9), (⟨"RubbedWelds$Job", "judge", "(IZ)V"⟩, 5)]
theorem lw_r1 : ∀ q ∈ lw_privs_1, lw_okq q := List.forall_mem_cons.mpr ⟨lw_p0, List.forall_mem_cons.mpr ⟨lw_p1, List.forall_mem_cons.mpr ⟨lw_p2, List.forall_mem_cons.mpr ⟨lw_p3, List.forall_mem_cons.mpr ⟨lw_p4, List.forall_mem_cons.mpr ⟨lw_p5, List.forall_mem_cons.mpr ⟨lw_p6, List.forall_mem_cons.mpr ⟨lw_p7, List.forall_mem_cons.mpr ⟨lw_p8, List.forall_mem_cons.mpr ⟨lw_p9, List.forall_mem_cons.mpr ⟨lw_p10, List.forall_mem_cons.mpr ⟨lw_p11, List.forall_mem_cons.mpr ⟨lw_p12, List.forall_mem_cons.mpr ⟨lw_p13, List.forall_mem_cons.mpr ⟨lw_p14, List.forall_mem_cons.mpr ⟨lw_p15, fun _ h => absurd h List.not_mem_nil⟩⟩⟩⟩⟩⟩⟩⟩⟩⟩⟩⟩⟩⟩⟩⟩
theorem lw_p16 : lw_okq (⟨"RubbedWelds", "windowAt", "(I)LRubbedWelds$Window;"⟩, 13) := ⟨⟨by decide +kernel, by decide +kernel⟩, List.mem_of_getElem? (i := 20) (by decide +kernel), List.mem_of_getElem? (i := 432) (by decide +kernel), List.mem_of_getElem? (i := 433) (by decide +kernel)⟩
theorem lw_p17 : lw_okq (⟨"RubbedWelds$Bench", "makesGood", "(LRubbedWelds$Job;I)Z"⟩, 9) := ⟨⟨by decide +kernel, by decide +kernel⟩, List.mem_of_getElem? (i := 34) (by decide +kernel), List.mem_of_getElem? (i := 439) (by decide +kernel), List.mem_of_getElem? (i := 440) (by decide +kernel)⟩
theorem lw_p18 : lw_okq (⟨"RubbedWelds$Job", "isJudged", "(I)Z"⟩, 5) := ⟨⟨by decide +kernel, by decide +kernel⟩, List.mem_of_getElem? (i := 268) (by decide +kernel), List.mem_of_getElem? (i := 443) (by decide +kernel), List.mem_of_getElem? (i := 444) (by decide +kernel)⟩
theorem lw_p19 : lw_okq (⟨"RubbedWelds$Job", "isFoundGood", "(I)Z"⟩, 5) := ⟨⟨by decide +kernel, by decide +kernel⟩, List.mem_of_getElem? (i := 268) (by decide +kernel), List.mem_of_getElem? (i := 448) (by decide +kernel), List.mem_of_getElem? (i := 449) (by decide +kernel)⟩
theorem lw_p20 : lw_okq (⟨"RubbedWelds", "leastRow", "(LRubbedWelds$Window;)[I"⟩, 13) := ⟨⟨by decide +kernel, by decide +kernel⟩, List.mem_of_getElem? (i := 20) (by decide +kernel), List.mem_of_getElem? (i := 456) (by decide +kernel), List.mem_of_getElem? (i := 457) (by decide +kernel)⟩
theorem lw_p21 : lw_okq (⟨"RubbedWelds$Prover", "fill", "(LRubbedWelds$Bench;LRubbedWelds$Window;)V"⟩, 1) := ⟨⟨by decide +kernel, by decide +kernel⟩, List.mem_of_getElem? (i := 460) (by decide +kernel), List.mem_of_getElem? (i := 470) (by decide +kernel), List.mem_of_getElem? (i := 471) (by decide +kernel)⟩
theorem lw_p22 : lw_okq (⟨"RubbedWelds$Prover", "leastCut", "(IIII)I"⟩, 1) := ⟨⟨by decide +kernel, by decide +kernel⟩, List.mem_of_getElem? (i := 460) (by decide +kernel), List.mem_of_getElem? (i := 485) (by decide +kernel), List.mem_of_getElem? (i := 486) (by decide +kernel)⟩
theorem lw_p23 : lw_okq (⟨"RubbedWelds$Prover", "leastOn", "(IIII)I"⟩, 1) := ⟨⟨by decide +kernel, by decide +kernel⟩, List.mem_of_getElem? (i := 460) (by decide +kernel), List.mem_of_getElem? (i := 489) (by decide +kernel), List.mem_of_getElem? (i := 490) (by decide +kernel)⟩
theorem lw_p24 : lw_okq (⟨"RubbedWelds$Prover", "findGreatest", "(LRubbedWelds$Window;)V"⟩, 1) := ⟨⟨by decide +kernel, by decide +kernel⟩, List.mem_of_getElem? (i := 460) (by decide +kernel), List.mem_of_getElem? (i := 502) (by decide +kernel), List.mem_of_getElem? (i := 503) (by decide +kernel)⟩
theorem lw_p25 : lw_okq (⟨"RubbedWelds$Prover", "rowOf", "(LRubbedWelds$Walk;LRubbedWelds$Window;)[I"⟩, 1) := ⟨⟨by decide +kernel, by decide +kernel⟩, List.mem_of_getElem? (i := 460) (by decide +kernel), List.mem_of_getElem? (i := 509) (by decide +kernel), List.mem_of_getElem? (i := 510) (by decide +kernel)⟩
theorem lw_p26 : lw_okq (⟨"RubbedWelds$Walk", "begin", "(II)V"⟩, 5) := ⟨⟨by decide +kernel, by decide +kernel⟩, List.mem_of_getElem? (i := 76) (by decide +kernel), List.mem_of_getElem? (i := 520) (by decide +kernel), List.mem_of_getElem? (i := 521) (by decide +kernel)⟩
theorem lw_p27 : lw_okq (⟨"RubbedWelds$Walk", "lay", "(II)V"⟩, 5) := ⟨⟨by decide +kernel, by decide +kernel⟩, List.mem_of_getElem? (i := 76) (by decide +kernel), List.mem_of_getElem? (i := 524) (by decide +kernel), List.mem_of_getElem? (i := 525) (by decide +kernel)⟩
theorem lw_p28 : lw_okq (⟨"RubbedWelds$Walk", "advance", "()Z"⟩, 5) := ⟨⟨by decide +kernel, by decide +kernel⟩, List.mem_of_getElem? (i := 76) (by decide +kernel), List.mem_of_getElem? (i := 528) (by decide +kernel), List.mem_of_getElem? (i := 529) (by decide +kernel)⟩
theorem lw_p29 : lw_okq (⟨"RubbedWelds$Walk", "follow", "(I)V"⟩, 5) := ⟨⟨by decide +kernel, by decide +kernel⟩, List.mem_of_getElem? (i := 76) (by decide +kernel), List.mem_of_getElem? (i := 532) (by decide +kernel), List.mem_of_getElem? (i := 533) (by decide +kernel)⟩
theorem lw_p30 : lw_okq (⟨"RubbedWelds$Walk", "mayCut", "(I)Z"⟩, 5) := ⟨⟨by decide +kernel, by decide +kernel⟩, List.mem_of_getElem? (i := 76) (by decide +kernel), List.mem_of_getElem? (i := 536) (by decide +kernel), List.mem_of_getElem? (i := 537) (by decide +kernel)⟩
theorem lw_p31 : lw_okq (⟨"RubbedWelds$Tape", "append", "(I)Z"⟩, 2) := ⟨⟨by decide +kernel, by decide +kernel⟩, List.mem_of_getElem? (i := 103) (by decide +kernel), List.mem_of_getElem? (i := 556) (by decide +kernel), List.mem_of_getElem? (i := 557) (by decide +kernel)⟩
def lw_privs_2 : List (MethodName × Nat) := [(⟨"RubbedWelds", "windowAt", "(I)LRubbedWelds$Window;"⟩, 13), (⟨"RubbedWelds$Bench", "makesGood", "(LRubbedWelds$Job;I)Z"⟩, 9), (⟨"RubbedWelds$Job", "isJudged", "(I)Z"⟩, 5), (⟨"RubbedWelds$Job", "isFoundGood", "(I)Z"⟩, 5), (⟨"RubbedWelds", "leastRow", "(LRubbedWelds$Window;)[I"⟩, 13), (⟨"RubbedWelds$Prover", "fill", "(LRubbedWelds$Bench;LRubbedWelds$Window;)V"⟩, 1), (⟨"RubbedWelds$Prover", "leastCut", "(IIII)I"⟩, 1), (⟨"RubbedWelds$Prover", "leastOn", "(IIII)I"⟩, 1), (⟨"RubbedWelds$Prover", "findGreatest", "(LRubbedWelds$Window;)V"⟩, 1), (⟨"RubbedWelds$Prover", "rowOf", "(LRubbedWelds$Walk;LRubbedWelds$Window;)[I"⟩, 1), (⟨"RubbedWelds$Walk", "begin", "(II)V"⟩, 5), (⟨"RubbedWelds$Walk", "lay", "(II)V"⟩, 5), (⟨"RubbedWelds$Walk", "advance", "()Z"⟩, 5), (⟨"RubbedWelds$Walk", "follow", "(I)V"⟩, 5), (⟨"RubbedWelds$Walk", "mayCut", "(I)Z"⟩, 5), (⟨"RubbedWelds$Tape", "append", "(I)Z"⟩, 2)]
theorem lw_r2 : ∀ q ∈ lw_privs_2, lw_okq q := List.forall_mem_cons.mpr ⟨lw_p16, List.forall_mem_cons.mpr ⟨lw_p17, List.forall_mem_cons.mpr ⟨lw_p18, List.forall_mem_cons.mpr ⟨lw_p19, List.forall_mem_cons.mpr ⟨lw_p20, List.forall_mem_cons.mpr ⟨lw_p21, List.forall_mem_cons.mpr ⟨lw_p22, List.forall_mem_cons.mpr ⟨lw_p23, List.forall_mem_cons.mpr ⟨lw_p24, List.forall_mem_cons.mpr ⟨lw_p25, List.forall_mem_cons.mpr ⟨lw_p26, List.forall_mem_cons.mpr ⟨lw_p27, List.forall_mem_cons.mpr ⟨lw_p28, List.forall_mem_cons.mpr ⟨lw_p29, List.forall_mem_cons.mpr ⟨lw_p30, List.forall_mem_cons.mpr ⟨lw_p31, fun _ h => absurd h List.not_mem_nil⟩⟩⟩⟩⟩⟩⟩⟩⟩⟩⟩⟩⟩⟩⟩⟩
theorem lw_p32 : lw_okq (⟨"RubbedWelds$Tape", "become", "([I)V"⟩, 2) := ⟨⟨by decide +kernel, by decide +kernel⟩, List.mem_of_getElem? (i := 103) (by decide +kernel), List.mem_of_getElem? (i := 567) (by decide +kernel), List.mem_of_getElem? (i := 568) (by decide +kernel)⟩
theorem lw_p33 : lw_okq (⟨"RubbedWelds$Tape", "replace", "(II)Z"⟩, 2) := ⟨⟨by decide +kernel, by decide +kernel⟩, List.mem_of_getElem? (i := 103) (by decide +kernel), List.mem_of_getElem? (i := 579) (by decide +kernel), List.mem_of_getElem? (i := 580) (by decide +kernel)⟩
theorem lw_p34 : lw_okq (⟨"RubbedWelds$Tape", "shorten", "(I)Z"⟩, 2) := ⟨⟨by decide +kernel, by decide +kernel⟩, List.mem_of_getElem? (i := 103) (by decide +kernel), List.mem_of_getElem? (i := 587) (by decide +kernel), List.mem_of_getElem? (i := 588) (by decide +kernel)⟩
theorem lw_p35 : lw_okq (⟨"RubbedWelds", "mayStand", "(LRubbedWelds$Job;I)Z"⟩, 13) := ⟨⟨by decide +kernel, by decide +kernel⟩, List.mem_of_getElem? (i := 20) (by decide +kernel), List.mem_of_getElem? (i := 597) (by decide +kernel), List.mem_of_getElem? (i := 598) (by decide +kernel)⟩
theorem lw_p36 : lw_okq (⟨"RubbedWelds$Book", "enter", "(LRubbedWelds$Job;II)I"⟩, 7) := ⟨⟨by decide +kernel, by decide +kernel⟩, List.mem_of_getElem? (i := 118) (by decide +kernel), List.mem_of_getElem? (i := 628) (by decide +kernel), List.mem_of_getElem? (i := 629) (by decide +kernel)⟩
theorem lw_p37 : lw_okq (⟨"RubbedWelds$Book", "note", "(IZI)Z"⟩, 7) := ⟨⟨by decide +kernel, by decide +kernel⟩, List.mem_of_getElem? (i := 118) (by decide +kernel), List.mem_of_getElem? (i := 654) (by decide +kernel), List.mem_of_getElem? (i := 655) (by decide +kernel)⟩
theorem lw_p38 : lw_okq (⟨"RubbedWelds$Book", "jointAt", "(I)LRubbedWelds$Joint;"⟩, 7) := ⟨⟨by decide +kernel, by decide +kernel⟩, List.mem_of_getElem? (i := 118) (by decide +kernel), List.mem_of_getElem? (i := 658) (by decide +kernel), List.mem_of_getElem? (i := 659) (by decide +kernel)⟩
theorem lw_p39 : lw_okq (⟨"RubbedWelds", "isKnownDay", "(I)Z"⟩, 13) := ⟨⟨by decide +kernel, by decide +kernel⟩, List.mem_of_getElem? (i := 20) (by decide +kernel), List.mem_of_getElem? (i := 667) (by decide +kernel), List.mem_of_getElem? (i := 668) (by decide +kernel)⟩
theorem lw_p40 : lw_okq (⟨"RubbedWelds$Book", "recall", "(I)V"⟩, 7) := ⟨⟨by decide +kernel, by decide +kernel⟩, List.mem_of_getElem? (i := 118) (by decide +kernel), List.mem_of_getElem? (i := 671) (by decide +kernel), List.mem_of_getElem? (i := 672) (by decide +kernel)⟩
theorem lw_p41 : lw_okq (⟨"RubbedWelds$Book", "countOdd", "(LRubbedWelds$Bench;)I"⟩, 7) := ⟨⟨by decide +kernel, by decide +kernel⟩, List.mem_of_getElem? (i := 118) (by decide +kernel), List.mem_of_getElem? (i := 679) (by decide +kernel), List.mem_of_getElem? (i := 680) (by decide +kernel)⟩
theorem lw_p42 : lw_okq (⟨"RubbedWelds$Book", "worstStuff", "(I)I"⟩, 7) := ⟨⟨by decide +kernel, by decide +kernel⟩, List.mem_of_getElem? (i := 118) (by decide +kernel), List.mem_of_getElem? (i := 688) (by decide +kernel), List.mem_of_getElem? (i := 689) (by decide +kernel)⟩
theorem lw_p43 : lw_okq (⟨"RubbedWelds$Book", "countWith", "(II)I"⟩, 7) := ⟨⟨by decide +kernel, by decide +kernel⟩, List.mem_of_getElem? (i := 118) (by decide +kernel), List.mem_of_getElem? (i := 692) (by decide +kernel), List.mem_of_getElem? (i := 693) (by decide +kernel)⟩
theorem lw_p44 : lw_okq (⟨"RubbedWelds$Job", "has", "(I)Z"⟩, 5) := ⟨⟨by decide +kernel, by decide +kernel⟩, List.mem_of_getElem? (i := 268) (by decide +kernel), List.mem_of_getElem? (i := 696) (by decide +kernel), List.mem_of_getElem? (i := 697) (by decide +kernel)⟩
theorem lw_p45 : lw_okq (⟨"RubbedWelds$DayList", "enter", "(II)I"⟩, 8) := ⟨⟨by decide +kernel, by decide +kernel⟩, List.mem_of_getElem? (i := 150) (by decide +kernel), List.mem_of_getElem? (i := 704) (by decide +kernel), List.mem_of_getElem? (i := 705) (by decide +kernel)⟩
theorem lw_p46 : lw_okq (⟨"RubbedWelds$DayList", "empty", "()V"⟩, 8) := ⟨⟨by decide +kernel, by decide +kernel⟩, List.mem_of_getElem? (i := 150) (by decide +kernel), List.mem_of_getElem? (i := 712) (by decide +kernel), List.mem_of_getElem? (i := 713) (by decide +kernel)⟩
theorem lw_p47 : lw_okq (⟨"RubbedWelds$DayList", "plan", "()V"⟩, 8) := ⟨⟨by decide +kernel, by decide +kernel⟩, List.mem_of_getElem? (i := 150) (by decide +kernel), List.mem_of_getElem? (i := 720) (by decide +kernel), List.mem_of_getElem? (i := 721) (by decide +kernel)⟩
def lw_privs_3 : List (MethodName × Nat) := [(⟨"RubbedWelds$Tape", "become", "([I)V"⟩, 2), (⟨"RubbedWelds$Tape", "replace", "(II)Z"⟩, 2), (⟨"RubbedWelds$Tape", "shorten", "(I)Z"⟩, 2), (⟨"RubbedWelds", "mayStand", "(LRubbedWelds$Job;I)Z"⟩, 13), (⟨"RubbedWelds$Book", "enter", "(LRubbedWelds$Job;II)I"⟩, 7), (⟨"RubbedWelds$Book", "note", "(IZI)Z"⟩, 7), (⟨"RubbedWelds$Book", "jointAt", "(I)LRubbedWelds$Joint;"⟩, 7), (⟨"RubbedWelds", "isKnownDay", "(I)Z"⟩, 13), (⟨"RubbedWelds$Book", "recall", "(I)V"⟩, 7), (⟨"RubbedWelds$Book", "countOdd", "(LRubbedWelds$Bench;)I"⟩, 7), (⟨"RubbedWelds$Book", "worstStuff", "(I)I"⟩, 7), (⟨"RubbedWelds$Book", "countWith", "(II)I"⟩, 7), (⟨"RubbedWelds$Job", "has", "(I)Z"⟩, 5), (⟨"RubbedWelds$DayList", "enter", "(II)I"⟩, 8), (⟨"RubbedWelds$DayList", "empty", "()V"⟩, 8), (⟨"RubbedWelds$DayList", "plan", "()V"⟩, 8)]
theorem lw_r3 : ∀ q ∈ lw_privs_3, lw_okq q := List.forall_mem_cons.mpr ⟨lw_p32, List.forall_mem_cons.mpr ⟨lw_p33, List.forall_mem_cons.mpr ⟨lw_p34, List.forall_mem_cons.mpr ⟨lw_p35, List.forall_mem_cons.mpr ⟨lw_p36, List.forall_mem_cons.mpr ⟨lw_p37, List.forall_mem_cons.mpr ⟨lw_p38, List.forall_mem_cons.mpr ⟨lw_p39, List.forall_mem_cons.mpr ⟨lw_p40, List.forall_mem_cons.mpr ⟨lw_p41, List.forall_mem_cons.mpr ⟨lw_p42, List.forall_mem_cons.mpr ⟨lw_p43, List.forall_mem_cons.mpr ⟨lw_p44, List.forall_mem_cons.mpr ⟨lw_p45, List.forall_mem_cons.mpr ⟨lw_p46, List.forall_mem_cons.mpr ⟨lw_p47, fun _ h => absurd h List.not_mem_nil⟩⟩⟩⟩⟩⟩⟩⟩⟩⟩⟩⟩⟩⟩⟩⟩
theorem lw_p48 : lw_okq (⟨"RubbedWelds$DayList", "fillChanges", "()V"⟩, 8) := ⟨⟨by decide +kernel, by decide +kernel⟩, List.mem_of_getElem? (i := 150) (by decide +kernel), List.mem_of_getElem? (i := 724) (by decide +kernel), List.mem_of_getElem? (i := 725) (by decide +kernel)⟩
theorem lw_p49 : lw_okq (⟨"RubbedWelds$DayList", "change", "(II)I"⟩, 8) := ⟨⟨by decide +kernel, by decide +kernel⟩, List.mem_of_getElem? (i := 150) (by decide +kernel), List.mem_of_getElem? (i := 728) (by decide +kernel), List.mem_of_getElem? (i := 729) (by decide +kernel)⟩
theorem lw_p50 : lw_okq (⟨"RubbedWelds$DayList", "fillRest", "([I)V"⟩, 8) := ⟨⟨by decide +kernel, by decide +kernel⟩, List.mem_of_getElem? (i := 150) (by decide +kernel), List.mem_of_getElem? (i := 733) (by decide +kernel), List.mem_of_getElem? (i := 734) (by decide +kernel)⟩
theorem lw_p51 : lw_okq (⟨"RubbedWelds$DayList", "bestNext", "([III)I"⟩, 8) := ⟨⟨by decide +kernel, by decide +kernel⟩, List.mem_of_getElem? (i := 150) (by decide +kernel), List.mem_of_getElem? (i := 737) (by decide +kernel), List.mem_of_getElem? (i := 738) (by decide +kernel)⟩
theorem lw_p52 : lw_okq (⟨"RubbedWelds$DayList", "sumBy", "([IIII)I"⟩, 8) := ⟨⟨by decide +kernel, by decide +kernel⟩, List.mem_of_getElem? (i := 150) (by decide +kernel), List.mem_of_getElem? (i := 741) (by decide +kernel), List.mem_of_getElem? (i := 742) (by decide +kernel)⟩
theorem lw_p53 : lw_okq (⟨"RubbedWelds$DayList", "changeTo", "(II)I"⟩, 8) := ⟨⟨by decide +kernel, by decide +kernel⟩, List.mem_of_getElem? (i := 150) (by decide +kernel), List.mem_of_getElem? (i := 745) (by decide +kernel), List.mem_of_getElem? (i := 746) (by decide +kernel)⟩
theorem lw_p54 : lw_okq (⟨"java/lang/Throwable", "fillInStackTrace", "(I)Ljava/lang/Throwable;"⟩, 6) := ⟨⟨by decide +kernel, by decide +kernel⟩, List.mem_of_getElem? (i := 797) (by decide +kernel), List.mem_of_getElem? (i := 795) (by decide +kernel), List.mem_of_getElem? (i := 796) (by decide +kernel)⟩
theorem lw_p55 : lw_okq (⟨"RubbedWeldsModel", "isStuff", "(I)Z"⟩, 48) := ⟨⟨by decide +kernel, by decide +kernel⟩, List.mem_of_getElem? (i := 822) (by decide +kernel), List.mem_of_getElem? (i := 994) (by decide +kernel), List.mem_of_getElem? (i := 995) (by decide +kernel)⟩
theorem lw_p56 : lw_okq (⟨"RubbedWeldsModel", "isJob", "(I)Z"⟩, 48) := ⟨⟨by decide +kernel, by decide +kernel⟩, List.mem_of_getElem? (i := 822) (by decide +kernel), List.mem_of_getElem? (i := 1008) (by decide +kernel), List.mem_of_getElem? (i := 1009) (by decide +kernel)⟩
theorem lw_p57 : lw_okq (⟨"RubbedWeldsModel", "isAsked", "(II)Z"⟩, 48) := ⟨⟨by decide +kernel, by decide +kernel⟩, List.mem_of_getElem? (i := 822) (by decide +kernel), List.mem_of_getElem? (i := 1023) (by decide +kernel), List.mem_of_getElem? (i := 1024) (by decide +kernel)⟩
theorem lw_p58 : lw_okq (⟨"RubbedWeldsModel", "verdictOf", "(II)I"⟩, 48) := ⟨⟨by decide +kernel, by decide +kernel⟩, List.mem_of_getElem? (i := 822) (by decide +kernel), List.mem_of_getElem? (i := 1030) (by decide +kernel), List.mem_of_getElem? (i := 1031) (by decide +kernel)⟩
theorem lw_p59 : lw_okq (⟨"RubbedWeldsModel", "judge", "(II)I"⟩, 48) := ⟨⟨by decide +kernel, by decide +kernel⟩, List.mem_of_getElem? (i := 822) (by decide +kernel), List.mem_of_getElem? (i := 1034) (by decide +kernel), List.mem_of_getElem? (i := 1035) (by decide +kernel)⟩
theorem lw_p60 : lw_okq (⟨"RubbedWeldsModel", "weld", "(II)V"⟩, 48) := ⟨⟨by decide +kernel, by decide +kernel⟩, List.mem_of_getElem? (i := 822) (by decide +kernel), List.mem_of_getElem? (i := 1038) (by decide +kernel), List.mem_of_getElem? (i := 1039) (by decide +kernel)⟩
theorem lw_p61 : lw_okq (⟨"RubbedWeldsModel", "outAll", "(I)I"⟩, 48) := ⟨⟨by decide +kernel, by decide +kernel⟩, List.mem_of_getElem? (i := 822) (by decide +kernel), List.mem_of_getElem? (i := 1045) (by decide +kernel), List.mem_of_getElem? (i := 1046) (by decide +kernel)⟩
theorem lw_p62 : lw_okq (⟨"RubbedWeldsModel", "tick", "(IIIZ)V"⟩, 48) := ⟨⟨by decide +kernel, by decide +kernel⟩, List.mem_of_getElem? (i := 822) (by decide +kernel), List.mem_of_getElem? (i := 1049) (by decide +kernel), List.mem_of_getElem? (i := 1050) (by decide +kernel)⟩
theorem lw_p63 : lw_okq (⟨"RubbedWeldsModel", "led", "(III)I"⟩, 48) := ⟨⟨by decide +kernel, by decide +kernel⟩, List.mem_of_getElem? (i := 822) (by decide +kernel), List.mem_of_getElem? (i := 1053) (by decide +kernel), List.mem_of_getElem? (i := 1054) (by decide +kernel)⟩
def lw_privs_4 : List (MethodName × Nat) := [(⟨"RubbedWelds$DayList", "fillChanges", "()V"⟩, 8), (⟨"RubbedWelds$DayList", "change", "(II)I"⟩, 8), (⟨"RubbedWelds$DayList", "fillRest", "([I)V"⟩, 8), (⟨"RubbedWelds$DayList", "bestNext", "([III)I"⟩, 8), (⟨"RubbedWelds$DayList", "sumBy", "([IIII)I"⟩, 8), (⟨"RubbedWelds$DayList", "changeTo", "(II)I"⟩, 8), (⟨"java/lang/Throwable", "fillInStackTrace", "(I)Ljava/lang/Throwable;"⟩, 6), (⟨"RubbedWeldsModel", "isStuff", "(I)Z"⟩, 48), (⟨"RubbedWeldsModel", "isJob", "(I)Z"⟩, 48), (⟨"RubbedWeldsModel", "isAsked", "(II)Z"⟩, 48), (⟨"RubbedWeldsModel", "verdictOf", "(II)I"⟩, 48), (⟨"RubbedWeldsModel", "judge", "(II)I"⟩, 48), (⟨"RubbedWeldsModel", "weld", "(II)V"⟩, 48), (⟨"RubbedWeldsModel", "outAll", "(I)I"⟩, 48), (⟨"RubbedWeldsModel", "tick", "(IIIZ)V"⟩, 48), (⟨"RubbedWeldsModel", "led", "(III)I"⟩, 48)]
theorem lw_r4 : ∀ q ∈ lw_privs_4, lw_okq q := List.forall_mem_cons.mpr ⟨lw_p48, List.forall_mem_cons.mpr ⟨lw_p49, List.forall_mem_cons.mpr ⟨lw_p50, List.forall_mem_cons.mpr ⟨lw_p51, List.forall_mem_cons.mpr ⟨lw_p52, List.forall_mem_cons.mpr ⟨lw_p53, List.forall_mem_cons.mpr ⟨lw_p54, List.forall_mem_cons.mpr ⟨lw_p55, List.forall_mem_cons.mpr ⟨lw_p56, List.forall_mem_cons.mpr ⟨lw_p57, List.forall_mem_cons.mpr ⟨lw_p58, List.forall_mem_cons.mpr ⟨lw_p59, List.forall_mem_cons.mpr ⟨lw_p60, List.forall_mem_cons.mpr ⟨lw_p61, List.forall_mem_cons.mpr ⟨lw_p62, List.forall_mem_cons.mpr ⟨lw_p63, fun _ h => absurd h List.not_mem_nil⟩⟩⟩⟩⟩⟩⟩⟩⟩⟩⟩⟩⟩⟩⟩⟩
theorem lw_p64 : lw_okq (⟨"RubbedWeldsModel", "isWindow", "(I)Z"⟩, 48) := ⟨⟨by decide +kernel, by decide +kernel⟩, List.mem_of_getElem? (i := 822) (by decide +kernel), List.mem_of_getElem? (i := 1079) (by decide +kernel), List.mem_of_getElem? (i := 1080) (by decide +kernel)⟩
theorem lw_p65 : lw_okq (⟨"RubbedWeldsModel", "wide", "(I)I"⟩, 48) := ⟨⟨by decide +kernel, by decide +kernel⟩, List.mem_of_getElem? (i := 822) (by decide +kernel), List.mem_of_getElem? (i := 1083) (by decide +kernel), List.mem_of_getElem? (i := 1084) (by decide +kernel)⟩
theorem lw_p66 : lw_okq (⟨"RubbedWeldsModel", "goodIn", "(IIIIII)I"⟩, 48) := ⟨⟨by decide +kernel, by decide +kernel⟩, List.mem_of_getElem? (i := 822) (by decide +kernel), List.mem_of_getElem? (i := 1087) (by decide +kernel), List.mem_of_getElem? (i := 1088) (by decide +kernel)⟩
theorem lw_p67 : lw_okq (⟨"RubbedWeldsModel", "isGood", "(III)Z"⟩, 48) := ⟨⟨by decide +kernel, by decide +kernel⟩, List.mem_of_getElem? (i := 822) (by decide +kernel), List.mem_of_getElem? (i := 1091) (by decide +kernel), List.mem_of_getElem? (i := 1092) (by decide +kernel)⟩
theorem lw_p68 : lw_okq (⟨"RubbedWeldsModel", "prove", "(I)I"⟩, 48) := ⟨⟨by decide +kernel, by decide +kernel⟩, List.mem_of_getElem? (i := 822) (by decide +kernel), List.mem_of_getElem? (i := 1099) (by decide +kernel), List.mem_of_getElem? (i := 1100) (by decide +kernel)⟩
theorem lw_p69 : lw_okq (⟨"RubbedWeldsModel", "leavesOf", "(IIIIII)I"⟩, 48) := ⟨⟨by decide +kernel, by decide +kernel⟩, List.mem_of_getElem? (i := 822) (by decide +kernel), List.mem_of_getElem? (i := 1103) (by decide +kernel), List.mem_of_getElem? (i := 1104) (by decide +kernel)⟩
theorem lw_p70 : lw_okq (⟨"RubbedWeldsModel", "better", "(IIII)I"⟩, 48) := ⟨⟨by decide +kernel, by decide +kernel⟩, List.mem_of_getElem? (i := 822) (by decide +kernel), List.mem_of_getElem? (i := 1113) (by decide +kernel), List.mem_of_getElem? (i := 1114) (by decide +kernel)⟩
theorem lw_p71 : lw_okq (⟨"RubbedWeldsModel", "writeOut", "(I)V"⟩, 48) := ⟨⟨by decide +kernel, by decide +kernel⟩, List.mem_of_getElem? (i := 822) (by decide +kernel), List.mem_of_getElem? (i := 1121) (by decide +kernel), List.mem_of_getElem? (i := 1122) (by decide +kernel)⟩
theorem lw_p72 : lw_okq (⟨"RubbedWeldsModel", "write", "(IIIIII)V"⟩, 48) := ⟨⟨by decide +kernel, by decide +kernel⟩, List.mem_of_getElem? (i := 822) (by decide +kernel), List.mem_of_getElem? (i := 1125) (by decide +kernel), List.mem_of_getElem? (i := 1126) (by decide +kernel)⟩
theorem lw_p73 : lw_okq (⟨"RubbedWeldsModel", "follow", "(IIIIII)V"⟩, 48) := ⟨⟨by decide +kernel, by decide +kernel⟩, List.mem_of_getElem? (i := 822) (by decide +kernel), List.mem_of_getElem? (i := 1149) (by decide +kernel), List.mem_of_getElem? (i := 1150) (by decide +kernel)⟩
theorem lw_p74 : lw_okq (⟨"RubbedWeldsModel", "offer", "(IIIIII)V"⟩, 48) := ⟨⟨by decide +kernel, by decide +kernel⟩, List.mem_of_getElem? (i := 822) (by decide +kernel), List.mem_of_getElem? (i := 1157) (by decide +kernel), List.mem_of_getElem? (i := 1158) (by decide +kernel)⟩
theorem lw_p75 : lw_okq (⟨"RubbedWeldsModel", "triedAt", "(II)I"⟩, 48) := ⟨⟨by decide +kernel, by decide +kernel⟩, List.mem_of_getElem? (i := 822) (by decide +kernel), List.mem_of_getElem? (i := 1185) (by decide +kernel), List.mem_of_getElem? (i := 1186) (by decide +kernel)⟩
theorem lw_p76 : lw_okq (⟨"RubbedWeldsModel", "arrange", "(III)V"⟩, 48) := ⟨⟨by decide +kernel, by decide +kernel⟩, List.mem_of_getElem? (i := 822) (by decide +kernel), List.mem_of_getElem? (i := 1209) (by decide +kernel), List.mem_of_getElem? (i := 1210) (by decide +kernel)⟩
theorem lw_p77 : lw_okq (⟨"RubbedWeldsModel", "change", "(II)I"⟩, 48) := ⟨⟨by decide +kernel, by decide +kernel⟩, List.mem_of_getElem? (i := 822) (by decide +kernel), List.mem_of_getElem? (i := 1213) (by decide +kernel), List.mem_of_getElem? (i := 1214) (by decide +kernel)⟩
def lw_privs_5 : List (MethodName × Nat) := [(⟨"RubbedWeldsModel", "isWindow", "(I)Z"⟩, 48), (⟨"RubbedWeldsModel", "wide", "(I)I"⟩, 48), (⟨"RubbedWeldsModel", "goodIn", "(IIIIII)I"⟩, 48), (⟨"RubbedWeldsModel", "isGood", "(III)Z"⟩, 48), (⟨"RubbedWeldsModel", "prove", "(I)I"⟩, 48), (⟨"RubbedWeldsModel", "leavesOf", "(IIIIII)I"⟩, 48), (⟨"RubbedWeldsModel", "better", "(IIII)I"⟩, 48), (⟨"RubbedWeldsModel", "writeOut", "(I)V"⟩, 48), (⟨"RubbedWeldsModel", "write", "(IIIIII)V"⟩, 48), (⟨"RubbedWeldsModel", "follow", "(IIIIII)V"⟩, 48), (⟨"RubbedWeldsModel", "offer", "(IIIIII)V"⟩, 48), (⟨"RubbedWeldsModel", "triedAt", "(II)I"⟩, 48), (⟨"RubbedWeldsModel", "arrange", "(III)V"⟩, 48), (⟨"RubbedWeldsModel", "change", "(II)I"⟩, 48)]
theorem lw_r5 : ∀ q ∈ lw_privs_5, lw_okq q := List.forall_mem_cons.mpr ⟨lw_p64, List.forall_mem_cons.mpr ⟨lw_p65, List.forall_mem_cons.mpr ⟨lw_p66, List.forall_mem_cons.mpr ⟨lw_p67, List.forall_mem_cons.mpr ⟨lw_p68, List.forall_mem_cons.mpr ⟨lw_p69, List.forall_mem_cons.mpr ⟨lw_p70, List.forall_mem_cons.mpr ⟨lw_p71, List.forall_mem_cons.mpr ⟨lw_p72, List.forall_mem_cons.mpr ⟨lw_p73, List.forall_mem_cons.mpr ⟨lw_p74, List.forall_mem_cons.mpr ⟨lw_p75, List.forall_mem_cons.mpr ⟨lw_p76, List.forall_mem_cons.mpr ⟨lw_p77, fun _ h => absurd h List.not_mem_nil⟩⟩⟩⟩⟩⟩⟩⟩⟩⟩⟩⟩⟩⟩
def lw_privs : List (MethodName × Nat) := lw_privs_1 ++ (lw_privs_2 ++ (lw_privs_3 ++ (lw_privs_4 ++ (lw_privs_5))))
def lw_tbl : List Cond := k2_sels lw_privs ++ tables_1
theorem lw_privs_ok : ∀ q ∈ lw_privs, lw_okq q := by
  show ∀ q ∈ lw_privs_1 ++ (lw_privs_2 ++ (lw_privs_3 ++ (lw_privs_4 ++ (lw_privs_5)))), lw_okq q
  exact List.forall_mem_append.mpr ⟨lw_r1, List.forall_mem_append.mpr ⟨lw_r2, List.forall_mem_append.mpr ⟨lw_r3, List.forall_mem_append.mpr ⟨lw_r4, lw_r5⟩⟩⟩⟩
def RX0 : String := "RubbedWelds$Bench"
def TX0 : u_T := fun k => match k with
  | 0 => ("RubbedWelds$Bench", "warm", "[I", true)
  | 1 => ("RubbedWelds$Bench", "peak", "[I", true)
  | 2 => ("RubbedWelds$Bench", "out", "[I", true)
  | 3 => ("RubbedWelds$Bench", "fall", "[I", true)
  | 4 => ("RubbedWelds$Bench", "job", "LRubbedWelds$Job;", false)
  | 5 => ("RubbedWelds$Bench", "setting", "I", false)
  | 6 => ("RubbedWelds$Bench", "rubbed", "I", false)
  | 7 => ("RubbedWelds$Bench", "verdict", "I", false)
  | _ => ("RubbedWelds$Bench", "faultRing", "I", false)
def tyX0 : Nat → FieldType := fun k => match k with
  | 0 => .array .int
  | 1 => .array .int
  | 2 => .array .int
  | 3 => .array .int
  | 4 => .object "RubbedWelds$Job"
  | 5 => .int
  | 6 => .int
  | 7 => .int
  | _ => .int
abbrev wsX00 : List Cond := u_ws RX0 TX0 9
theorem nmX0 : ∀ a, a < 9 → ∀ b, b < 9 → a ≠ b → (TX0 a).2.1 ≠ (TX0 b).2.1 := by decide +kernel
theorem tyX0_ok : ∀ k, k < 9 → parseFieldDescriptor (TX0 k).2.2.1 = some (tyX0 k) := by decide +kernel
abbrev cX0_init : ByteArray := prog_2_method_1_code
def yX0_init : MethodName := ⟨RX0, "<init>", "()V"⟩
abbrev cX0_makesGood : ByteArray := prog_2_method_2_code
def yX0_makesGood : MethodName := ⟨RX0, "makesGood", "(LRubbedWelds$Job;I)Z"⟩
abbrev cX0_weld : ByteArray := prog_2_method_3_code
def yX0_weld : MethodName := ⟨RX0, "weld", "(LRubbedWelds$Job;I)V"⟩
abbrev cX0_layCold : ByteArray := prog_2_method_4_code
def yX0_layCold : MethodName := ⟨RX0, "layCold", "()V"⟩
abbrev cX0_rub : ByteArray := prog_2_method_5_code
def yX0_rub : MethodName := ⟨RX0, "rub", "(LRubbedWelds$Job;I)Z"⟩
abbrev cX0_press : ByteArray := prog_2_method_6_code
def yX0_press : MethodName := ⟨RX0, "press", "(LRubbedWelds$Job;I)V"⟩
abbrev cX0_cool : ByteArray := prog_2_method_7_code
def yX0_cool : MethodName := ⟨RX0, "cool", "(LRubbedWelds$Job;)V"⟩
abbrev cX0_tick : ByteArray := prog_2_method_8_code
def yX0_tick : MethodName := ⟨RX0, "tick", "(LRubbedWelds$Job;II)Z"⟩
abbrev cX0_outOfAll : ByteArray := prog_2_method_9_code
def yX0_outOfAll : MethodName := ⟨RX0, "outOfAll", "()I"⟩
abbrev cX0_firstFault : ByteArray := prog_2_method_10_code
def yX0_firstFault : MethodName := ⟨RX0, "firstFault", "(LRubbedWelds$Job;)I"⟩
abbrev cX0_faultOf : ByteArray := prog_2_method_11_code
def yX0_faultOf : MethodName := ⟨RX0, "faultOf", "(LRubbedWelds$Job;I)I"⟩
def RX1 : String := "RubbedWelds$Book"
def TX1 : u_T := fun k => match k with
  | 0 => ("RubbedWelds$Book", "jointRow", "[LRubbedWelds$Joint;", true)
  | 1 => ("RubbedWelds$Book", "words", "[I", true)
  | 2 => ("RubbedWelds$Book", "triedJoint", "[I", true)
  | 3 => ("RubbedWelds$Book", "triedWord", "[I", true)
  | 4 => ("RubbedWelds$Book", "triedDay", "[I", true)
  | 5 => ("RubbedWelds$Book", "joints", "I", false)
  | _ => ("RubbedWelds$Book", "trials", "I", false)
def tyX1 : Nat → FieldType := fun k => match k with
  | 0 => .array (.object "RubbedWelds$Joint")
  | 1 => .array .int
  | 2 => .array .int
  | 3 => .array .int
  | 4 => .array .int
  | 5 => .int
  | _ => .int
abbrev wsX10 : List Cond := u_ws RX1 TX1 7
theorem nmX1 : ∀ a, a < 7 → ∀ b, b < 7 → a ≠ b → (TX1 a).2.1 ≠ (TX1 b).2.1 := by decide +kernel
theorem tyX1_ok : ∀ k, k < 7 → parseFieldDescriptor (TX1 k).2.2.1 = some (tyX1 k) := by decide +kernel
abbrev cX1_init : ByteArray := prog_3_method_1_code
def yX1_init : MethodName := ⟨RX1, "<init>", "()V"⟩
abbrev cX1_enter : ByteArray := prog_3_method_2_code
def yX1_enter : MethodName := ⟨RX1, "enter", "(LRubbedWelds$Job;II)I"⟩
abbrev cX1_jointAt : ByteArray := prog_3_method_3_code
def yX1_jointAt : MethodName := ⟨RX1, "jointAt", "(I)LRubbedWelds$Joint;"⟩
abbrev cX1_note : ByteArray := prog_3_method_4_code
def yX1_note : MethodName := ⟨RX1, "note", "(IZI)Z"⟩
abbrev cX1_recall : ByteArray := prog_3_method_5_code
def yX1_recall : MethodName := ⟨RX1, "recall", "(I)V"⟩
abbrev cX1_countOdd : ByteArray := prog_3_method_6_code
def yX1_countOdd : MethodName := ⟨RX1, "countOdd", "(LRubbedWelds$Bench;)I"⟩
abbrev cX1_worstStuff : ByteArray := prog_3_method_7_code
def yX1_worstStuff : MethodName := ⟨RX1, "worstStuff", "(I)I"⟩
abbrev cX1_countWith : ByteArray := prog_3_method_8_code
def yX1_countWith : MethodName := ⟨RX1, "countWith", "(II)I"⟩
def RX2 : String := "RubbedWelds$DayList"
def TX2 : u_T := fun k => match k with
  | 0 => ("RubbedWelds$DayList", "jobNumbers", "[I", true)
  | 1 => ("RubbedWelds$DayList", "settings", "[I", true)
  | 2 => ("RubbedWelds$DayList", "cheapest", "[I", true)
  | 3 => ("RubbedWelds$DayList", "changes", "[I", true)
  | 4 => ("RubbedWelds$DayList", "rest", "[I", false)
  | 5 => ("RubbedWelds$DayList", "size", "I", false)
  | 6 => ("RubbedWelds$DayList", "sum", "I", false)
  | _ => ("RubbedWelds$DayList", "isPlanned", "Z", false)
def tyX2 : Nat → FieldType := fun k => match k with
  | 0 => .array .int
  | 1 => .array .int
  | 2 => .array .int
  | 3 => .array .int
  | 4 => .array .int
  | 5 => .int
  | 6 => .int
  | _ => .boolean
abbrev wsX20 : List Cond := u_ws RX2 TX2 8
theorem nmX2 : ∀ a, a < 8 → ∀ b, b < 8 → a ≠ b → (TX2 a).2.1 ≠ (TX2 b).2.1 := by decide +kernel
theorem tyX2_ok : ∀ k, k < 8 → parseFieldDescriptor (TX2 k).2.2.1 = some (tyX2 k) := by decide +kernel
abbrev cX2_init : ByteArray := prog_4_method_1_code
def yX2_init : MethodName := ⟨RX2, "<init>", "()V"⟩
abbrev cX2_enter : ByteArray := prog_4_method_2_code
def yX2_enter : MethodName := ⟨RX2, "enter", "(II)I"⟩
abbrev cX2_empty : ByteArray := prog_4_method_3_code
def yX2_empty : MethodName := ⟨RX2, "empty", "()V"⟩
abbrev cX2_plan : ByteArray := prog_4_method_4_code
def yX2_plan : MethodName := ⟨RX2, "plan", "()V"⟩
abbrev cX2_fillChanges : ByteArray := prog_4_method_5_code
def yX2_fillChanges : MethodName := ⟨RX2, "fillChanges", "()V"⟩
abbrev cX2_change : ByteArray := prog_4_method_6_code
def yX2_change : MethodName := ⟨RX2, "change", "(II)I"⟩
abbrev cX2_fillRest : ByteArray := prog_4_method_7_code
def yX2_fillRest : MethodName := ⟨RX2, "fillRest", "([I)V"⟩
abbrev cX2_bestNext : ByteArray := prog_4_method_8_code
def yX2_bestNext : MethodName := ⟨RX2, "bestNext", "([III)I"⟩
abbrev cX2_sumBy : ByteArray := prog_4_method_9_code
def yX2_sumBy : MethodName := ⟨RX2, "sumBy", "([IIII)I"⟩
abbrev cX2_changeTo : ByteArray := prog_4_method_10_code
def yX2_changeTo : MethodName := ⟨RX2, "changeTo", "(II)I"⟩
def RX3 : String := "RubbedWelds$Job"
def TX3 : u_T := fun k => match k with
  | 0 => ("RubbedWelds$Job", "one", "I", true)
  | 1 => ("RubbedWelds$Job", "other", "I", true)
  | 2 => ("RubbedWelds$Job", "marks", "[I", true)
  | 3 => ("RubbedWelds$Job", "judged", "[J", true)
  | _ => ("RubbedWelds$Job", "found", "[J", true)
def tyX3 : Nat → FieldType := fun k => match k with
  | 0 => .int
  | 1 => .int
  | 2 => .array .int
  | 3 => .array .long
  | _ => .array .long
abbrev wsX30 : List Cond := u_ws RX3 TX3 5
theorem nmX3 : ∀ a, a < 5 → ∀ b, b < 5 → a ≠ b → (TX3 a).2.1 ≠ (TX3 b).2.1 := by decide +kernel
theorem tyX3_ok : ∀ k, k < 5 → parseFieldDescriptor (TX3 k).2.2.1 = some (tyX3 k) := by decide +kernel
abbrev cX3_init : ByteArray := prog_5_method_1_code
def yX3_init : MethodName := ⟨RX3, "<init>", "(II)V"⟩
abbrev cX3_join : ByteArray := prog_5_method_2_code
def yX3_join : MethodName := ⟨RX3, "join", "(LRubbedWelds$Stuff;LRubbedWelds$Stuff;I)V"⟩
abbrev cX3_joined : ByteArray := prog_5_method_3_code
def yX3_joined : MethodName := ⟨RX3, "joined", "(III)I"⟩
abbrev cX3_has : ByteArray := prog_5_method_4_code
def yX3_has : MethodName := ⟨RX3, "has", "(I)Z"⟩
abbrev cX3_isJudged : ByteArray := prog_5_method_5_code
def yX3_isJudged : MethodName := ⟨RX3, "isJudged", "(I)Z"⟩
abbrev cX3_isFoundGood : ByteArray := prog_5_method_6_code
def yX3_isFoundGood : MethodName := ⟨RX3, "isFoundGood", "(I)Z"⟩
abbrev cX3_judge : ByteArray := prog_5_method_7_code
def yX3_judge : MethodName := ⟨RX3, "judge", "(IZ)V"⟩
def RX4 : String := "RubbedWelds$Joint"
def TX4 : u_T := fun k => match k with
  | 0 => ("RubbedWelds$Joint", "job", "LRubbedWelds$Job;", true)
  | 1 => ("RubbedWelds$Joint", "setting", "I", true)
  | _ => ("RubbedWelds$Joint", "day", "I", true)
def tyX4 : Nat → FieldType := fun k => match k with
  | 0 => .object "RubbedWelds$Job"
  | 1 => .int
  | _ => .int
abbrev wsX40 : List Cond := u_ws RX4 TX4 3
theorem nmX4 : ∀ a, a < 3 → ∀ b, b < 3 → a ≠ b → (TX4 a).2.1 ≠ (TX4 b).2.1 := by decide +kernel
theorem tyX4_ok : ∀ k, k < 3 → parseFieldDescriptor (TX4 k).2.2.1 = some (tyX4 k) := by decide +kernel
abbrev cX4_init : ByteArray := prog_6_method_1_code
def yX4_init : MethodName := ⟨RX4, "<init>", "(LRubbedWelds$Job;II)V"⟩
def RX5 : String := "RubbedWelds$Prover"
def TX5 : u_T := fun k => match k with
  | _ => ("RubbedWelds$Prover", "cells", "[I", true)
def tyX5 : Nat → FieldType := fun k => match k with
  | _ => .array .int
abbrev wsX50 : List Cond := u_ws RX5 TX5 1
theorem nmX5 : ∀ a, a < 1 → ∀ b, b < 1 → a ≠ b → (TX5 a).2.1 ≠ (TX5 b).2.1 := by decide +kernel
theorem tyX5_ok : ∀ k, k < 1 → parseFieldDescriptor (TX5 k).2.2.1 = some (tyX5 k) := by decide +kernel
abbrev cX5_init : ByteArray := prog_7_method_1_code
def yX5_init : MethodName := ⟨RX5, "<init>", "()V"⟩
abbrev cX5_fill : ByteArray := prog_7_method_2_code
def yX5_fill : MethodName := ⟨RX5, "fill", "(LRubbedWelds$Bench;LRubbedWelds$Window;)V"⟩
abbrev cX5_leastCut : ByteArray := prog_7_method_3_code
def yX5_leastCut : MethodName := ⟨RX5, "leastCut", "(IIII)I"⟩
abbrev cX5_leastOn : ByteArray := prog_7_method_4_code
def yX5_leastOn : MethodName := ⟨RX5, "leastOn", "(IIII)I"⟩
abbrev cX5_rowOf : ByteArray := prog_7_method_5_code
def yX5_rowOf : MethodName := ⟨RX5, "rowOf", "(LRubbedWelds$Walk;LRubbedWelds$Window;)[I"⟩
abbrev cX5_findGreatest : ByteArray := prog_7_method_6_code
def yX5_findGreatest : MethodName := ⟨RX5, "findGreatest", "(LRubbedWelds$Window;)V"⟩
abbrev cX5_weigh : ByteArray := prog_7_method_7_code
def yX5_weigh : MethodName := ⟨RX5, "weigh", "(LRubbedWelds$Window;III)V"⟩
abbrev cX5_stretchesOn : ByteArray := prog_7_method_8_code
def yX5_stretchesOn : MethodName := ⟨RX5, "stretchesOn", "(LRubbedWelds$Window;I)I"⟩
abbrev cX5_stretchAt : ByteArray := prog_7_method_9_code
def yX5_stretchAt : MethodName := ⟨RX5, "stretchAt", "(LRubbedWelds$Window;III)I"⟩
abbrev cX5_cellAt : ByteArray := prog_7_method_10_code
def yX5_cellAt : MethodName := ⟨RX5, "cellAt", "(LRubbedWelds$Window;II)I"⟩
abbrev cX5_cellOf : ByteArray := prog_7_method_11_code
def yX5_cellOf : MethodName := ⟨RX5, "cellOf", "(III)I"⟩
abbrev cX5_settingOf : ByteArray := prog_7_method_12_code
def yX5_settingOf : MethodName := ⟨RX5, "settingOf", "(III)I"⟩
def RX6 : String := "RubbedWelds$Stuff"
def TX6 : u_T := fun k => match k with
  | 0 => ("RubbedWelds$Stuff", "marks", "[I", true)
  | _ => ("RubbedWelds$Stuff", "barred", "I", false)
def tyX6 : Nat → FieldType := fun k => match k with
  | 0 => .array .int
  | _ => .int
abbrev wsX60 : List Cond := u_ws RX6 TX6 2
theorem nmX6 : ∀ a, a < 2 → ∀ b, b < 2 → a ≠ b → (TX6 a).2.1 ≠ (TX6 b).2.1 := by decide +kernel
theorem tyX6_ok : ∀ k, k < 2 → parseFieldDescriptor (TX6 k).2.2.1 = some (tyX6 k) := by decide +kernel
abbrev cX6_init : ByteArray := prog_8_method_1_code
def yX6_init : MethodName := ⟨RX6, "<init>", "([I)V"⟩
abbrev cX6_isBarred : ByteArray := prog_8_method_2_code
def yX6_isBarred : MethodName := ⟨RX6, "isBarred", "(I)Z"⟩
abbrev cX6_barFrom : ByteArray := prog_8_method_3_code
def yX6_barFrom : MethodName := ⟨RX6, "barFrom", "(I)V"⟩
def RX7 : String := "RubbedWelds$Tape"
def TX7 : u_T := fun k => match k with
  | 0 => ("RubbedWelds$Tape", "numbers", "[I", true)
  | _ => ("RubbedWelds$Tape", "size", "I", false)
def tyX7 : Nat → FieldType := fun k => match k with
  | 0 => .array .int
  | _ => .int
abbrev wsX70 : List Cond := u_ws RX7 TX7 2
theorem nmX7 : ∀ a, a < 2 → ∀ b, b < 2 → a ≠ b → (TX7 a).2.1 ≠ (TX7 b).2.1 := by decide +kernel
theorem tyX7_ok : ∀ k, k < 2 → parseFieldDescriptor (TX7 k).2.2.1 = some (tyX7 k) := by decide +kernel
abbrev cX7_init : ByteArray := prog_9_method_1_code
def yX7_init : MethodName := ⟨RX7, "<init>", "()V"⟩
abbrev cX7_append : ByteArray := prog_9_method_2_code
def yX7_append : MethodName := ⟨RX7, "append", "(I)Z"⟩
abbrev cX7_replace : ByteArray := prog_9_method_3_code
def yX7_replace : MethodName := ⟨RX7, "replace", "(II)Z"⟩
abbrev cX7_shorten : ByteArray := prog_9_method_4_code
def yX7_shorten : MethodName := ⟨RX7, "shorten", "(I)Z"⟩
abbrev cX7_become : ByteArray := prog_9_method_5_code
def yX7_become : MethodName := ⟨RX7, "become", "([I)V"⟩
abbrev cX7_isNumber : ByteArray := prog_9_method_6_code
def yX7_isNumber : MethodName := ⟨RX7, "isNumber", "(I)Z"⟩
def RX8 : String := "RubbedWelds$Walk"
def TX8 : u_T := fun k => match k with
  | 0 => ("RubbedWelds$Walk", "lows", "[I", true)
  | 1 => ("RubbedWelds$Walk", "highs", "[I", true)
  | 2 => ("RubbedWelds$Walk", "waiting", "I", false)
  | 3 => ("RubbedWelds$Walk", "from", "I", false)
  | _ => ("RubbedWelds$Walk", "to", "I", false)
def tyX8 : Nat → FieldType := fun k => match k with
  | 0 => .array .int
  | 1 => .array .int
  | 2 => .int
  | 3 => .int
  | _ => .int
abbrev wsX80 : List Cond := u_ws RX8 TX8 5
theorem nmX8 : ∀ a, a < 5 → ∀ b, b < 5 → a ≠ b → (TX8 a).2.1 ≠ (TX8 b).2.1 := by decide +kernel
theorem tyX8_ok : ∀ k, k < 5 → parseFieldDescriptor (TX8 k).2.2.1 = some (tyX8 k) := by decide +kernel
abbrev cX8_init : ByteArray := prog_10_method_1_code
def yX8_init : MethodName := ⟨RX8, "<init>", "()V"⟩
abbrev cX8_begin : ByteArray := prog_10_method_2_code
def yX8_begin : MethodName := ⟨RX8, "begin", "(II)V"⟩
abbrev cX8_lay : ByteArray := prog_10_method_3_code
def yX8_lay : MethodName := ⟨RX8, "lay", "(II)V"⟩
abbrev cX8_advance : ByteArray := prog_10_method_4_code
def yX8_advance : MethodName := ⟨RX8, "advance", "()Z"⟩
abbrev cX8_mayCut : ByteArray := prog_10_method_5_code
def yX8_mayCut : MethodName := ⟨RX8, "mayCut", "(I)Z"⟩
abbrev cX8_follow : ByteArray := prog_10_method_6_code
def yX8_follow : MethodName := ⟨RX8, "follow", "(I)V"⟩
abbrev cX8_axisOf : ByteArray := prog_10_method_7_code
def yX8_axisOf : MethodName := ⟨RX8, "axisOf", "(I)I"⟩
abbrev cX8_lowerOf : ByteArray := prog_10_method_8_code
def yX8_lowerOf : MethodName := ⟨RX8, "lowerOf", "(I)I"⟩
def RX9 : String := "RubbedWelds$Window"
def TX9 : u_T := fun k => match k with
  | 0 => ("RubbedWelds$Window", "job", "LRubbedWelds$Job;", true)
  | 1 => ("RubbedWelds$Window", "from", "I", true)
  | 2 => ("RubbedWelds$Window", "to", "I", true)
  | 3 => ("RubbedWelds$Window", "row", "[I", false)
  | 4 => ("RubbedWelds$Window", "mostFrom", "I", false)
  | 5 => ("RubbedWelds$Window", "mostTo", "I", false)
  | _ => ("RubbedWelds$Window", "most", "I", false)
def tyX9 : Nat → FieldType := fun k => match k with
  | 0 => .object "RubbedWelds$Job"
  | 1 => .int
  | 2 => .int
  | 3 => .array .int
  | 4 => .int
  | 5 => .int
  | _ => .int
abbrev wsX90 : List Cond := u_ws RX9 TX9 7
theorem nmX9 : ∀ a, a < 7 → ∀ b, b < 7 → a ≠ b → (TX9 a).2.1 ≠ (TX9 b).2.1 := by decide +kernel
theorem tyX9_ok : ∀ k, k < 7 → parseFieldDescriptor (TX9 k).2.2.1 = some (tyX9 k) := by decide +kernel
abbrev cX9_init : ByteArray := prog_11_method_1_code
def yX9_init : MethodName := ⟨RX9, "<init>", "(LRubbedWelds$Job;II)V"⟩
def RX10 : String := "RubbedWelds"
def TX10 : u_T := fun k => match k with
  | 0 => ("RubbedWelds", "stuffRow", "[LRubbedWelds$Stuff;", true)
  | 1 => ("RubbedWelds", "jobRow", "[LRubbedWelds$Job;", true)
  | 2 => ("RubbedWelds", "windowRow", "[LRubbedWelds$Window;", true)
  | 3 => ("RubbedWelds", "bench", "LRubbedWelds$Bench;", true)
  | 4 => ("RubbedWelds", "walk", "LRubbedWelds$Walk;", true)
  | 5 => ("RubbedWelds", "tape", "LRubbedWelds$Tape;", true)
  | 6 => ("RubbedWelds", "book", "LRubbedWelds$Book;", true)
  | 7 => ("RubbedWelds", "dayList", "LRubbedWelds$DayList;", true)
  | 8 => ("RubbedWelds", "prover", "LRubbedWelds$Prover;", false)
  | 9 => ("RubbedWelds", "now", "I", false)
  | 10 => ("RubbedWelds", "stuffs", "I", false)
  | 11 => ("RubbedWelds", "jobs", "I", false)
  | _ => ("RubbedWelds", "windows", "I", false)
def tyX10 : Nat → FieldType := fun k => match k with
  | 0 => .array (.object "RubbedWelds$Stuff")
  | 1 => .array (.object "RubbedWelds$Job")
  | 2 => .array (.object "RubbedWelds$Window")
  | 3 => .object "RubbedWelds$Bench"
  | 4 => .object "RubbedWelds$Walk"
  | 5 => .object "RubbedWelds$Tape"
  | 6 => .object "RubbedWelds$Book"
  | 7 => .object "RubbedWelds$DayList"
  | 8 => .object "RubbedWelds$Prover"
  | 9 => .int
  | 10 => .int
  | 11 => .int
  | _ => .int
abbrev wsX100 : List Cond := u_ws RX10 TX10 13
theorem nmX10 : ∀ a, a < 13 → ∀ b, b < 13 → a ≠ b → (TX10 a).2.1 ≠ (TX10 b).2.1 := by decide +kernel
theorem tyX10_ok : ∀ k, k < 13 → parseFieldDescriptor (TX10 k).2.2.1 = some (tyX10 k) := by decide +kernel
abbrev cX10_init : ByteArray := prog_1_method_1_code
def yX10_init : MethodName := ⟨RX10, "<init>", "()V"⟩
abbrev cX10_days : ByteArray := prog_1_method_2_code
def yX10_days : MethodName := ⟨RX10, "days", "(I)I"⟩
abbrev cX10_stuff : ByteArray := prog_1_method_3_code
def yX10_stuff : MethodName := ⟨RX10, "stuff", "(IIIIIIII)I"⟩
abbrev cX10_bar : ByteArray := prog_1_method_4_code
def yX10_bar : MethodName := ⟨RX10, "bar", "(II)Z"⟩
abbrev cX10_job : ByteArray := prog_1_method_5_code
def yX10_job : MethodName := ⟨RX10, "job", "(III)I"⟩
abbrev cX10_told : ByteArray := prog_1_method_6_code
def yX10_told : MethodName := ⟨RX10, "told", "(II)I"⟩
abbrev cX10_setting : ByteArray := prog_1_method_7_code
def yX10_setting : MethodName := ⟨RX10, "setting", "(III)I"⟩
abbrev cX10_verdict : ByteArray := prog_1_method_8_code
def yX10_verdict : MethodName := ⟨RX10, "verdict", "(II)I"⟩
abbrev cX10_ring : ByteArray := prog_1_method_9_code
def yX10_ring : MethodName := ⟨RX10, "ring", "(IIII)I"⟩
abbrev cX10_by : ByteArray := prog_1_method_10_code
def yX10_by : MethodName := ⟨RX10, "by", "(II)I"⟩
abbrev cX10_ticks : ByteArray := prog_1_method_11_code
def yX10_ticks : MethodName := ⟨RX10, "ticks", "(II)I"⟩
abbrev cX10_window : ByteArray := prog_1_method_12_code
def yX10_window : MethodName := ⟨RX10, "window", "(III)I"⟩
abbrev cX10_good : ByteArray := prog_1_method_13_code
def yX10_good : MethodName := ⟨RX10, "good", "(I)I"⟩
abbrev cX10_leaves : ByteArray := prog_1_method_14_code
def yX10_leaves : MethodName := ⟨RX10, "leaves", "(I)I"⟩
abbrev cX10_proof : ByteArray := prog_1_method_15_code
def yX10_proof : MethodName := ⟨RX10, "proof", "(II)I"⟩
abbrev cX10_tell : ByteArray := prog_1_method_16_code
def yX10_tell : MethodName := ⟨RX10, "tell", "(I)I"⟩
abbrev cX10_copy : ByteArray := prog_1_method_17_code
def yX10_copy : MethodName := ⟨RX10, "copy", "(I)I"⟩
abbrev cX10_alter : ByteArray := prog_1_method_18_code
def yX10_alter : MethodName := ⟨RX10, "alter", "(II)Z"⟩
abbrev cX10_end : ByteArray := prog_1_method_19_code
def yX10_end : MethodName := ⟨RX10, "end", "(I)Z"⟩
abbrev cX10_check : ByteArray := prog_1_method_20_code
def yX10_check : MethodName := ⟨RX10, "check", "(I)I"⟩
abbrev cX10_greatest : ByteArray := prog_1_method_21_code
def yX10_greatest : MethodName := ⟨RX10, "greatest", "(II)I"⟩
abbrev cX10_edge : ByteArray := prog_1_method_22_code
def yX10_edge : MethodName := ⟨RX10, "edge", "(II)I"⟩
abbrev cX10_mended : ByteArray := prog_1_method_23_code
def yX10_mended : MethodName := ⟨RX10, "mended", "(II)I"⟩
abbrev cX10_joint : ByteArray := prog_1_method_24_code
def yX10_joint : MethodName := ⟨RX10, "joint", "(II)I"⟩
abbrev cX10_attempt : ByteArray := prog_1_method_25_code
def yX10_attempt : MethodName := ⟨RX10, "attempt", "(IZ)Z"⟩
abbrev cX10_tried : ByteArray := prog_1_method_26_code
def yX10_tried : MethodName := ⟨RX10, "tried", "(II)I"⟩
abbrev cX10_odd : ByteArray := prog_1_method_27_code
def yX10_odd : MethodName := ⟨RX10, "odd", "(I)I"⟩
abbrev cX10_led : ByteArray := prog_1_method_28_code
def yX10_led : MethodName := ⟨RX10, "led", "(I)I"⟩
abbrev cX10_work : ByteArray := prog_1_method_29_code
def yX10_work : MethodName := ⟨RX10, "work", "(II)I"⟩
abbrev cX10_clear : ByteArray := prog_1_method_30_code
def yX10_clear : MethodName := ⟨RX10, "clear", "()V"⟩
abbrev cX10_order : ByteArray := prog_1_method_31_code
def yX10_order : MethodName := ⟨RX10, "order", "(I)I"⟩
abbrev cX10_count : ByteArray := prog_1_method_32_code
def yX10_count : MethodName := ⟨RX10, "count", "(I)I"⟩
abbrev cX10_stuffAt : ByteArray := prog_1_method_33_code
def yX10_stuffAt : MethodName := ⟨RX10, "stuffAt", "(I)LRubbedWelds$Stuff;"⟩
abbrev cX10_jobAt : ByteArray := prog_1_method_34_code
def yX10_jobAt : MethodName := ⟨RX10, "jobAt", "(I)LRubbedWelds$Job;"⟩
abbrev cX10_windowAt : ByteArray := prog_1_method_35_code
def yX10_windowAt : MethodName := ⟨RX10, "windowAt", "(I)LRubbedWelds$Window;"⟩
abbrev cX10_isKnownDay : ByteArray := prog_1_method_36_code
def yX10_isKnownDay : MethodName := ⟨RX10, "isKnownDay", "(I)Z"⟩
abbrev cX10_weldOf : ByteArray := prog_1_method_37_code
def yX10_weldOf : MethodName := ⟨RX10, "weldOf", "(II)Z"⟩
abbrev cX10_leastRow : ByteArray := prog_1_method_38_code
def yX10_leastRow : MethodName := ⟨RX10, "leastRow", "(LRubbedWelds$Window;)[I"⟩
abbrev cX10_mayStand : ByteArray := prog_1_method_39_code
def yX10_mayStand : MethodName := ⟨RX10, "mayStand", "(LRubbedWelds$Job;I)Z"⟩
abbrev cX10_isOnAxis : ByteArray := prog_1_method_40_code
def yX10_isOnAxis : MethodName := ⟨RX10, "isOnAxis", "(I)Z"⟩
abbrev cX10_isSetting : ByteArray := prog_1_method_41_code
def yX10_isSetting : MethodName := ⟨RX10, "isSetting", "(I)Z"⟩
abbrev cX10_along : ByteArray := prog_1_method_42_code
def yX10_along : MethodName := ⟨RX10, "along", "(II)I"⟩
abbrev cX10_isInside : ByteArray := prog_1_method_43_code
def yX10_isInside : MethodName := ⟨RX10, "isInside", "(III)Z"⟩
abbrev cX10_stepsOn : ByteArray := prog_1_method_44_code
def yX10_stepsOn : MethodName := ⟨RX10, "stepsOn", "(III)I"⟩
abbrev cX10_stepsBetween : ByteArray := prog_1_method_45_code
def yX10_stepsBetween : MethodName := ⟨RX10, "stepsBetween", "(II)I"⟩
def RX11 : String := "RubbedWeldsModel"
def TX11 : u_T := fun k => match k with
  | 0 => ("RubbedWeldsModel", "now", "I", false)
  | 1 => ("RubbedWeldsModel", "thrown", "I", false)
  | 2 => ("RubbedWeldsModel", "stuffs", "[I", true)
  | 3 => ("RubbedWeldsModel", "bars", "[Z", true)
  | 4 => ("RubbedWeldsModel", "jobs", "[I", true)
  | 5 => ("RubbedWeldsModel", "jobOne", "[I", true)
  | 6 => ("RubbedWeldsModel", "jobOther", "[I", true)
  | 7 => ("RubbedWeldsModel", "stuffMany", "I", false)
  | 8 => ("RubbedWeldsModel", "jobMany", "I", false)
  | 9 => ("RubbedWeldsModel", "warm", "[I", true)
  | 10 => ("RubbedWeldsModel", "next", "[I", true)
  | 11 => ("RubbedWeldsModel", "peak", "[I", true)
  | 12 => ("RubbedWeldsModel", "out", "[I", true)
  | 13 => ("RubbedWeldsModel", "fall", "[I", true)
  | 14 => ("RubbedWeldsModel", "rubbed", "I", false)
  | 15 => ("RubbedWeldsModel", "isStuck", "Z", false)
  | 16 => ("RubbedWeldsModel", "verdicts", "[I", true)
  | 17 => ("RubbedWeldsModel", "byRing", "I", false)
  | 18 => ("RubbedWeldsModel", "windowJob", "[I", true)
  | 19 => ("RubbedWeldsModel", "low", "[I", true)
  | 20 => ("RubbedWeldsModel", "high", "[I", true)
  | 21 => ("RubbedWeldsModel", "windows", "I", false)
  | 22 => ("RubbedWeldsModel", "at", "I", false)
  | 23 => ("RubbedWeldsModel", "least", "[I", true)
  | 24 => ("RubbedWeldsModel", "begins", "[I", true)
  | 25 => ("RubbedWeldsModel", "row", "[I", true)
  | 26 => ("RubbedWeldsModel", "rowMany", "I", false)
  | 27 => ("RubbedWeldsModel", "tape", "[I", true)
  | 28 => ("RubbedWeldsModel", "taped", "I", false)
  | 29 => ("RubbedWeldsModel", "place", "I", false)
  | 30 => ("RubbedWeldsModel", "wrong", "I", false)
  | 31 => ("RubbedWeldsModel", "bestLow", "I", false)
  | 32 => ("RubbedWeldsModel", "bestHigh", "I", false)
  | 33 => ("RubbedWeldsModel", "bestMany", "I", false)
  | 34 => ("RubbedWeldsModel", "jointJob", "[I", true)
  | 35 => ("RubbedWeldsModel", "jointSetting", "[I", true)
  | 36 => ("RubbedWeldsModel", "jointTold", "[I", true)
  | 37 => ("RubbedWeldsModel", "trialOf", "[I", true)
  | 38 => ("RubbedWeldsModel", "trialGood", "[Z", true)
  | 39 => ("RubbedWeldsModel", "trialTold", "[I", true)
  | 40 => ("RubbedWeldsModel", "joints", "I", false)
  | 41 => ("RubbedWeldsModel", "trials", "I", false)
  | 42 => ("RubbedWeldsModel", "entryJob", "[I", true)
  | 43 => ("RubbedWeldsModel", "entrySetting", "[I", true)
  | 44 => ("RubbedWeldsModel", "trying", "[I", true)
  | 45 => ("RubbedWeldsModel", "found", "[I", true)
  | 46 => ("RubbedWeldsModel", "entries", "I", false)
  | _ => ("RubbedWeldsModel", "foundSum", "I", false)
def tyX11 : Nat → FieldType := fun k => match k with
  | 0 => .int
  | 1 => .int
  | 2 => .array .int
  | 3 => .array .boolean
  | 4 => .array .int
  | 5 => .array .int
  | 6 => .array .int
  | 7 => .int
  | 8 => .int
  | 9 => .array .int
  | 10 => .array .int
  | 11 => .array .int
  | 12 => .array .int
  | 13 => .array .int
  | 14 => .int
  | 15 => .boolean
  | 16 => .array .int
  | 17 => .int
  | 18 => .array .int
  | 19 => .array .int
  | 20 => .array .int
  | 21 => .int
  | 22 => .int
  | 23 => .array .int
  | 24 => .array .int
  | 25 => .array .int
  | 26 => .int
  | 27 => .array .int
  | 28 => .int
  | 29 => .int
  | 30 => .int
  | 31 => .int
  | 32 => .int
  | 33 => .int
  | 34 => .array .int
  | 35 => .array .int
  | 36 => .array .int
  | 37 => .array .int
  | 38 => .array .boolean
  | 39 => .array .int
  | 40 => .int
  | 41 => .int
  | 42 => .array .int
  | 43 => .array .int
  | 44 => .array .int
  | 45 => .array .int
  | 46 => .int
  | _ => .int
abbrev wsX110 : List Cond := u_ws RX11 TX11 48
theorem nmX11 : ∀ a, a < 48 → ∀ b, b < 48 → a ≠ b → (TX11 a).2.1 ≠ (TX11 b).2.1 := by decide +kernel
theorem tyX11_ok : ∀ k, k < 48 → parseFieldDescriptor (TX11 k).2.2.1 = some (tyX11 k) := by decide +kernel
abbrev cX11_in : ByteArray := prog_13_method_1_code
def yX11_in : MethodName := ⟨RX11, "in", "(III)Z"⟩
abbrev cX11_init : ByteArray := prog_13_method_2_code
def yX11_init : MethodName := ⟨RX11, "<init>", "()V"⟩
abbrev cX11_thrown : ByteArray := prog_13_method_3_code
def yX11_thrown : MethodName := ⟨RX11, "thrown", "()I"⟩
abbrev cX11_days : ByteArray := prog_13_method_4_code
def yX11_days : MethodName := ⟨RX11, "days", "(I)I"⟩
abbrev cX11_isStuff : ByteArray := prog_13_method_5_code
def yX11_isStuff : MethodName := ⟨RX11, "isStuff", "(I)Z"⟩
abbrev cX11_isJob : ByteArray := prog_13_method_6_code
def yX11_isJob : MethodName := ⟨RX11, "isJob", "(I)Z"⟩
abbrev cX11_isSetting : ByteArray := prog_13_method_7_code
def yX11_isSetting : MethodName := ⟨RX11, "isSetting", "(I)Z"⟩
abbrev cX11_stuff : ByteArray := prog_13_method_8_code
def yX11_stuff : MethodName := ⟨RX11, "stuff", "(IIIIIIII)I"⟩
abbrev cX11_bar : ByteArray := prog_13_method_9_code
def yX11_bar : MethodName := ⟨RX11, "bar", "(II)Z"⟩
abbrev cX11_job : ByteArray := prog_13_method_10_code
def yX11_job : MethodName := ⟨RX11, "job", "(III)I"⟩
abbrev cX11_told : ByteArray := prog_13_method_11_code
def yX11_told : MethodName := ⟨RX11, "told", "(II)I"⟩
abbrev cX11_setting : ByteArray := prog_13_method_12_code
def yX11_setting : MethodName := ⟨RX11, "setting", "(III)I"⟩
abbrev cX11_settingOf : ByteArray := prog_13_method_13_code
def yX11_settingOf : MethodName := ⟨RX11, "settingOf", "(III)I"⟩
abbrev cX11_part : ByteArray := prog_13_method_14_code
def yX11_part : MethodName := ⟨RX11, "part", "(II)I"⟩
abbrev cX11_led : ByteArray := prog_13_method_15_code
def yX11_led : MethodName := ⟨RX11, "led", "(III)I"⟩
abbrev cX11_tick : ByteArray := prog_13_method_16_code
def yX11_tick : MethodName := ⟨RX11, "tick", "(IIIZ)V"⟩
abbrev cX11_outAll : ByteArray := prog_13_method_17_code
def yX11_outAll : MethodName := ⟨RX11, "outAll", "(I)I"⟩
abbrev cX11_weld : ByteArray := prog_13_method_18_code
def yX11_weld : MethodName := ⟨RX11, "weld", "(II)V"⟩
abbrev cX11_judge : ByteArray := prog_13_method_19_code
def yX11_judge : MethodName := ⟨RX11, "judge", "(II)I"⟩
abbrev cX11_verdictOf : ByteArray := prog_13_method_20_code
def yX11_verdictOf : MethodName := ⟨RX11, "verdictOf", "(II)I"⟩
abbrev cX11_isAsked : ByteArray := prog_13_method_21_code
def yX11_isAsked : MethodName := ⟨RX11, "isAsked", "(II)Z"⟩
abbrev cX11_verdict : ByteArray := prog_13_method_22_code
def yX11_verdict : MethodName := ⟨RX11, "verdict", "(II)I"⟩
abbrev cX11_ring : ByteArray := prog_13_method_23_code
def yX11_ring : MethodName := ⟨RX11, "ring", "(IIII)I"⟩
abbrev cX11_by : ByteArray := prog_13_method_24_code
def yX11_by : MethodName := ⟨RX11, "by", "(II)I"⟩
abbrev cX11_ticks : ByteArray := prog_13_method_25_code
def yX11_ticks : MethodName := ⟨RX11, "ticks", "(II)I"⟩
abbrev cX11_isWindow : ByteArray := prog_13_method_26_code
def yX11_isWindow : MethodName := ⟨RX11, "isWindow", "(I)Z"⟩
abbrev cX11_window : ByteArray := prog_13_method_27_code
def yX11_window : MethodName := ⟨RX11, "window", "(III)I"⟩
abbrev cX11_boxOf : ByteArray := prog_13_method_28_code
def yX11_boxOf : MethodName := ⟨RX11, "boxOf", "(IIIIII)I"⟩
abbrev cX11_isGood : ByteArray := prog_13_method_29_code
def yX11_isGood : MethodName := ⟨RX11, "isGood", "(III)Z"⟩
abbrev cX11_goodIn : ByteArray := prog_13_method_30_code
def yX11_goodIn : MethodName := ⟨RX11, "goodIn", "(IIIIII)I"⟩
abbrev cX11_sizeOf : ByteArray := prog_13_method_31_code
def yX11_sizeOf : MethodName := ⟨RX11, "sizeOf", "(IIIIII)I"⟩
abbrev cX11_wide : ByteArray := prog_13_method_32_code
def yX11_wide : MethodName := ⟨RX11, "wide", "(I)I"⟩
abbrev cX11_good : ByteArray := prog_13_method_33_code
def yX11_good : MethodName := ⟨RX11, "good", "(I)I"⟩
abbrev cX11_leavesOf : ByteArray := prog_13_method_34_code
def yX11_leavesOf : MethodName := ⟨RX11, "leavesOf", "(IIIIII)I"⟩
abbrev cX11_better : ByteArray := prog_13_method_35_code
def yX11_better : MethodName := ⟨RX11, "better", "(IIII)I"⟩
abbrev cX11_prove : ByteArray := prog_13_method_36_code
def yX11_prove : MethodName := ⟨RX11, "prove", "(I)I"⟩
abbrev cX11_leaves : ByteArray := prog_13_method_37_code
def yX11_leaves : MethodName := ⟨RX11, "leaves", "(I)I"⟩
abbrev cX11_write : ByteArray := prog_13_method_38_code
def yX11_write : MethodName := ⟨RX11, "write", "(IIIIII)V"⟩
abbrev cX11_writeOut : ByteArray := prog_13_method_39_code
def yX11_writeOut : MethodName := ⟨RX11, "writeOut", "(I)V"⟩
abbrev cX11_proof : ByteArray := prog_13_method_40_code
def yX11_proof : MethodName := ⟨RX11, "proof", "(II)I"⟩
abbrev cX11_tell : ByteArray := prog_13_method_41_code
def yX11_tell : MethodName := ⟨RX11, "tell", "(I)I"⟩
abbrev cX11_copy : ByteArray := prog_13_method_42_code
def yX11_copy : MethodName := ⟨RX11, "copy", "(I)I"⟩
abbrev cX11_alter : ByteArray := prog_13_method_43_code
def yX11_alter : MethodName := ⟨RX11, "alter", "(II)Z"⟩
abbrev cX11_end : ByteArray := prog_13_method_44_code
def yX11_end : MethodName := ⟨RX11, "end", "(I)Z"⟩
abbrev cX11_follow : ByteArray := prog_13_method_45_code
def yX11_follow : MethodName := ⟨RX11, "follow", "(IIIIII)V"⟩
abbrev cX11_check : ByteArray := prog_13_method_46_code
def yX11_check : MethodName := ⟨RX11, "check", "(I)I"⟩
abbrev cX11_offer : ByteArray := prog_13_method_47_code
def yX11_offer : MethodName := ⟨RX11, "offer", "(IIIIII)V"⟩
abbrev cX11_greatest : ByteArray := prog_13_method_48_code
def yX11_greatest : MethodName := ⟨RX11, "greatest", "(II)I"⟩
abbrev cX11_steps : ByteArray := prog_13_method_49_code
def yX11_steps : MethodName := ⟨RX11, "steps", "(II)I"⟩
abbrev cX11_edge : ByteArray := prog_13_method_50_code
def yX11_edge : MethodName := ⟨RX11, "edge", "(II)I"⟩
abbrev cX11_mended : ByteArray := prog_13_method_51_code
def yX11_mended : MethodName := ⟨RX11, "mended", "(II)I"⟩
abbrev cX11_joint : ByteArray := prog_13_method_52_code
def yX11_joint : MethodName := ⟨RX11, "joint", "(II)I"⟩
abbrev cX11_attempt : ByteArray := prog_13_method_53_code
def yX11_attempt : MethodName := ⟨RX11, "attempt", "(IZ)Z"⟩
abbrev cX11_triedAt : ByteArray := prog_13_method_54_code
def yX11_triedAt : MethodName := ⟨RX11, "triedAt", "(II)I"⟩
abbrev cX11_tried : ByteArray := prog_13_method_55_code
def yX11_tried : MethodName := ⟨RX11, "tried", "(II)I"⟩
abbrev cX11_odd : ByteArray := prog_13_method_56_code
def yX11_odd : MethodName := ⟨RX11, "odd", "(I)I"⟩
abbrev cX11_led_ : ByteArray := prog_13_method_57_code
def yX11_led_ : MethodName := ⟨RX11, "led", "(I)I"⟩
abbrev cX11_work : ByteArray := prog_13_method_58_code
def yX11_work : MethodName := ⟨RX11, "work", "(II)I"⟩
abbrev cX11_clear : ByteArray := prog_13_method_59_code
def yX11_clear : MethodName := ⟨RX11, "clear", "()V"⟩
abbrev cX11_change : ByteArray := prog_13_method_60_code
def yX11_change : MethodName := ⟨RX11, "change", "(II)I"⟩
abbrev cX11_arrange : ByteArray := prog_13_method_61_code
def yX11_arrange : MethodName := ⟨RX11, "arrange", "(III)V"⟩
abbrev cX11_order : ByteArray := prog_13_method_62_code
def yX11_order : MethodName := ⟨RX11, "order", "(I)I"⟩
abbrev cX11_count : ByteArray := prog_13_method_63_code
def yX11_count : MethodName := ⟨RX11, "count", "(I)I"⟩
def RJ9 : String := "java/lang/Math"
def TJ9 : u_T := fun k => match k with
  | _ => ("", "", "", false)
def tyJ9 : Nat → FieldType := fun k => match k with
  | _ => .int
abbrev wsJ90 : List Cond := u_ws RJ9 TJ9 0
theorem nmJ9 : ∀ a, a < 0 → ∀ b, b < 0 → a ≠ b → (TJ9 a).2.1 ≠ (TJ9 b).2.1 := by decide +kernel
theorem tyJ9_ok : ∀ k, k < 0 → parseFieldDescriptor (TJ9 k).2.2.1 = some (tyJ9 k) := by decide +kernel
abbrev cJ9_abs_0f7a4 : ByteArray := prog_15_method_59_code
def yJ9_abs_0f7a4 : MethodName := ⟨RJ9, "abs", "(I)I"⟩
abbrev cJ9_max_7cf53 : ByteArray := prog_15_method_65_code
def yJ9_max_7cf53 : MethodName := ⟨RJ9, "max", "(II)I"⟩
abbrev cJ9_min_7cf53 : ByteArray := prog_15_method_69_code
def yJ9_min_7cf53 : MethodName := ⟨RJ9, "min", "(II)I"⟩
def RJ10 : String := "java/lang/System"
def TJ10 : u_T := fun k => match k with
  | _ => ("", "", "", false)
def tyJ10 : Nat → FieldType := fun k => match k with
  | _ => .int
abbrev wsJ100 : List Cond := u_ws RJ10 TJ10 0
theorem nmJ10 : ∀ a, a < 0 → ∀ b, b < 0 → a ≠ b → (TJ10 a).2.1 ≠ (TJ10 b).2.1 := by decide +kernel
theorem tyJ10_ok : ∀ k, k < 0 → parseFieldDescriptor (TJ10 k).2.2.1 = some (tyJ10 k) := by decide +kernel
def RL : String := "RubbedWeldsLaw"
abbrev cL_told : ByteArray := method_3_code
def yL_told : MethodName := ⟨RL, "told", "(LRubbedWelds;II[J)I"⟩
abbrev cL_law : ByteArray := code
def yL_law : MethodName := ⟨RL, "law", "([I)Z"⟩
abbrev vwCl : List vw_C := [(RX0, TX0, 9), (RX1, TX1, 7), (RX2, TX2, 8), (RX3, TX3, 5), (RX4, TX4, 3), (RX5, TX5, 1), (RX6, TX6, 2), (RX7, TX7, 2), (RX8, TX8, 5), (RX9, TX9, 7), (RX10, TX10, 13), (RX11, TX11, 48)]
