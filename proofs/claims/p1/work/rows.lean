section
-- ===== PART A: goes FIRST, ahead of the names: the tables' words, and 'selects' of the private methods out of them =====
/-- a private method of a class that the tables say can be made, by its rows of tables_1 -/
def lw_okq (q : MethodName × Nat) : Prop := (q.1.cls ≠ "java/lang/invoke/MethodHandle" ∧ q.1.cls ≠ "java/lang/invoke/VarHandle") ∧ Cond.instantiable q.1.cls q.2 ∈ tables_1 ∧ Cond.privateMethod q.1 ∈ tables_1 ∧ Cond.instanceMethod q.1 ∈ tables_1
theorem lw_p0 : lw_okq (⟨"BowWalk", "putBytes", "(I)V"⟩, 14) := ⟨⟨by decide +kernel, by decide +kernel⟩, List.mem_of_getElem? (i := 18) (by decide +kernel), List.mem_of_getElem? (i := 444) (by decide +kernel), List.mem_of_getElem? (i := 445) (by decide +kernel)⟩
theorem lw_p1 : lw_okq (⟨"BowWalk$Reader", "step", "()V"⟩, 11) := ⟨⟨by decide +kernel, by decide +kernel⟩, List.mem_of_getElem? (i := 26) (by decide +kernel), List.mem_of_getElem? (i := 471) (by decide +kernel), List.mem_of_getElem? (i := 472) (by decide +kernel)⟩
theorem lw_p2 : lw_okq (⟨"BowWalk$Reader", "stepOverWord", "()V"⟩, 11) := ⟨⟨by decide +kernel, by decide +kernel⟩, List.mem_of_getElem? (i := 26) (by decide +kernel), List.mem_of_getElem? (i := 481) (by decide +kernel), List.mem_of_getElem? (i := 482) (by decide +kernel)⟩
theorem lw_p3 : lw_okq (⟨"BowWalk$Reader", "wordToken", "()I"⟩, 11) := ⟨⟨by decide +kernel, by decide +kernel⟩, List.mem_of_getElem? (i := 26) (by decide +kernel), List.mem_of_getElem? (i := 485) (by decide +kernel), List.mem_of_getElem? (i := 486) (by decide +kernel)⟩
theorem lw_p4 : lw_okq (⟨"BowWalk$Reader", "stepOverNumber", "()V"⟩, 11) := ⟨⟨by decide +kernel, by decide +kernel⟩, List.mem_of_getElem? (i := 26) (by decide +kernel), List.mem_of_getElem? (i := 492) (by decide +kernel), List.mem_of_getElem? (i := 493) (by decide +kernel)⟩
theorem lw_p5 : lw_okq (⟨"BowWalk$Reader", "readLine", "()Z"⟩, 11) := ⟨⟨by decide +kernel, by decide +kernel⟩, List.mem_of_getElem? (i := 26) (by decide +kernel), List.mem_of_getElem? (i := 500) (by decide +kernel), List.mem_of_getElem? (i := 501) (by decide +kernel)⟩
theorem lw_p6 : lw_okq (⟨"BowWalk$Reader", "beginNamed", "(I)Z"⟩, 11) := ⟨⟨by decide +kernel, by decide +kernel⟩, List.mem_of_getElem? (i := 26) (by decide +kernel), List.mem_of_getElem? (i := 504) (by decide +kernel), List.mem_of_getElem? (i := 505) (by decide +kernel)⟩
theorem lw_p7 : lw_okq (⟨"BowWalk$Reader", "refuse", "(I)Z"⟩, 11) := ⟨⟨by decide +kernel, by decide +kernel⟩, List.mem_of_getElem? (i := 26) (by decide +kernel), List.mem_of_getElem? (i := 511) (by decide +kernel), List.mem_of_getElem? (i := 512) (by decide +kernel)⟩
theorem lw_p8 : lw_okq (⟨"BowWalk$Reader", "readSides", "(I)Z"⟩, 11) := ⟨⟨by decide +kernel, by decide +kernel⟩, List.mem_of_getElem? (i := 26) (by decide +kernel), List.mem_of_getElem? (i := 519) (by decide +kernel), List.mem_of_getElem? (i := 520) (by decide +kernel)⟩
theorem lw_p9 : lw_okq (⟨"BowWalk$Reader", "endNamed", "(I)Z"⟩, 11) := ⟨⟨by decide +kernel, by decide +kernel⟩, List.mem_of_getElem? (i := 26) (by decide +kernel), List.mem_of_getElem? (i := 523) (by decide +kernel), List.mem_of_getElem? (i := 524) (by decide +kernel)⟩
theorem lw_p10 : lw_okq (⟨"BowWalk$Reader", "take", "(I)Z"⟩, 11) := ⟨⟨by decide +kernel, by decide +kernel⟩, List.mem_of_getElem? (i := 26) (by decide +kernel), List.mem_of_getElem? (i := 527) (by decide +kernel), List.mem_of_getElem? (i := 528) (by decide +kernel)⟩
theorem lw_p11 : lw_okq (⟨"BowWalk$Reader", "readCord", "(I)Z"⟩, 11) := ⟨⟨by decide +kernel, by decide +kernel⟩, List.mem_of_getElem? (i := 26) (by decide +kernel), List.mem_of_getElem? (i := 531) (by decide +kernel), List.mem_of_getElem? (i := 532) (by decide +kernel)⟩
theorem lw_p12 : lw_okq (⟨"BowWalk$Reader", "takeInto", "([IIII)Z"⟩, 11) := ⟨⟨by decide +kernel, by decide +kernel⟩, List.mem_of_getElem? (i := 26) (by decide +kernel), List.mem_of_getElem? (i := 535) (by decide +kernel), List.mem_of_getElem? (i := 536) (by decide +kernel)⟩
theorem lw_p13 : lw_okq (⟨"BowWalk$Reader", "readSteps", "(I)Z"⟩, 11) := ⟨⟨by decide +kernel, by decide +kernel⟩, List.mem_of_getElem? (i := 26) (by decide +kernel), List.mem_of_getElem? (i := 539) (by decide +kernel), List.mem_of_getElem? (i := 540) (by decide +kernel)⟩
theorem lw_p14 : lw_okq (⟨"BowWalk$Reader", "readAny", "(I)Z"⟩, 11) := ⟨⟨by decide +kernel, by decide +kernel⟩, List.mem_of_getElem? (i := 26) (by decide +kernel), List.mem_of_getElem? (i := 543) (by decide +kernel), List.mem_of_getElem? (i := 544) (by decide +kernel)⟩
theorem lw_p15 : lw_okq (⟨"BowWalk$Reader", "readAll", "(I)Z"⟩, 11) := ⟨⟨by decide +kernel, by decide +kernel⟩, List.mem_of_getElem? (i := 26) (by decide +kernel), List.mem_of_getElem? (i := 547) (by decide +kernel), List.mem_of_getElem? (i := 548) (by decide +kernel)⟩
def lw_privs_1 : List (MethodName × Nat) := [(⟨"BowWalk", "putBytes", "(I)V"⟩, 14), (⟨"BowWalk$Reader", "step", "()V"⟩, 11), (⟨"BowWalk$Reader", "stepOverWord", "()V"⟩, 11), (⟨"BowWalk$Reader", "wordToken", "()I"⟩, 11), (⟨"BowWalk$Reader", "stepOverNumber", "()V"⟩, 11), (⟨"BowWalk$Reader", "readLine", "()Z"⟩, 11), (⟨"BowWalk$Reader", "beginNamed", "(I)Z"⟩, 11), (⟨"BowWalk$Reader", "refuse", "(I)Z"⟩, 11), (⟨"BowWalk$Reader", "readSides", "(I)Z"⟩, 11), (⟨"BowWalk$Reader", "endNamed", "(I)Z"⟩, 11), (⟨"BowWalk$Reader", "take", "(I)Z"⟩, 11), (⟨"BowWalk$Reader", "readCord", "(I)Z"⟩, 11), (⟨"BowWalk$Reader", "takeInto", "([IIII)Z"⟩, 11), (⟨"BowWalk$Reader", "readSteps", "(I)Z"⟩, 11), (⟨"BowWalk$Reader", "readAny", "(I)Z"⟩, 11), (⟨"BowWalk$Reader", "readAll", "(I)Z"⟩, 11)]
theorem lw_r1 : ∀ q ∈ lw_privs_1, lw_okq q := List.forall_mem_cons.mpr ⟨lw_p0, List.forall_mem_cons.mpr ⟨lw_p1, List.forall_mem_cons.mpr ⟨lw_p2, List.forall_mem_cons.mpr ⟨lw_p3, List.forall_mem_cons.mpr ⟨lw_p4, List.forall_mem_cons.mpr ⟨lw_p5, List.forall_mem_cons.mpr ⟨lw_p6, List.forall_mem_cons.mpr ⟨lw_p7, List.forall_mem_cons.mpr ⟨lw_p8, List.forall_mem_cons.mpr ⟨lw_p9, List.forall_mem_cons.mpr ⟨lw_p10, List.forall_mem_cons.mpr ⟨lw_p11, List.forall_mem_cons.mpr ⟨lw_p12, List.forall_mem_cons.mpr ⟨lw_p13, List.forall_mem_cons.mpr ⟨lw_p14, List.forall_mem_cons.mpr ⟨lw_p15, fun _ h => absurd h List.not_mem_nil⟩⟩⟩⟩⟩⟩⟩⟩⟩⟩⟩⟩⟩⟩⟩⟩
theorem lw_p16 : lw_okq (⟨"BowWalk$Reader", "readOne", "(I)Z"⟩, 11) := ⟨⟨by decide +kernel, by decide +kernel⟩, List.mem_of_getElem? (i := 26) (by decide +kernel), List.mem_of_getElem? (i := 551) (by decide +kernel), List.mem_of_getElem? (i := 552) (by decide +kernel)⟩
theorem lw_p17 : lw_okq (⟨"BowWalk$Reader", "readRelation", "(I)Z"⟩, 11) := ⟨⟨by decide +kernel, by decide +kernel⟩, List.mem_of_getElem? (i := 26) (by decide +kernel), List.mem_of_getElem? (i := 555) (by decide +kernel), List.mem_of_getElem? (i := 556) (by decide +kernel)⟩
theorem lw_p18 : lw_okq (⟨"BowWalk$Reader", "readSum", "(I)Z"⟩, 11) := ⟨⟨by decide +kernel, by decide +kernel⟩, List.mem_of_getElem? (i := 26) (by decide +kernel), List.mem_of_getElem? (i := 559) (by decide +kernel), List.mem_of_getElem? (i := 560) (by decide +kernel)⟩
theorem lw_p19 : lw_okq (⟨"BowWalk$Reader", "readTerm", "(I)Z"⟩, 11) := ⟨⟨by decide +kernel, by decide +kernel⟩, List.mem_of_getElem? (i := 26) (by decide +kernel), List.mem_of_getElem? (i := 563) (by decide +kernel), List.mem_of_getElem? (i := 564) (by decide +kernel)⟩
theorem lw_p20 : lw_okq (⟨"BowWalk$Reader", "readUnit", "(I)Z"⟩, 11) := ⟨⟨by decide +kernel, by decide +kernel⟩, List.mem_of_getElem? (i := 26) (by decide +kernel), List.mem_of_getElem? (i := 567) (by decide +kernel), List.mem_of_getElem? (i := 568) (by decide +kernel)⟩
theorem lw_p21 : lw_okq (⟨"BowWalk$Reader", "putToken", "(I)Z"⟩, 11) := ⟨⟨by decide +kernel, by decide +kernel⟩, List.mem_of_getElem? (i := 26) (by decide +kernel), List.mem_of_getElem? (i := 574) (by decide +kernel), List.mem_of_getElem? (i := 575) (by decide +kernel)⟩
theorem lw_p22 : lw_okq (⟨"BowWalk$Reader", "readWant", "(I)Z"⟩, 11) := ⟨⟨by decide +kernel, by decide +kernel⟩, List.mem_of_getElem? (i := 26) (by decide +kernel), List.mem_of_getElem? (i := 586) (by decide +kernel), List.mem_of_getElem? (i := 587) (by decide +kernel)⟩
theorem lw_p23 : lw_okq (⟨"BowWalk$Reader", "readOnce", "(III)Z"⟩, 11) := ⟨⟨by decide +kernel, by decide +kernel⟩, List.mem_of_getElem? (i := 26) (by decide +kernel), List.mem_of_getElem? (i := 590) (by decide +kernel), List.mem_of_getElem? (i := 591) (by decide +kernel)⟩
theorem lw_p24 : lw_okq (⟨"BowWalk", "stepInEarnest", "(I)I"⟩, 14) := ⟨⟨by decide +kernel, by decide +kernel⟩, List.mem_of_getElem? (i := 18) (by decide +kernel), List.mem_of_getElem? (i := 651) (by decide +kernel), List.mem_of_getElem? (i := 652) (by decide +kernel)⟩
theorem lw_p25 : lw_okq (⟨"BowWalk", "draw", "(I)I"⟩, 14) := ⟨⟨by decide +kernel, by decide +kernel⟩, List.mem_of_getElem? (i := 18) (by decide +kernel), List.mem_of_getElem? (i := 655) (by decide +kernel), List.mem_of_getElem? (i := 656) (by decide +kernel)⟩
theorem lw_p26 : lw_okq (⟨"BowWalk$Bow", "slip", "(LBowWalk$Laws;II)I"⟩, 15) := ⟨⟨by decide +kernel, by decide +kernel⟩, List.mem_of_getElem? (i := 242) (by decide +kernel), List.mem_of_getElem? (i := 679) (by decide +kernel), List.mem_of_getElem? (i := 680) (by decide +kernel)⟩
theorem lw_p27 : lw_okq (⟨"BowWalk$Bow", "slipOf", "(III)I"⟩, 15) := ⟨⟨by decide +kernel, by decide +kernel⟩, List.mem_of_getElem? (i := 242) (by decide +kernel), List.mem_of_getElem? (i := 683) (by decide +kernel), List.mem_of_getElem? (i := 684) (by decide +kernel)⟩
theorem lw_p28 : lw_okq (⟨"BowWalk", "canTry", "(III)Z"⟩, 14) := ⟨⟨by decide +kernel, by decide +kernel⟩, List.mem_of_getElem? (i := 18) (by decide +kernel), List.mem_of_getElem? (i := 708) (by decide +kernel), List.mem_of_getElem? (i := 709) (by decide +kernel)⟩
theorem lw_p29 : lw_okq (⟨"BowWalk", "canWalkIn", "(II)Z"⟩, 14) := ⟨⟨by decide +kernel, by decide +kernel⟩, List.mem_of_getElem? (i := 18) (by decide +kernel), List.mem_of_getElem? (i := 712) (by decide +kernel), List.mem_of_getElem? (i := 713) (by decide +kernel)⟩
theorem lw_p30 : lw_okq (⟨"BowWalk", "prepare", "(IIII)V"⟩, 14) := ⟨⟨by decide +kernel, by decide +kernel⟩, List.mem_of_getElem? (i := 18) (by decide +kernel), List.mem_of_getElem? (i := 721) (by decide +kernel), List.mem_of_getElem? (i := 722) (by decide +kernel)⟩
theorem lw_p31 : lw_okq (⟨"BowWalk", "prepareStill", "(II)V"⟩, 14) := ⟨⟨by decide +kernel, by decide +kernel⟩, List.mem_of_getElem? (i := 18) (by decide +kernel), List.mem_of_getElem? (i := 725) (by decide +kernel), List.mem_of_getElem? (i := 726) (by decide +kernel)⟩
def lw_privs_2 : List (MethodName × Nat) := [(⟨"BowWalk$Reader", "readOne", "(I)Z"⟩, 11), (⟨"BowWalk$Reader", "readRelation", "(I)Z"⟩, 11), (⟨"BowWalk$Reader", "readSum", "(I)Z"⟩, 11), (⟨"BowWalk$Reader", "readTerm", "(I)Z"⟩, 11), (⟨"BowWalk$Reader", "readUnit", "(I)Z"⟩, 11), (⟨"BowWalk$Reader", "putToken", "(I)Z"⟩, 11), (⟨"BowWalk$Reader", "readWant", "(I)Z"⟩, 11), (⟨"BowWalk$Reader", "readOnce", "(III)Z"⟩, 11), (⟨"BowWalk", "stepInEarnest", "(I)I"⟩, 14), (⟨"BowWalk", "draw", "(I)I"⟩, 14), (⟨"BowWalk$Bow", "slip", "(LBowWalk$Laws;II)I"⟩, 15), (⟨"BowWalk$Bow", "slipOf", "(III)I"⟩, 15), (⟨"BowWalk", "canTry", "(III)Z"⟩, 14), (⟨"BowWalk", "canWalkIn", "(II)Z"⟩, 14), (⟨"BowWalk", "prepare", "(IIII)V"⟩, 14), (⟨"BowWalk", "prepareStill", "(II)V"⟩, 14)]
theorem lw_r2 : ∀ q ∈ lw_privs_2, lw_okq q := List.forall_mem_cons.mpr ⟨lw_p16, List.forall_mem_cons.mpr ⟨lw_p17, List.forall_mem_cons.mpr ⟨lw_p18, List.forall_mem_cons.mpr ⟨lw_p19, List.forall_mem_cons.mpr ⟨lw_p20, List.forall_mem_cons.mpr ⟨lw_p21, List.forall_mem_cons.mpr ⟨lw_p22, List.forall_mem_cons.mpr ⟨lw_p23, List.forall_mem_cons.mpr ⟨lw_p24, List.forall_mem_cons.mpr ⟨lw_p25, List.forall_mem_cons.mpr ⟨lw_p26, List.forall_mem_cons.mpr ⟨lw_p27, List.forall_mem_cons.mpr ⟨lw_p28, List.forall_mem_cons.mpr ⟨lw_p29, List.forall_mem_cons.mpr ⟨lw_p30, List.forall_mem_cons.mpr ⟨lw_p31, fun _ h => absurd h List.not_mem_nil⟩⟩⟩⟩⟩⟩⟩⟩⟩⟩⟩⟩⟩⟩⟩⟩
theorem lw_p32 : lw_okq (⟨"BowWalk$Trial", "begin", "(LBowWalk$Shop;)V"⟩, 6) := ⟨⟨by decide +kernel, by decide +kernel⟩, List.mem_of_getElem? (i := 304) (by decide +kernel), List.mem_of_getElem? (i := 737) (by decide +kernel), List.mem_of_getElem? (i := 738) (by decide +kernel)⟩
theorem lw_p33 : lw_okq (⟨"BowWalk$Trial", "advance", "(LBowWalk$Shop;)I"⟩, 6) := ⟨⟨by decide +kernel, by decide +kernel⟩, List.mem_of_getElem? (i := 304) (by decide +kernel), List.mem_of_getElem? (i := 742) (by decide +kernel), List.mem_of_getElem? (i := 743) (by decide +kernel)⟩
theorem lw_p34 : lw_okq (⟨"BowWalk$Trial", "opensBy", "(LBowWalk$Shop;I)Z"⟩, 6) := ⟨⟨by decide +kernel, by decide +kernel⟩, List.mem_of_getElem? (i := 304) (by decide +kernel), List.mem_of_getElem? (i := 772) (by decide +kernel), List.mem_of_getElem? (i := 773) (by decide +kernel)⟩
theorem lw_p35 : lw_okq (⟨"BowWalk", "isMet", "(IIII)Z"⟩, 14) := ⟨⟨by decide +kernel, by decide +kernel⟩, List.mem_of_getElem? (i := 18) (by decide +kernel), List.mem_of_getElem? (i := 781) (by decide +kernel), List.mem_of_getElem? (i := 782) (by decide +kernel)⟩
theorem lw_p36 : lw_okq (⟨"BowWalk", "stepsHeldTurned", "(II)I"⟩, 14) := ⟨⟨by decide +kernel, by decide +kernel⟩, List.mem_of_getElem? (i := 18) (by decide +kernel), List.mem_of_getElem? (i := 800) (by decide +kernel), List.mem_of_getElem? (i := 801) (by decide +kernel)⟩
theorem lw_p37 : lw_okq (⟨"BowWalk", "prepareWalk", "(II)V"⟩, 14) := ⟨⟨by decide +kernel, by decide +kernel⟩, List.mem_of_getElem? (i := 18) (by decide +kernel), List.mem_of_getElem? (i := 812) (by decide +kernel), List.mem_of_getElem? (i := 813) (by decide +kernel)⟩
theorem lw_p38 : lw_okq (⟨"BowWalk", "isOutdone", "(II)Z"⟩, 14) := ⟨⟨by decide +kernel, by decide +kernel⟩, List.mem_of_getElem? (i := 18) (by decide +kernel), List.mem_of_getElem? (i := 820) (by decide +kernel), List.mem_of_getElem? (i := 821) (by decide +kernel)⟩
theorem lw_p39 : lw_okq (⟨"BowWalk", "pairsThatLet", "(III)I"⟩, 14) := ⟨⟨by decide +kernel, by decide +kernel⟩, List.mem_of_getElem? (i := 18) (by decide +kernel), List.mem_of_getElem? (i := 845) (by decide +kernel), List.mem_of_getElem? (i := 846) (by decide +kernel)⟩
theorem lw_p40 : lw_okq (⟨"BowWalk", "preparePair", "(III)V"⟩, 14) := ⟨⟨by decide +kernel, by decide +kernel⟩, List.mem_of_getElem? (i := 18) (by decide +kernel), List.mem_of_getElem? (i := 855) (by decide +kernel), List.mem_of_getElem? (i := 856) (by decide +kernel)⟩
theorem lw_p41 : lw_okq (⟨"BowWalk", "unlikeLengths", "(IIII)I"⟩, 14) := ⟨⟨by decide +kernel, by decide +kernel⟩, List.mem_of_getElem? (i := 18) (by decide +kernel), List.mem_of_getElem? (i := 887) (by decide +kernel), List.mem_of_getElem? (i := 888) (by decide +kernel)⟩
theorem lw_p42 : lw_okq (⟨"BowWalk", "isAmong", "(II)Z"⟩, 14) := ⟨⟨by decide +kernel, by decide +kernel⟩, List.mem_of_getElem? (i := 18) (by decide +kernel), List.mem_of_getElem? (i := 891) (by decide +kernel), List.mem_of_getElem? (i := 892) (by decide +kernel)⟩
theorem lw_p43 : lw_okq (⟨"BowWalkModel", "clearBank", "()V"⟩, 81) := ⟨⟨by decide +kernel, by decide +kernel⟩, List.mem_of_getElem? (i := 925) (by decide +kernel), List.mem_of_getElem? (i := 931) (by decide +kernel), List.mem_of_getElem? (i := 932) (by decide +kernel)⟩
theorem lw_p44 : lw_okq (⟨"BowWalkModel", "goOn", "()V"⟩, 81) := ⟨⟨by decide +kernel, by decide +kernel⟩, List.mem_of_getElem? (i := 925) (by decide +kernel), List.mem_of_getElem? (i := 1183) (by decide +kernel), List.mem_of_getElem? (i := 1184) (by decide +kernel)⟩
theorem lw_p45 : lw_okq (⟨"BowWalkModel", "sign", "(I)I"⟩, 81) := ⟨⟨by decide +kernel, by decide +kernel⟩, List.mem_of_getElem? (i := 925) (by decide +kernel), List.mem_of_getElem? (i := 1187) (by decide +kernel), List.mem_of_getElem? (i := 1188) (by decide +kernel)⟩
theorem lw_p46 : lw_okq (⟨"BowWalkModel", "isGood", "()Z"⟩, 81) := ⟨⟨by decide +kernel, by decide +kernel⟩, List.mem_of_getElem? (i := 925) (by decide +kernel), List.mem_of_getElem? (i := 1225) (by decide +kernel), List.mem_of_getElem? (i := 1226) (by decide +kernel)⟩
theorem lw_p47 : lw_okq (⟨"BowWalkModel", "readLine", "()V"⟩, 81) := ⟨⟨by decide +kernel, by decide +kernel⟩, List.mem_of_getElem? (i := 925) (by decide +kernel), List.mem_of_getElem? (i := 1229) (by decide +kernel), List.mem_of_getElem? (i := 1230) (by decide +kernel)⟩
def lw_privs_3 : List (MethodName × Nat) := [(⟨"BowWalk$Trial", "begin", "(LBowWalk$Shop;)V"⟩, 6), (⟨"BowWalk$Trial", "advance", "(LBowWalk$Shop;)I"⟩, 6), (⟨"BowWalk$Trial", "opensBy", "(LBowWalk$Shop;I)Z"⟩, 6), (⟨"BowWalk", "isMet", "(IIII)Z"⟩, 14), (⟨"BowWalk", "stepsHeldTurned", "(II)I"⟩, 14), (⟨"BowWalk", "prepareWalk", "(II)V"⟩, 14), (⟨"BowWalk", "isOutdone", "(II)Z"⟩, 14), (⟨"BowWalk", "pairsThatLet", "(III)I"⟩, 14), (⟨"BowWalk", "preparePair", "(III)V"⟩, 14), (⟨"BowWalk", "unlikeLengths", "(IIII)I"⟩, 14), (⟨"BowWalk", "isAmong", "(II)Z"⟩, 14), (⟨"BowWalkModel", "clearBank", "()V"⟩, 81), (⟨"BowWalkModel", "goOn", "()V"⟩, 81), (⟨"BowWalkModel", "sign", "(I)I"⟩, 81), (⟨"BowWalkModel", "isGood", "()Z"⟩, 81), (⟨"BowWalkModel", "readLine", "()V"⟩, 81)]
theorem lw_r3 : ∀ q ∈ lw_privs_3, lw_okq q := List.forall_mem_cons.mpr ⟨lw_p32, List.forall_mem_cons.mpr ⟨lw_p33, List.forall_mem_cons.mpr ⟨lw_p34, List.forall_mem_cons.mpr ⟨lw_p35, List.forall_mem_cons.mpr ⟨lw_p36, List.forall_mem_cons.mpr ⟨lw_p37, List.forall_mem_cons.mpr ⟨lw_p38, List.forall_mem_cons.mpr ⟨lw_p39, List.forall_mem_cons.mpr ⟨lw_p40, List.forall_mem_cons.mpr ⟨lw_p41, List.forall_mem_cons.mpr ⟨lw_p42, List.forall_mem_cons.mpr ⟨lw_p43, List.forall_mem_cons.mpr ⟨lw_p44, List.forall_mem_cons.mpr ⟨lw_p45, List.forall_mem_cons.mpr ⟨lw_p46, List.forall_mem_cons.mpr ⟨lw_p47, fun _ h => absurd h List.not_mem_nil⟩⟩⟩⟩⟩⟩⟩⟩⟩⟩⟩⟩⟩⟩⟩⟩
theorem lw_p48 : lw_okq (⟨"BowWalkModel", "isFull", "()Z"⟩, 81) := ⟨⟨by decide +kernel, by decide +kernel⟩, List.mem_of_getElem? (i := 925) (by decide +kernel), List.mem_of_getElem? (i := 1233) (by decide +kernel), List.mem_of_getElem? (i := 1234) (by decide +kernel)⟩
theorem lw_p49 : lw_okq (⟨"BowWalkModel", "isWord", "(J)Z"⟩, 81) := ⟨⟨by decide +kernel, by decide +kernel⟩, List.mem_of_getElem? (i := 925) (by decide +kernel), List.mem_of_getElem? (i := 1237) (by decide +kernel), List.mem_of_getElem? (i := 1238) (by decide +kernel)⟩
theorem lw_p50 : lw_okq (⟨"BowWalkModel", "misplaced", "()V"⟩, 81) := ⟨⟨by decide +kernel, by decide +kernel⟩, List.mem_of_getElem? (i := 925) (by decide +kernel), List.mem_of_getElem? (i := 1241) (by decide +kernel), List.mem_of_getElem? (i := 1242) (by decide +kernel)⟩
theorem lw_p51 : lw_okq (⟨"BowWalkModel", "fails", "(II)V"⟩, 81) := ⟨⟨by decide +kernel, by decide +kernel⟩, List.mem_of_getElem? (i := 925) (by decide +kernel), List.mem_of_getElem? (i := 1245) (by decide +kernel), List.mem_of_getElem? (i := 1246) (by decide +kernel)⟩
theorem lw_p52 : lw_okq (⟨"BowWalkModel", "readKnot", "()V"⟩, 81) := ⟨⟨by decide +kernel, by decide +kernel⟩, List.mem_of_getElem? (i := 925) (by decide +kernel), List.mem_of_getElem? (i := 1249) (by decide +kernel), List.mem_of_getElem? (i := 1250) (by decide +kernel)⟩
theorem lw_p53 : lw_okq (⟨"BowWalkModel", "fresh", "([JII)J"⟩, 81) := ⟨⟨by decide +kernel, by decide +kernel⟩, List.mem_of_getElem? (i := 925) (by decide +kernel), List.mem_of_getElem? (i := 1253) (by decide +kernel), List.mem_of_getElem? (i := 1254) (by decide +kernel)⟩
theorem lw_p54 : lw_okq (⟨"BowWalkModel", "isSide", "()Z"⟩, 81) := ⟨⟨by decide +kernel, by decide +kernel⟩, List.mem_of_getElem? (i := 925) (by decide +kernel), List.mem_of_getElem? (i := 1257) (by decide +kernel), List.mem_of_getElem? (i := 1258) (by decide +kernel)⟩
theorem lw_p55 : lw_okq (⟨"BowWalkModel", "readCord", "()V"⟩, 81) := ⟨⟨by decide +kernel, by decide +kernel⟩, List.mem_of_getElem? (i := 925) (by decide +kernel), List.mem_of_getElem? (i := 1261) (by decide +kernel), List.mem_of_getElem? (i := 1262) (by decide +kernel)⟩
theorem lw_p56 : lw_okq (⟨"BowWalkModel", "after", "(JII)I"⟩, 81) := ⟨⟨by decide +kernel, by decide +kernel⟩, List.mem_of_getElem? (i := 925) (by decide +kernel), List.mem_of_getElem? (i := 1265) (by decide +kernel), List.mem_of_getElem? (i := 1266) (by decide +kernel)⟩
theorem lw_p57 : lw_okq (⟨"BowWalkModel", "must", "(Z)V"⟩, 81) := ⟨⟨by decide +kernel, by decide +kernel⟩, List.mem_of_getElem? (i := 925) (by decide +kernel), List.mem_of_getElem? (i := 1269) (by decide +kernel), List.mem_of_getElem? (i := 1270) (by decide +kernel)⟩
theorem lw_p58 : lw_okq (⟨"BowWalkModel", "numeral", "(II)I"⟩, 81) := ⟨⟨by decide +kernel, by decide +kernel⟩, List.mem_of_getElem? (i := 925) (by decide +kernel), List.mem_of_getElem? (i := 1273) (by decide +kernel), List.mem_of_getElem? (i := 1274) (by decide +kernel)⟩
theorem lw_p59 : lw_okq (⟨"BowWalkModel", "readWalk", "()V"⟩, 81) := ⟨⟨by decide +kernel, by decide +kernel⟩, List.mem_of_getElem? (i := 925) (by decide +kernel), List.mem_of_getElem? (i := 1277) (by decide +kernel), List.mem_of_getElem? (i := 1278) (by decide +kernel)⟩
theorem lw_p60 : lw_okq (⟨"BowWalkModel", "readLaw", "()V"⟩, 81) := ⟨⟨by decide +kernel, by decide +kernel⟩, List.mem_of_getElem? (i := 925) (by decide +kernel), List.mem_of_getElem? (i := 1281) (by decide +kernel), List.mem_of_getElem? (i := 1282) (by decide +kernel)⟩
theorem lw_p61 : lw_okq (⟨"BowWalkModel", "e", "()V"⟩, 81) := ⟨⟨by decide +kernel, by decide +kernel⟩, List.mem_of_getElem? (i := 925) (by decide +kernel), List.mem_of_getElem? (i := 1285) (by decide +kernel), List.mem_of_getElem? (i := 1286) (by decide +kernel)⟩
theorem lw_p62 : lw_okq (⟨"BowWalkModel", "pushE", "(II)V"⟩, 81) := ⟨⟨by decide +kernel, by decide +kernel⟩, List.mem_of_getElem? (i := 925) (by decide +kernel), List.mem_of_getElem? (i := 1289) (by decide +kernel), List.mem_of_getElem? (i := 1290) (by decide +kernel)⟩
theorem lw_p63 : lw_okq (⟨"BowWalkModel", "unit", "()Z"⟩, 81) := ⟨⟨by decide +kernel, by decide +kernel⟩, List.mem_of_getElem? (i := 925) (by decide +kernel), List.mem_of_getElem? (i := 1293) (by decide +kernel), List.mem_of_getElem? (i := 1294) (by decide +kernel)⟩
def lw_privs_4 : List (MethodName × Nat) := [(⟨"BowWalkModel", "isFull", "()Z"⟩, 81), (⟨"BowWalkModel", "isWord", "(J)Z"⟩, 81), (⟨"BowWalkModel", "misplaced", "()V"⟩, 81), (⟨"BowWalkModel", "fails", "(II)V"⟩, 81), (⟨"BowWalkModel", "readKnot", "()V"⟩, 81), (⟨"BowWalkModel", "fresh", "([JII)J"⟩, 81), (⟨"BowWalkModel", "isSide", "()Z"⟩, 81), (⟨"BowWalkModel", "readCord", "()V"⟩, 81), (⟨"BowWalkModel", "after", "(JII)I"⟩, 81), (⟨"BowWalkModel", "must", "(Z)V"⟩, 81), (⟨"BowWalkModel", "numeral", "(II)I"⟩, 81), (⟨"BowWalkModel", "readWalk", "()V"⟩, 81), (⟨"BowWalkModel", "readLaw", "()V"⟩, 81), (⟨"BowWalkModel", "e", "()V"⟩, 81), (⟨"BowWalkModel", "pushE", "(II)V"⟩, 81), (⟨"BowWalkModel", "unit", "()Z"⟩, 81)]
theorem lw_r4 : ∀ q ∈ lw_privs_4, lw_okq q := List.forall_mem_cons.mpr ⟨lw_p48, List.forall_mem_cons.mpr ⟨lw_p49, List.forall_mem_cons.mpr ⟨lw_p50, List.forall_mem_cons.mpr ⟨lw_p51, List.forall_mem_cons.mpr ⟨lw_p52, List.forall_mem_cons.mpr ⟨lw_p53, List.forall_mem_cons.mpr ⟨lw_p54, List.forall_mem_cons.mpr ⟨lw_p55, List.forall_mem_cons.mpr ⟨lw_p56, List.forall_mem_cons.mpr ⟨lw_p57, List.forall_mem_cons.mpr ⟨lw_p58, List.forall_mem_cons.mpr ⟨lw_p59, List.forall_mem_cons.mpr ⟨lw_p60, List.forall_mem_cons.mpr ⟨lw_p61, List.forall_mem_cons.mpr ⟨lw_p62, List.forall_mem_cons.mpr ⟨lw_p63, fun _ h => absurd h List.not_mem_nil⟩⟩⟩⟩⟩⟩⟩⟩⟩⟩⟩⟩⟩⟩⟩⟩
theorem lw_p64 : lw_okq (⟨"BowWalkModel", "is", "(I)Z"⟩, 81) := ⟨⟨by decide +kernel, by decide +kernel⟩, List.mem_of_getElem? (i := 925) (by decide +kernel), List.mem_of_getElem? (i := 1297) (by decide +kernel), List.mem_of_getElem? (i := 1298) (by decide +kernel)⟩
theorem lw_p65 : lw_okq (⟨"BowWalkModel", "wordHere", "()I"⟩, 81) := ⟨⟨by decide +kernel, by decide +kernel⟩, List.mem_of_getElem? (i := 925) (by decide +kernel), List.mem_of_getElem? (i := 1301) (by decide +kernel), List.mem_of_getElem? (i := 1302) (by decide +kernel)⟩
theorem lw_p66 : lw_okq (⟨"BowWalkModel", "emit", "(II)V"⟩, 81) := ⟨⟨by decide +kernel, by decide +kernel⟩, List.mem_of_getElem? (i := 925) (by decide +kernel), List.mem_of_getElem? (i := 1305) (by decide +kernel), List.mem_of_getElem? (i := 1306) (by decide +kernel)⟩
theorem lw_p67 : lw_okq (⟨"BowWalkModel", "behindUnit", "()Z"⟩, 81) := ⟨⟨by decide +kernel, by decide +kernel⟩, List.mem_of_getElem? (i := 925) (by decide +kernel), List.mem_of_getElem? (i := 1309) (by decide +kernel), List.mem_of_getElem? (i := 1310) (by decide +kernel)⟩
theorem lw_p68 : lw_okq (⟨"BowWalkModel", "rankHere", "()I"⟩, 81) := ⟨⟨by decide +kernel, by decide +kernel⟩, List.mem_of_getElem? (i := 925) (by decide +kernel), List.mem_of_getElem? (i := 1313) (by decide +kernel), List.mem_of_getElem? (i := 1314) (by decide +kernel)⟩
theorem lw_p69 : lw_okq (⟨"BowWalkModel", "isCompared", "()Z"⟩, 81) := ⟨⟨by decide +kernel, by decide +kernel⟩, List.mem_of_getElem? (i := 925) (by decide +kernel), List.mem_of_getElem? (i := 1317) (by decide +kernel), List.mem_of_getElem? (i := 1318) (by decide +kernel)⟩
theorem lw_p70 : lw_okq (⟨"BowWalkModel", "readWant", "()V"⟩, 81) := ⟨⟨by decide +kernel, by decide +kernel⟩, List.mem_of_getElem? (i := 925) (by decide +kernel), List.mem_of_getElem? (i := 1321) (by decide +kernel), List.mem_of_getElem? (i := 1322) (by decide +kernel)⟩
theorem lw_p71 : lw_okq (⟨"BowWalkModel", "isKnot", "(I)Z"⟩, 81) := ⟨⟨by decide +kernel, by decide +kernel⟩, List.mem_of_getElem? (i := 925) (by decide +kernel), List.mem_of_getElem? (i := 1333) (by decide +kernel), List.mem_of_getElem? (i := 1334) (by decide +kernel)⟩
theorem lw_p72 : lw_okq (⟨"BowWalkModel", "isCord", "(I)Z"⟩, 81) := ⟨⟨by decide +kernel, by decide +kernel⟩, List.mem_of_getElem? (i := 925) (by decide +kernel), List.mem_of_getElem? (i := 1340) (by decide +kernel), List.mem_of_getElem? (i := 1341) (by decide +kernel)⟩
theorem lw_p73 : lw_okq (⟨"BowWalkModel", "tieKnot", "(II)V"⟩, 81) := ⟨⟨by decide +kernel, by decide +kernel⟩, List.mem_of_getElem? (i := 925) (by decide +kernel), List.mem_of_getElem? (i := 1344) (by decide +kernel), List.mem_of_getElem? (i := 1345) (by decide +kernel)⟩
theorem lw_p74 : lw_okq (⟨"BowWalkModel", "tieIt", "(IIII)V"⟩, 81) := ⟨⟨by decide +kernel, by decide +kernel⟩, List.mem_of_getElem? (i := 925) (by decide +kernel), List.mem_of_getElem? (i := 1348) (by decide +kernel), List.mem_of_getElem? (i := 1349) (by decide +kernel)⟩
theorem lw_p75 : lw_okq (⟨"BowWalkModel", "isWalk", "(I)Z"⟩, 81) := ⟨⟨by decide +kernel, by decide +kernel⟩, List.mem_of_getElem? (i := 925) (by decide +kernel), List.mem_of_getElem? (i := 1356) (by decide +kernel), List.mem_of_getElem? (i := 1357) (by decide +kernel)⟩
theorem lw_p76 : lw_okq (⟨"BowWalkModel", "earnest", "(I)I"⟩, 81) := ⟨⟨by decide +kernel, by decide +kernel⟩, List.mem_of_getElem? (i := 925) (by decide +kernel), List.mem_of_getElem? (i := 1361) (by decide +kernel), List.mem_of_getElem? (i := 1362) (by decide +kernel)⟩
theorem lw_p77 : lw_okq (⟨"BowWalkModel", "draw", "(I)I"⟩, 81) := ⟨⟨by decide +kernel, by decide +kernel⟩, List.mem_of_getElem? (i := 925) (by decide +kernel), List.mem_of_getElem? (i := 1365) (by decide +kernel), List.mem_of_getElem? (i := 1366) (by decide +kernel)⟩
theorem lw_p78 : lw_okq (⟨"BowWalkModel", "pullIt", "(II)I"⟩, 81) := ⟨⟨by decide +kernel, by decide +kernel⟩, List.mem_of_getElem? (i := 925) (by decide +kernel), List.mem_of_getElem? (i := 1370) (by decide +kernel), List.mem_of_getElem? (i := 1371) (by decide +kernel)⟩
theorem lw_p79 : lw_okq (⟨"BowWalkModel", "pullOf", "(II)I"⟩, 81) := ⟨⟨by decide +kernel, by decide +kernel⟩, List.mem_of_getElem? (i := 925) (by decide +kernel), List.mem_of_getElem? (i := 1375) (by decide +kernel), List.mem_of_getElem? (i := 1376) (by decide +kernel)⟩
def lw_privs_5 : List (MethodName × Nat) := [(⟨"BowWalkModel", "is", "(I)Z"⟩, 81), (⟨"BowWalkModel", "wordHere", "()I"⟩, 81), (⟨"BowWalkModel", "emit", "(II)V"⟩, 81), (⟨"BowWalkModel", "behindUnit", "()Z"⟩, 81), (⟨"BowWalkModel", "rankHere", "()I"⟩, 81), (⟨"BowWalkModel", "isCompared", "()Z"⟩, 81), (⟨"BowWalkModel", "readWant", "()V"⟩, 81), (⟨"BowWalkModel", "isKnot", "(I)Z"⟩, 81), (⟨"BowWalkModel", "isCord", "(I)Z"⟩, 81), (⟨"BowWalkModel", "tieKnot", "(II)V"⟩, 81), (⟨"BowWalkModel", "tieIt", "(IIII)V"⟩, 81), (⟨"BowWalkModel", "isWalk", "(I)Z"⟩, 81), (⟨"BowWalkModel", "earnest", "(I)I"⟩, 81), (⟨"BowWalkModel", "draw", "(I)I"⟩, 81), (⟨"BowWalkModel", "pullIt", "(II)I"⟩, 81), (⟨"BowWalkModel", "pullOf", "(II)I"⟩, 81)]
theorem lw_r5 : ∀ q ∈ lw_privs_5, lw_okq q := List.forall_mem_cons.mpr ⟨lw_p64, List.forall_mem_cons.mpr ⟨lw_p65, List.forall_mem_cons.mpr ⟨lw_p66, List.forall_mem_cons.mpr ⟨lw_p67, List.forall_mem_cons.mpr ⟨lw_p68, List.forall_mem_cons.mpr ⟨lw_p69, List.forall_mem_cons.mpr ⟨lw_p70, List.forall_mem_cons.mpr ⟨lw_p71, List.forall_mem_cons.mpr ⟨lw_p72, List.forall_mem_cons.mpr ⟨lw_p73, List.forall_mem_cons.mpr ⟨lw_p74, List.forall_mem_cons.mpr ⟨lw_p75, List.forall_mem_cons.mpr ⟨lw_p76, List.forall_mem_cons.mpr ⟨lw_p77, List.forall_mem_cons.mpr ⟨lw_p78, List.forall_mem_cons.mpr ⟨lw_p79, fun _ h => absurd h List.not_mem_nil⟩⟩⟩⟩⟩⟩⟩⟩⟩⟩⟩⟩⟩⟩⟩⟩
theorem lw_p80 : lw_okq (⟨"BowWalkModel", "sideOf", "(I)I"⟩, 81) := ⟨⟨by decide +kernel, by decide +kernel⟩, List.mem_of_getElem? (i := 925) (by decide +kernel), List.mem_of_getElem? (i := 1379) (by decide +kernel), List.mem_of_getElem? (i := 1380) (by decide +kernel)⟩
theorem lw_p81 : lw_okq (⟨"BowWalkModel", "comes", "(II)I"⟩, 81) := ⟨⟨by decide +kernel, by decide +kernel⟩, List.mem_of_getElem? (i := 925) (by decide +kernel), List.mem_of_getElem? (i := 1383) (by decide +kernel), List.mem_of_getElem? (i := 1384) (by decide +kernel)⟩
theorem lw_p82 : lw_okq (⟨"BowWalkModel", "amount", "(III)I"⟩, 81) := ⟨⟨by decide +kernel, by decide +kernel⟩, List.mem_of_getElem? (i := 925) (by decide +kernel), List.mem_of_getElem? (i := 1387) (by decide +kernel), List.mem_of_getElem? (i := 1388) (by decide +kernel)⟩
theorem lw_p83 : lw_okq (⟨"BowWalkModel", "rub", "(II)I"⟩, 81) := ⟨⟨by decide +kernel, by decide +kernel⟩, List.mem_of_getElem? (i := 925) (by decide +kernel), List.mem_of_getElem? (i := 1394) (by decide +kernel), List.mem_of_getElem? (i := 1395) (by decide +kernel)⟩
theorem lw_p84 : lw_okq (⟨"BowWalkModel", "isAll", "(III)Z"⟩, 81) := ⟨⟨by decide +kernel, by decide +kernel⟩, List.mem_of_getElem? (i := 925) (by decide +kernel), List.mem_of_getElem? (i := 1416) (by decide +kernel), List.mem_of_getElem? (i := 1417) (by decide +kernel)⟩
theorem lw_p85 : lw_okq (⟨"BowWalkModel", "isLaw", "(I)Z"⟩, 81) := ⟨⟨by decide +kernel, by decide +kernel⟩, List.mem_of_getElem? (i := 925) (by decide +kernel), List.mem_of_getElem? (i := 1420) (by decide +kernel), List.mem_of_getElem? (i := 1421) (by decide +kernel)⟩
theorem lw_p86 : lw_okq (⟨"BowWalkModel", "holdsKnot", "(IIII)I"⟩, 81) := ⟨⟨by decide +kernel, by decide +kernel⟩, List.mem_of_getElem? (i := 925) (by decide +kernel), List.mem_of_getElem? (i := 1424) (by decide +kernel), List.mem_of_getElem? (i := 1425) (by decide +kernel)⟩
theorem lw_p87 : lw_okq (⟨"BowWalkModel", "holdsOf", "(IIIIII)I"⟩, 81) := ⟨⟨by decide +kernel, by decide +kernel⟩, List.mem_of_getElem? (i := 925) (by decide +kernel), List.mem_of_getElem? (i := 1428) (by decide +kernel), List.mem_of_getElem? (i := 1429) (by decide +kernel)⟩
theorem lw_p88 : lw_okq (⟨"BowWalkModel", "keep", "(I)V"⟩, 81) := ⟨⟨by decide +kernel, by decide +kernel⟩, List.mem_of_getElem? (i := 925) (by decide +kernel), List.mem_of_getElem? (i := 1432) (by decide +kernel), List.mem_of_getElem? (i := 1433) (by decide +kernel)⟩
theorem lw_p89 : lw_okq (⟨"BowWalkModel", "holdsNow", "(II)I"⟩, 81) := ⟨⟨by decide +kernel, by decide +kernel⟩, List.mem_of_getElem? (i := 925) (by decide +kernel), List.mem_of_getElem? (i := 1436) (by decide +kernel), List.mem_of_getElem? (i := 1437) (by decide +kernel)⟩
theorem lw_p90 : lw_okq (⟨"BowWalkModel", "stepIt", "(III)I"⟩, 81) := ⟨⟨by decide +kernel, by decide +kernel⟩, List.mem_of_getElem? (i := 925) (by decide +kernel), List.mem_of_getElem? (i := 1440) (by decide +kernel), List.mem_of_getElem? (i := 1441) (by decide +kernel)⟩
theorem lw_p91 : lw_okq (⟨"BowWalkModel", "isStill", "(III)Z"⟩, 81) := ⟨⟨by decide +kernel, by decide +kernel⟩, List.mem_of_getElem? (i := 925) (by decide +kernel), List.mem_of_getElem? (i := 1444) (by decide +kernel), List.mem_of_getElem? (i := 1445) (by decide +kernel)⟩
theorem lw_p92 : lw_okq (⟨"BowWalkModel", "wouldSlip", "(III)Z"⟩, 81) := ⟨⟨by decide +kernel, by decide +kernel⟩, List.mem_of_getElem? (i := 925) (by decide +kernel), List.mem_of_getElem? (i := 1448) (by decide +kernel), List.mem_of_getElem? (i := 1449) (by decide +kernel)⟩
theorem lw_p93 : lw_okq (⟨"BowWalkModel", "bring", "(I)V"⟩, 81) := ⟨⟨by decide +kernel, by decide +kernel⟩, List.mem_of_getElem? (i := 925) (by decide +kernel), List.mem_of_getElem? (i := 1452) (by decide +kernel), List.mem_of_getElem? (i := 1453) (by decide +kernel)⟩
theorem lw_p94 : lw_okq (⟨"BowWalkModel", "undoneKnot", "(II)I"⟩, 81) := ⟨⟨by decide +kernel, by decide +kernel⟩, List.mem_of_getElem? (i := 925) (by decide +kernel), List.mem_of_getElem? (i := 1468) (by decide +kernel), List.mem_of_getElem? (i := 1469) (by decide +kernel)⟩
theorem lw_p95 : lw_okq (⟨"BowWalkModel", "undoneOf", "(III)I"⟩, 81) := ⟨⟨by decide +kernel, by decide +kernel⟩, List.mem_of_getElem? (i := 925) (by decide +kernel), List.mem_of_getElem? (i := 1472) (by decide +kernel), List.mem_of_getElem? (i := 1473) (by decide +kernel)⟩
def lw_privs_6 : List (MethodName × Nat) := [(⟨"BowWalkModel", "sideOf", "(I)I"⟩, 81), (⟨"BowWalkModel", "comes", "(II)I"⟩, 81), (⟨"BowWalkModel", "amount", "(III)I"⟩, 81), (⟨"BowWalkModel", "rub", "(II)I"⟩, 81), (⟨"BowWalkModel", "isAll", "(III)Z"⟩, 81), (⟨"BowWalkModel", "isLaw", "(I)Z"⟩, 81), (⟨"BowWalkModel", "holdsKnot", "(IIII)I"⟩, 81), (⟨"BowWalkModel", "holdsOf", "(IIIIII)I"⟩, 81), (⟨"BowWalkModel", "keep", "(I)V"⟩, 81), (⟨"BowWalkModel", "holdsNow", "(II)I"⟩, 81), (⟨"BowWalkModel", "stepIt", "(III)I"⟩, 81), (⟨"BowWalkModel", "isStill", "(III)Z"⟩, 81), (⟨"BowWalkModel", "wouldSlip", "(III)Z"⟩, 81), (⟨"BowWalkModel", "bring", "(I)V"⟩, 81), (⟨"BowWalkModel", "undoneKnot", "(II)I"⟩, 81), (⟨"BowWalkModel", "undoneOf", "(III)I"⟩, 81)]
theorem lw_r6 : ∀ q ∈ lw_privs_6, lw_okq q := List.forall_mem_cons.mpr ⟨lw_p80, List.forall_mem_cons.mpr ⟨lw_p81, List.forall_mem_cons.mpr ⟨lw_p82, List.forall_mem_cons.mpr ⟨lw_p83, List.forall_mem_cons.mpr ⟨lw_p84, List.forall_mem_cons.mpr ⟨lw_p85, List.forall_mem_cons.mpr ⟨lw_p86, List.forall_mem_cons.mpr ⟨lw_p87, List.forall_mem_cons.mpr ⟨lw_p88, List.forall_mem_cons.mpr ⟨lw_p89, List.forall_mem_cons.mpr ⟨lw_p90, List.forall_mem_cons.mpr ⟨lw_p91, List.forall_mem_cons.mpr ⟨lw_p92, List.forall_mem_cons.mpr ⟨lw_p93, List.forall_mem_cons.mpr ⟨lw_p94, List.forall_mem_cons.mpr ⟨lw_p95, fun _ h => absurd h List.not_mem_nil⟩⟩⟩⟩⟩⟩⟩⟩⟩⟩⟩⟩⟩⟩⟩⟩
theorem lw_p96 : lw_okq (⟨"BowWalkModel", "isWant", "(I)Z"⟩, 81) := ⟨⟨by decide +kernel, by decide +kernel⟩, List.mem_of_getElem? (i := 925) (by decide +kernel), List.mem_of_getElem? (i := 1480) (by decide +kernel), List.mem_of_getElem? (i := 1481) (by decide +kernel)⟩
theorem lw_p97 : lw_okq (⟨"BowWalkModel", "isMet", "(IIII)Z"⟩, 81) := ⟨⟨by decide +kernel, by decide +kernel⟩, List.mem_of_getElem? (i := 925) (by decide +kernel), List.mem_of_getElem? (i := 1484) (by decide +kernel), List.mem_of_getElem? (i := 1485) (by decide +kernel)⟩
theorem lw_p98 : lw_okq (⟨"BowWalkModel", "worseBy", "(IIII)I"⟩, 81) := ⟨⟨by decide +kernel, by decide +kernel⟩, List.mem_of_getElem? (i := 925) (by decide +kernel), List.mem_of_getElem? (i := 1506) (by decide +kernel), List.mem_of_getElem? (i := 1507) (by decide +kernel)⟩
theorem lw_p99 : lw_okq (⟨"BowWalkModel", "lawMany", "()I"⟩, 81) := ⟨⟨by decide +kernel, by decide +kernel⟩, List.mem_of_getElem? (i := 925) (by decide +kernel), List.mem_of_getElem? (i := 1546) (by decide +kernel), List.mem_of_getElem? (i := 1547) (by decide +kernel)⟩
theorem lw_p100 : lw_okq (⟨"BowWalkModel", "isFit", "(III)Z"⟩, 81) := ⟨⟨by decide +kernel, by decide +kernel⟩, List.mem_of_getElem? (i := 925) (by decide +kernel), List.mem_of_getElem? (i := 1550) (by decide +kernel), List.mem_of_getElem? (i := 1551) (by decide +kernel)⟩
theorem lw_p101 : lw_okq (⟨"BowWalkModel", "lengthOf", "(IIIII)I"⟩, 81) := ⟨⟨by decide +kernel, by decide +kernel⟩, List.mem_of_getElem? (i := 925) (by decide +kernel), List.mem_of_getElem? (i := 1554) (by decide +kernel), List.mem_of_getElem? (i := 1555) (by decide +kernel)⟩
theorem lw_p102 : lw_okq (⟨"BowWalkModel", "unlike", "(IIII)I"⟩, 81) := ⟨⟨by decide +kernel, by decide +kernel⟩, List.mem_of_getElem? (i := 925) (by decide +kernel), List.mem_of_getElem? (i := 1563) (by decide +kernel), List.mem_of_getElem? (i := 1564) (by decide +kernel)⟩
def lw_privs_7 : List (MethodName × Nat) := [(⟨"BowWalkModel", "isWant", "(I)Z"⟩, 81), (⟨"BowWalkModel", "isMet", "(IIII)Z"⟩, 81), (⟨"BowWalkModel", "worseBy", "(IIII)I"⟩, 81), (⟨"BowWalkModel", "lawMany", "()I"⟩, 81), (⟨"BowWalkModel", "isFit", "(III)Z"⟩, 81), (⟨"BowWalkModel", "lengthOf", "(IIIII)I"⟩, 81), (⟨"BowWalkModel", "unlike", "(IIII)I"⟩, 81)]
theorem lw_r7 : ∀ q ∈ lw_privs_7, lw_okq q := List.forall_mem_cons.mpr ⟨lw_p96, List.forall_mem_cons.mpr ⟨lw_p97, List.forall_mem_cons.mpr ⟨lw_p98, List.forall_mem_cons.mpr ⟨lw_p99, List.forall_mem_cons.mpr ⟨lw_p100, List.forall_mem_cons.mpr ⟨lw_p101, List.forall_mem_cons.mpr ⟨lw_p102, fun _ h => absurd h List.not_mem_nil⟩⟩⟩⟩⟩⟩⟩
def lw_privs : List (MethodName × Nat) := lw_privs_1 ++ (lw_privs_2 ++ (lw_privs_3 ++ (lw_privs_4 ++ (lw_privs_5 ++ (lw_privs_6 ++ (lw_privs_7))))))
def lw_tbl : List Cond := k2_sels lw_privs ++ tables_1
theorem lw_privs_ok : ∀ q ∈ lw_privs, lw_okq q := by
  show ∀ q ∈ lw_privs_1 ++ (lw_privs_2 ++ (lw_privs_3 ++ (lw_privs_4 ++ (lw_privs_5 ++ (lw_privs_6 ++ (lw_privs_7)))))), lw_okq q
  exact List.forall_mem_append.mpr ⟨lw_r1, List.forall_mem_append.mpr ⟨lw_r2, List.forall_mem_append.mpr ⟨lw_r3, List.forall_mem_append.mpr ⟨lw_r4, List.forall_mem_append.mpr ⟨lw_r5, List.forall_mem_append.mpr ⟨lw_r6, lw_r7⟩⟩⟩⟩⟩⟩
end
section
theorem goodIn_sub {big ws : List Cond} (hm : ∀ w ∈ ws, w ∈ big) (h : ws.all goodWord = true) : GoodIn big ws := fun w hw => ⟨hm w hw, good_of_word (List.all_eq_true.mp h w hw)⟩
def RX0 : String := "BowWalk$Bow"
def TX0 : u_T := fun k => match k with
  | 0 => ("BowWalk$Bow", "tight", "[I", true)
  | 1 => ("BowWalk$Bow", "ends", "[I", true)
  | 2 => ("BowWalk$Bow", "crossings", "I", false)
  | 3 => ("BowWalk$Bow", "left", "I", false)
  | 4 => ("BowWalk$Bow", "steps", "I", false)
  | 5 => ("BowWalk$Bow", "slipped", "I", false)
  | 6 => ("BowWalk$Bow", "walk", "I", false)
  | 7 => ("BowWalk$Bow", "nextStep", "I", false)
  | 8 => ("BowWalk$Bow", "sides", "I", false)
  | 9 => ("BowWalk$Bow", "likes", "I", false)
  | 10 => ("BowWalk$Bow", "smooth", "I", false)
  | 11 => ("BowWalk$Bow", "weight", "I", false)
  | 12 => ("BowWalk$Bow", "length", "I", false)
  | 13 => ("BowWalk$Bow", "strike", "I", false)
  | _ => ("BowWalk$Bow", "swing", "I", false)
def tyX0 : Nat → FieldType := fun k => match k with
  | 0 => .array .int
  | 1 => .array .int
  | 2 => .int
  | 3 => .int
  | 4 => .int
  | 5 => .int
  | 6 => .int
  | 7 => .int
  | 8 => .int
  | 9 => .int
  | 10 => .int
  | 11 => .int
  | 12 => .int
  | 13 => .int
  | _ => .int
abbrev wsX00 : List Cond := u_ws RX0 TX0 15
theorem nmX0 : ∀ a, a < 15 → ∀ b, b < 15 → a ≠ b → (TX0 a).2.1 ≠ (TX0 b).2.1 := by decide +kernel
theorem tyX0_ok : ∀ k, k < 15 → parseFieldDescriptor (TX0 k).2.2.1 = some (tyX0 k) := by decide +kernel
def RX1 : String := "BowWalk$Box"
def TX1 : u_T := fun k => match k with
  | 0 => ("BowWalk$Box", "bow", "LBowWalk$Bow;", true)
  | 1 => ("BowWalk$Box", "w", "I", false)
  | _ => ("BowWalk$Box", "full", "Z", false)
def tyX1 : Nat → FieldType := fun k => match k with
  | 0 => .object "BowWalk$Bow"
  | 1 => .int
  | _ => .boolean
abbrev wsX10 : List Cond := u_ws RX1 TX1 3
theorem nmX1 : ∀ a, a < 3 → ∀ b, b < 3 → a ≠ b → (TX1 a).2.1 ≠ (TX1 b).2.1 := by decide +kernel
theorem tyX1_ok : ∀ k, k < 3 → parseFieldDescriptor (TX1 k).2.2.1 = some (tyX1 k) := by decide +kernel
def RX2 : String := "BowWalk$Films"
def TX2 : u_T := fun k => match k with
  | 0 => ("BowWalk$Films", "knot", "[I", true)
  | 1 => ("BowWalk$Films", "walk", "[I", true)
  | 2 => ("BowWalk$Films", "steps", "[I", true)
  | 3 => ("BowWalk$Films", "lets", "[I", true)
  | 4 => ("BowWalk$Films", "untold", "[Z", true)
  | 5 => ("BowWalk$Films", "untoldAt", "[I", true)
  | 6 => ("BowWalk$Films", "toldAt", "[I", true)
  | _ => ("BowWalk$Films", "count", "I", false)
def tyX2 : Nat → FieldType := fun k => match k with
  | 0 => .array .int
  | 1 => .array .int
  | 2 => .array .int
  | 3 => .array .int
  | 4 => .array .boolean
  | 5 => .array .int
  | 6 => .array .int
  | _ => .int
abbrev wsX20 : List Cond := u_ws RX2 TX2 8
theorem nmX2 : ∀ a, a < 8 → ∀ b, b < 8 → a ≠ b → (TX2 a).2.1 ≠ (TX2 b).2.1 := by decide +kernel
theorem tyX2_ok : ∀ k, k < 8 → parseFieldDescriptor (TX2 k).2.2.1 = some (tyX2 k) := by decide +kernel
def RX3 : String := "BowWalk$Laws"
def TX3 : u_T := fun k => match k with
  | 0 => ("BowWalk$Laws", "code", "[I", true)
  | 1 => ("BowWalk$Laws", "behind", "[I", true)
  | 2 => ("BowWalk$Laws", "stack", "[I", true)
  | 3 => ("BowWalk$Laws", "used", "I", false)
  | 4 => ("BowWalk$Laws", "rows", "I", false)
  | _ => ("BowWalk$Laws", "units", "I", false)
def tyX3 : Nat → FieldType := fun k => match k with
  | 0 => .array .int
  | 1 => .array .int
  | 2 => .array .int
  | 3 => .int
  | 4 => .int
  | _ => .int
abbrev wsX30 : List Cond := u_ws RX3 TX3 6
theorem nmX3 : ∀ a, a < 6 → ∀ b, b < 6 → a ≠ b → (TX3 a).2.1 ≠ (TX3 b).2.1 := by decide +kernel
theorem tyX3_ok : ∀ k, k < 6 → parseFieldDescriptor (TX3 k).2.2.1 = some (tyX3 k) := by decide +kernel
def RX4 : String := "BowWalk$Reader"
def TX4 : u_T := fun k => match k with
  | 0 => ("BowWalk$Reader", "words", "[J", true)
  | 1 => ("BowWalk$Reader", "text", "[B", false)
  | 2 => ("BowWalk$Reader", "length", "I", false)
  | 3 => ("BowWalk$Reader", "at", "I", false)
  | 4 => ("BowWalk$Reader", "token", "I", false)
  | 5 => ("BowWalk$Reader", "place", "I", false)
  | 6 => ("BowWalk$Reader", "number", "I", false)
  | 7 => ("BowWalk$Reader", "word", "J", false)
  | 8 => ("BowWalk$Reader", "draft", "LBowWalk$Shop;", false)
  | 9 => ("BowWalk$Reader", "faultKind", "I", false)
  | _ => ("BowWalk$Reader", "faultPlace", "I", false)
def tyX4 : Nat → FieldType := fun k => match k with
  | 0 => .array .long
  | 1 => .array .byte
  | 2 => .int
  | 3 => .int
  | 4 => .int
  | 5 => .int
  | 6 => .int
  | 7 => .long
  | 8 => .object "BowWalk$Shop"
  | 9 => .int
  | _ => .int
abbrev wsX40 : List Cond := u_ws RX4 TX4 11
theorem nmX4 : ∀ a, a < 11 → ∀ b, b < 11 → a ≠ b → (TX4 a).2.1 ≠ (TX4 b).2.1 := by decide +kernel
theorem tyX4_ok : ∀ k, k < 11 → parseFieldDescriptor (TX4 k).2.2.1 = some (tyX4 k) := by decide +kernel
def RX5 : String := "BowWalk$Shop"
def TX5 : u_T := fun k => match k with
  | 0 => ("BowWalk$Shop", "count", "[I", true)
  | 1 => ("BowWalk$Shop", "names", "[[J", true)
  | 2 => ("BowWalk$Shop", "crossings", "[I", true)
  | 3 => ("BowWalk$Shop", "sides", "[I", true)
  | 4 => ("BowWalk$Shop", "smooth", "[I", true)
  | 5 => ("BowWalk$Shop", "weight", "[I", true)
  | 6 => ("BowWalk$Shop", "length", "[I", true)
  | 7 => ("BowWalk$Shop", "steps", "[I", true)
  | 8 => ("BowWalk$Shop", "strikes", "[[I", true)
  | 9 => ("BowWalk$Shop", "swings", "[[I", true)
  | 10 => ("BowWalk$Shop", "wantHolds", "[I", true)
  | 11 => ("BowWalk$Shop", "wantPull", "[I", true)
  | 12 => ("BowWalk$Shop", "laws", "LBowWalk$Laws;", true)
  | 13 => ("BowWalk$Shop", "once", "[I", true)
  | _ => ("BowWalk$Shop", "onceTold", "[Z", true)
def tyX5 : Nat → FieldType := fun k => match k with
  | 0 => .array .int
  | 1 => .array (.array .long)
  | 2 => .array .int
  | 3 => .array .int
  | 4 => .array .int
  | 5 => .array .int
  | 6 => .array .int
  | 7 => .array .int
  | 8 => .array (.array .int)
  | 9 => .array (.array .int)
  | 10 => .array .int
  | 11 => .array .int
  | 12 => .object "BowWalk$Laws"
  | 13 => .array .int
  | _ => .array .boolean
abbrev wsX50 : List Cond := u_ws RX5 TX5 15
theorem nmX5 : ∀ a, a < 15 → ∀ b, b < 15 → a ≠ b → (TX5 a).2.1 ≠ (TX5 b).2.1 := by decide +kernel
theorem tyX5_ok : ∀ k, k < 15 → parseFieldDescriptor (TX5 k).2.2.1 = some (tyX5 k) := by decide +kernel
def RX6 : String := "BowWalk$Token"
def RX7 : String := "BowWalk$Trial"
def TX7 : u_T := fun k => match k with
  | 0 => ("BowWalk$Trial", "bow", "LBowWalk$Bow;", true)
  | 1 => ("BowWalk$Trial", "strikes", "[I", true)
  | 2 => ("BowWalk$Trial", "swings", "[I", true)
  | 3 => ("BowWalk$Trial", "law", "I", false)
  | 4 => ("BowWalk$Trial", "walkSteps", "I", false)
  | _ => ("BowWalk$Trial", "at", "I", false)
def tyX7 : Nat → FieldType := fun k => match k with
  | 0 => .object "BowWalk$Bow"
  | 1 => .array .int
  | 2 => .array .int
  | 3 => .int
  | 4 => .int
  | _ => .int
abbrev wsX70 : List Cond := u_ws RX7 TX7 6
theorem nmX7 : ∀ a, a < 6 → ∀ b, b < 6 → a ≠ b → (TX7 a).2.1 ≠ (TX7 b).2.1 := by decide +kernel
theorem tyX7_ok : ∀ k, k < 6 → parseFieldDescriptor (TX7 k).2.2.1 = some (tyX7 k) := by decide +kernel
def RX8 : String := "BowWalk"
def TX8 : u_T := fun k => match k with
  | 0 => ("BowWalk", "tape", "[B", true)
  | 1 => ("BowWalk", "reader", "LBowWalk$Reader;", true)
  | 2 => ("BowWalk", "bow", "LBowWalk$Bow;", true)
  | 3 => ("BowWalk", "trial", "LBowWalk$Trial;", true)
  | 4 => ("BowWalk", "films", "LBowWalk$Films;", true)
  | 5 => ("BowWalk", "boxes", "[LBowWalk$Box;", true)
  | 6 => ("BowWalk", "lengths", "[I", true)
  | 7 => ("BowWalk", "held", "[I", true)
  | 8 => ("BowWalk", "opened", "[I", true)
  | 9 => ("BowWalk", "shop", "LBowWalk$Shop;", false)
  | 10 => ("BowWalk", "tapeLength", "I", false)
  | 11 => ("BowWalk", "tied", "Z", false)
  | 12 => ("BowWalk", "w", "I", false)
  | _ => ("BowWalk", "time", "I", false)
def tyX8 : Nat → FieldType := fun k => match k with
  | 0 => .array .byte
  | 1 => .object "BowWalk$Reader"
  | 2 => .object "BowWalk$Bow"
  | 3 => .object "BowWalk$Trial"
  | 4 => .object "BowWalk$Films"
  | 5 => .array (.object "BowWalk$Box")
  | 6 => .array .int
  | 7 => .array .int
  | 8 => .array .int
  | 9 => .object "BowWalk$Shop"
  | 10 => .int
  | 11 => .boolean
  | 12 => .int
  | _ => .int
abbrev wsX80 : List Cond := u_ws RX8 TX8 14
theorem nmX8 : ∀ a, a < 14 → ∀ b, b < 14 → a ≠ b → (TX8 a).2.1 ≠ (TX8 b).2.1 := by decide +kernel
theorem tyX8_ok : ∀ k, k < 14 → parseFieldDescriptor (TX8 k).2.2.1 = some (tyX8 k) := by decide +kernel
def RX9 : String := "BowWalkModel"
def TX9 : u_T := fun k => match k with
  | 0 => ("BowWalkModel", "tape", "[B", true)
  | 1 => ("BowWalkModel", "text", "[B", true)
  | 2 => ("BowWalkModel", "taped", "I", false)
  | 3 => ("BowWalkModel", "size", "I", false)
  | 4 => ("BowWalkModel", "faultKind", "I", false)
  | 5 => ("BowWalkModel", "faultPlace", "I", false)
  | 6 => ("BowWalkModel", "at", "I", false)
  | 7 => ("BowWalkModel", "end", "I", false)
  | 8 => ("BowWalkModel", "token", "I", false)
  | 9 => ("BowWalkModel", "number", "I", false)
  | 10 => ("BowWalkModel", "name", "J", false)
  | 11 => ("BowWalkModel", "knots", "[I", true)
  | 12 => ("BowWalkModel", "cords", "[I", true)
  | 13 => ("BowWalkModel", "walks", "[I", true)
  | 14 => ("BowWalkModel", "laws", "[I", true)
  | 15 => ("BowWalkModel", "wants", "[I", true)
  | 16 => ("BowWalkModel", "tight", "[I", true)
  | 17 => ("BowWalkModel", "luck", "[I", true)
  | 18 => ("BowWalkModel", "unitsOf", "[I", true)
  | 19 => ("BowWalkModel", "isTight", "[Z", true)
  | 20 => ("BowWalkModel", "isLuck", "[Z", true)
  | 21 => ("BowWalkModel", "kName", "[J", true)
  | 22 => ("BowWalkModel", "cName", "[J", true)
  | 23 => ("BowWalkModel", "wName", "[J", true)
  | 24 => ("BowWalkModel", "lName", "[J", true)
  | 25 => ("BowWalkModel", "nName", "[J", true)
  | 26 => ("BowWalkModel", "sides", "[I", true)
  | 27 => ("BowWalkModel", "crossings", "[I", true)
  | 28 => ("BowWalkModel", "smooth", "[I", true)
  | 29 => ("BowWalkModel", "weight", "[I", true)
  | 30 => ("BowWalkModel", "longOf", "[I", true)
  | 31 => ("BowWalkModel", "steps", "[I", true)
  | 32 => ("BowWalkModel", "strikes", "[I", true)
  | 33 => ("BowWalkModel", "swings", "[I", true)
  | 34 => ("BowWalkModel", "wantHolds", "[I", true)
  | 35 => ("BowWalkModel", "wantPull", "[I", true)
  | 36 => ("BowWalkModel", "rFrom", "[I", true)
  | 37 => ("BowWalkModel", "rTo", "[I", true)
  | 38 => ("BowWalkModel", "code", "[I", true)
  | 39 => ("BowWalkModel", "codeNumber", "[I", true)
  | 40 => ("BowWalkModel", "eWhat", "[I", true)
  | 41 => ("BowWalkModel", "eSign", "[I", true)
  | 42 => ("BowWalkModel", "pile", "[I", true)
  | 43 => ("BowWalkModel", "bank", "I", false)
  | 44 => ("BowWalkModel", "rb", "I", false)
  | 45 => ("BowWalkModel", "codes", "I", false)
  | 46 => ("BowWalkModel", "units", "I", false)
  | 47 => ("BowWalkModel", "within", "I", false)
  | 48 => ("BowWalkModel", "piled", "I", false)
  | 49 => ("BowWalkModel", "bTight", "[I", true)
  | 50 => ("BowWalkModel", "bLong", "[I", true)
  | 51 => ("BowWalkModel", "bSides", "I", false)
  | 52 => ("BowWalkModel", "bMany", "I", false)
  | 53 => ("BowWalkModel", "bAll", "I", false)
  | 54 => ("BowWalkModel", "bSmooth", "I", false)
  | 55 => ("BowWalkModel", "bWeight", "I", false)
  | 56 => ("BowWalkModel", "nowStrike", "I", false)
  | 57 => ("BowWalkModel", "nowSwing", "I", false)
  | 58 => ("BowWalkModel", "lessSwing", "I", false)
  | 59 => ("BowWalkModel", "lessStrike", "I", false)
  | 60 => ("BowWalkModel", "hasBow", "Z", false)
  | 61 => ("BowWalkModel", "walked", "I", false)
  | 62 => ("BowWalkModel", "place", "I", false)
  | 63 => ("BowWalkModel", "stepsDone", "I", false)
  | 64 => ("BowWalkModel", "slipped", "I", false)
  | 65 => ("BowWalkModel", "w", "I", false)
  | 66 => ("BowWalkModel", "kHolds", "[I", true)
  | 67 => ("BowWalkModel", "kPulls", "[I", true)
  | 68 => ("BowWalkModel", "fKnot", "[I", true)
  | 69 => ("BowWalkModel", "fWalk", "[I", true)
  | 70 => ("BowWalkModel", "fSteps", "[I", true)
  | 71 => ("BowWalkModel", "fLength", "[I", true)
  | 72 => ("BowWalkModel", "fOff", "[I", true)
  | 73 => ("BowWalkModel", "fTold", "[I", true)
  | 74 => ("BowWalkModel", "fUntold", "[I", true)
  | 75 => ("BowWalkModel", "films", "I", false)
  | 76 => ("BowWalkModel", "time", "I", false)
  | 77 => ("BowWalkModel", "lengths", "[I", true)
  | 78 => ("BowWalkModel", "boxMany", "[I", true)
  | 79 => ("BowWalkModel", "boxRow", "[I", true)
  | _ => ("BowWalkModel", "boxTight", "[I", true)
def tyX9 : Nat → FieldType := fun k => match k with
  | 0 => .array .byte
  | 1 => .array .byte
  | 2 => .int
  | 3 => .int
  | 4 => .int
  | 5 => .int
  | 6 => .int
  | 7 => .int
  | 8 => .int
  | 9 => .int
  | 10 => .long
  | 11 => .array .int
  | 12 => .array .int
  | 13 => .array .int
  | 14 => .array .int
  | 15 => .array .int
  | 16 => .array .int
  | 17 => .array .int
  | 18 => .array .int
  | 19 => .array .boolean
  | 20 => .array .boolean
  | 21 => .array .long
  | 22 => .array .long
  | 23 => .array .long
  | 24 => .array .long
  | 25 => .array .long
  | 26 => .array .int
  | 27 => .array .int
  | 28 => .array .int
  | 29 => .array .int
  | 30 => .array .int
  | 31 => .array .int
  | 32 => .array .int
  | 33 => .array .int
  | 34 => .array .int
  | 35 => .array .int
  | 36 => .array .int
  | 37 => .array .int
  | 38 => .array .int
  | 39 => .array .int
  | 40 => .array .int
  | 41 => .array .int
  | 42 => .array .int
  | 43 => .int
  | 44 => .int
  | 45 => .int
  | 46 => .int
  | 47 => .int
  | 48 => .int
  | 49 => .array .int
  | 50 => .array .int
  | 51 => .int
  | 52 => .int
  | 53 => .int
  | 54 => .int
  | 55 => .int
  | 56 => .int
  | 57 => .int
  | 58 => .int
  | 59 => .int
  | 60 => .boolean
  | 61 => .int
  | 62 => .int
  | 63 => .int
  | 64 => .int
  | 65 => .int
  | 66 => .array .int
  | 67 => .array .int
  | 68 => .array .int
  | 69 => .array .int
  | 70 => .array .int
  | 71 => .array .int
  | 72 => .array .int
  | 73 => .array .int
  | 74 => .array .int
  | 75 => .int
  | 76 => .int
  | 77 => .array .int
  | 78 => .array .int
  | 79 => .array .int
  | _ => .array .int
abbrev wsX90 : List Cond := u_ws RX9 TX9 81
theorem nmX9 : ∀ a, a < 81 → ∀ b, b < 81 → a ≠ b → (TX9 a).2.1 ≠ (TX9 b).2.1 := by decide +kernel
theorem tyX9_ok : ∀ k, k < 81 → parseFieldDescriptor (TX9 k).2.2.1 = some (tyX9 k) := by decide +kernel
def RJ0 : String := "java/lang/String"
def RJ1 : String := "java/lang/StringLatin1"
def RJ2 : String := "java/lang/StringUTF16"
def RJ3 : String := "jdk/internal/util/Preconditions"
def RL : String := "BowWalkLaw"
abbrev cX8_within : ByteArray := prog_1_method_44_code
def yX8_within : MethodName := ⟨RX8, "within", "(III)Z"⟩
abbrev cX9_isIn : ByteArray := prog_11_method_39_code
def yX9_isIn : MethodName := ⟨RX9, "isIn", "(III)Z"⟩
abbrev cX5_has : ByteArray := prog_7_method_4_code
def yX5_has : MethodName := ⟨RX5, "has", "(II)Z"⟩
abbrev cX8_canWalkIn : ByteArray := prog_1_method_46_code
def yX8_canWalkIn : MethodName := ⟨RX8, "canWalkIn", "(II)Z"⟩
abbrev cX8_canTry : ByteArray := prog_1_method_45_code
def yX8_canTry : MethodName := ⟨RX8, "canTry", "(III)Z"⟩
abbrev cX9_isKnot : ByteArray := prog_11_method_41_code
def yX9_isKnot : MethodName := ⟨RX9, "isKnot", "(I)Z"⟩
abbrev cX9_isCord : ByteArray := prog_11_method_42_code
def yX9_isCord : MethodName := ⟨RX9, "isCord", "(I)Z"⟩
abbrev cX9_isWalk : ByteArray := prog_11_method_43_code
def yX9_isWalk : MethodName := ⟨RX9, "isWalk", "(I)Z"⟩
abbrev cX9_isWant : ByteArray := prog_11_method_73_code
def yX9_isWant : MethodName := ⟨RX9, "isWant", "(I)Z"⟩
abbrev cX9_isAll : ByteArray := prog_11_method_65_code
def yX9_isAll : MethodName := ⟨RX9, "isAll", "(III)Z"⟩
abbrev cX9_lawMany : ByteArray := prog_11_method_90_code
def yX9_lawMany : MethodName := ⟨RX9, "lawMany", "()I"⟩
abbrev cX5_lawsAsked : ByteArray := prog_7_method_5_code
def yX5_lawsAsked : MethodName := ⟨RX5, "lawsAsked", "()I"⟩
abbrev cX5_hasPair : ByteArray := prog_7_method_6_code
def yX5_hasPair : MethodName := ⟨RX5, "hasPair", "(I)Z"⟩
abbrev cX8_knot : ByteArray := prog_1_method_7_code
def yX8_knot : MethodName := ⟨RX8, "knot", "(II)I"⟩
abbrev cX8_tie : ByteArray := prog_1_method_8_code
def yX8_tie : MethodName := ⟨RX8, "tie", "(II)I"⟩
abbrev cX8_walk : ByteArray := prog_1_method_9_code
def yX8_walk : MethodName := ⟨RX8, "walk", "(II)I"⟩
abbrev cX8_pull : ByteArray := prog_1_method_12_code
def yX8_pull : MethodName := ⟨RX8, "pull", "(I)I"⟩
abbrev cX8_bow : ByteArray := prog_1_method_13_code
def yX8_bow : MethodName := ⟨RX8, "bow", "(I)I"⟩
abbrev cX8_image : ByteArray := prog_1_method_41_code
def yX8_image : MethodName := ⟨RX8, "image", "(I)I"⟩
abbrev cX8_holds : ByteArray := prog_1_method_14_code
def yX8_holds : MethodName := ⟨RX8, "holds", "(IIII)I"⟩
abbrev cX8_begins : ByteArray := prog_1_method_15_code
def yX8_begins : MethodName := ⟨RX8, "begins", "(III)I"⟩
abbrev cX8_alone : ByteArray := prog_1_method_16_code
def yX8_alone : MethodName := ⟨RX8, "alone", "(IIII)I"⟩
abbrev cX8_undone : ByteArray := prog_1_method_17_code
def yX8_undone : MethodName := ⟨RX8, "undone", "(II)I"⟩
abbrev cX8_met : ByteArray := prog_1_method_18_code
def yX8_met : MethodName := ⟨RX8, "met", "(IIII)I"⟩
abbrev cX8_meets : ByteArray := prog_1_method_19_code
def yX8_meets : MethodName := ⟨RX8, "meets", "(III)I"⟩
abbrev cX8_odds : ByteArray := prog_1_method_21_code
def yX8_odds : MethodName := ⟨RX8, "odds", "(III)I"⟩
abbrev cX8_worse : ByteArray := prog_1_method_23_code
def yX8_worse : MethodName := ⟨RX8, "worse", "(IIII)I"⟩
abbrev cX8_which : ByteArray := prog_1_method_24_code
def yX8_which : MethodName := ⟨RX8, "which", "(III)I"⟩
abbrev cX8_best : ByteArray := prog_1_method_26_code
def yX8_best : MethodName := ⟨RX8, "best", "(IIIII)I"⟩
abbrev cX8_both : ByteArray := prog_1_method_27_code
def yX8_both : MethodName := ⟨RX8, "both", "(II)I"⟩
abbrev cX8_ends : ByteArray := prog_1_method_29_code
def yX8_ends : MethodName := ⟨RX8, "ends", "(IIII)I"⟩
abbrev cX8_change : ByteArray := prog_1_method_30_code
def yX8_change : MethodName := ⟨RX8, "change", "(IIIII)I"⟩
abbrev cX8_film : ByteArray := prog_1_method_31_code
def yX8_film : MethodName := ⟨RX8, "film", "(IIIII)I"⟩
abbrev cX8_untell : ByteArray := prog_1_method_33_code
def yX8_untell : MethodName := ⟨RX8, "untell", "(I)Z"⟩
abbrev cX8_began : ByteArray := prog_1_method_39_code
def yX8_began : MethodName := ⟨RX8, "began", "(II)I"⟩
abbrev cX8_parts : ByteArray := prog_1_method_36_code
def yX8_parts : MethodName := ⟨RX8, "parts", "(IIII)I"⟩
abbrev cX8_seed : ByteArray := prog_1_method_40_code
def yX8_seed : MethodName := ⟨RX8, "seed", "(I)I"⟩
abbrev cX8_end : ByteArray := prog_1_method_4_code
def yX8_end : MethodName := ⟨RX8, "end", "(I)I"⟩
abbrev cX8_later : ByteArray := prog_1_method_34_code
def yX8_later : MethodName := ⟨RX8, "later", "(I)I"⟩
abbrev cX8_fault : ByteArray := prog_1_method_6_code
def yX8_fault : MethodName := ⟨RX8, "fault", "(I)I"⟩
abbrev cX8_about : ByteArray := prog_1_method_43_code
def yX8_about : MethodName := ⟨RX8, "about", "(I)I"⟩
abbrev cX8_back : ByteArray := prog_1_method_42_code
def yX8_back : MethodName := ⟨RX8, "back", "(I)I"⟩
abbrev cX9_knot : ByteArray := prog_11_method_59_code
def yX9_knot : MethodName := ⟨RX9, "knot", "(II)I"⟩
abbrev cX9_tie : ByteArray := prog_11_method_54_code
def yX9_tie : MethodName := ⟨RX9, "tie", "(II)I"⟩
abbrev cX9_walk : ByteArray := prog_11_method_56_code
def yX9_walk : MethodName := ⟨RX9, "walk", "(II)I"⟩
abbrev cX9_pull : ByteArray := prog_11_method_57_code
def yX9_pull : MethodName := ⟨RX9, "pull", "(I)I"⟩
abbrev cX9_bow : ByteArray := prog_11_method_58_code
def yX9_bow : MethodName := ⟨RX9, "bow", "(I)I"⟩
abbrev cX9_image : ByteArray := prog_11_method_98_code
def yX9_image : MethodName := ⟨RX9, "image", "(I)I"⟩
abbrev cX9_holds : ByteArray := prog_11_method_66_code
def yX9_holds : MethodName := ⟨RX9, "holds", "(IIII)I"⟩
abbrev cX9_begins : ByteArray := prog_11_method_67_code
def yX9_begins : MethodName := ⟨RX9, "begins", "(III)I"⟩
abbrev cX9_alone : ByteArray := prog_11_method_68_code
def yX9_alone : MethodName := ⟨RX9, "alone", "(IIII)I"⟩
abbrev cX9_undone : ByteArray := prog_11_method_71_code
def yX9_undone : MethodName := ⟨RX9, "undone", "(II)I"⟩
abbrev cX9_met : ByteArray := prog_11_method_74_code
def yX9_met : MethodName := ⟨RX9, "met", "(IIII)I"⟩
abbrev cX9_meets : ByteArray := prog_11_method_75_code
def yX9_meets : MethodName := ⟨RX9, "meets", "(III)I"⟩
abbrev cX9_odds : ByteArray := prog_11_method_77_code
def yX9_odds : MethodName := ⟨RX9, "odds", "(III)I"⟩
abbrev cX9_worse : ByteArray := prog_11_method_79_code
def yX9_worse : MethodName := ⟨RX9, "worse", "(IIII)I"⟩
abbrev cX9_which : ByteArray := prog_11_method_80_code
def yX9_which : MethodName := ⟨RX9, "which", "(III)I"⟩
abbrev cX9_best : ByteArray := prog_11_method_81_code
def yX9_best : MethodName := ⟨RX9, "best", "(IIIII)I"⟩
abbrev cX9_both : ByteArray := prog_11_method_82_code
def yX9_both : MethodName := ⟨RX9, "both", "(II)I"⟩
abbrev cX9_ends : ByteArray := prog_11_method_83_code
def yX9_ends : MethodName := ⟨RX9, "ends", "(IIII)I"⟩
abbrev cX9_change : ByteArray := prog_11_method_84_code
def yX9_change : MethodName := ⟨RX9, "change", "(IIIII)I"⟩
abbrev cX9_film : ByteArray := prog_11_method_85_code
def yX9_film : MethodName := ⟨RX9, "film", "(IIIII)I"⟩
abbrev cX9_untell : ByteArray := prog_11_method_86_code
def yX9_untell : MethodName := ⟨RX9, "untell", "(I)Z"⟩
abbrev cX9_began : ByteArray := prog_11_method_94_code
def yX9_began : MethodName := ⟨RX9, "began", "(II)I"⟩
abbrev cX9_parts : ByteArray := prog_11_method_93_code
def yX9_parts : MethodName := ⟨RX9, "parts", "(IIII)I"⟩
abbrev cX9_seed : ByteArray := prog_11_method_95_code
def yX9_seed : MethodName := ⟨RX9, "seed", "(I)I"⟩
abbrev cX9_end : ByteArray := prog_11_method_102_code
def yX9_end : MethodName := ⟨RX9, "end", "(I)I"⟩
abbrev cX9_later : ByteArray := prog_11_method_87_code
def yX9_later : MethodName := ⟨RX9, "later", "(I)I"⟩
abbrev cX9_fault : ByteArray := prog_11_method_38_code
def yX9_fault : MethodName := ⟨RX9, "fault", "(I)I"⟩
abbrev cX9_about : ByteArray := prog_11_method_100_code
def yX9_about : MethodName := ⟨RX9, "about", "(I)I"⟩
abbrev cX9_back : ByteArray := prog_11_method_99_code
def yX9_back : MethodName := ⟨RX9, "back", "(I)I"⟩
abbrev cX9_fits : ByteArray := prog_11_method_91_code
def yX9_fits : MethodName := ⟨RX9, "fits", "(I)I"⟩
abbrev cX8_fits : ByteArray := prog_1_method_35_code
def yX8_fits : MethodName := ⟨RX8, "fits", "(I)I"⟩
abbrev cL_law : ByteArray := code
abbrev vwCl : List vw_C := [(RX0, TX0, 15), (RX1, TX1, 3), (RX2, TX2, 8), (RX3, TX3, 6), (RX4, TX4, 11), (RX5, TX5, 15), (RX7, TX7, 6), (RX8, TX8, 14), (RX9, TX9, 81)]
end
section
/-- an index that a program decides -/
theorem p1_in {i : Int32} {n : Nat} (h : ¬ (i < 0 ∨ n ≤ i.toNatClampNeg)) : vp_in i n := h
theorem p1_sa {fs : List Value} {k n : Nat} {v : Value} (h : fs.length = n) (hk : k < n) : (fs.set k v)[k]? = some v := by
  rw [List.getElem?_set_self (by omega)]
theorem p1_sn {fs : List Value} {k j : Nat} {v w : Value} (h : k ≠ j) (e : fs[j]? = some w) : (fs.set k v)[j]? = some w := by
  rw [List.getElem?_set_ne h]; exact e
theorem p1_all {ws : List Cond} (ps : List Nat) (h : ws = ps.filterMap (fun i => lw_tbl[i]?)) : ∀ w ∈ ws, w ∈ lw_tbl := by
  intro w hw
  rw [h] at hw
  obtain ⟨i, -, hi⟩ := List.mem_filterMap.mp hw
  exact List.mem_of_getElem? hi
theorem p1_i0 : ∀ w ∈ ([] : List Cond), w ∈ lw_tbl := fun _ h => absurd h List.not_mem_nil
theorem p1_ia {a b : List Cond} (ha : ∀ w ∈ a, w ∈ lw_tbl) (hb : ∀ w ∈ b, w ∈ lw_tbl) : ∀ w ∈ a ++ b, w ∈ lw_tbl := fun w h => (List.mem_append.mp h).elim (ha w) (hb w)
theorem p1_g0 : ([] : List Cond).all goodWord = true := rfl
theorem p1_ga {a b : List Cond} (ha : a.all goodWord = true) (hb : b.all goodWord = true) : (a ++ b).all goodWord = true := by rw [List.all_append, ha, hb]; rfl
theorem p1_gV {big ws : List Cond} {own C : String} {idx : Nat} {y : MethodName} (h1 : Cond.methodLink own idx y ∈ big) (h2 : Cond.instanceMethod y ∈ big) (h3 : Cond.selects C y y ∈ big) (h4 : Cond.initialized C ∈ big) (hw : ∀ w ∈ ws, w ∈ big) (hg : ws.all goodWord = true) : GoodIn big (wsV own idx C y ws) := by
  refine goodIn_sub (fun w h => ?_) ?_
  · rcases List.mem_append.mp h with h | h
    · simp only [List.mem_cons, List.not_mem_nil, or_false] at h
      rcases h with rfl | rfl | rfl | rfl
      · exact h1
      · exact h2
      · exact h3
      · exact h4
    · exact hw w h
  · exact p1_ga rfl hg
theorem p1_gS {big ws : List Cond} {own : String} {idx : Nat} {y : MethodName} (h1 : Cond.methodLink own idx y ∈ big) (h2 : Cond.static y ∈ big) (h3 : Cond.initialized y.cls ∈ big) (hw : ∀ w ∈ ws, w ∈ big) (hg : ws.all goodWord = true) : GoodIn big (va_wsS own idx y ws) := by
  refine goodIn_sub (fun w h => ?_) ?_
  · rcases List.mem_append.mp h with h | h
    · simp only [List.mem_cons, List.not_mem_nil, or_false] at h
      rcases h with rfl | rfl | rfl
      · exact h1
      · exact h2
      · exact h3
    · exact hw w h
  · exact p1_ga rfl hg
theorem p1_m1 {n : Int32} (h : ¬ n < 0) : -1 < n := by
  rw [Int32.lt_iff_toInt_lt] at h ⊢
  have e0 : (0 : Int32).toInt = 0 := by decide
  have e1 : (-1 : Int32).toInt = -1 := by decide
  omega
theorem p1_012 {n : Int32} (h : 0 ≤ n ∧ n ≤ 2) : n = 0 ∨ n = 1 ∨ n = 2 := by
  obtain ⟨h1, h2⟩ := h
  rw [Int32.le_iff_toInt_le] at h1 h2
  have e0 : (0 : Int32).toInt = 0 := by decide
  have e1 : (1 : Int32).toInt = 1 := by decide
  have e2 : (2 : Int32).toInt = 2 := by decide
  have : n.toInt = 0 ∨ n.toInt = 1 ∨ n.toInt = 2 := by omega
  rcases this with q | q | q
  · exact Or.inl (Int32.toInt_inj.mp (by rw [q, e0]))
  · exact Or.inr (Or.inl (Int32.toInt_inj.mp (by rw [q, e1])))
  · exact Or.inr (Or.inr (Int32.toInt_inj.mp (by rw [q, e2])))
theorem p1_sw9 (x : Int32) : x = 0 ∨ x = 1 ∨ x = 2 ∨ x = 3 ∨ x = 4 ∨ x = 5 ∨ x = 6 ∨ x = 7 ∨ x = 8 ∨ x = 9 ∨ (x.toInt < 0 ∨ 9 < x.toInt) := by
  by_cases h : x.toInt < 0 ∨ 9 < x.toInt
  · simp [h]
  · have : x.toInt = 0 ∨ x.toInt = 1 ∨ x.toInt = 2 ∨ x.toInt = 3 ∨ x.toInt = 4 ∨ x.toInt = 5 ∨ x.toInt = 6 ∨ x.toInt = 7 ∨ x.toInt = 8 ∨ x.toInt = 9 := by omega
    have k : ∀ c : Int32, x.toInt = c.toInt → x = c := fun c q => Int32.toInt_inj.mp q
    rcases this with q | q | q | q | q | q | q | q | q | q
    · have := k 0 (by rw [q]; decide); simp [this]
    · have := k 1 (by rw [q]; decide); simp [this]
    · have := k 2 (by rw [q]; decide); simp [this]
    · have := k 3 (by rw [q]; decide); simp [this]
    · have := k 4 (by rw [q]; decide); simp [this]
    · have := k 5 (by rw [q]; decide); simp [this]
    · have := k 6 (by rw [q]; decide); simp [this]
    · have := k 7 (by rw [q]; decide); simp [this]
    · have := k 8 (by rw [q]; decide); simp [this]
    · have := k 9 (by rw [q]; decide); simp [this]
def p1_later (b : Int32) : Int32 := if 0 ≤ b ∧ b ≤ 1000 then 0 + b else -1
def p1_end (n : Int32) : Int32 := if n < 0 ∨ 0 < n then -1 else n
theorem p1_end_no {n : Int32} (h : ¬ n < 0) (h2 : n ≤ 0) : n = p1_end n := (if_neg (fun z => z.elim h (fun z => absurd z (Int32.not_lt.mpr h2)))).symm
theorem p1_end_lt {n : Int32} (h : n < 0) : -1 = p1_end n := (if_pos (Or.inl h)).symm
theorem p1_end_gt {n : Int32} (h : ¬ n ≤ 0) : -1 = p1_end n := (if_pos (Or.inr (Int32.not_le.mp h))).symm
def p1_fault (w : Int32) : Int32 := if w = 0 then 0 else -1
def p1_about (w : Int32) : Int32 := if w = 8 then 1 else if 0 ≤ w.toInt ∧ w.toInt ≤ 9 then 0 else -1
theorem p1_about_out {w : Int32} (h : w.toInt < 0 ∨ 9 < w.toInt) : -1 = p1_about w := by
  have h8 : ¬ w = 8 := by
    intro q
    subst q
    have e8 : (8 : Int32).toInt = 8 := by decide
    omega
  rw [p1_about, if_neg h8, if_neg (by omega)]
theorem p1_late {b v : Int32} (h : 0 ≤ b ∧ b ≤ 1000) (e : v = 0 + b) : v ≤ 100000 := by
  obtain ⟨h1, h2⟩ := h
  have : v = b := by rw [e]; exact Int32.zero_add b
  subst this
  rw [Int32.le_iff_toInt_le] at h2 ⊢
  have e1 : (1000 : Int32).toInt = 1000 := by decide
  have e2 : (100000 : Int32).toInt = 100000 := by decide
  omega
theorem p1_us {f : Nat → Int32} {k : Nat} {x : Int32} : upd f k x k = x := pk_us
theorem p1_un {f : Nat → Int32} {k j : Nat} {x y : Int32} (h : j ≠ k) (e : f j = y) : upd f k x j = y := by rw [pk_un h]; exact e

theorem ik_X0 : ∀ w ∈ wsX00, w ∈ lw_tbl := p1_all [375, 377, 379, 381, 383, 385, 387, 389, 391, 393, 395, 397, 399, 401, 403] (by decide +kernel)
theorem gk_X0 : wsX00.all goodWord = true := by decide +kernel
theorem ik_X1 : ∀ w ∈ wsX10, w ∈ lw_tbl := p1_all [492, 494, 496] (by decide +kernel)
theorem gk_X1 : wsX10.all goodWord = true := by decide +kernel
theorem ik_X2 : ∀ w ∈ wsX20, w ∈ lw_tbl := p1_all [458, 460, 462, 464, 466, 468, 470, 472] (by decide +kernel)
theorem gk_X2 : wsX20.all goodWord = true := by decide +kernel
theorem ik_X3 : ∀ w ∈ wsX30, w ∈ lw_tbl := p1_all [158, 160, 162, 164, 166, 168] (by decide +kernel)
theorem gk_X3 : wsX30.all goodWord = true := by decide +kernel
theorem ik_X4 : ∀ w ∈ wsX40, w ∈ lw_tbl := p1_all [321, 323, 325, 327, 329, 331, 333, 335, 337, 339, 341] (by decide +kernel)
theorem gk_X4 : wsX40.all goodWord = true := by decide +kernel
theorem ik_X5 : ∀ w ∈ wsX50, w ∈ lw_tbl := p1_all [222, 224, 226, 228, 230, 232, 234, 236, 238, 240, 242, 244, 246, 248, 250] (by decide +kernel)
theorem gk_X5 : wsX50.all goodWord = true := by decide +kernel
theorem ik_X7 : ∀ w ∈ wsX70, w ∈ lw_tbl := p1_all [424, 426, 428, 430, 432, 434] (by decide +kernel)
theorem gk_X7 : wsX70.all goodWord = true := by decide +kernel
theorem ik_X8 : ∀ w ∈ wsX80, w ∈ lw_tbl := p1_all [513, 515, 517, 519, 521, 523, 525, 527, 529, 531, 533, 535, 537, 539] (by decide +kernel)
theorem gk_X8 : wsX80.all goodWord = true := by decide +kernel
theorem ik_X9 : ∀ w ∈ wsX90, w ∈ lw_tbl := p1_all [1118, 1120, 1122, 1124, 1126, 1128, 1130, 1132, 1134, 1136, 1138, 1140, 1142, 1144, 1146, 1148, 1150, 1152, 1154, 1156, 1158, 1160, 1162, 1164, 1166, 1168, 1170, 1172, 1174, 1176, 1178, 1180, 1182, 1184, 1186, 1188, 1190, 1192, 1194, 1196, 1198, 1200, 1202, 1204, 1206, 1208, 1210, 1212, 1214, 1216, 1218, 1220, 1222, 1224, 1226, 1228, 1230, 1232, 1234, 1236, 1238, 1240, 1242, 1244, 1246, 1248, 1250, 1252, 1254, 1256, 1258, 1260, 1262, 1264, 1266, 1268, 1270, 1272, 1274, 1276, 1278] (by decide +kernel)
theorem gk_X9 : wsX90.all goodWord = true := by decide +kernel
end
section
theorem dX8_within_0 : decode cX8_within 0 = .ok (.iload_n 0, 1) := by decide +kernel
theorem dX8_within_1 : decode cX8_within 1 = .ok (.iload_n 1, 1) := by decide +kernel
theorem dX8_within_2 : decode cX8_within 2 = .ok (.if_icmp .lt 12, 3) := by decide +kernel
theorem dX8_within_14 : decode cX8_within 14 = .ok (.iconst 0, 1) := by decide +kernel
theorem dX8_within_15 : decode cX8_within 15 = .ok (.ireturn, 1) := by decide +kernel
theorem dX8_within_5 : decode cX8_within 5 = .ok (.iload_n 0, 1) := by decide +kernel
theorem dX8_within_6 : decode cX8_within 6 = .ok (.iload_n 2, 1) := by decide +kernel
theorem dX8_within_7 : decode cX8_within 7 = .ok (.if_icmp .gt 7, 3) := by decide +kernel
theorem dX8_within_10 : decode cX8_within 10 = .ok (.iconst 1, 1) := by decide +kernel
theorem dX8_within_11 : decode cX8_within 11 = .ok (.goto 4, 3) := by decide +kernel
theorem dX9_isIn_0 : decode cX9_isIn 0 = .ok (.iload_n 0, 1) := by decide +kernel
theorem dX9_isIn_1 : decode cX9_isIn 1 = .ok (.iload_n 1, 1) := by decide +kernel
theorem dX9_isIn_2 : decode cX9_isIn 2 = .ok (.if_icmp .lt 12, 3) := by decide +kernel
theorem dX9_isIn_14 : decode cX9_isIn 14 = .ok (.iconst 0, 1) := by decide +kernel
theorem dX9_isIn_15 : decode cX9_isIn 15 = .ok (.ireturn, 1) := by decide +kernel
theorem dX9_isIn_5 : decode cX9_isIn 5 = .ok (.iload_n 0, 1) := by decide +kernel
theorem dX9_isIn_6 : decode cX9_isIn 6 = .ok (.iload_n 2, 1) := by decide +kernel
theorem dX9_isIn_7 : decode cX9_isIn 7 = .ok (.if_icmp .gt 7, 3) := by decide +kernel
theorem dX9_isIn_10 : decode cX9_isIn 10 = .ok (.iconst 1, 1) := by decide +kernel
theorem dX9_isIn_11 : decode cX9_isIn 11 = .ok (.goto 4, 3) := by decide +kernel
theorem dX5_has_0 : decode cX5_has 0 = .ok (.iload_n 2, 1) := by decide +kernel
theorem dX5_has_1 : decode cX5_has 1 = .ok (.ifCond .lt 17, 3) := by decide +kernel
theorem dX5_has_18 : decode cX5_has 18 = .ok (.iconst 0, 1) := by decide +kernel
theorem dX5_has_19 : decode cX5_has 19 = .ok (.ireturn, 1) := by decide +kernel
theorem dX5_has_4 : decode cX5_has 4 = .ok (.iload_n 2, 1) := by decide +kernel
theorem dX5_has_5 : decode cX5_has 5 = .ok (.aload_n 0, 1) := by decide +kernel
theorem dX5_has_6 : decode cX5_has 6 = .ok (.getfield 9, 3) := by decide +kernel
theorem dX5_has_9 : decode cX5_has 9 = .ok (.iload_n 1, 1) := by decide +kernel
theorem dX5_has_10 : decode cX5_has 10 = .ok (.iaload, 1) := by decide +kernel
theorem dX5_has_11 : decode cX5_has 11 = .ok (.if_icmp .ge 7, 3) := by decide +kernel
theorem dX8_canWalkIn_0 : decode cX8_canWalkIn 0 = .ok (.aload_n 0, 1) := by decide +kernel
theorem dX8_canWalkIn_1 : decode cX8_canWalkIn 1 = .ok (.getfield 60, 3) := by decide +kernel
theorem dX8_canWalkIn_4 : decode cX8_canWalkIn 4 = .ok (.iconst 1, 1) := by decide +kernel
theorem dX8_canWalkIn_5 : decode cX8_canWalkIn 5 = .ok (.iload_n 1, 1) := by decide +kernel
theorem dX8_canWalkIn_6 : decode cX8_canWalkIn 6 = .ok (.invokevirtual 104, 3) := by decide +kernel
theorem dX8_canWalkIn_9 : decode cX8_canWalkIn 9 = .ok (.ifCond .eq 19, 3) := by decide +kernel
theorem dX8_canWalkIn_28 : decode cX8_canWalkIn 28 = .ok (.iconst 0, 1) := by decide +kernel
theorem dX8_canWalkIn_29 : decode cX8_canWalkIn 29 = .ok (.ireturn, 1) := by decide +kernel
theorem dX8_canTry_0 : decode cX8_canTry 0 = .ok (.aload_n 0, 1) := by decide +kernel
theorem dX8_canTry_1 : decode cX8_canTry 1 = .ok (.getfield 60, 3) := by decide +kernel
theorem dX8_canTry_4 : decode cX8_canTry 4 = .ok (.iconst 0, 1) := by decide +kernel
theorem dX8_canTry_5 : decode cX8_canTry 5 = .ok (.iload_n 1, 1) := by decide +kernel
theorem dX8_canTry_6 : decode cX8_canTry 6 = .ok (.invokevirtual 104, 3) := by decide +kernel
theorem dX8_canTry_9 : decode cX8_canTry 9 = .ok (.ifCond .eq 16, 3) := by decide +kernel
theorem dX8_canTry_25 : decode cX8_canTry 25 = .ok (.iconst 0, 1) := by decide +kernel
theorem dX8_canTry_26 : decode cX8_canTry 26 = .ok (.ireturn, 1) := by decide +kernel
theorem dX8_knot_0 : decode cX8_knot 0 = .ok (.aload_n 0, 1) := by decide +kernel
theorem dX8_knot_1 : decode cX8_knot 1 = .ok (.getfield 60, 3) := by decide +kernel
theorem dX8_knot_4 : decode cX8_knot 4 = .ok (.iconst 0, 1) := by decide +kernel
theorem dX8_knot_5 : decode cX8_knot 5 = .ok (.iload_n 1, 1) := by decide +kernel
theorem dX8_knot_6 : decode cX8_knot 6 = .ok (.invokevirtual 104, 3) := by decide +kernel
theorem dX8_knot_9 : decode cX8_knot 9 = .ok (.ifCond .ne 5, 3) := by decide +kernel
theorem dX8_knot_12 : decode cX8_knot 12 = .ok (.iconst (-1), 1) := by decide +kernel
theorem dX8_knot_13 : decode cX8_knot 13 = .ok (.ireturn, 1) := by decide +kernel
theorem dX8_tie_0 : decode cX8_tie 0 = .ok (.aload_n 0, 1) := by decide +kernel
theorem dX8_tie_1 : decode cX8_tie 1 = .ok (.getfield 60, 3) := by decide +kernel
theorem dX8_tie_4 : decode cX8_tie 4 = .ok (.iconst 0, 1) := by decide +kernel
theorem dX8_tie_5 : decode cX8_tie 5 = .ok (.iload_n 1, 1) := by decide +kernel
theorem dX8_tie_6 : decode cX8_tie 6 = .ok (.invokevirtual 104, 3) := by decide +kernel
theorem dX8_tie_9 : decode cX8_tie 9 = .ok (.ifCond .eq 15, 3) := by decide +kernel
theorem dX8_tie_24 : decode cX8_tie 24 = .ok (.iconst (-1), 1) := by decide +kernel
theorem dX8_tie_25 : decode cX8_tie 25 = .ok (.ireturn, 1) := by decide +kernel
theorem dX8_walk_0 : decode cX8_walk 0 = .ok (.aload_n 0, 1) := by decide +kernel
theorem dX8_walk_1 : decode cX8_walk 1 = .ok (.getfield 68, 3) := by decide +kernel
theorem dX8_walk_4 : decode cX8_walk 4 = .ok (.ifCond .eq 26, 3) := by decide +kernel
theorem dX8_walk_30 : decode cX8_walk 30 = .ok (.iconst (-1), 1) := by decide +kernel
theorem dX8_walk_31 : decode cX8_walk 31 = .ok (.ireturn, 1) := by decide +kernel
theorem dX8_pull_0 : decode cX8_pull 0 = .ok (.aload_n 0, 1) := by decide +kernel
theorem dX8_pull_1 : decode cX8_pull 1 = .ok (.getfield 68, 3) := by decide +kernel
theorem dX8_pull_4 : decode cX8_pull 4 = .ok (.ifCond .eq 24, 3) := by decide +kernel
theorem dX8_pull_28 : decode cX8_pull 28 = .ok (.iconst (-1), 1) := by decide +kernel
theorem dX8_pull_29 : decode cX8_pull 29 = .ok (.ireturn, 1) := by decide +kernel
theorem dX8_bow_0 : decode cX8_bow 0 = .ok (.aload_n 0, 1) := by decide +kernel
theorem dX8_bow_1 : decode cX8_bow 1 = .ok (.getfield 68, 3) := by decide +kernel
theorem dX8_bow_4 : decode cX8_bow 4 = .ok (.ifCond .ne 5, 3) := by decide +kernel
theorem dX8_bow_7 : decode cX8_bow 7 = .ok (.iconst (-1), 1) := by decide +kernel
theorem dX8_bow_8 : decode cX8_bow 8 = .ok (.ireturn, 1) := by decide +kernel
theorem dX8_image_0 : decode cX8_image 0 = .ok (.aload_n 0, 1) := by decide +kernel
theorem dX8_image_1 : decode cX8_image 1 = .ok (.getfield 68, 3) := by decide +kernel
theorem dX8_image_4 : decode cX8_image 4 = .ok (.ifCond .eq 12, 3) := by decide +kernel
theorem dX8_image_16 : decode cX8_image 16 = .ok (.iconst (-1), 1) := by decide +kernel
theorem dX8_image_17 : decode cX8_image 17 = .ok (.ireturn, 1) := by decide +kernel
theorem dX8_holds_0 : decode cX8_holds 0 = .ok (.aload_n 0, 1) := by decide +kernel
theorem dX8_holds_1 : decode cX8_holds 1 = .ok (.iload_n 1, 1) := by decide +kernel
theorem dX8_holds_2 : decode cX8_holds 2 = .ok (.iload_n 2, 1) := by decide +kernel
theorem dX8_holds_3 : decode cX8_holds 3 = .ok (.iload_n 3, 1) := by decide +kernel
theorem dX8_holds_4 : decode cX8_holds 4 = .ok (.invokevirtual 208, 3) := by decide +kernel
theorem dX8_holds_7 : decode cX8_holds 7 = .ok (.ifCond .eq 21, 3) := by decide +kernel
theorem dX8_holds_28 : decode cX8_holds 28 = .ok (.iconst (-1), 1) := by decide +kernel
theorem dX8_holds_29 : decode cX8_holds 29 = .ok (.ireturn, 1) := by decide +kernel
theorem dX8_begins_0 : decode cX8_begins 0 = .ok (.aload_n 0, 1) := by decide +kernel
theorem dX8_begins_1 : decode cX8_begins 1 = .ok (.iload_n 1, 1) := by decide +kernel
theorem dX8_begins_2 : decode cX8_begins 2 = .ok (.iload_n 2, 1) := by decide +kernel
theorem dX8_begins_3 : decode cX8_begins 3 = .ok (.iload_n 3, 1) := by decide +kernel
theorem dX8_begins_4 : decode cX8_begins 4 = .ok (.invokevirtual 208, 3) := by decide +kernel
theorem dX8_begins_7 : decode cX8_begins 7 = .ok (.ifCond .ne 5, 3) := by decide +kernel
theorem dX8_begins_10 : decode cX8_begins 10 = .ok (.iconst (-1), 1) := by decide +kernel
theorem dX8_begins_11 : decode cX8_begins 11 = .ok (.ireturn, 1) := by decide +kernel
theorem dX8_alone_0 : decode cX8_alone 0 = .ok (.aload_n 0, 1) := by decide +kernel
theorem dX8_alone_1 : decode cX8_alone 1 = .ok (.iload_n 1, 1) := by decide +kernel
theorem dX8_alone_2 : decode cX8_alone 2 = .ok (.iload_n 2, 1) := by decide +kernel
theorem dX8_alone_3 : decode cX8_alone 3 = .ok (.iload_n 3, 1) := by decide +kernel
theorem dX8_alone_4 : decode cX8_alone 4 = .ok (.invokevirtual 208, 3) := by decide +kernel
theorem dX8_alone_7 : decode cX8_alone 7 = .ok (.ifCond .eq 13, 3) := by decide +kernel
theorem dX8_alone_20 : decode cX8_alone 20 = .ok (.iconst (-1), 1) := by decide +kernel
theorem dX8_alone_21 : decode cX8_alone 21 = .ok (.ireturn, 1) := by decide +kernel
theorem dX8_undone_0 : decode cX8_undone 0 = .ok (.aload_n 0, 1) := by decide +kernel
theorem dX8_undone_1 : decode cX8_undone 1 = .ok (.getfield 60, 3) := by decide +kernel
theorem dX8_undone_4 : decode cX8_undone 4 = .ok (.iconst 0, 1) := by decide +kernel
theorem dX8_undone_5 : decode cX8_undone 5 = .ok (.iload_n 1, 1) := by decide +kernel
theorem dX8_undone_6 : decode cX8_undone 6 = .ok (.invokevirtual 104, 3) := by decide +kernel
theorem dX8_undone_9 : decode cX8_undone 9 = .ok (.ifCond .eq 15, 3) := by decide +kernel
theorem dX8_undone_24 : decode cX8_undone 24 = .ok (.iconst (-1), 1) := by decide +kernel
theorem dX8_undone_25 : decode cX8_undone 25 = .ok (.ireturn, 1) := by decide +kernel
theorem dX8_met_0 : decode cX8_met 0 = .ok (.aload_n 0, 1) := by decide +kernel
theorem dX8_met_1 : decode cX8_met 1 = .ok (.getfield 60, 3) := by decide +kernel
theorem dX8_met_4 : decode cX8_met 4 = .ok (.iconst 4, 1) := by decide +kernel
theorem dX8_met_5 : decode cX8_met 5 = .ok (.iload_n 1, 1) := by decide +kernel
theorem dX8_met_6 : decode cX8_met 6 = .ok (.invokevirtual 104, 3) := by decide +kernel
theorem dX8_met_9 : decode cX8_met 9 = .ok (.ifCond .eq 14, 3) := by decide +kernel
theorem dX8_met_23 : decode cX8_met 23 = .ok (.iconst (-1), 1) := by decide +kernel
theorem dX8_met_24 : decode cX8_met 24 = .ok (.ireturn, 1) := by decide +kernel
theorem dX8_meets_0 : decode cX8_meets 0 = .ok (.aload_n 0, 1) := by decide +kernel
theorem dX8_meets_1 : decode cX8_meets 1 = .ok (.getfield 60, 3) := by decide +kernel
theorem dX8_meets_4 : decode cX8_meets 4 = .ok (.iconst 4, 1) := by decide +kernel
theorem dX8_meets_5 : decode cX8_meets 5 = .ok (.iload_n 1, 1) := by decide +kernel
theorem dX8_meets_6 : decode cX8_meets 6 = .ok (.invokevirtual 104, 3) := by decide +kernel
theorem dX8_meets_9 : decode cX8_meets 9 = .ok (.ifCond .eq 12, 3) := by decide +kernel
theorem dX8_meets_21 : decode cX8_meets 21 = .ok (.iconst (-1), 1) := by decide +kernel
theorem dX8_meets_22 : decode cX8_meets 22 = .ok (.ireturn, 1) := by decide +kernel
theorem dX8_odds_0 : decode cX8_odds 0 = .ok (.aload_n 0, 1) := by decide +kernel
theorem dX8_odds_1 : decode cX8_odds 1 = .ok (.getfield 60, 3) := by decide +kernel
theorem dX8_odds_4 : decode cX8_odds 4 = .ok (.getfield 96, 3) := by decide +kernel
theorem dX8_odds_7 : decode cX8_odds 7 = .ok (.iconst 1, 1) := by decide +kernel
theorem dX8_odds_8 : decode cX8_odds 8 = .ok (.iaload, 1) := by decide +kernel
theorem dX8_odds_9 : decode cX8_odds 9 = .ok (.aload_n 0, 1) := by decide +kernel
theorem dX8_odds_10 : decode cX8_odds 10 = .ok (.getfield 60, 3) := by decide +kernel
theorem dX8_odds_13 : decode cX8_odds 13 = .ok (.getfield 96, 3) := by decide +kernel
theorem dX8_odds_16 : decode cX8_odds 16 = .ok (.iconst 2, 1) := by decide +kernel
theorem dX8_odds_17 : decode cX8_odds 17 = .ok (.iaload, 1) := by decide +kernel
theorem dX8_odds_18 : decode cX8_odds 18 = .ok (.imul, 1) := by decide +kernel
theorem dX8_odds_19 : decode cX8_odds 19 = .ok (.istore 4, 2) := by decide +kernel
theorem dX8_odds_21 : decode cX8_odds 21 = .ok (.aload_n 0, 1) := by decide +kernel
theorem dX8_odds_22 : decode cX8_odds 22 = .ok (.getfield 60, 3) := by decide +kernel
theorem dX8_odds_25 : decode cX8_odds 25 = .ok (.iconst 0, 1) := by decide +kernel
theorem dX8_odds_26 : decode cX8_odds 26 = .ok (.iload_n 1, 1) := by decide +kernel
theorem dX8_odds_27 : decode cX8_odds 27 = .ok (.invokevirtual 104, 3) := by decide +kernel
theorem dX8_odds_30 : decode cX8_odds 30 = .ok (.ifCond .eq 28, 3) := by decide +kernel
theorem dX8_odds_58 : decode cX8_odds 58 = .ok (.iconst (-1), 1) := by decide +kernel
theorem dX8_odds_59 : decode cX8_odds 59 = .ok (.ireturn, 1) := by decide +kernel
theorem dX8_worse_0 : decode cX8_worse 0 = .ok (.aload_n 0, 1) := by decide +kernel
theorem dX8_worse_1 : decode cX8_worse 1 = .ok (.iload_n 1, 1) := by decide +kernel
theorem dX8_worse_2 : decode cX8_worse 2 = .ok (.iload_n 2, 1) := by decide +kernel
theorem dX8_worse_3 : decode cX8_worse 3 = .ok (.iload_n 3, 1) := by decide +kernel
theorem dX8_worse_4 : decode cX8_worse 4 = .ok (.invokevirtual 208, 3) := by decide +kernel
theorem dX8_worse_7 : decode cX8_worse 7 = .ok (.ifCond .eq 23, 3) := by decide +kernel
theorem dX8_worse_30 : decode cX8_worse 30 = .ok (.sipush (-10000), 3) := by decide +kernel
theorem dX8_worse_33 : decode cX8_worse 33 = .ok (.ireturn, 1) := by decide +kernel
theorem dX8_which_0 : decode cX8_which 0 = .ok (.aload_n 0, 1) := by decide +kernel
theorem dX8_which_1 : decode cX8_which 1 = .ok (.iload_n 1, 1) := by decide +kernel
theorem dX8_which_2 : decode cX8_which 2 = .ok (.iload_n 2, 1) := by decide +kernel
theorem dX8_which_3 : decode cX8_which 3 = .ok (.iload_n 3, 1) := by decide +kernel
theorem dX8_which_4 : decode cX8_which 4 = .ok (.invokevirtual 208, 3) := by decide +kernel
theorem dX8_which_7 : decode cX8_which 7 = .ok (.ifCond .ne 5, 3) := by decide +kernel
theorem dX8_which_10 : decode cX8_which 10 = .ok (.iconst (-1), 1) := by decide +kernel
theorem dX8_which_11 : decode cX8_which 11 = .ok (.ireturn, 1) := by decide +kernel
theorem dX8_best_0 : decode cX8_best 0 = .ok (.iload_n 1, 1) := by decide +kernel
theorem dX8_best_1 : decode cX8_best 1 = .ok (.iconst 1, 1) := by decide +kernel
theorem dX8_best_2 : decode cX8_best 2 = .ok (.bipush 6, 2) := by decide +kernel
theorem dX8_best_4 : decode cX8_best 4 = .ok (.invokestatic 150, 3) := by decide +kernel
theorem dX8_best_7 : decode cX8_best 7 = .ok (.ifCond .eq 12, 3) := by decide +kernel
theorem dX8_best_10 : decode cX8_best 10 = .ok (.aload_n 0, 1) := by decide +kernel
theorem dX8_best_11 : decode cX8_best 11 = .ok (.iload_n 2, 1) := by decide +kernel
theorem dX8_best_12 : decode cX8_best 12 = .ok (.iload_n 3, 1) := by decide +kernel
theorem dX8_best_13 : decode cX8_best 13 = .ok (.invokevirtual 244, 3) := by decide +kernel
theorem dX8_best_16 : decode cX8_best 16 = .ok (.ifCond .ne 5, 3) := by decide +kernel
theorem dX8_best_19 : decode cX8_best 19 = .ok (.iconst (-1), 1) := by decide +kernel
theorem dX8_best_20 : decode cX8_best 20 = .ok (.ireturn, 1) := by decide +kernel
theorem dX8_both_0 : decode cX8_both 0 = .ok (.aload_n 0, 1) := by decide +kernel
theorem dX8_both_1 : decode cX8_both 1 = .ok (.iload_n 1, 1) := by decide +kernel
theorem dX8_both_2 : decode cX8_both 2 = .ok (.iload_n 2, 1) := by decide +kernel
theorem dX8_both_3 : decode cX8_both 3 = .ok (.invokevirtual 244, 3) := by decide +kernel
theorem dX8_both_6 : decode cX8_both 6 = .ok (.ifCond .ne 5, 3) := by decide +kernel
theorem dX8_both_9 : decode cX8_both 9 = .ok (.iconst (-1), 1) := by decide +kernel
theorem dX8_both_10 : decode cX8_both 10 = .ok (.ireturn, 1) := by decide +kernel
theorem dX8_ends_0 : decode cX8_ends 0 = .ok (.aload_n 0, 1) := by decide +kernel
theorem dX8_ends_1 : decode cX8_ends 1 = .ok (.iload_n 1, 1) := by decide +kernel
theorem dX8_ends_2 : decode cX8_ends 2 = .ok (.iload_n 2, 1) := by decide +kernel
theorem dX8_ends_3 : decode cX8_ends 3 = .ok (.iload_n 3, 1) := by decide +kernel
theorem dX8_ends_4 : decode cX8_ends 4 = .ok (.invokevirtual 208, 3) := by decide +kernel
theorem dX8_ends_7 : decode cX8_ends 7 = .ok (.ifCond .eq 15, 3) := by decide +kernel
theorem dX8_ends_22 : decode cX8_ends 22 = .ok (.iconst (-1), 1) := by decide +kernel
theorem dX8_ends_23 : decode cX8_ends 23 = .ok (.ireturn, 1) := by decide +kernel
theorem dX8_change_0 : decode cX8_change 0 = .ok (.aload_n 0, 1) := by decide +kernel
theorem dX8_change_1 : decode cX8_change 1 = .ok (.iload_n 1, 1) := by decide +kernel
theorem dX8_change_2 : decode cX8_change 2 = .ok (.iload_n 2, 1) := by decide +kernel
theorem dX8_change_3 : decode cX8_change 3 = .ok (.iload_n 3, 1) := by decide +kernel
theorem dX8_change_4 : decode cX8_change 4 = .ok (.invokevirtual 208, 3) := by decide +kernel
theorem dX8_change_7 : decode cX8_change 7 = .ok (.ifCond .eq 25, 3) := by decide +kernel
theorem dX8_change_32 : decode cX8_change 32 = .ok (.iconst (-1), 1) := by decide +kernel
theorem dX8_change_33 : decode cX8_change 33 = .ok (.ireturn, 1) := by decide +kernel
theorem dX8_film_0 : decode cX8_film 0 = .ok (.aload_n 0, 1) := by decide +kernel
theorem dX8_film_1 : decode cX8_film 1 = .ok (.getfield 37, 3) := by decide +kernel
theorem dX8_film_4 : decode cX8_film 4 = .ok (.getfield 90, 3) := by decide +kernel
theorem dX8_film_7 : decode cX8_film 7 = .ok (.bipush 40, 2) := by decide +kernel
theorem dX8_film_9 : decode cX8_film 9 = .ok (.if_icmp .ge 27, 3) := by decide +kernel
theorem dX8_film_12 : decode cX8_film 12 = .ok (.aload_n 0, 1) := by decide +kernel
theorem dX8_film_13 : decode cX8_film 13 = .ok (.getfield 60, 3) := by decide +kernel
theorem dX8_film_16 : decode cX8_film 16 = .ok (.iconst 0, 1) := by decide +kernel
theorem dX8_film_17 : decode cX8_film 17 = .ok (.iload_n 1, 1) := by decide +kernel
theorem dX8_film_18 : decode cX8_film 18 = .ok (.invokevirtual 104, 3) := by decide +kernel
theorem dX8_film_21 : decode cX8_film 21 = .ok (.ifCond .eq 15, 3) := by decide +kernel
theorem dX8_film_36 : decode cX8_film 36 = .ok (.iconst (-1), 1) := by decide +kernel
theorem dX8_film_37 : decode cX8_film 37 = .ok (.ireturn, 1) := by decide +kernel
theorem dX8_untell_0 : decode cX8_untell 0 = .ok (.iload_n 1, 1) := by decide +kernel
theorem dX8_untell_1 : decode cX8_untell 1 = .ok (.iconst 0, 1) := by decide +kernel
theorem dX8_untell_2 : decode cX8_untell 2 = .ok (.aload_n 0, 1) := by decide +kernel
theorem dX8_untell_3 : decode cX8_untell 3 = .ok (.getfield 37, 3) := by decide +kernel
theorem dX8_untell_6 : decode cX8_untell 6 = .ok (.getfield 90, 3) := by decide +kernel
theorem dX8_untell_9 : decode cX8_untell 9 = .ok (.iconst 1, 1) := by decide +kernel
theorem dX8_untell_10 : decode cX8_untell 10 = .ok (.isub, 1) := by decide +kernel
theorem dX8_untell_11 : decode cX8_untell 11 = .ok (.invokestatic 150, 3) := by decide +kernel
theorem dX8_untell_14 : decode cX8_untell 14 = .ok (.ifCond .eq 15, 3) := by decide +kernel
theorem dX8_untell_29 : decode cX8_untell 29 = .ok (.iconst 0, 1) := by decide +kernel
theorem dX8_untell_30 : decode cX8_untell 30 = .ok (.ireturn, 1) := by decide +kernel
theorem dX8_began_0 : decode cX8_began 0 = .ok (.iload_n 1, 1) := by decide +kernel
theorem dX8_began_1 : decode cX8_began 1 = .ok (.iconst 0, 1) := by decide +kernel
theorem dX8_began_2 : decode cX8_began 2 = .ok (.aload_n 0, 1) := by decide +kernel
theorem dX8_began_3 : decode cX8_began 3 = .ok (.getfield 37, 3) := by decide +kernel
theorem dX8_began_6 : decode cX8_began 6 = .ok (.getfield 90, 3) := by decide +kernel
theorem dX8_began_9 : decode cX8_began 9 = .ok (.iconst 1, 1) := by decide +kernel
theorem dX8_began_10 : decode cX8_began 10 = .ok (.isub, 1) := by decide +kernel
theorem dX8_began_11 : decode cX8_began 11 = .ok (.invokestatic 150, 3) := by decide +kernel
theorem dX8_began_14 : decode cX8_began 14 = .ok (.ifCond .eq 14, 3) := by decide +kernel
theorem dX8_began_28 : decode cX8_began 28 = .ok (.iconst (-1), 1) := by decide +kernel
theorem dX8_began_29 : decode cX8_began 29 = .ok (.ireturn, 1) := by decide +kernel
theorem dX8_parts_0 : decode cX8_parts 0 = .ok (.aload_n 0, 1) := by decide +kernel
theorem dX8_parts_1 : decode cX8_parts 1 = .ok (.getfield 60, 3) := by decide +kernel
theorem dX8_parts_4 : decode cX8_parts 4 = .ok (.iconst 0, 1) := by decide +kernel
theorem dX8_parts_5 : decode cX8_parts 5 = .ok (.iload_n 1, 1) := by decide +kernel
theorem dX8_parts_6 : decode cX8_parts 6 = .ok (.invokevirtual 104, 3) := by decide +kernel
theorem dX8_parts_9 : decode cX8_parts 9 = .ok (.ifCond .eq 23, 3) := by decide +kernel
theorem dX8_parts_32 : decode cX8_parts 32 = .ok (.iconst (-1), 1) := by decide +kernel
theorem dX8_parts_33 : decode cX8_parts 33 = .ok (.ireturn, 1) := by decide +kernel
theorem dX8_seed_0 : decode cX8_seed 0 = .ok (.aload_n 0, 1) := by decide +kernel
theorem dX8_seed_1 : decode cX8_seed 1 = .ok (.getfield 72, 3) := by decide +kernel
theorem dX8_seed_4 : decode cX8_seed 4 = .ok (.istore_n 2, 1) := by decide +kernel
theorem dX8_seed_5 : decode cX8_seed 5 = .ok (.aload_n 0, 1) := by decide +kernel
theorem dX8_seed_6 : decode cX8_seed 6 = .ok (.iload_n 1, 1) := by decide +kernel
theorem dX8_seed_7 : decode cX8_seed 7 = .ok (.putfield 72, 3) := by decide +kernel
theorem dX8_seed_10 : decode cX8_seed 10 = .ok (.iload_n 2, 1) := by decide +kernel
theorem dX8_seed_11 : decode cX8_seed 11 = .ok (.ireturn, 1) := by decide +kernel
theorem dX8_end_0 : decode cX8_end 0 = .ok (.iload_n 1, 1) := by decide +kernel
theorem dX8_end_1 : decode cX8_end 1 = .ok (.ifCond .lt 11, 3) := by decide +kernel
theorem dX8_end_12 : decode cX8_end 12 = .ok (.iconst (-1), 1) := by decide +kernel
theorem dX8_end_13 : decode cX8_end 13 = .ok (.ireturn, 1) := by decide +kernel
theorem dX8_end_4 : decode cX8_end 4 = .ok (.iload_n 1, 1) := by decide +kernel
theorem dX8_end_5 : decode cX8_end 5 = .ok (.aload_n 0, 1) := by decide +kernel
theorem dX8_end_6 : decode cX8_end 6 = .ok (.getfield 64, 3) := by decide +kernel
theorem dX8_end_9 : decode cX8_end 9 = .ok (.if_icmp .le 5, 3) := by decide +kernel
theorem dX8_end_14 : decode cX8_end 14 = .ok (.aload_n 0, 1) := by decide +kernel
theorem dX8_end_15 : decode cX8_end 15 = .ok (.iload_n 1, 1) := by decide +kernel
theorem dX8_end_16 : decode cX8_end 16 = .ok (.putfield 64, 3) := by decide +kernel
theorem dX8_end_19 : decode cX8_end 19 = .ok (.iload_n 1, 1) := by decide +kernel
theorem dX8_end_20 : decode cX8_end 20 = .ok (.ireturn, 1) := by decide +kernel
theorem dX8_later_0 : decode cX8_later 0 = .ok (.iload_n 1, 1) := by decide +kernel
theorem dX8_later_1 : decode cX8_later 1 = .ok (.iconst 0, 1) := by decide +kernel
theorem dX8_later_2 : decode cX8_later 2 = .ok (.sipush 1000, 3) := by decide +kernel
theorem dX8_later_5 : decode cX8_later 5 = .ok (.invokestatic 150, 3) := by decide +kernel
theorem dX8_later_8 : decode cX8_later 8 = .ok (.ifCond .eq 14, 3) := by decide +kernel
theorem dX8_later_11 : decode cX8_later 11 = .ok (.aload_n 0, 1) := by decide +kernel
theorem dX8_later_12 : decode cX8_later 12 = .ok (.getfield 75, 3) := by decide +kernel
theorem dX8_later_15 : decode cX8_later 15 = .ok (.iload_n 1, 1) := by decide +kernel
theorem dX8_later_16 : decode cX8_later 16 = .ok (.iadd, 1) := by decide +kernel
theorem dX8_later_17 : decode cX8_later 17 = .ok (.ldc 157, 2) := by decide +kernel
theorem dX8_later_19 : decode cX8_later 19 = .ok (.if_icmp .le 5, 3) := by decide +kernel
theorem dX8_later_24 : decode cX8_later 24 = .ok (.aload_n 0, 1) := by decide +kernel
theorem dX8_later_25 : decode cX8_later 25 = .ok (.dup, 1) := by decide +kernel
theorem dX8_later_26 : decode cX8_later 26 = .ok (.getfield 75, 3) := by decide +kernel
theorem dX8_later_29 : decode cX8_later 29 = .ok (.iload_n 1, 1) := by decide +kernel
theorem dX8_later_30 : decode cX8_later 30 = .ok (.iadd, 1) := by decide +kernel
theorem dX8_later_31 : decode cX8_later 31 = .ok (.putfield 75, 3) := by decide +kernel
theorem dX8_later_34 : decode cX8_later 34 = .ok (.aload_n 0, 1) := by decide +kernel
theorem dX8_later_35 : decode cX8_later 35 = .ok (.getfield 75, 3) := by decide +kernel
theorem dX8_later_38 : decode cX8_later 38 = .ok (.ireturn, 1) := by decide +kernel
theorem dX8_later_22 : decode cX8_later 22 = .ok (.iconst (-1), 1) := by decide +kernel
theorem dX8_later_23 : decode cX8_later 23 = .ok (.ireturn, 1) := by decide +kernel
theorem dX8_fault_0 : decode cX8_fault 0 = .ok (.iload_n 1, 1) := by decide +kernel
theorem dX8_fault_1 : decode cX8_fault 1 = .ok (.ifCond .ne 11, 3) := by decide +kernel
theorem dX8_fault_12 : decode cX8_fault 12 = .ok (.iload_n 1, 1) := by decide +kernel
theorem dX8_fault_13 : decode cX8_fault 13 = .ok (.iconst 1, 1) := by decide +kernel
theorem dX8_fault_14 : decode cX8_fault 14 = .ok (.if_icmp .ne 13, 3) := by decide +kernel
theorem dX8_fault_27 : decode cX8_fault 27 = .ok (.iconst (-1), 1) := by decide +kernel
theorem dX8_fault_28 : decode cX8_fault 28 = .ok (.ireturn, 1) := by decide +kernel
theorem dX8_fault_17 : decode cX8_fault 17 = .ok (.aload_n 0, 1) := by decide +kernel
theorem dX8_fault_18 : decode cX8_fault 18 = .ok (.getfield 16, 3) := by decide +kernel
theorem dX8_fault_21 : decode cX8_fault 21 = .ok (.getfield 101, 3) := by decide +kernel
theorem dX8_fault_24 : decode cX8_fault 24 = .ok (.goto 4, 3) := by decide +kernel
theorem dX8_fault_4 : decode cX8_fault 4 = .ok (.aload_n 0, 1) := by decide +kernel
theorem dX8_fault_5 : decode cX8_fault 5 = .ok (.getfield 16, 3) := by decide +kernel
theorem dX8_fault_8 : decode cX8_fault 8 = .ok (.getfield 98, 3) := by decide +kernel
theorem dX8_fault_11 : decode cX8_fault 11 = .ok (.ireturn, 1) := by decide +kernel
theorem dX8_about_0 : decode cX8_about 0 = .ok (.iload_n 1, 1) := by decide +kernel
theorem dX8_about_1 : decode cX8_about 1 = .ok (.tableswitch 99 0 9 #[55, 55, 55, 55, 55, 65, 73, 78, 83, 88], 55) := by decide +kernel
theorem dX8_about_56 : decode cX8_about 56 = .ok (.aload_n 0, 1) := by decide +kernel
theorem dX8_about_57 : decode cX8_about 57 = .ok (.getfield 60, 3) := by decide +kernel
theorem dX8_about_60 : decode cX8_about 60 = .ok (.getfield 96, 3) := by decide +kernel
theorem dX8_about_63 : decode cX8_about 63 = .ok (.iload_n 1, 1) := by decide +kernel
theorem dX8_about_64 : decode cX8_about 64 = .ok (.iaload, 1) := by decide +kernel
theorem dX8_about_65 : decode cX8_about 65 = .ok (.ireturn, 1) := by decide +kernel
theorem dX8_about_66 : decode cX8_about 66 = .ok (.aload_n 0, 1) := by decide +kernel
theorem dX8_about_67 : decode cX8_about 67 = .ok (.getfield 37, 3) := by decide +kernel
theorem dX8_about_70 : decode cX8_about 70 = .ok (.getfield 90, 3) := by decide +kernel
theorem dX8_about_73 : decode cX8_about 73 = .ok (.ireturn, 1) := by decide +kernel
theorem dX8_about_74 : decode cX8_about 74 = .ok (.aload_n 0, 1) := by decide +kernel
theorem dX8_about_75 : decode cX8_about 75 = .ok (.getfield 75, 3) := by decide +kernel
theorem dX8_about_78 : decode cX8_about 78 = .ok (.ireturn, 1) := by decide +kernel
theorem dX8_about_79 : decode cX8_about 79 = .ok (.aload_n 0, 1) := by decide +kernel
theorem dX8_about_80 : decode cX8_about 80 = .ok (.getfield 64, 3) := by decide +kernel
theorem dX8_about_83 : decode cX8_about 83 = .ok (.ireturn, 1) := by decide +kernel
theorem dX8_about_84 : decode cX8_about 84 = .ok (.aload_n 0, 1) := by decide +kernel
theorem dX8_about_85 : decode cX8_about 85 = .ok (.getfield 72, 3) := by decide +kernel
theorem dX8_about_88 : decode cX8_about 88 = .ok (.ireturn, 1) := by decide +kernel
theorem dX8_about_89 : decode cX8_about 89 = .ok (.aload_n 0, 1) := by decide +kernel
theorem dX8_about_90 : decode cX8_about 90 = .ok (.getfield 60, 3) := by decide +kernel
theorem dX8_about_93 : decode cX8_about 93 = .ok (.getfield 181, 3) := by decide +kernel
theorem dX8_about_96 : decode cX8_about 96 = .ok (.getfield 329, 3) := by decide +kernel
theorem dX8_about_99 : decode cX8_about 99 = .ok (.ireturn, 1) := by decide +kernel
theorem dX8_about_100 : decode cX8_about 100 = .ok (.iconst (-1), 1) := by decide +kernel
theorem dX8_about_101 : decode cX8_about 101 = .ok (.ireturn, 1) := by decide +kernel
theorem dX8_back_0 : decode cX8_back 0 = .ok (.iload_n 1, 1) := by decide +kernel
theorem dX8_back_1 : decode cX8_back 1 = .ok (.iconst 0, 1) := by decide +kernel
theorem dX8_back_2 : decode cX8_back 2 = .ok (.iconst 2, 1) := by decide +kernel
theorem dX8_back_3 : decode cX8_back 3 = .ok (.invokestatic 150, 3) := by decide +kernel
theorem dX8_back_6 : decode cX8_back 6 = .ok (.ifCond .eq 15, 3) := by decide +kernel
theorem dX8_back_9 : decode cX8_back 9 = .ok (.aload_n 0, 1) := by decide +kernel
theorem dX8_back_10 : decode cX8_back 10 = .ok (.getfield 43, 3) := by decide +kernel
theorem dX8_back_13 : decode cX8_back 13 = .ok (.iload_n 1, 1) := by decide +kernel
theorem dX8_back_14 : decode cX8_back 14 = .ok (.aaload, 1) := by decide +kernel
theorem dX8_back_15 : decode cX8_back 15 = .ok (.getfield 93, 3) := by decide +kernel
theorem dX8_back_18 : decode cX8_back 18 = .ok (.ifCond .ne 5, 3) := by decide +kernel
theorem dX8_back_21 : decode cX8_back 21 = .ok (.iconst (-1), 1) := by decide +kernel
theorem dX8_back_22 : decode cX8_back 22 = .ok (.ireturn, 1) := by decide +kernel
theorem dX9_isKnot_0 : decode cX9_isKnot 0 = .ok (.iload_n 1, 1) := by decide +kernel
theorem dX9_isKnot_1 : decode cX9_isKnot 1 = .ok (.iconst 0, 1) := by decide +kernel
theorem dX9_isKnot_2 : decode cX9_isKnot 2 = .ok (.aload_n 0, 1) := by decide +kernel
theorem dX9_isKnot_3 : decode cX9_isKnot 3 = .ok (.getfield 20, 3) := by decide +kernel
theorem dX9_isKnot_6 : decode cX9_isKnot 6 = .ok (.aload_n 0, 1) := by decide +kernel
theorem dX9_isKnot_7 : decode cX9_isKnot 7 = .ok (.getfield 291, 3) := by decide +kernel
theorem dX9_isKnot_10 : decode cX9_isKnot 10 = .ok (.iaload, 1) := by decide +kernel
theorem dX9_isKnot_11 : decode cX9_isKnot 11 = .ok (.iconst 1, 1) := by decide +kernel
theorem dX9_isKnot_12 : decode cX9_isKnot 12 = .ok (.isub, 1) := by decide +kernel
theorem dX9_isKnot_13 : decode cX9_isKnot 13 = .ok (.invokestatic 389, 3) := by decide +kernel
theorem dX9_isKnot_16 : decode cX9_isKnot 16 = .ok (.ireturn, 1) := by decide +kernel
theorem dX9_isCord_0 : decode cX9_isCord 0 = .ok (.iload_n 1, 1) := by decide +kernel
theorem dX9_isCord_1 : decode cX9_isCord 1 = .ok (.iconst 0, 1) := by decide +kernel
theorem dX9_isCord_2 : decode cX9_isCord 2 = .ok (.aload_n 0, 1) := by decide +kernel
theorem dX9_isCord_3 : decode cX9_isCord 3 = .ok (.getfield 24, 3) := by decide +kernel
theorem dX9_isCord_6 : decode cX9_isCord 6 = .ok (.aload_n 0, 1) := by decide +kernel
theorem dX9_isCord_7 : decode cX9_isCord 7 = .ok (.getfield 291, 3) := by decide +kernel
theorem dX9_isCord_10 : decode cX9_isCord 10 = .ok (.iaload, 1) := by decide +kernel
theorem dX9_isCord_11 : decode cX9_isCord 11 = .ok (.iconst 1, 1) := by decide +kernel
theorem dX9_isCord_12 : decode cX9_isCord 12 = .ok (.isub, 1) := by decide +kernel
theorem dX9_isCord_13 : decode cX9_isCord 13 = .ok (.invokestatic 389, 3) := by decide +kernel
theorem dX9_isCord_16 : decode cX9_isCord 16 = .ok (.ireturn, 1) := by decide +kernel
theorem dX9_isWalk_0 : decode cX9_isWalk 0 = .ok (.iload_n 1, 1) := by decide +kernel
theorem dX9_isWalk_1 : decode cX9_isWalk 1 = .ok (.iconst 0, 1) := by decide +kernel
theorem dX9_isWalk_2 : decode cX9_isWalk 2 = .ok (.aload_n 0, 1) := by decide +kernel
theorem dX9_isWalk_3 : decode cX9_isWalk 3 = .ok (.getfield 27, 3) := by decide +kernel
theorem dX9_isWalk_6 : decode cX9_isWalk 6 = .ok (.aload_n 0, 1) := by decide +kernel
theorem dX9_isWalk_7 : decode cX9_isWalk 7 = .ok (.getfield 291, 3) := by decide +kernel
theorem dX9_isWalk_10 : decode cX9_isWalk 10 = .ok (.iaload, 1) := by decide +kernel
theorem dX9_isWalk_11 : decode cX9_isWalk 11 = .ok (.iconst 1, 1) := by decide +kernel
theorem dX9_isWalk_12 : decode cX9_isWalk 12 = .ok (.isub, 1) := by decide +kernel
theorem dX9_isWalk_13 : decode cX9_isWalk 13 = .ok (.invokestatic 389, 3) := by decide +kernel
theorem dX9_isWalk_16 : decode cX9_isWalk 16 = .ok (.ireturn, 1) := by decide +kernel
theorem dX9_isWant_0 : decode cX9_isWant 0 = .ok (.iload_n 1, 1) := by decide +kernel
theorem dX9_isWant_1 : decode cX9_isWant 1 = .ok (.iconst 0, 1) := by decide +kernel
theorem dX9_isWant_2 : decode cX9_isWant 2 = .ok (.aload_n 0, 1) := by decide +kernel
theorem dX9_isWant_3 : decode cX9_isWant 3 = .ok (.getfield 33, 3) := by decide +kernel
theorem dX9_isWant_6 : decode cX9_isWant 6 = .ok (.aload_n 0, 1) := by decide +kernel
theorem dX9_isWant_7 : decode cX9_isWant 7 = .ok (.getfield 291, 3) := by decide +kernel
theorem dX9_isWant_10 : decode cX9_isWant 10 = .ok (.iaload, 1) := by decide +kernel
theorem dX9_isWant_11 : decode cX9_isWant 11 = .ok (.iconst 1, 1) := by decide +kernel
theorem dX9_isWant_12 : decode cX9_isWant 12 = .ok (.isub, 1) := by decide +kernel
theorem dX9_isWant_13 : decode cX9_isWant 13 = .ok (.invokestatic 389, 3) := by decide +kernel
theorem dX9_isWant_16 : decode cX9_isWant 16 = .ok (.ireturn, 1) := by decide +kernel
theorem dX9_isAll_0 : decode cX9_isAll 0 = .ok (.aload_n 0, 1) := by decide +kernel
theorem dX9_isAll_1 : decode cX9_isAll 1 = .ok (.iload_n 1, 1) := by decide +kernel
theorem dX9_isAll_2 : decode cX9_isAll 2 = .ok (.invokevirtual 431, 3) := by decide +kernel
theorem dX9_isAll_5 : decode cX9_isAll 5 = .ok (.ifCond .eq 23, 3) := by decide +kernel
theorem dX9_isAll_28 : decode cX9_isAll 28 = .ok (.iconst 0, 1) := by decide +kernel
theorem dX9_isAll_29 : decode cX9_isAll 29 = .ok (.ireturn, 1) := by decide +kernel
theorem dX9_knot_0 : decode cX9_knot 0 = .ok (.aload_n 0, 1) := by decide +kernel
theorem dX9_knot_1 : decode cX9_knot 1 = .ok (.iload_n 1, 1) := by decide +kernel
theorem dX9_knot_2 : decode cX9_knot 2 = .ok (.invokevirtual 431, 3) := by decide +kernel
theorem dX9_knot_5 : decode cX9_knot 5 = .ok (.ifCond .ne 5, 3) := by decide +kernel
theorem dX9_knot_8 : decode cX9_knot 8 = .ok (.iconst (-1), 1) := by decide +kernel
theorem dX9_knot_9 : decode cX9_knot 9 = .ok (.ireturn, 1) := by decide +kernel
theorem dX9_tie_0 : decode cX9_tie 0 = .ok (.aload_n 0, 1) := by decide +kernel
theorem dX9_tie_1 : decode cX9_tie 1 = .ok (.iload_n 1, 1) := by decide +kernel
theorem dX9_tie_2 : decode cX9_tie 2 = .ok (.invokevirtual 431, 3) := by decide +kernel
theorem dX9_tie_5 : decode cX9_tie 5 = .ok (.ifCond .eq 11, 3) := by decide +kernel
theorem dX9_tie_16 : decode cX9_tie 16 = .ok (.iconst (-1), 1) := by decide +kernel
theorem dX9_tie_17 : decode cX9_tie 17 = .ok (.ireturn, 1) := by decide +kernel
theorem dX9_walk_0 : decode cX9_walk 0 = .ok (.aload_n 0, 1) := by decide +kernel
theorem dX9_walk_1 : decode cX9_walk 1 = .ok (.getfield 297, 3) := by decide +kernel
theorem dX9_walk_4 : decode cX9_walk 4 = .ok (.ifCond .eq 34, 3) := by decide +kernel
theorem dX9_walk_38 : decode cX9_walk 38 = .ok (.iconst (-1), 1) := by decide +kernel
theorem dX9_walk_39 : decode cX9_walk 39 = .ok (.ireturn, 1) := by decide +kernel
theorem dX9_pull_0 : decode cX9_pull 0 = .ok (.aload_n 0, 1) := by decide +kernel
theorem dX9_pull_1 : decode cX9_pull 1 = .ok (.getfield 297, 3) := by decide +kernel
theorem dX9_pull_4 : decode cX9_pull 4 = .ok (.ifCond .eq 21, 3) := by decide +kernel
theorem dX9_pull_25 : decode cX9_pull 25 = .ok (.iconst (-1), 1) := by decide +kernel
theorem dX9_pull_26 : decode cX9_pull 26 = .ok (.ireturn, 1) := by decide +kernel
theorem dX9_bow_0 : decode cX9_bow 0 = .ok (.aload_n 0, 1) := by decide +kernel
theorem dX9_bow_1 : decode cX9_bow 1 = .ok (.getfield 297, 3) := by decide +kernel
theorem dX9_bow_4 : decode cX9_bow 4 = .ok (.ifCond .ne 5, 3) := by decide +kernel
theorem dX9_bow_7 : decode cX9_bow 7 = .ok (.iconst (-1), 1) := by decide +kernel
theorem dX9_bow_8 : decode cX9_bow 8 = .ok (.ireturn, 1) := by decide +kernel
theorem dX9_image_0 : decode cX9_image 0 = .ok (.iload_n 1, 1) := by decide +kernel
theorem dX9_image_1 : decode cX9_image 1 = .ok (.iconst 0, 1) := by decide +kernel
theorem dX9_image_2 : decode cX9_image 2 = .ok (.iconst 2, 1) := by decide +kernel
theorem dX9_image_3 : decode cX9_image 3 = .ok (.invokestatic 389, 3) := by decide +kernel
theorem dX9_image_6 : decode cX9_image 6 = .ok (.ifCond .eq 10, 3) := by decide +kernel
theorem dX9_image_9 : decode cX9_image 9 = .ok (.aload_n 0, 1) := by decide +kernel
theorem dX9_image_10 : decode cX9_image 10 = .ok (.getfield 297, 3) := by decide +kernel
theorem dX9_image_13 : decode cX9_image 13 = .ok (.ifCond .ne 5, 3) := by decide +kernel
theorem dX9_image_16 : decode cX9_image 16 = .ok (.iconst (-1), 1) := by decide +kernel
theorem dX9_image_17 : decode cX9_image 17 = .ok (.ireturn, 1) := by decide +kernel
theorem dX9_holds_0 : decode cX9_holds 0 = .ok (.aload_n 0, 1) := by decide +kernel
theorem dX9_holds_1 : decode cX9_holds 1 = .ok (.iload_n 1, 1) := by decide +kernel
theorem dX9_holds_2 : decode cX9_holds 2 = .ok (.iload_n 2, 1) := by decide +kernel
theorem dX9_holds_3 : decode cX9_holds 3 = .ok (.iload_n 3, 1) := by decide +kernel
theorem dX9_holds_4 : decode cX9_holds 4 = .ok (.invokevirtual 485, 3) := by decide +kernel
theorem dX9_holds_7 : decode cX9_holds 7 = .ok (.ifCond .eq 24, 3) := by decide +kernel
theorem dX9_holds_31 : decode cX9_holds 31 = .ok (.iconst (-1), 1) := by decide +kernel
theorem dX9_holds_32 : decode cX9_holds 32 = .ok (.ireturn, 1) := by decide +kernel
theorem dX9_begins_0 : decode cX9_begins 0 = .ok (.aload_n 0, 1) := by decide +kernel
theorem dX9_begins_1 : decode cX9_begins 1 = .ok (.iload_n 1, 1) := by decide +kernel
theorem dX9_begins_2 : decode cX9_begins 2 = .ok (.iload_n 2, 1) := by decide +kernel
theorem dX9_begins_3 : decode cX9_begins 3 = .ok (.iload_n 3, 1) := by decide +kernel
theorem dX9_begins_4 : decode cX9_begins 4 = .ok (.invokevirtual 485, 3) := by decide +kernel
theorem dX9_begins_7 : decode cX9_begins 7 = .ok (.ifCond .ne 5, 3) := by decide +kernel
theorem dX9_begins_10 : decode cX9_begins 10 = .ok (.iconst (-1), 1) := by decide +kernel
theorem dX9_begins_11 : decode cX9_begins 11 = .ok (.ireturn, 1) := by decide +kernel
theorem dX9_alone_0 : decode cX9_alone 0 = .ok (.aload_n 0, 1) := by decide +kernel
theorem dX9_alone_1 : decode cX9_alone 1 = .ok (.iload_n 1, 1) := by decide +kernel
theorem dX9_alone_2 : decode cX9_alone 2 = .ok (.iload_n 2, 1) := by decide +kernel
theorem dX9_alone_3 : decode cX9_alone 3 = .ok (.iload_n 3, 1) := by decide +kernel
theorem dX9_alone_4 : decode cX9_alone 4 = .ok (.invokevirtual 485, 3) := by decide +kernel
theorem dX9_alone_7 : decode cX9_alone 7 = .ok (.ifCond .eq 13, 3) := by decide +kernel
theorem dX9_alone_20 : decode cX9_alone 20 = .ok (.iconst (-1), 1) := by decide +kernel
theorem dX9_alone_21 : decode cX9_alone 21 = .ok (.ireturn, 1) := by decide +kernel
theorem dX9_undone_0 : decode cX9_undone 0 = .ok (.aload_n 0, 1) := by decide +kernel
theorem dX9_undone_1 : decode cX9_undone 1 = .ok (.iload_n 1, 1) := by decide +kernel
theorem dX9_undone_2 : decode cX9_undone 2 = .ok (.invokevirtual 431, 3) := by decide +kernel
theorem dX9_undone_5 : decode cX9_undone 5 = .ok (.ifCond .eq 20, 3) := by decide +kernel
theorem dX9_undone_25 : decode cX9_undone 25 = .ok (.iconst (-1), 1) := by decide +kernel
theorem dX9_undone_26 : decode cX9_undone 26 = .ok (.ireturn, 1) := by decide +kernel
theorem dX9_met_0 : decode cX9_met 0 = .ok (.aload_n 0, 1) := by decide +kernel
theorem dX9_met_1 : decode cX9_met 1 = .ok (.iload_n 1, 1) := by decide +kernel
theorem dX9_met_2 : decode cX9_met 2 = .ok (.invokevirtual 501, 3) := by decide +kernel
theorem dX9_met_5 : decode cX9_met 5 = .ok (.ifCond .eq 14, 3) := by decide +kernel
theorem dX9_met_19 : decode cX9_met 19 = .ok (.iconst (-1), 1) := by decide +kernel
theorem dX9_met_20 : decode cX9_met 20 = .ok (.goto 20, 3) := by decide +kernel
theorem dX9_met_40 : decode cX9_met 40 = .ok (.ireturn, 1) := by decide +kernel
theorem dX9_meets_0 : decode cX9_meets 0 = .ok (.aload_n 0, 1) := by decide +kernel
theorem dX9_meets_1 : decode cX9_meets 1 = .ok (.iload_n 1, 1) := by decide +kernel
theorem dX9_meets_2 : decode cX9_meets 2 = .ok (.invokevirtual 501, 3) := by decide +kernel
theorem dX9_meets_5 : decode cX9_meets 5 = .ok (.ifCond .eq 19, 3) := by decide +kernel
theorem dX9_meets_24 : decode cX9_meets 24 = .ok (.iconst (-1), 1) := by decide +kernel
theorem dX9_meets_25 : decode cX9_meets 25 = .ok (.ireturn, 1) := by decide +kernel
theorem dX9_odds_0 : decode cX9_odds 0 = .ok (.aload_n 0, 1) := by decide +kernel
theorem dX9_odds_1 : decode cX9_odds 1 = .ok (.iload_n 1, 1) := by decide +kernel
theorem dX9_odds_2 : decode cX9_odds 2 = .ok (.invokevirtual 431, 3) := by decide +kernel
theorem dX9_odds_5 : decode cX9_odds 5 = .ok (.ifCond .eq 45, 3) := by decide +kernel
theorem dX9_odds_50 : decode cX9_odds 50 = .ok (.iconst (-1), 1) := by decide +kernel
theorem dX9_odds_51 : decode cX9_odds 51 = .ok (.ireturn, 1) := by decide +kernel
theorem dX9_worse_0 : decode cX9_worse 0 = .ok (.aload_n 0, 1) := by decide +kernel
theorem dX9_worse_1 : decode cX9_worse 1 = .ok (.iload_n 1, 1) := by decide +kernel
theorem dX9_worse_2 : decode cX9_worse 2 = .ok (.iload_n 2, 1) := by decide +kernel
theorem dX9_worse_3 : decode cX9_worse 3 = .ok (.iload_n 3, 1) := by decide +kernel
theorem dX9_worse_4 : decode cX9_worse 4 = .ok (.invokevirtual 485, 3) := by decide +kernel
theorem dX9_worse_7 : decode cX9_worse 7 = .ok (.ifCond .eq 40, 3) := by decide +kernel
theorem dX9_worse_47 : decode cX9_worse 47 = .ok (.sipush (-10000), 3) := by decide +kernel
theorem dX9_worse_50 : decode cX9_worse 50 = .ok (.ireturn, 1) := by decide +kernel
theorem dX9_which_0 : decode cX9_which 0 = .ok (.aload_n 0, 1) := by decide +kernel
theorem dX9_which_1 : decode cX9_which 1 = .ok (.iload_n 1, 1) := by decide +kernel
theorem dX9_which_2 : decode cX9_which 2 = .ok (.iload_n 2, 1) := by decide +kernel
theorem dX9_which_3 : decode cX9_which 3 = .ok (.iload_n 3, 1) := by decide +kernel
theorem dX9_which_4 : decode cX9_which 4 = .ok (.invokevirtual 485, 3) := by decide +kernel
theorem dX9_which_7 : decode cX9_which 7 = .ok (.ifCond .ne 5, 3) := by decide +kernel
theorem dX9_which_10 : decode cX9_which 10 = .ok (.iconst (-1), 1) := by decide +kernel
theorem dX9_which_11 : decode cX9_which 11 = .ok (.ireturn, 1) := by decide +kernel
theorem dX9_best_0 : decode cX9_best 0 = .ok (.iload_n 1, 1) := by decide +kernel
theorem dX9_best_1 : decode cX9_best 1 = .ok (.iconst 1, 1) := by decide +kernel
theorem dX9_best_2 : decode cX9_best 2 = .ok (.bipush 6, 2) := by decide +kernel
theorem dX9_best_4 : decode cX9_best 4 = .ok (.invokestatic 389, 3) := by decide +kernel
theorem dX9_best_7 : decode cX9_best 7 = .ok (.ifCond .eq 41, 3) := by decide +kernel
theorem dX9_best_10 : decode cX9_best 10 = .ok (.aload_n 0, 1) := by decide +kernel
theorem dX9_best_11 : decode cX9_best 11 = .ok (.iload_n 2, 1) := by decide +kernel
theorem dX9_best_12 : decode cX9_best 12 = .ok (.invokevirtual 434, 3) := by decide +kernel
theorem dX9_best_15 : decode cX9_best 15 = .ok (.ifCond .eq 33, 3) := by decide +kernel
theorem dX9_best_48 : decode cX9_best 48 = .ok (.iconst (-1), 1) := by decide +kernel
theorem dX9_best_49 : decode cX9_best 49 = .ok (.ireturn, 1) := by decide +kernel
theorem dX9_both_0 : decode cX9_both 0 = .ok (.aload_n 0, 1) := by decide +kernel
theorem dX9_both_1 : decode cX9_both 1 = .ok (.iload_n 1, 1) := by decide +kernel
theorem dX9_both_2 : decode cX9_both 2 = .ok (.invokevirtual 434, 3) := by decide +kernel
theorem dX9_both_5 : decode cX9_both 5 = .ok (.ifCond .eq 11, 3) := by decide +kernel
theorem dX9_both_16 : decode cX9_both 16 = .ok (.iconst (-1), 1) := by decide +kernel
theorem dX9_both_17 : decode cX9_both 17 = .ok (.ireturn, 1) := by decide +kernel
theorem dX9_ends_0 : decode cX9_ends 0 = .ok (.aload_n 0, 1) := by decide +kernel
theorem dX9_ends_1 : decode cX9_ends 1 = .ok (.iload_n 1, 1) := by decide +kernel
theorem dX9_ends_2 : decode cX9_ends 2 = .ok (.iload_n 2, 1) := by decide +kernel
theorem dX9_ends_3 : decode cX9_ends 3 = .ok (.iload_n 3, 1) := by decide +kernel
theorem dX9_ends_4 : decode cX9_ends 4 = .ok (.invokevirtual 485, 3) := by decide +kernel
theorem dX9_ends_7 : decode cX9_ends 7 = .ok (.ifCond .eq 15, 3) := by decide +kernel
theorem dX9_ends_22 : decode cX9_ends 22 = .ok (.iconst (-1), 1) := by decide +kernel
theorem dX9_ends_23 : decode cX9_ends 23 = .ok (.ireturn, 1) := by decide +kernel
theorem dX9_change_0 : decode cX9_change 0 = .ok (.aload_n 0, 1) := by decide +kernel
theorem dX9_change_1 : decode cX9_change 1 = .ok (.iload_n 1, 1) := by decide +kernel
theorem dX9_change_2 : decode cX9_change 2 = .ok (.iload_n 2, 1) := by decide +kernel
theorem dX9_change_3 : decode cX9_change 3 = .ok (.iload_n 3, 1) := by decide +kernel
theorem dX9_change_4 : decode cX9_change 4 = .ok (.invokevirtual 485, 3) := by decide +kernel
theorem dX9_change_7 : decode cX9_change 7 = .ok (.ifCond .eq 25, 3) := by decide +kernel
theorem dX9_change_32 : decode cX9_change 32 = .ok (.iconst (-1), 1) := by decide +kernel
theorem dX9_change_33 : decode cX9_change 33 = .ok (.ireturn, 1) := by decide +kernel
theorem dX9_film_0 : decode cX9_film 0 = .ok (.aload_n 0, 1) := by decide +kernel
theorem dX9_film_1 : decode cX9_film 1 = .ok (.iload_n 1, 1) := by decide +kernel
theorem dX9_film_2 : decode cX9_film 2 = .ok (.invokevirtual 431, 3) := by decide +kernel
theorem dX9_film_5 : decode cX9_film 5 = .ok (.ifCond .eq 55, 3) := by decide +kernel
theorem dX9_film_60 : decode cX9_film 60 = .ok (.iconst (-1), 1) := by decide +kernel
theorem dX9_film_61 : decode cX9_film 61 = .ok (.ireturn, 1) := by decide +kernel
theorem dX9_untell_0 : decode cX9_untell 0 = .ok (.iload_n 1, 1) := by decide +kernel
theorem dX9_untell_1 : decode cX9_untell 1 = .ok (.iconst 0, 1) := by decide +kernel
theorem dX9_untell_2 : decode cX9_untell 2 = .ok (.aload_n 0, 1) := by decide +kernel
theorem dX9_untell_3 : decode cX9_untell 3 = .ok (.getfield 301, 3) := by decide +kernel
theorem dX9_untell_6 : decode cX9_untell 6 = .ok (.iconst 1, 1) := by decide +kernel
theorem dX9_untell_7 : decode cX9_untell 7 = .ok (.isub, 1) := by decide +kernel
theorem dX9_untell_8 : decode cX9_untell 8 = .ok (.invokestatic 389, 3) := by decide +kernel
theorem dX9_untell_11 : decode cX9_untell 11 = .ok (.ifCond .eq 12, 3) := by decide +kernel
theorem dX9_untell_23 : decode cX9_untell 23 = .ok (.iconst 0, 1) := by decide +kernel
theorem dX9_untell_24 : decode cX9_untell 24 = .ok (.ireturn, 1) := by decide +kernel
theorem dX9_began_0 : decode cX9_began 0 = .ok (.iload_n 1, 1) := by decide +kernel
theorem dX9_began_1 : decode cX9_began 1 = .ok (.iconst 0, 1) := by decide +kernel
theorem dX9_began_2 : decode cX9_began 2 = .ok (.aload_n 0, 1) := by decide +kernel
theorem dX9_began_3 : decode cX9_began 3 = .ok (.getfield 301, 3) := by decide +kernel
theorem dX9_began_6 : decode cX9_began 6 = .ok (.iconst 1, 1) := by decide +kernel
theorem dX9_began_7 : decode cX9_began 7 = .ok (.isub, 1) := by decide +kernel
theorem dX9_began_8 : decode cX9_began 8 = .ok (.invokestatic 389, 3) := by decide +kernel
theorem dX9_began_11 : decode cX9_began 11 = .ok (.ifCond .eq 29, 3) := by decide +kernel
theorem dX9_began_40 : decode cX9_began 40 = .ok (.iconst (-1), 1) := by decide +kernel
theorem dX9_began_41 : decode cX9_began 41 = .ok (.ireturn, 1) := by decide +kernel
theorem dX9_parts_0 : decode cX9_parts 0 = .ok (.aload_n 0, 1) := by decide +kernel
theorem dX9_parts_1 : decode cX9_parts 1 = .ok (.iload_n 1, 1) := by decide +kernel
theorem dX9_parts_2 : decode cX9_parts 2 = .ok (.invokevirtual 431, 3) := by decide +kernel
theorem dX9_parts_5 : decode cX9_parts 5 = .ok (.ifCond .eq 23, 3) := by decide +kernel
theorem dX9_parts_28 : decode cX9_parts 28 = .ok (.iconst (-1), 1) := by decide +kernel
theorem dX9_parts_29 : decode cX9_parts 29 = .ok (.ireturn, 1) := by decide +kernel
theorem dX9_seed_0 : decode cX9_seed 0 = .ok (.aload_n 0, 1) := by decide +kernel
theorem dX9_seed_1 : decode cX9_seed 1 = .ok (.getfield 125, 3) := by decide +kernel
theorem dX9_seed_4 : decode cX9_seed 4 = .ok (.istore_n 2, 1) := by decide +kernel
theorem dX9_seed_5 : decode cX9_seed 5 = .ok (.aload_n 0, 1) := by decide +kernel
theorem dX9_seed_6 : decode cX9_seed 6 = .ok (.iload_n 1, 1) := by decide +kernel
theorem dX9_seed_7 : decode cX9_seed 7 = .ok (.putfield 125, 3) := by decide +kernel
theorem dX9_seed_10 : decode cX9_seed 10 = .ok (.iload_n 2, 1) := by decide +kernel
theorem dX9_seed_11 : decode cX9_seed 11 = .ok (.ireturn, 1) := by decide +kernel
theorem dX9_end_0 : decode cX9_end 0 = .ok (.iload_n 1, 1) := by decide +kernel
theorem dX9_end_1 : decode cX9_end 1 = .ok (.ifCond .lt 11, 3) := by decide +kernel
theorem dX9_end_12 : decode cX9_end 12 = .ok (.iconst (-1), 1) := by decide +kernel
theorem dX9_end_13 : decode cX9_end 13 = .ok (.ireturn, 1) := by decide +kernel
theorem dX9_end_4 : decode cX9_end 4 = .ok (.iload_n 1, 1) := by decide +kernel
theorem dX9_end_5 : decode cX9_end 5 = .ok (.aload_n 0, 1) := by decide +kernel
theorem dX9_end_6 : decode cX9_end 6 = .ok (.getfield 288, 3) := by decide +kernel
theorem dX9_end_9 : decode cX9_end 9 = .ok (.if_icmp .le 5, 3) := by decide +kernel
theorem dX9_end_14 : decode cX9_end 14 = .ok (.aload_n 0, 1) := by decide +kernel
theorem dX9_end_15 : decode cX9_end 15 = .ok (.iload_n 1, 1) := by decide +kernel
theorem dX9_end_16 : decode cX9_end 16 = .ok (.putfield 288, 3) := by decide +kernel
theorem dX9_end_19 : decode cX9_end 19 = .ok (.iload_n 1, 1) := by decide +kernel
theorem dX9_end_20 : decode cX9_end 20 = .ok (.ireturn, 1) := by decide +kernel
theorem dX9_later_0 : decode cX9_later 0 = .ok (.iload_n 1, 1) := by decide +kernel
theorem dX9_later_1 : decode cX9_later 1 = .ok (.iconst 0, 1) := by decide +kernel
theorem dX9_later_2 : decode cX9_later 2 = .ok (.sipush 1000, 3) := by decide +kernel
theorem dX9_later_5 : decode cX9_later 5 = .ok (.invokestatic 389, 3) := by decide +kernel
theorem dX9_later_8 : decode cX9_later 8 = .ok (.ifCond .eq 15, 3) := by decide +kernel
theorem dX9_later_11 : decode cX9_later 11 = .ok (.aload_n 0, 1) := by decide +kernel
theorem dX9_later_12 : decode cX9_later 12 = .ok (.getfield 517, 3) := by decide +kernel
theorem dX9_later_15 : decode cX9_later 15 = .ok (.iload_n 1, 1) := by decide +kernel
theorem dX9_later_16 : decode cX9_later 16 = .ok (.iadd, 1) := by decide +kernel
theorem dX9_later_17 : decode cX9_later 17 = .ok (.ldc_w 458, 3) := by decide +kernel
theorem dX9_later_20 : decode cX9_later 20 = .ok (.if_icmp .le 5, 3) := by decide +kernel
theorem dX9_later_25 : decode cX9_later 25 = .ok (.aload_n 0, 1) := by decide +kernel
theorem dX9_later_26 : decode cX9_later 26 = .ok (.dup, 1) := by decide +kernel
theorem dX9_later_27 : decode cX9_later 27 = .ok (.getfield 517, 3) := by decide +kernel
theorem dX9_later_30 : decode cX9_later 30 = .ok (.iload_n 1, 1) := by decide +kernel
theorem dX9_later_31 : decode cX9_later 31 = .ok (.iadd, 1) := by decide +kernel
theorem dX9_later_32 : decode cX9_later 32 = .ok (.putfield 517, 3) := by decide +kernel
theorem dX9_later_35 : decode cX9_later 35 = .ok (.aload_n 0, 1) := by decide +kernel
theorem dX9_later_36 : decode cX9_later 36 = .ok (.getfield 517, 3) := by decide +kernel
theorem dX9_later_39 : decode cX9_later 39 = .ok (.ireturn, 1) := by decide +kernel
theorem dX9_later_23 : decode cX9_later 23 = .ok (.iconst (-1), 1) := by decide +kernel
theorem dX9_later_24 : decode cX9_later 24 = .ok (.ireturn, 1) := by decide +kernel
theorem dX9_fault_0 : decode cX9_fault 0 = .ok (.iload_n 1, 1) := by decide +kernel
theorem dX9_fault_1 : decode cX9_fault 1 = .ok (.ifCond .ne 10, 3) := by decide +kernel
theorem dX9_fault_11 : decode cX9_fault 11 = .ok (.iload_n 1, 1) := by decide +kernel
theorem dX9_fault_12 : decode cX9_fault 12 = .ok (.iconst 1, 1) := by decide +kernel
theorem dX9_fault_13 : decode cX9_fault 13 = .ok (.if_icmp .ne 10, 3) := by decide +kernel
theorem dX9_fault_23 : decode cX9_fault 23 = .ok (.iconst (-1), 1) := by decide +kernel
theorem dX9_fault_24 : decode cX9_fault 24 = .ok (.ireturn, 1) := by decide +kernel
theorem dX9_fault_16 : decode cX9_fault 16 = .ok (.aload_n 0, 1) := by decide +kernel
theorem dX9_fault_17 : decode cX9_fault 17 = .ok (.getfield 16, 3) := by decide +kernel
theorem dX9_fault_20 : decode cX9_fault 20 = .ok (.goto 4, 3) := by decide +kernel
theorem dX9_fault_4 : decode cX9_fault 4 = .ok (.aload_n 0, 1) := by decide +kernel
theorem dX9_fault_5 : decode cX9_fault 5 = .ok (.getfield 173, 3) := by decide +kernel
theorem dX9_fault_8 : decode cX9_fault 8 = .ok (.goto 16, 3) := by decide +kernel
theorem dX9_about_0 : decode cX9_about 0 = .ok (.iload_n 1, 1) := by decide +kernel
theorem dX9_about_1 : decode cX9_about 1 = .ok (.tableswitch 135 0 9 #[55, 65, 75, 85, 95, 105, 110, 115, 120, 125], 55) := by decide +kernel
theorem dX9_about_56 : decode cX9_about 56 = .ok (.aload_n 0, 1) := by decide +kernel
theorem dX9_about_57 : decode cX9_about 57 = .ok (.getfield 20, 3) := by decide +kernel
theorem dX9_about_60 : decode cX9_about 60 = .ok (.aload_n 0, 1) := by decide +kernel
theorem dX9_about_61 : decode cX9_about 61 = .ok (.getfield 291, 3) := by decide +kernel
theorem dX9_about_64 : decode cX9_about 64 = .ok (.iaload, 1) := by decide +kernel
theorem dX9_about_65 : decode cX9_about 65 = .ok (.ireturn, 1) := by decide +kernel
theorem dX9_about_66 : decode cX9_about 66 = .ok (.aload_n 0, 1) := by decide +kernel
theorem dX9_about_67 : decode cX9_about 67 = .ok (.getfield 24, 3) := by decide +kernel
theorem dX9_about_70 : decode cX9_about 70 = .ok (.aload_n 0, 1) := by decide +kernel
theorem dX9_about_71 : decode cX9_about 71 = .ok (.getfield 291, 3) := by decide +kernel
theorem dX9_about_74 : decode cX9_about 74 = .ok (.iaload, 1) := by decide +kernel
theorem dX9_about_75 : decode cX9_about 75 = .ok (.ireturn, 1) := by decide +kernel
theorem dX9_about_76 : decode cX9_about 76 = .ok (.aload_n 0, 1) := by decide +kernel
theorem dX9_about_77 : decode cX9_about 77 = .ok (.getfield 27, 3) := by decide +kernel
theorem dX9_about_80 : decode cX9_about 80 = .ok (.aload_n 0, 1) := by decide +kernel
theorem dX9_about_81 : decode cX9_about 81 = .ok (.getfield 291, 3) := by decide +kernel
theorem dX9_about_84 : decode cX9_about 84 = .ok (.iaload, 1) := by decide +kernel
theorem dX9_about_85 : decode cX9_about 85 = .ok (.ireturn, 1) := by decide +kernel
theorem dX9_about_86 : decode cX9_about 86 = .ok (.aload_n 0, 1) := by decide +kernel
theorem dX9_about_87 : decode cX9_about 87 = .ok (.getfield 30, 3) := by decide +kernel
theorem dX9_about_90 : decode cX9_about 90 = .ok (.aload_n 0, 1) := by decide +kernel
theorem dX9_about_91 : decode cX9_about 91 = .ok (.getfield 291, 3) := by decide +kernel
theorem dX9_about_94 : decode cX9_about 94 = .ok (.iaload, 1) := by decide +kernel
theorem dX9_about_95 : decode cX9_about 95 = .ok (.ireturn, 1) := by decide +kernel
theorem dX9_about_96 : decode cX9_about 96 = .ok (.aload_n 0, 1) := by decide +kernel
theorem dX9_about_97 : decode cX9_about 97 = .ok (.getfield 33, 3) := by decide +kernel
theorem dX9_about_100 : decode cX9_about 100 = .ok (.aload_n 0, 1) := by decide +kernel
theorem dX9_about_101 : decode cX9_about 101 = .ok (.getfield 291, 3) := by decide +kernel
theorem dX9_about_104 : decode cX9_about 104 = .ok (.iaload, 1) := by decide +kernel
theorem dX9_about_105 : decode cX9_about 105 = .ok (.ireturn, 1) := by decide +kernel
theorem dX9_about_106 : decode cX9_about 106 = .ok (.aload_n 0, 1) := by decide +kernel
theorem dX9_about_107 : decode cX9_about 107 = .ok (.getfield 301, 3) := by decide +kernel
theorem dX9_about_110 : decode cX9_about 110 = .ok (.ireturn, 1) := by decide +kernel
theorem dX9_about_111 : decode cX9_about 111 = .ok (.aload_n 0, 1) := by decide +kernel
theorem dX9_about_112 : decode cX9_about 112 = .ok (.getfield 517, 3) := by decide +kernel
theorem dX9_about_115 : decode cX9_about 115 = .ok (.ireturn, 1) := by decide +kernel
theorem dX9_about_116 : decode cX9_about 116 = .ok (.aload_n 0, 1) := by decide +kernel
theorem dX9_about_117 : decode cX9_about 117 = .ok (.getfield 288, 3) := by decide +kernel
theorem dX9_about_120 : decode cX9_about 120 = .ok (.ireturn, 1) := by decide +kernel
theorem dX9_about_121 : decode cX9_about 121 = .ok (.aload_n 0, 1) := by decide +kernel
theorem dX9_about_122 : decode cX9_about 122 = .ok (.getfield 125, 3) := by decide +kernel
theorem dX9_about_125 : decode cX9_about 125 = .ok (.ireturn, 1) := by decide +kernel
theorem dX9_about_126 : decode cX9_about 126 = .ok (.aload_n 0, 1) := by decide +kernel
theorem dX9_about_127 : decode cX9_about 127 = .ok (.getfield 42, 3) := by decide +kernel
theorem dX9_about_130 : decode cX9_about 130 = .ok (.aload_n 0, 1) := by decide +kernel
theorem dX9_about_131 : decode cX9_about 131 = .ok (.getfield 291, 3) := by decide +kernel
theorem dX9_about_134 : decode cX9_about 134 = .ok (.iaload, 1) := by decide +kernel
theorem dX9_about_135 : decode cX9_about 135 = .ok (.ireturn, 1) := by decide +kernel
theorem dX9_about_136 : decode cX9_about 136 = .ok (.iconst (-1), 1) := by decide +kernel
theorem dX9_about_137 : decode cX9_about 137 = .ok (.ireturn, 1) := by decide +kernel
theorem dX9_back_0 : decode cX9_back 0 = .ok (.iload_n 1, 1) := by decide +kernel
theorem dX9_back_1 : decode cX9_back 1 = .ok (.iconst 0, 1) := by decide +kernel
theorem dX9_back_2 : decode cX9_back 2 = .ok (.iconst 2, 1) := by decide +kernel
theorem dX9_back_3 : decode cX9_back 3 = .ok (.invokestatic 389, 3) := by decide +kernel
theorem dX9_back_6 : decode cX9_back 6 = .ok (.ifCond .eq 12, 3) := by decide +kernel
theorem dX9_back_9 : decode cX9_back 9 = .ok (.aload_n 0, 1) := by decide +kernel
theorem dX9_back_10 : decode cX9_back 10 = .ok (.getfield 158, 3) := by decide +kernel
theorem dX9_back_13 : decode cX9_back 13 = .ok (.iload_n 1, 1) := by decide +kernel
theorem dX9_back_14 : decode cX9_back 14 = .ok (.iaload, 1) := by decide +kernel
theorem dX9_back_15 : decode cX9_back 15 = .ok (.ifCond .ge 5, 3) := by decide +kernel
theorem dX9_back_18 : decode cX9_back 18 = .ok (.iconst (-1), 1) := by decide +kernel
theorem dX9_back_19 : decode cX9_back 19 = .ok (.ireturn, 1) := by decide +kernel
theorem dX9_lawMany_0 : decode cX9_lawMany 0 = .ok (.aload_n 0, 1) := by decide +kernel
theorem dX9_lawMany_1 : decode cX9_lawMany 1 = .ok (.getfield 30, 3) := by decide +kernel
theorem dX9_lawMany_4 : decode cX9_lawMany 4 = .ok (.aload_n 0, 1) := by decide +kernel
theorem dX9_lawMany_5 : decode cX9_lawMany 5 = .ok (.getfield 291, 3) := by decide +kernel
theorem dX9_lawMany_8 : decode cX9_lawMany 8 = .ok (.iaload, 1) := by decide +kernel
theorem dX9_lawMany_9 : decode cX9_lawMany 9 = .ok (.ifCond .le 15, 3) := by decide +kernel
theorem dX9_lawMany_24 : decode cX9_lawMany 24 = .ok (.iconst 1, 1) := by decide +kernel
theorem dX9_lawMany_25 : decode cX9_lawMany 25 = .ok (.ireturn, 1) := by decide +kernel
theorem dX9_fits_0 : decode cX9_fits 0 = .ok (.iconst 0, 1) := by decide +kernel
theorem dX9_fits_1 : decode cX9_fits 1 = .ok (.istore_n 2, 1) := by decide +kernel
theorem dX9_fits_2 : decode cX9_fits 2 = .ok (.iconst 0, 1) := by decide +kernel
theorem dX9_fits_3 : decode cX9_fits 3 = .ok (.istore_n 3, 1) := by decide +kernel
theorem dX9_fits_4 : decode cX9_fits 4 = .ok (.iload_n 3, 1) := by decide +kernel
theorem dX9_fits_5 : decode cX9_fits 5 = .ok (.aload_n 0, 1) := by decide +kernel
theorem dX9_fits_6 : decode cX9_fits 6 = .ok (.invokevirtual 524, 3) := by decide +kernel
theorem dX9_fits_9 : decode cX9_fits 9 = .ok (.if_icmp .ge 58, 3) := by decide +kernel
theorem dX9_fits_12 : decode cX9_fits 12 = .ok (.iconst 0, 1) := by decide +kernel
theorem dX9_fits_13 : decode cX9_fits 13 = .ok (.istore 4, 2) := by decide +kernel
theorem dX9_fits_15 : decode cX9_fits 15 = .ok (.iload 4, 2) := by decide +kernel
theorem dX9_fits_17 : decode cX9_fits 17 = .ok (.aload_n 0, 1) := by decide +kernel
theorem dX9_fits_18 : decode cX9_fits 18 = .ok (.getfield 24, 3) := by decide +kernel
theorem dX9_fits_21 : decode cX9_fits 21 = .ok (.aload_n 0, 1) := by decide +kernel
theorem dX9_fits_22 : decode cX9_fits 22 = .ok (.getfield 291, 3) := by decide +kernel
theorem dX9_fits_25 : decode cX9_fits 25 = .ok (.iaload, 1) := by decide +kernel
theorem dX9_fits_26 : decode cX9_fits 26 = .ok (.if_icmp .ge 35, 3) := by decide +kernel
theorem dX9_fits_61 : decode cX9_fits 61 = .ok (.iinc 3 1, 3) := by decide +kernel
theorem dX9_fits_64 : decode cX9_fits 64 = .ok (.goto (-60), 3) := by decide +kernel
theorem dX9_fits_67 : decode cX9_fits 67 = .ok (.iload_n 2, 1) := by decide +kernel
theorem dX9_fits_68 : decode cX9_fits 68 = .ok (.ireturn, 1) := by decide +kernel
theorem dX5_lawsAsked_0 : decode cX5_lawsAsked 0 = .ok (.iconst 1, 1) := by decide +kernel
theorem dX5_lawsAsked_1 : decode cX5_lawsAsked 1 = .ok (.aload_n 0, 1) := by decide +kernel
theorem dX5_lawsAsked_2 : decode cX5_lawsAsked 2 = .ok (.getfield 9, 3) := by decide +kernel
theorem dX5_lawsAsked_5 : decode cX5_lawsAsked 5 = .ok (.iconst 3, 1) := by decide +kernel
theorem dX5_lawsAsked_6 : decode cX5_lawsAsked 6 = .ok (.iaload, 1) := by decide +kernel
theorem dX5_lawsAsked_7 : decode cX5_lawsAsked 7 = .ok (.invokestatic 67, 3) := by decide +kernel
theorem dX5_lawsAsked_10 : decode cX5_lawsAsked 10 = .ok (.ireturn, 1) := by decide +kernel
theorem dX5_hasPair_0 : decode cX5_hasPair 0 = .ok (.iload_n 1, 1) := by decide +kernel
theorem dX5_hasPair_1 : decode cX5_hasPair 1 = .ok (.ifCond .lt 28, 3) := by decide +kernel
theorem dX5_hasPair_29 : decode cX5_hasPair 29 = .ok (.iconst 0, 1) := by decide +kernel
theorem dX5_hasPair_30 : decode cX5_hasPair 30 = .ok (.ireturn, 1) := by decide +kernel
theorem dX5_hasPair_4 : decode cX5_hasPair 4 = .ok (.iload_n 1, 1) := by decide +kernel
theorem dX5_hasPair_5 : decode cX5_hasPair 5 = .ok (.iconst 4, 1) := by decide +kernel
theorem dX5_hasPair_6 : decode cX5_hasPair 6 = .ok (.idiv, 1) := by decide +kernel
theorem dX5_hasPair_7 : decode cX5_hasPair 7 = .ok (.aload_n 0, 1) := by decide +kernel
theorem dX5_hasPair_8 : decode cX5_hasPair 8 = .ok (.invokevirtual 73, 3) := by decide +kernel
theorem dX5_hasPair_11 : decode cX5_hasPair 11 = .ok (.if_icmp .ge 18, 3) := by decide +kernel
theorem dX5_hasPair_14 : decode cX5_hasPair 14 = .ok (.aload_n 0, 1) := by decide +kernel
theorem dX5_hasPair_15 : decode cX5_hasPair 15 = .ok (.iconst 1, 1) := by decide +kernel
theorem dX5_hasPair_16 : decode cX5_hasPair 16 = .ok (.iload_n 1, 1) := by decide +kernel
theorem dX5_hasPair_17 : decode cX5_hasPair 17 = .ok (.iconst 4, 1) := by decide +kernel
theorem dX5_hasPair_18 : decode cX5_hasPair 18 = .ok (.irem, 1) := by decide +kernel
theorem dX5_hasPair_19 : decode cX5_hasPair 19 = .ok (.invokevirtual 77, 3) := by decide +kernel
theorem dX5_hasPair_22 : decode cX5_hasPair 22 = .ok (.ifCond .eq 7, 3) := by decide +kernel
theorem dX8_fits_0 : decode cX8_fits 0 = .ok (.iconst 0, 1) := by decide +kernel
theorem dX8_fits_1 : decode cX8_fits 1 = .ok (.istore_n 2, 1) := by decide +kernel
theorem dX8_fits_2 : decode cX8_fits 2 = .ok (.iconst 0, 1) := by decide +kernel
theorem dX8_fits_3 : decode cX8_fits 3 = .ok (.istore_n 3, 1) := by decide +kernel
theorem dX8_fits_4 : decode cX8_fits 4 = .ok (.iload_n 3, 1) := by decide +kernel
theorem dX8_fits_5 : decode cX8_fits 5 = .ok (.bipush 12, 2) := by decide +kernel
theorem dX8_fits_7 : decode cX8_fits 7 = .ok (.if_icmp .ge 30, 3) := by decide +kernel
theorem dX8_fits_10 : decode cX8_fits 10 = .ok (.iload_n 2, 1) := by decide +kernel
theorem dX8_fits_11 : decode cX8_fits 11 = .ok (.aload_n 0, 1) := by decide +kernel
theorem dX8_fits_12 : decode cX8_fits 12 = .ok (.getfield 60, 3) := by decide +kernel
theorem dX8_fits_15 : decode cX8_fits 15 = .ok (.iload_n 3, 1) := by decide +kernel
theorem dX8_fits_16 : decode cX8_fits 16 = .ok (.invokevirtual 281, 3) := by decide +kernel
theorem dX8_fits_19 : decode cX8_fits 19 = .ok (.ifCond .eq 9, 3) := by decide +kernel
theorem dX8_fits_28 : decode cX8_fits 28 = .ok (.iconst 0, 1) := by decide +kernel
theorem dX8_fits_29 : decode cX8_fits 29 = .ok (.ior, 1) := by decide +kernel
theorem dX8_fits_30 : decode cX8_fits 30 = .ok (.istore_n 2, 1) := by decide +kernel
theorem dX8_fits_31 : decode cX8_fits 31 = .ok (.iinc 3 1, 3) := by decide +kernel
theorem dX8_fits_34 : decode cX8_fits 34 = .ok (.goto (-30), 3) := by decide +kernel
theorem dX8_fits_37 : decode cX8_fits 37 = .ok (.iconst 0, 1) := by decide +kernel
theorem dX8_fits_38 : decode cX8_fits 38 = .ok (.istore_n 3, 1) := by decide +kernel
theorem dX8_fits_39 : decode cX8_fits 39 = .ok (.iload_n 3, 1) := by decide +kernel
theorem dX8_fits_40 : decode cX8_fits 40 = .ok (.aload_n 0, 1) := by decide +kernel
theorem dX8_fits_41 : decode cX8_fits 41 = .ok (.getfield 37, 3) := by decide +kernel
theorem dX8_fits_44 : decode cX8_fits 44 = .ok (.getfield 90, 3) := by decide +kernel
theorem dX8_fits_47 : decode cX8_fits 47 = .ok (.if_icmp .ge 33, 3) := by decide +kernel
theorem dX8_fits_80 : decode cX8_fits 80 = .ok (.iload_n 2, 1) := by decide +kernel
theorem dX8_fits_81 : decode cX8_fits 81 = .ok (.ireturn, 1) := by decide +kernel
end
section
def zo_c_within : List Cond := [.code yX8_within cX8_within 3 (some .boolean)]
def zw_c_within : List Cond := zo_c_within ++ []
theorem gz_c_within : zw_c_within.all goodWord = true := p1_ga (by decide +kernel) p1_g0
theorem iz_c_within : ∀ w ∈ zw_c_within, w ∈ lw_tbl := p1_ia (p1_all [751] (by decide +kernel)) p1_i0
set_option maxHeartbeats 4000000 in
set_option maxRecDepth 100000 in
/-- X8_within: is n among a .. b -/
theorem c_within (l : Launch) (dC : Nat → ClassId) (dI : Nat → Nat → Nat) (sz : Nat) (n : Int32) (a : Int32) (b : Int32) : Met l yX8_within zw_c_within ({ frames := 0, cells := 0, slots := 0, locals := 0 }) (va_Pc [.int n, .int a, .int b] (fun U => U.heap.size = sz ∧ va_P (dC, dI) vwCl [] U.heap ∧ va_K (dC, dI) vwCl [] U ∧ va_D (fun _ => True) [])) (va_Qi (fun (r : Int32) (_ : Unit) => (r = 1 ∧ a ≤ n ∧ n ≤ b) ∨ (r = 0 ∧ ¬ (a ≤ n ∧ n ≤ b))) (fun _ t => va_P (dC, dI) vwCl [] t.heap ∧ va_K (dC, dI) vwCl [] t ∧ va_D (va_A [] sz) []) (va_A [] sz)) 0 0 (va_A [] sz) := by
  refine Met.ofW (cc := cX8_within) (maxL := 3) (ret := (some .boolean)) (by decide) rfl ?_
  intro p e s m args below meth c s₁ B hml hv
  obtain ⟨rfl, hsz, hP, hK, hD0⟩ := hv
  have hx := B.exec
  have hb := B.bytes
  have hr := B.returns
  have hts := atoms_spec (ws := zw_c_within) B.pre
  have hown : s.vm.findClass RX8 = some m.cls := findClass_of_methodNamed B.named
  have hlocks := B.notSynchronized
  subst hsz
  have hD := hD0.self (sz := s.heap.size)
  generalize hAe : va_A [] s.heap.size = A at hD ⊢
  have hA : ∀ q : Nat, s.heap.size ≤ q → A q := fun q h => by rw [← hAe]; exact Or.inr h
  have hS : va_S A s.heap s.heap [] := va_S.rf
  have hP : va_P (dC, dI) vwCl [] s.heap := hP
  have hl := lv_entry ([.int n, .int a, .int b]) (n := 3) (Nat.le_of_ble_eq_true rfl)
  rw [lg_entry_eq]
  generalize (lg_sl ([.int n, .int a, .int b]) ++ List.replicate (3 - (lg_sl ([.int n, .int a, .int b])).length) Slot.unset).toArray = ls at hl ⊢
  have hl : lv_has ls 3 [(0, .int n), (1, .int a), (2, .int b)] := hl
  refine lv_iload_n hx hb dX8_within_0 rfl (lv_at hl 0 rfl) ?_
  refine lv_iload_n hx hb dX8_within_1 rfl (lv_at hl 1 rfl) ?_
  refine lv_icmp_lt (tgt := 14) hx hb dX8_within_2 (by decide) (fun c2 => ?_) (fun c2 => ?_)
  · refine lv_iconst (v := 0) hx hb dX8_within_14 (by decide) ?_
    have hP9 := hP.sub (ws' := []) [] rfl
    have hD9 := hD.sub (ws' := []) [] (by decide) rfl
    have hK9 := hK.sub (tys' := []) [] rfl
    exact W.zret (v := 0) hx hb hr (by decide) (fun t ht hW => ⟨⟨0, (), rfl, Or.inr ⟨rfl, by intro z9; first | exact absurd c2 (Int32.not_lt.mpr z9.1) | exact absurd c7 (Int32.not_lt.mpr z9.2)⟩, by rw [ht]; exact hP9, va_K.moved hW.alike hK9, hD9⟩, hS.F ht⟩) hS.2.2 dX8_within_15
  · refine lv_iload_n hx hb dX8_within_5 rfl (lv_at hl 0 rfl) ?_
    refine lv_iload_n hx hb dX8_within_6 rfl (lv_at hl 2 rfl) ?_
    refine lv_icmp_gt (tgt := 14) hx hb dX8_within_7 (by decide) (fun c7 => ?_) (fun c7 => ?_)
    · refine lv_iconst (v := 0) hx hb dX8_within_14 (by decide) ?_
      have hP9 := hP.sub (ws' := []) [] rfl
      have hD9 := hD.sub (ws' := []) [] (by decide) rfl
      have hK9 := hK.sub (tys' := []) [] rfl
      exact W.zret (v := 0) hx hb hr (by decide) (fun t ht hW => ⟨⟨0, (), rfl, Or.inr ⟨rfl, by intro z9; first | exact absurd c2 (Int32.not_lt.mpr z9.1) | exact absurd c7 (Int32.not_lt.mpr z9.2)⟩, by rw [ht]; exact hP9, va_K.moved hW.alike hK9, hD9⟩, hS.F ht⟩) hS.2.2 dX8_within_15
    · refine lv_iconst (v := 1) hx hb dX8_within_10 (by decide) ?_
      refine lv_goto (tgt := 15) hx hb dX8_within_11 (by decide) ?_
      have hP9 := hP.sub (ws' := []) [] rfl
      have hD9 := hD.sub (ws' := []) [] (by decide) rfl
      have hK9 := hK.sub (tys' := []) [] rfl
      exact W.zret (v := 1) hx hb hr (by decide) (fun t ht hW => ⟨⟨1, (), rfl, Or.inl ⟨rfl, Int32.not_lt.mp c2, Int32.not_lt.mp c7⟩, by rw [ht]; exact hP9, va_K.moved hW.alike hK9, hD9⟩, hS.F ht⟩) hS.2.2 dX8_within_15
def zo_c_isIn : List Cond := [.code yX9_isIn cX9_isIn 3 (some .boolean)]
def zw_c_isIn : List Cond := zo_c_isIn ++ []
theorem gz_c_isIn : zw_c_isIn.all goodWord = true := p1_ga (by decide +kernel) p1_g0
theorem iz_c_isIn : ∀ w ∈ zw_c_isIn, w ∈ lw_tbl := p1_ia (p1_all [1441] (by decide +kernel)) p1_i0
set_option maxHeartbeats 4000000 in
set_option maxRecDepth 100000 in
/-- X9_isIn: is n among a .. b -/
theorem c_isIn (l : Launch) (dC : Nat → ClassId) (dI : Nat → Nat → Nat) (sz : Nat) (n : Int32) (a : Int32) (b : Int32) : Met l yX9_isIn zw_c_isIn ({ frames := 0, cells := 0, slots := 0, locals := 0 }) (va_Pc [.int n, .int a, .int b] (fun U => U.heap.size = sz ∧ va_P (dC, dI) vwCl [] U.heap ∧ va_K (dC, dI) vwCl [] U ∧ va_D (fun _ => True) [])) (va_Qi (fun (r : Int32) (_ : Unit) => (r = 1 ∧ a ≤ n ∧ n ≤ b) ∨ (r = 0 ∧ ¬ (a ≤ n ∧ n ≤ b))) (fun _ t => va_P (dC, dI) vwCl [] t.heap ∧ va_K (dC, dI) vwCl [] t ∧ va_D (va_A [] sz) []) (va_A [] sz)) 0 0 (va_A [] sz) := by
  refine Met.ofW (cc := cX9_isIn) (maxL := 3) (ret := (some .boolean)) (by decide) rfl ?_
  intro p e s m args below meth c s₁ B hml hv
  obtain ⟨rfl, hsz, hP, hK, hD0⟩ := hv
  have hx := B.exec
  have hb := B.bytes
  have hr := B.returns
  have hts := atoms_spec (ws := zw_c_isIn) B.pre
  have hown : s.vm.findClass RX9 = some m.cls := findClass_of_methodNamed B.named
  have hlocks := B.notSynchronized
  subst hsz
  have hD := hD0.self (sz := s.heap.size)
  generalize hAe : va_A [] s.heap.size = A at hD ⊢
  have hA : ∀ q : Nat, s.heap.size ≤ q → A q := fun q h => by rw [← hAe]; exact Or.inr h
  have hS : va_S A s.heap s.heap [] := va_S.rf
  have hP : va_P (dC, dI) vwCl [] s.heap := hP
  have hl := lv_entry ([.int n, .int a, .int b]) (n := 3) (Nat.le_of_ble_eq_true rfl)
  rw [lg_entry_eq]
  generalize (lg_sl ([.int n, .int a, .int b]) ++ List.replicate (3 - (lg_sl ([.int n, .int a, .int b])).length) Slot.unset).toArray = ls at hl ⊢
  have hl : lv_has ls 3 [(0, .int n), (1, .int a), (2, .int b)] := hl
  refine lv_iload_n hx hb dX9_isIn_0 rfl (lv_at hl 0 rfl) ?_
  refine lv_iload_n hx hb dX9_isIn_1 rfl (lv_at hl 1 rfl) ?_
  refine lv_icmp_lt (tgt := 14) hx hb dX9_isIn_2 (by decide) (fun c2 => ?_) (fun c2 => ?_)
  · refine lv_iconst (v := 0) hx hb dX9_isIn_14 (by decide) ?_
    have hP9 := hP.sub (ws' := []) [] rfl
    have hD9 := hD.sub (ws' := []) [] (by decide) rfl
    have hK9 := hK.sub (tys' := []) [] rfl
    exact W.zret (v := 0) hx hb hr (by decide) (fun t ht hW => ⟨⟨0, (), rfl, Or.inr ⟨rfl, by intro z9; first | exact absurd c2 (Int32.not_lt.mpr z9.1) | exact absurd c7 (Int32.not_lt.mpr z9.2)⟩, by rw [ht]; exact hP9, va_K.moved hW.alike hK9, hD9⟩, hS.F ht⟩) hS.2.2 dX9_isIn_15
  · refine lv_iload_n hx hb dX9_isIn_5 rfl (lv_at hl 0 rfl) ?_
    refine lv_iload_n hx hb dX9_isIn_6 rfl (lv_at hl 2 rfl) ?_
    refine lv_icmp_gt (tgt := 14) hx hb dX9_isIn_7 (by decide) (fun c7 => ?_) (fun c7 => ?_)
    · refine lv_iconst (v := 0) hx hb dX9_isIn_14 (by decide) ?_
      have hP9 := hP.sub (ws' := []) [] rfl
      have hD9 := hD.sub (ws' := []) [] (by decide) rfl
      have hK9 := hK.sub (tys' := []) [] rfl
      exact W.zret (v := 0) hx hb hr (by decide) (fun t ht hW => ⟨⟨0, (), rfl, Or.inr ⟨rfl, by intro z9; first | exact absurd c2 (Int32.not_lt.mpr z9.1) | exact absurd c7 (Int32.not_lt.mpr z9.2)⟩, by rw [ht]; exact hP9, va_K.moved hW.alike hK9, hD9⟩, hS.F ht⟩) hS.2.2 dX9_isIn_15
    · refine lv_iconst (v := 1) hx hb dX9_isIn_10 (by decide) ?_
      refine lv_goto (tgt := 15) hx hb dX9_isIn_11 (by decide) ?_
      have hP9 := hP.sub (ws' := []) [] rfl
      have hD9 := hD.sub (ws' := []) [] (by decide) rfl
      have hK9 := hK.sub (tys' := []) [] rfl
      exact W.zret (v := 1) hx hb hr (by decide) (fun t ht hW => ⟨⟨1, (), rfl, Or.inl ⟨rfl, Int32.not_lt.mp c2, Int32.not_lt.mp c7⟩, by rw [ht]; exact hP9, va_K.moved hW.alike hK9, hD9⟩, hS.F ht⟩) hS.2.2 dX9_isIn_15
def zo_c_has0 : List Cond := [.code yX5_has cX5_has 3 (some .boolean), .fieldLink RX5 9 "BowWalk$Shop" "count" "[I"]
def zw_c_has0 : List Cond := zo_c_has0 ++ (wsX50 ++ [])
theorem gz_c_has0 : zw_c_has0.all goodWord = true := p1_ga (by decide +kernel) (p1_ga gk_X5 p1_g0)
theorem iz_c_has0 : ∀ w ∈ zw_c_has0, w ∈ lw_tbl := p1_ia (p1_all [717, 174] (by decide +kernel)) (p1_ia ik_X5 p1_i0)
set_option maxHeartbeats 4000000 in
set_option maxRecDepth 100000 in
/-- an empty SHOP has none -/
theorem c_has0 (l : Launch) (dC : Nat → ClassId) (dI : Nat → Nat → Nat) (sz : Nat) (h0 : Nat) (fs : List Value) (h1 : Nat) (cI : ClassId) (so : Int32) (n : Int32) (f_fs_0 : fs[0]? = some (.ref h1)) (hso : vp_in so 5) : Met l yX5_has zw_c_has0 ({ frames := 0, cells := 0, slots := 0, locals := 0 }) (va_Pc [.ref h0, .int so, .int n] (fun U => U.heap.size = sz ∧ va_P (dC, dI) vwCl [(h0, .inr (5, fs)), (h1, .inl (cI, 5, .inl (fun _ => 0)))] U.heap ∧ va_K (dC, dI) vwCl [(cI, .int)] U ∧ va_D (fun _ => True) [(h0, .inr (5, fs)), (h1, .inl (cI, 5, .inl (fun _ => 0)))])) (va_Qi (fun (r : Int32) (_ : Unit) => r = 0) (fun _ t => va_P (dC, dI) vwCl [(h0, .inr (5, fs)), (h1, .inl (cI, 5, .inl (fun _ => 0)))] t.heap ∧ va_K (dC, dI) vwCl [(cI, .int)] t ∧ va_D (va_A [(h0, .inr (5, fs)), (h1, .inl (cI, 5, .inl (fun _ => 0)))] sz) [(h0, .inr (5, fs)), (h1, .inl (cI, 5, .inl (fun _ => 0)))]) (va_A [(h0, .inr (5, fs)), (h1, .inl (cI, 5, .inl (fun _ => 0)))] sz)) 0 0 (va_A [(h0, .inr (5, fs)), (h1, .inl (cI, 5, .inl (fun _ => 0)))] sz) := by
  refine Met.ofW (cc := cX5_has) (maxL := 3) (ret := (some .boolean)) (by decide) rfl ?_
  intro p e s m args below meth c s₁ B hml hv
  obtain ⟨rfl, hsz, hP, hK, hD0⟩ := hv
  have hx := B.exec
  have hb := B.bytes
  have hr := B.returns
  have hts := atoms_spec (ws := zw_c_has0) B.pre
  have hown : s.vm.findClass RX5 = some m.cls := findClass_of_methodNamed B.named
  have hlocks := B.notSynchronized
  subst hsz
  have hD := hD0.self (sz := s.heap.size)
  generalize hAe : va_A [(h0, .inr (5, fs)), (h1, .inl (cI, 5, .inl (fun _ => 0)))] s.heap.size = A at hD ⊢
  have hA : ∀ q : Nat, s.heap.size ≤ q → A q := fun q h => by rw [← hAe]; exact Or.inr h
  have hS : va_S A s.heap s.heap [] := va_S.rf
  have hP : va_P (dC, dI) vwCl [(h0, .inr (5, fs)), (h1, .inl (cI, 5, .inl (fun _ => 0)))] s.heap := hP
  have m_0 : (.fieldLink RX5 9 "BowWalk$Shop" "count" "[I" : Cond) ∈ zw_c_has0 := List.mem_append_left _ (List.mem_of_getElem? (i := 1) rfl)
  have k_0 := hts _ m_0
  have i_X5 : ∀ w ∈ u_ws RX5 TX5 15, w ∈ zw_c_has0 := fun w h => List.mem_append_right _ (List.mem_append_left _ h)
  have hl := lv_entry ([.ref h0, .int so, .int n]) (n := 3) (Nat.le_of_ble_eq_true rfl)
  rw [lg_entry_eq]
  generalize (lg_sl ([.ref h0, .int so, .int n]) ++ List.replicate (3 - (lg_sl ([.ref h0, .int so, .int n])).length) Slot.unset).toArray = ls at hl ⊢
  have hl : lv_has ls 3 [(0, .ref h0), (1, .int so), (2, .int n)] := hl
  refine lv_iload_n hx hb dX5_has_0 rfl (lv_at hl 2 rfl) ?_
  refine lv_if_lt (tgt := 18) hx hb dX5_has_1 (by decide) (fun c1 => ?_) (fun c1 => ?_)
  · refine lv_iconst (v := 0) hx hb dX5_has_18 (by decide) ?_
    have hP9 := hP.sub (ws' := [(h0, .inr (5, fs)), (h1, .inl (cI, 5, .inl (fun _ => 0)))]) [0, 1] rfl
    have hD9 := hD.sub (ws' := [(h0, .inr (5, fs)), (h1, .inl (cI, 5, .inl (fun _ => 0)))]) [0, 1] (by decide) rfl
    have hK9 := hK.sub (tys' := [(cI, .int)]) [0] rfl
    exact W.zret (v := 0) hx hb hr (by decide) (fun t ht hW => ⟨⟨0, (), rfl, rfl, by rw [ht]; exact hP9, va_K.moved hW.alike hK9, hD9⟩, hS.F ht⟩) hS.2.2 dX5_has_19
  · refine lv_iload_n hx hb dX5_has_4 rfl (lv_at hl 2 rfl) ?_
    refine lv_aload_n hx hb dX5_has_5 rfl (lv_at hl 0 rfl) ?_
    refine va_get (D := (dC, dI)) (ci := 5) (v := .ref h1) (C := RX5) (T := TX5) (N := 15) hx hb hts i_X5 hown hK hP 0 rfl rfl 0 (by decide) k_0 (fun _ h9 => h9) f_fs_0 dX5_has_6 ?_
    refine lv_iload_n hx hb dX5_has_9 rfl (lv_at hl 1 rfl) ?_
    refine va_iald hx hb hK hP 1 0 rfl rfl hso dX5_has_10 ?_
    refine lv_topi (fun v_1 ev_1 => ?_)
    obtain rfl : v_1 = 0 := ev_1.trans rfl
    refine lv_icmp_ge (tgt := 18) hx hb dX5_has_11 (by decide) (fun c11 => ?_) (fun c11 => absurd c11 (fun z9 => absurd (Int32.not_le.mp z9) c1))
    refine lv_iconst (v := 0) hx hb dX5_has_18 (by decide) ?_
    have hP9 := hP.sub (ws' := [(h0, .inr (5, fs)), (h1, .inl (cI, 5, .inl (fun _ => 0)))]) [0, 1] rfl
    have hD9 := hD.sub (ws' := [(h0, .inr (5, fs)), (h1, .inl (cI, 5, .inl (fun _ => 0)))]) [0, 1] (by decide) rfl
    have hK9 := hK.sub (tys' := [(cI, .int)]) [0] rfl
    exact W.zret (v := 0) hx hb hr (by decide) (fun t ht hW => ⟨⟨0, (), rfl, rfl, by rw [ht]; exact hP9, va_K.moved hW.alike hK9, hD9⟩, hS.F ht⟩) hS.2.2 dX5_has_19
def zo_c_withinNeg : List Cond := [.code yX8_within cX8_within 3 (some .boolean)]
def zw_c_withinNeg : List Cond := zo_c_withinNeg ++ []
theorem gz_c_withinNeg : zw_c_withinNeg.all goodWord = true := p1_ga (by decide +kernel) p1_g0
theorem iz_c_withinNeg : ∀ w ∈ zw_c_withinNeg, w ∈ lw_tbl := p1_ia (p1_all [751] (by decide +kernel)) p1_i0
set_option maxHeartbeats 4000000 in
set_option maxRecDepth 100000 in
/-- X8_within of 0 .. -1 -/
theorem c_withinNeg (l : Launch) (dC : Nat → ClassId) (dI : Nat → Nat → Nat) (sz : Nat) (n : Int32) : Met l yX8_within zw_c_withinNeg ({ frames := 0, cells := 0, slots := 0, locals := 0 }) (va_Pc [.int n, .int 0, .int (-1)] (fun U => U.heap.size = sz ∧ va_P (dC, dI) vwCl [] U.heap ∧ va_K (dC, dI) vwCl [] U ∧ va_D (fun _ => True) [])) (va_Qi (fun (r : Int32) (_ : Unit) => r = 0) (fun _ t => va_P (dC, dI) vwCl [] t.heap ∧ va_K (dC, dI) vwCl [] t ∧ va_D (va_A [] sz) []) (va_A [] sz)) 0 0 (va_A [] sz) := by
  refine Met.ofW (cc := cX8_within) (maxL := 3) (ret := (some .boolean)) (by decide) rfl ?_
  intro p e s m args below meth c s₁ B hml hv
  obtain ⟨rfl, hsz, hP, hK, hD0⟩ := hv
  have hx := B.exec
  have hb := B.bytes
  have hr := B.returns
  have hts := atoms_spec (ws := zw_c_withinNeg) B.pre
  have hown : s.vm.findClass RX8 = some m.cls := findClass_of_methodNamed B.named
  have hlocks := B.notSynchronized
  subst hsz
  have hD := hD0.self (sz := s.heap.size)
  generalize hAe : va_A [] s.heap.size = A at hD ⊢
  have hA : ∀ q : Nat, s.heap.size ≤ q → A q := fun q h => by rw [← hAe]; exact Or.inr h
  have hS : va_S A s.heap s.heap [] := va_S.rf
  have hP : va_P (dC, dI) vwCl [] s.heap := hP
  have hl := lv_entry ([.int n, .int 0, .int (-1)]) (n := 3) (Nat.le_of_ble_eq_true rfl)
  rw [lg_entry_eq]
  generalize (lg_sl ([.int n, .int 0, .int (-1)]) ++ List.replicate (3 - (lg_sl ([.int n, .int 0, .int (-1)])).length) Slot.unset).toArray = ls at hl ⊢
  have hl : lv_has ls 3 [(0, .int n), (1, .int 0), (2, .int (-1))] := hl
  refine lv_iload_n hx hb dX8_within_0 rfl (lv_at hl 0 rfl) ?_
  refine lv_iload_n hx hb dX8_within_1 rfl (lv_at hl 1 rfl) ?_
  refine lv_icmp_lt (tgt := 14) hx hb dX8_within_2 (by decide) (fun c2 => ?_) (fun c2 => ?_)
  · refine lv_iconst (v := 0) hx hb dX8_within_14 (by decide) ?_
    have hP9 := hP.sub (ws' := []) [] rfl
    have hD9 := hD.sub (ws' := []) [] (by decide) rfl
    have hK9 := hK.sub (tys' := []) [] rfl
    exact W.zret (v := 0) hx hb hr (by decide) (fun t ht hW => ⟨⟨0, (), rfl, rfl, by rw [ht]; exact hP9, va_K.moved hW.alike hK9, hD9⟩, hS.F ht⟩) hS.2.2 dX8_within_15
  · refine lv_iload_n hx hb dX8_within_5 rfl (lv_at hl 0 rfl) ?_
    refine lv_iload_n hx hb dX8_within_6 rfl (lv_at hl 2 rfl) ?_
    refine lv_icmp_gt (tgt := 14) hx hb dX8_within_7 (by decide) (fun c7 => ?_) (fun c7 => absurd c7 (fun z9 => z9 (p1_m1 c2)))
    refine lv_iconst (v := 0) hx hb dX8_within_14 (by decide) ?_
    have hP9 := hP.sub (ws' := []) [] rfl
    have hD9 := hD.sub (ws' := []) [] (by decide) rfl
    have hK9 := hK.sub (tys' := []) [] rfl
    exact W.zret (v := 0) hx hb hr (by decide) (fun t ht hW => ⟨⟨0, (), rfl, rfl, by rw [ht]; exact hP9, va_K.moved hW.alike hK9, hD9⟩, hS.F ht⟩) hS.2.2 dX8_within_15
def zo_c_isInNeg : List Cond := [.code yX9_isIn cX9_isIn 3 (some .boolean)]
def zw_c_isInNeg : List Cond := zo_c_isInNeg ++ []
theorem gz_c_isInNeg : zw_c_isInNeg.all goodWord = true := p1_ga (by decide +kernel) p1_g0
theorem iz_c_isInNeg : ∀ w ∈ zw_c_isInNeg, w ∈ lw_tbl := p1_ia (p1_all [1441] (by decide +kernel)) p1_i0
set_option maxHeartbeats 4000000 in
set_option maxRecDepth 100000 in
/-- X9_isIn of 0 .. -1 -/
theorem c_isInNeg (l : Launch) (dC : Nat → ClassId) (dI : Nat → Nat → Nat) (sz : Nat) (n : Int32) : Met l yX9_isIn zw_c_isInNeg ({ frames := 0, cells := 0, slots := 0, locals := 0 }) (va_Pc [.int n, .int 0, .int (-1)] (fun U => U.heap.size = sz ∧ va_P (dC, dI) vwCl [] U.heap ∧ va_K (dC, dI) vwCl [] U ∧ va_D (fun _ => True) [])) (va_Qi (fun (r : Int32) (_ : Unit) => r = 0) (fun _ t => va_P (dC, dI) vwCl [] t.heap ∧ va_K (dC, dI) vwCl [] t ∧ va_D (va_A [] sz) []) (va_A [] sz)) 0 0 (va_A [] sz) := by
  refine Met.ofW (cc := cX9_isIn) (maxL := 3) (ret := (some .boolean)) (by decide) rfl ?_
  intro p e s m args below meth c s₁ B hml hv
  obtain ⟨rfl, hsz, hP, hK, hD0⟩ := hv
  have hx := B.exec
  have hb := B.bytes
  have hr := B.returns
  have hts := atoms_spec (ws := zw_c_isInNeg) B.pre
  have hown : s.vm.findClass RX9 = some m.cls := findClass_of_methodNamed B.named
  have hlocks := B.notSynchronized
  subst hsz
  have hD := hD0.self (sz := s.heap.size)
  generalize hAe : va_A [] s.heap.size = A at hD ⊢
  have hA : ∀ q : Nat, s.heap.size ≤ q → A q := fun q h => by rw [← hAe]; exact Or.inr h
  have hS : va_S A s.heap s.heap [] := va_S.rf
  have hP : va_P (dC, dI) vwCl [] s.heap := hP
  have hl := lv_entry ([.int n, .int 0, .int (-1)]) (n := 3) (Nat.le_of_ble_eq_true rfl)
  rw [lg_entry_eq]
  generalize (lg_sl ([.int n, .int 0, .int (-1)]) ++ List.replicate (3 - (lg_sl ([.int n, .int 0, .int (-1)])).length) Slot.unset).toArray = ls at hl ⊢
  have hl : lv_has ls 3 [(0, .int n), (1, .int 0), (2, .int (-1))] := hl
  refine lv_iload_n hx hb dX9_isIn_0 rfl (lv_at hl 0 rfl) ?_
  refine lv_iload_n hx hb dX9_isIn_1 rfl (lv_at hl 1 rfl) ?_
  refine lv_icmp_lt (tgt := 14) hx hb dX9_isIn_2 (by decide) (fun c2 => ?_) (fun c2 => ?_)
  · refine lv_iconst (v := 0) hx hb dX9_isIn_14 (by decide) ?_
    have hP9 := hP.sub (ws' := []) [] rfl
    have hD9 := hD.sub (ws' := []) [] (by decide) rfl
    have hK9 := hK.sub (tys' := []) [] rfl
    exact W.zret (v := 0) hx hb hr (by decide) (fun t ht hW => ⟨⟨0, (), rfl, rfl, by rw [ht]; exact hP9, va_K.moved hW.alike hK9, hD9⟩, hS.F ht⟩) hS.2.2 dX9_isIn_15
  · refine lv_iload_n hx hb dX9_isIn_5 rfl (lv_at hl 0 rfl) ?_
    refine lv_iload_n hx hb dX9_isIn_6 rfl (lv_at hl 2 rfl) ?_
    refine lv_icmp_gt (tgt := 14) hx hb dX9_isIn_7 (by decide) (fun c7 => ?_) (fun c7 => absurd c7 (fun z9 => z9 (p1_m1 c2)))
    refine lv_iconst (v := 0) hx hb dX9_isIn_14 (by decide) ?_
    have hP9 := hP.sub (ws' := []) [] rfl
    have hD9 := hD.sub (ws' := []) [] (by decide) rfl
    have hK9 := hK.sub (tys' := []) [] rfl
    exact W.zret (v := 0) hx hb hr (by decide) (fun t ht hW => ⟨⟨0, (), rfl, rfl, by rw [ht]; exact hP9, va_K.moved hW.alike hK9, hD9⟩, hS.F ht⟩) hS.2.2 dX9_isIn_15
def zo_c_canWalkIn : List Cond := [.code yX8_canWalkIn cX8_canWalkIn 3 (some .boolean), .fieldLink RX8 60 "BowWalk" "shop" "LBowWalk$Shop;", .methodLink RX8 104 yX5_has, .instanceMethod yX5_has, .selects RX5 yX5_has yX5_has, .initialized RX5]
def zw_c_canWalkIn : List Cond := zo_c_canWalkIn ++ (zw_c_has0 ++ (wsX80 ++ []))
theorem gz_c_canWalkIn : zw_c_canWalkIn.all goodWord = true := p1_ga (by decide +kernel) (p1_ga gz_c_has0 (p1_ga gk_X8 p1_g0))
theorem iz_c_canWalkIn : ∀ w ∈ zw_c_canWalkIn, w ∈ lw_tbl := p1_ia (p1_all [817, 508, 714, 715, 716, 106] (by decide +kernel)) (p1_ia iz_c_has0 (p1_ia ik_X8 p1_i0))
set_option maxHeartbeats 4000000 in
set_option maxRecDepth 100000 in
theorem c_canWalkIn (l : Launch) (dC : Nat → ClassId) (dI : Nat → Nat → Nat) (sz : Nat) (x : Nat) (xs : List Value) (sh : Nat) (ss : List Value) (sc : Nat) (cS : ClassId) (cord : Int32) (walk : Int32) (f_xs_9 : xs[9]? = some (.ref sh)) (f_ss_0 : ss[0]? = some (.ref sc)) : Met l yX8_canWalkIn zw_c_canWalkIn ({ frames := 1, cells := 0, slots := 0, locals := 22 }) (va_Pc [.ref x, .int cord, .int walk] (fun U => U.heap.size = sz ∧ va_P (dC, dI) vwCl [(x, .inr (7, xs)), (sh, .inr (5, ss)), (sc, .inl (cS, 5, .inl (fun _ => 0)))] U.heap ∧ va_K (dC, dI) vwCl [(cS, .int)] U ∧ va_D (fun _ => True) [(x, .inr (7, xs)), (sh, .inr (5, ss)), (sc, .inl (cS, 5, .inl (fun _ => 0)))])) (va_Qi (fun (r : Int32) (_ : Unit) => r = 0) (fun _ t => va_P (dC, dI) vwCl [(x, .inr (7, xs)), (sh, .inr (5, ss)), (sc, .inl (cS, 5, .inl (fun _ => 0)))] t.heap ∧ va_K (dC, dI) vwCl [(cS, .int)] t ∧ va_D (va_A [(x, .inr (7, xs)), (sh, .inr (5, ss)), (sc, .inl (cS, 5, .inl (fun _ => 0)))] sz) [(x, .inr (7, xs)), (sh, .inr (5, ss)), (sc, .inl (cS, 5, .inl (fun _ => 0)))]) (va_A [(x, .inr (7, xs)), (sh, .inr (5, ss)), (sc, .inl (cS, 5, .inl (fun _ => 0)))] sz)) 0 0 (va_A [(x, .inr (7, xs)), (sh, .inr (5, ss)), (sc, .inl (cS, 5, .inl (fun _ => 0)))] sz) := by
  refine Met.ofW (cc := cX8_canWalkIn) (maxL := 3) (ret := (some .boolean)) (by decide) rfl ?_
  intro p e s m args below meth c s₁ B hml hv
  obtain ⟨rfl, hsz, hP, hK, hD0⟩ := hv
  have hx := B.exec
  have hb := B.bytes
  have hr := B.returns
  have hts := atoms_spec (ws := zw_c_canWalkIn) B.pre
  have hown : s.vm.findClass RX8 = some m.cls := findClass_of_methodNamed B.named
  have hlocks := B.notSynchronized
  subst hsz
  have hD := hD0.self (sz := s.heap.size)
  generalize hAe : va_A [(x, .inr (7, xs)), (sh, .inr (5, ss)), (sc, .inl (cS, 5, .inl (fun _ => 0)))] s.heap.size = A at hD ⊢
  have hA : ∀ q : Nat, s.heap.size ≤ q → A q := fun q h => by rw [← hAe]; exact Or.inr h
  have hS : va_S A s.heap s.heap [] := va_S.rf
  have hP : va_P (dC, dI) vwCl [(x, .inr (7, xs)), (sh, .inr (5, ss)), (sc, .inl (cS, 5, .inl (fun _ => 0)))] s.heap := hP
  have m_0 : (.fieldLink RX8 60 "BowWalk" "shop" "LBowWalk$Shop;" : Cond) ∈ zw_c_canWalkIn := List.mem_append_left _ (List.mem_of_getElem? (i := 1) rfl)
  have k_0 := hts _ m_0
  have m_1 : (.methodLink RX8 104 yX5_has : Cond) ∈ zw_c_canWalkIn := List.mem_append_left _ (List.mem_of_getElem? (i := 2) rfl)
  have k_1 := hts _ m_1
  have m_2 : (.instanceMethod yX5_has : Cond) ∈ zw_c_canWalkIn := List.mem_append_left _ (List.mem_of_getElem? (i := 3) rfl)
  have k_2 := hts _ m_2
  have m_3 : (.selects RX5 yX5_has yX5_has : Cond) ∈ zw_c_canWalkIn := List.mem_append_left _ (List.mem_of_getElem? (i := 4) rfl)
  have k_3 := hts _ m_3
  have m_4 : (.initialized RX5 : Cond) ∈ zw_c_canWalkIn := List.mem_append_left _ (List.mem_of_getElem? (i := 5) rfl)
  have k_4 := hts _ m_4
  have g_c_has0 : ∀ w ∈ zw_c_has0, w ∈ zw_c_canWalkIn := fun w h => List.mem_append_right _ (List.mem_append_left _ h)
  have i_X8 : ∀ w ∈ u_ws RX8 TX8 14, w ∈ zw_c_canWalkIn := fun w h => List.mem_append_right _ (List.mem_append_right _ (List.mem_append_left _ h))
  have hl := lv_entry ([.ref x, .int cord, .int walk]) (n := 3) (Nat.le_of_ble_eq_true rfl)
  rw [lg_entry_eq]
  generalize (lg_sl ([.ref x, .int cord, .int walk]) ++ List.replicate (3 - (lg_sl ([.ref x, .int cord, .int walk])).length) Slot.unset).toArray = ls at hl ⊢
  have hl : lv_has ls 3 [(0, .ref x), (1, .int cord), (2, .int walk)] := hl
  refine lv_aload_n hx hb dX8_canWalkIn_0 rfl (lv_at hl 0 rfl) ?_
  refine va_get (D := (dC, dI)) (ci := 7) (v := .ref sh) (C := RX8) (T := TX8) (N := 14) hx hb hts i_X8 hown hK hP 0 rfl rfl 9 (by decide) k_0 (fun _ h9 => h9) f_xs_9 dX8_canWalkIn_1 ?_
  refine lv_iconst (v := 1) hx hb dX8_canWalkIn_4 (by decide) ?_
  refine lv_iload_n hx hb dX8_canWalkIn_5 rfl (lv_at hl 1 rfl) ?_
  have hPc := hP.sub (ws' := [(sh, .inr (5, ss)), (sc, .inl (cS, 5, .inl (fun _ => 0)))]) [1, 2] rfl
  have hDc := hD.sub (ws' := [(sh, .inr (5, ss)), (sc, .inl (cS, 5, .inl (fun _ => 0)))]) [1, 2] (by decide) rfl
  have hKc := hK.sub (tys' := [(cS, .int)]) [0] rfl
  have hFc := va_free (wc := [(sh, .inr (5, ss)), (sc, .inl (cS, 5, .inl (fun _ => 0)))]) hD hS hA [1, 2] rfl
  refine va_calli (va_runV (As := [.int 1, .int cord]) (rest := []) ⟨hx, hb, hml, hown, hts⟩ (c_has0 l dC dI s.heap.size sh ss sc cS 1 cord f_ss_0 (p1_in (i := 1) (n := 5) (by decide))) (cwV 2 hts (p1_gV m_1 m_2 m_3 m_4 g_c_has0 gz_c_has0) rfl rfl rfl (by decide +kernel) ⟨by decide, by decide⟩) ⟨fun a U g mk q => by obtain ⟨q0, q1, qP, qK, qD⟩ := q; exact ⟨q0, q1, qP, va_K.moved (u := U) (U := U.calling g mk a) (Vm.Alike.refl U.vm) qK, qD⟩, va_recv hKc hPc (ci := 5) (q0 := 0) rfl rfl, fun U hU hW => ⟨rfl, by rw [hU], by rw [hU]; exact hPc, va_K.moved hW.alike hKc, hDc.weaken (fun _ _ _ _ => trivial)⟩⟩ rfl rfl hl.1 rfl (lv_room (Nat.le_of_ble_eq_true rfl)) dX8_canWalkIn_6 ⟨by decide, by decide⟩) hS (fun q _ h => hFc q h) hFc (fun r_1 u t H1 locs ht hvm hw hB hz1 hk1 hS => ?_)
  obtain ⟨hP1, hK1, hD1⟩ := hB
  rw [ht] at hP1
  obtain ⟨hP, hD⟩ := va_join (wr := [(x, .inr (7, xs))]) (w1 := [(sh, .inr (5, ss)), (sc, .inl (cS, 5, .inl (fun _ => 0)))]) hP hD [1, 2] [0] rfl rfl (by decide) (by decide) hk1 hFc hP1 hD1
  generalize H1 = H at hP hS ⊢
  have hP : va_P (dC, dI) vwCl [(x, .inr (7, xs)), (sh, .inr (5, ss)), (sc, .inl (cS, 5, .inl (fun _ => 0)))] H := hP
  have hD : va_D A [(x, .inr (7, xs)), (sh, .inr (5, ss)), (sc, .inl (cS, 5, .inl (fun _ => 0)))] := hD
  try dsimp only at hw
  obtain rfl : r_1 = 0 := hw
  refine lv_if_eq (tgt := 28) hx hb dX8_canWalkIn_9 (by decide) (fun _ => ?_) (fun c9 => absurd c9 (by decide))
  refine lv_iconst (v := 0) hx hb dX8_canWalkIn_28 (by decide) ?_
  have hP9 := hP.sub (ws' := [(x, .inr (7, xs)), (sh, .inr (5, ss)), (sc, .inl (cS, 5, .inl (fun _ => 0)))]) [0, 1, 2] rfl
  have hD9 := hD.sub (ws' := [(x, .inr (7, xs)), (sh, .inr (5, ss)), (sc, .inl (cS, 5, .inl (fun _ => 0)))]) [0, 1, 2] (by decide) rfl
  have hK9 := hK.sub (tys' := [(cS, .int)]) [0] rfl
  exact W.zret (v := 0) hx hb hr (by decide) (fun t ht hW => ⟨⟨0, (), rfl, rfl, by rw [ht]; exact hP9, va_K.moved hW.alike hK9, hD9⟩, hS.F ht⟩) hS.2.2 dX8_canWalkIn_29
def zo_c_canTry : List Cond := [.code yX8_canTry cX8_canTry 4 (some .boolean), .fieldLink RX8 60 "BowWalk" "shop" "LBowWalk$Shop;", .methodLink RX8 104 yX5_has, .instanceMethod yX5_has, .selects RX5 yX5_has yX5_has, .initialized RX5]
def zw_c_canTry : List Cond := zo_c_canTry ++ (zw_c_has0 ++ (wsX80 ++ []))
theorem gz_c_canTry : zw_c_canTry.all goodWord = true := p1_ga (by decide +kernel) (p1_ga gz_c_has0 (p1_ga gk_X8 p1_g0))
theorem iz_c_canTry : ∀ w ∈ zw_c_canTry, w ∈ lw_tbl := p1_ia (p1_all [813, 508, 714, 715, 716, 106] (by decide +kernel)) (p1_ia iz_c_has0 (p1_ia ik_X8 p1_i0))
set_option maxHeartbeats 4000000 in
set_option maxRecDepth 100000 in
theorem c_canTry (l : Launch) (dC : Nat → ClassId) (dI : Nat → Nat → Nat) (sz : Nat) (x : Nat) (xs : List Value) (sh : Nat) (ss : List Value) (sc : Nat) (cS : ClassId) (knot : Int32) (cord : Int32) (walk : Int32) (f_xs_9 : xs[9]? = some (.ref sh)) (f_ss_0 : ss[0]? = some (.ref sc)) : Met l yX8_canTry zw_c_canTry ({ frames := 1, cells := 0, slots := 0, locals := 22 }) (va_Pc [.ref x, .int knot, .int cord, .int walk] (fun U => U.heap.size = sz ∧ va_P (dC, dI) vwCl [(x, .inr (7, xs)), (sh, .inr (5, ss)), (sc, .inl (cS, 5, .inl (fun _ => 0)))] U.heap ∧ va_K (dC, dI) vwCl [(cS, .int)] U ∧ va_D (fun _ => True) [(x, .inr (7, xs)), (sh, .inr (5, ss)), (sc, .inl (cS, 5, .inl (fun _ => 0)))])) (va_Qi (fun (r : Int32) (_ : Unit) => r = 0) (fun _ t => va_P (dC, dI) vwCl [(x, .inr (7, xs)), (sh, .inr (5, ss)), (sc, .inl (cS, 5, .inl (fun _ => 0)))] t.heap ∧ va_K (dC, dI) vwCl [(cS, .int)] t ∧ va_D (va_A [(x, .inr (7, xs)), (sh, .inr (5, ss)), (sc, .inl (cS, 5, .inl (fun _ => 0)))] sz) [(x, .inr (7, xs)), (sh, .inr (5, ss)), (sc, .inl (cS, 5, .inl (fun _ => 0)))]) (va_A [(x, .inr (7, xs)), (sh, .inr (5, ss)), (sc, .inl (cS, 5, .inl (fun _ => 0)))] sz)) 0 0 (va_A [(x, .inr (7, xs)), (sh, .inr (5, ss)), (sc, .inl (cS, 5, .inl (fun _ => 0)))] sz) := by
  refine Met.ofW (cc := cX8_canTry) (maxL := 4) (ret := (some .boolean)) (by decide) rfl ?_
  intro p e s m args below meth c s₁ B hml hv
  obtain ⟨rfl, hsz, hP, hK, hD0⟩ := hv
  have hx := B.exec
  have hb := B.bytes
  have hr := B.returns
  have hts := atoms_spec (ws := zw_c_canTry) B.pre
  have hown : s.vm.findClass RX8 = some m.cls := findClass_of_methodNamed B.named
  have hlocks := B.notSynchronized
  subst hsz
  have hD := hD0.self (sz := s.heap.size)
  generalize hAe : va_A [(x, .inr (7, xs)), (sh, .inr (5, ss)), (sc, .inl (cS, 5, .inl (fun _ => 0)))] s.heap.size = A at hD ⊢
  have hA : ∀ q : Nat, s.heap.size ≤ q → A q := fun q h => by rw [← hAe]; exact Or.inr h
  have hS : va_S A s.heap s.heap [] := va_S.rf
  have hP : va_P (dC, dI) vwCl [(x, .inr (7, xs)), (sh, .inr (5, ss)), (sc, .inl (cS, 5, .inl (fun _ => 0)))] s.heap := hP
  have m_0 : (.fieldLink RX8 60 "BowWalk" "shop" "LBowWalk$Shop;" : Cond) ∈ zw_c_canTry := List.mem_append_left _ (List.mem_of_getElem? (i := 1) rfl)
  have k_0 := hts _ m_0
  have m_1 : (.methodLink RX8 104 yX5_has : Cond) ∈ zw_c_canTry := List.mem_append_left _ (List.mem_of_getElem? (i := 2) rfl)
  have k_1 := hts _ m_1
  have m_2 : (.instanceMethod yX5_has : Cond) ∈ zw_c_canTry := List.mem_append_left _ (List.mem_of_getElem? (i := 3) rfl)
  have k_2 := hts _ m_2
  have m_3 : (.selects RX5 yX5_has yX5_has : Cond) ∈ zw_c_canTry := List.mem_append_left _ (List.mem_of_getElem? (i := 4) rfl)
  have k_3 := hts _ m_3
  have m_4 : (.initialized RX5 : Cond) ∈ zw_c_canTry := List.mem_append_left _ (List.mem_of_getElem? (i := 5) rfl)
  have k_4 := hts _ m_4
  have g_c_has0 : ∀ w ∈ zw_c_has0, w ∈ zw_c_canTry := fun w h => List.mem_append_right _ (List.mem_append_left _ h)
  have i_X8 : ∀ w ∈ u_ws RX8 TX8 14, w ∈ zw_c_canTry := fun w h => List.mem_append_right _ (List.mem_append_right _ (List.mem_append_left _ h))
  have hl := lv_entry ([.ref x, .int knot, .int cord, .int walk]) (n := 4) (Nat.le_of_ble_eq_true rfl)
  rw [lg_entry_eq]
  generalize (lg_sl ([.ref x, .int knot, .int cord, .int walk]) ++ List.replicate (4 - (lg_sl ([.ref x, .int knot, .int cord, .int walk])).length) Slot.unset).toArray = ls at hl ⊢
  have hl : lv_has ls 4 [(0, .ref x), (1, .int knot), (2, .int cord), (3, .int walk)] := hl
  refine lv_aload_n hx hb dX8_canTry_0 rfl (lv_at hl 0 rfl) ?_
  refine va_get (D := (dC, dI)) (ci := 7) (v := .ref sh) (C := RX8) (T := TX8) (N := 14) hx hb hts i_X8 hown hK hP 0 rfl rfl 9 (by decide) k_0 (fun _ h9 => h9) f_xs_9 dX8_canTry_1 ?_
  refine lv_iconst (v := 0) hx hb dX8_canTry_4 (by decide) ?_
  refine lv_iload_n hx hb dX8_canTry_5 rfl (lv_at hl 1 rfl) ?_
  have hPc := hP.sub (ws' := [(sh, .inr (5, ss)), (sc, .inl (cS, 5, .inl (fun _ => 0)))]) [1, 2] rfl
  have hDc := hD.sub (ws' := [(sh, .inr (5, ss)), (sc, .inl (cS, 5, .inl (fun _ => 0)))]) [1, 2] (by decide) rfl
  have hKc := hK.sub (tys' := [(cS, .int)]) [0] rfl
  have hFc := va_free (wc := [(sh, .inr (5, ss)), (sc, .inl (cS, 5, .inl (fun _ => 0)))]) hD hS hA [1, 2] rfl
  refine va_calli (va_runV (As := [.int 0, .int knot]) (rest := []) ⟨hx, hb, hml, hown, hts⟩ (c_has0 l dC dI s.heap.size sh ss sc cS 0 knot f_ss_0 (p1_in (i := 0) (n := 5) (by decide))) (cwV 2 hts (p1_gV m_1 m_2 m_3 m_4 g_c_has0 gz_c_has0) rfl rfl rfl (by decide +kernel) ⟨by decide, by decide⟩) ⟨fun a U g mk q => by obtain ⟨q0, q1, qP, qK, qD⟩ := q; exact ⟨q0, q1, qP, va_K.moved (u := U) (U := U.calling g mk a) (Vm.Alike.refl U.vm) qK, qD⟩, va_recv hKc hPc (ci := 5) (q0 := 0) rfl rfl, fun U hU hW => ⟨rfl, by rw [hU], by rw [hU]; exact hPc, va_K.moved hW.alike hKc, hDc.weaken (fun _ _ _ _ => trivial)⟩⟩ rfl rfl hl.1 rfl (lv_room (Nat.le_of_ble_eq_true rfl)) dX8_canTry_6 ⟨by decide, by decide⟩) hS (fun q _ h => hFc q h) hFc (fun r_1 u t H1 locs ht hvm hw hB hz1 hk1 hS => ?_)
  obtain ⟨hP1, hK1, hD1⟩ := hB
  rw [ht] at hP1
  obtain ⟨hP, hD⟩ := va_join (wr := [(x, .inr (7, xs))]) (w1 := [(sh, .inr (5, ss)), (sc, .inl (cS, 5, .inl (fun _ => 0)))]) hP hD [1, 2] [0] rfl rfl (by decide) (by decide) hk1 hFc hP1 hD1
  generalize H1 = H at hP hS ⊢
  have hP : va_P (dC, dI) vwCl [(x, .inr (7, xs)), (sh, .inr (5, ss)), (sc, .inl (cS, 5, .inl (fun _ => 0)))] H := hP
  have hD : va_D A [(x, .inr (7, xs)), (sh, .inr (5, ss)), (sc, .inl (cS, 5, .inl (fun _ => 0)))] := hD
  try dsimp only at hw
  obtain rfl : r_1 = 0 := hw
  refine lv_if_eq (tgt := 25) hx hb dX8_canTry_9 (by decide) (fun _ => ?_) (fun c9 => absurd c9 (by decide))
  refine lv_iconst (v := 0) hx hb dX8_canTry_25 (by decide) ?_
  have hP9 := hP.sub (ws' := [(x, .inr (7, xs)), (sh, .inr (5, ss)), (sc, .inl (cS, 5, .inl (fun _ => 0)))]) [0, 1, 2] rfl
  have hD9 := hD.sub (ws' := [(x, .inr (7, xs)), (sh, .inr (5, ss)), (sc, .inl (cS, 5, .inl (fun _ => 0)))]) [0, 1, 2] (by decide) rfl
  have hK9 := hK.sub (tys' := [(cS, .int)]) [0] rfl
  exact W.zret (v := 0) hx hb hr (by decide) (fun t ht hW => ⟨⟨0, (), rfl, rfl, by rw [ht]; exact hP9, va_K.moved hW.alike hK9, hD9⟩, hS.F ht⟩) hS.2.2 dX8_canTry_26
def zo_c_isKnot : List Cond := [.code yX9_isKnot cX9_isKnot 2 (some .boolean), .fieldLink RX9 20 "BowWalkModel" "knots" "[I", .fieldLink RX9 291 "BowWalkModel" "bank" "I", .methodLink RX9 389 yX9_isIn, .static yX9_isIn, .initialized RX9]
def zw_c_isKnot : List Cond := zo_c_isKnot ++ (zw_c_isInNeg ++ (wsX90 ++ []))
theorem gz_c_isKnot : zw_c_isKnot.all goodWord = true := p1_ga (by decide +kernel) (p1_ga gz_c_isInNeg (p1_ga gk_X9 p1_g0))
theorem iz_c_isKnot : ∀ w ∈ zw_c_isKnot, w ∈ lw_tbl := p1_ia (p1_all [1438, 1048, 1080, 1439, 1440, 116] (by decide +kernel)) (p1_ia iz_c_isInNeg (p1_ia ik_X9 p1_i0))
set_option maxHeartbeats 4000000 in
set_option maxRecDepth 100000 in
theorem c_isKnot (l : Launch) (dC : Nat → ClassId) (dI : Nat → Nat → Nat) (sz : Nat) (mo : Nat) (ms : List Value) (kn : Nat) (cK : ClassId) (kf : Nat → Int32) (k : Int32) (f_ms_11 : ms[11]? = some (.ref kn)) (f_ms_43 : ms[43]? = some (.int 0)) (h_kf_0 : kf 0 = 0) : Met l yX9_isKnot zw_c_isKnot ({ frames := 1, cells := 0, slots := 0, locals := 22 }) (va_Pc [.ref mo, .int k] (fun U => U.heap.size = sz ∧ va_P (dC, dI) vwCl [(mo, .inr (8, ms)), (kn, .inl (cK, 2, .inl kf))] U.heap ∧ va_K (dC, dI) vwCl [(cK, .int)] U ∧ va_D (fun _ => True) [(mo, .inr (8, ms)), (kn, .inl (cK, 2, .inl kf))])) (va_Qi (fun (r : Int32) (_ : Unit) => r = 0) (fun _ t => va_P (dC, dI) vwCl [(mo, .inr (8, ms)), (kn, .inl (cK, 2, .inl kf))] t.heap ∧ va_K (dC, dI) vwCl [(cK, .int)] t ∧ va_D (va_A [(mo, .inr (8, ms)), (kn, .inl (cK, 2, .inl kf))] sz) [(mo, .inr (8, ms)), (kn, .inl (cK, 2, .inl kf))]) (va_A [(mo, .inr (8, ms)), (kn, .inl (cK, 2, .inl kf))] sz)) 0 0 (va_A [(mo, .inr (8, ms)), (kn, .inl (cK, 2, .inl kf))] sz) := by
  refine Met.ofW (cc := cX9_isKnot) (maxL := 2) (ret := (some .boolean)) (by decide) rfl ?_
  intro p e s m args below meth c s₁ B hml hv
  obtain ⟨rfl, hsz, hP, hK, hD0⟩ := hv
  have hx := B.exec
  have hb := B.bytes
  have hr := B.returns
  have hts := atoms_spec (ws := zw_c_isKnot) B.pre
  have hown : s.vm.findClass RX9 = some m.cls := findClass_of_methodNamed B.named
  have hlocks := B.notSynchronized
  subst hsz
  have hD := hD0.self (sz := s.heap.size)
  generalize hAe : va_A [(mo, .inr (8, ms)), (kn, .inl (cK, 2, .inl kf))] s.heap.size = A at hD ⊢
  have hA : ∀ q : Nat, s.heap.size ≤ q → A q := fun q h => by rw [← hAe]; exact Or.inr h
  have hS : va_S A s.heap s.heap [] := va_S.rf
  have hP : va_P (dC, dI) vwCl [(mo, .inr (8, ms)), (kn, .inl (cK, 2, .inl kf))] s.heap := hP
  have m_0 : (.fieldLink RX9 20 "BowWalkModel" "knots" "[I" : Cond) ∈ zw_c_isKnot := List.mem_append_left _ (List.mem_of_getElem? (i := 1) rfl)
  have k_0 := hts _ m_0
  have m_1 : (.fieldLink RX9 291 "BowWalkModel" "bank" "I" : Cond) ∈ zw_c_isKnot := List.mem_append_left _ (List.mem_of_getElem? (i := 2) rfl)
  have k_1 := hts _ m_1
  have m_2 : (.methodLink RX9 389 yX9_isIn : Cond) ∈ zw_c_isKnot := List.mem_append_left _ (List.mem_of_getElem? (i := 3) rfl)
  have k_2 := hts _ m_2
  have m_3 : (.static yX9_isIn : Cond) ∈ zw_c_isKnot := List.mem_append_left _ (List.mem_of_getElem? (i := 4) rfl)
  have k_3 := hts _ m_3
  have m_4 : (.initialized RX9 : Cond) ∈ zw_c_isKnot := List.mem_append_left _ (List.mem_of_getElem? (i := 5) rfl)
  have k_4 := hts _ m_4
  have g_c_isInNeg : ∀ w ∈ zw_c_isInNeg, w ∈ zw_c_isKnot := fun w h => List.mem_append_right _ (List.mem_append_left _ h)
  have i_X9 : ∀ w ∈ u_ws RX9 TX9 81, w ∈ zw_c_isKnot := fun w h => List.mem_append_right _ (List.mem_append_right _ (List.mem_append_left _ h))
  have hl := lv_entry ([.ref mo, .int k]) (n := 2) (Nat.le_of_ble_eq_true rfl)
  rw [lg_entry_eq]
  generalize (lg_sl ([.ref mo, .int k]) ++ List.replicate (2 - (lg_sl ([.ref mo, .int k])).length) Slot.unset).toArray = ls at hl ⊢
  have hl : lv_has ls 2 [(0, .ref mo), (1, .int k)] := hl
  refine lv_iload_n hx hb dX9_isKnot_0 rfl (lv_at hl 1 rfl) ?_
  refine lv_iconst (v := 0) hx hb dX9_isKnot_1 (by decide) ?_
  refine lv_aload_n hx hb dX9_isKnot_2 rfl (lv_at hl 0 rfl) ?_
  refine va_get (D := (dC, dI)) (ci := 8) (v := .ref kn) (C := RX9) (T := TX9) (N := 81) hx hb hts i_X9 hown hK hP 0 rfl rfl 11 (by decide) k_0 (fun _ h9 => h9) f_ms_11 dX9_isKnot_3 ?_
  refine lv_aload_n hx hb dX9_isKnot_6 rfl (lv_at hl 0 rfl) ?_
  refine va_get (D := (dC, dI)) (ci := 8) (v := .int 0) (C := RX9) (T := TX9) (N := 81) hx hb hts i_X9 hown hK hP 0 rfl rfl 43 (by decide) k_1 (fun _ h9 => h9) f_ms_43 dX9_isKnot_7 ?_
  refine va_iald hx hb hK hP 1 0 rfl rfl (p1_in (i := 0) (n := 2) (by decide)) dX9_isKnot_10 ?_
  refine lv_topi (fun v_1 ev_1 => ?_)
  obtain rfl : v_1 = 0 := ev_1.trans h_kf_0
  refine lv_iconst (v := 1) hx hb dX9_isKnot_11 (by decide) ?_
  refine lv_isub hx hb dX9_isKnot_12 ?_
  refine lv_topi (fun v_2 ev_2 => ?_)
  obtain rfl : v_2 = (-1) := ev_2.trans (by decide)
  have hPc := hP.sub (ws' := []) [] rfl
  have hDc := hD.sub (ws' := []) [] (by decide) rfl
  have hKc := hK.sub (tys' := []) [] rfl
  have hFc := va_free (wc := []) hD hS hA [] rfl
  refine va_calli (va_runS (As := [.int k, .int 0, .int (-1)]) (rest := []) ⟨hx, hb, hml, hown, hts⟩ (c_isInNeg l dC dI s.heap.size k) (va_cwS 3 hts (p1_gS m_2 m_3 m_4 g_c_isInNeg gz_c_isInNeg) rfl rfl rfl (by decide +kernel) ⟨by decide, by decide⟩) ⟨fun a U g mk q => by obtain ⟨q0, q1, qP, qK, qD⟩ := q; exact ⟨q0, q1, qP, va_K.moved (u := U) (U := U.calling g mk a) (Vm.Alike.refl U.vm) qK, qD⟩, fun U hU hW => ⟨rfl, by rw [hU], by rw [hU]; exact hPc, va_K.moved hW.alike hKc, hDc.weaken (fun _ _ _ _ => trivial)⟩⟩ rfl rfl hl.1 rfl (lv_room (Nat.le_of_ble_eq_true rfl)) dX9_isKnot_13 ⟨by decide, by decide⟩) hS (fun q _ h => hFc q h) hFc (fun r_3 u t H1 locs ht hvm hw hB hz1 hk1 hS => ?_)
  obtain ⟨hP1, hK1, hD1⟩ := hB
  rw [ht] at hP1
  obtain ⟨hP, hD⟩ := va_join (wr := [(mo, .inr (8, ms)), (kn, .inl (cK, 2, .inl kf))]) (w1 := []) hP hD [] [0, 1] rfl rfl (by decide) (by decide) hk1 hFc hP1 hD1
  generalize H1 = H at hP hS ⊢
  have hP : va_P (dC, dI) vwCl [(mo, .inr (8, ms)), (kn, .inl (cK, 2, .inl kf))] H := hP
  have hD : va_D A [(mo, .inr (8, ms)), (kn, .inl (cK, 2, .inl kf))] := hD
  try dsimp only at hw
  obtain rfl : r_3 = 0 := hw
  have hP9 := hP.sub (ws' := [(mo, .inr (8, ms)), (kn, .inl (cK, 2, .inl kf))]) [0, 1] rfl
  have hD9 := hD.sub (ws' := [(mo, .inr (8, ms)), (kn, .inl (cK, 2, .inl kf))]) [0, 1] (by decide) rfl
  have hK9 := hK.sub (tys' := [(cK, .int)]) [0] rfl
  exact W.zret (v := 0) hx hb hr (by decide) (fun t ht hW => ⟨⟨0, (), rfl, rfl, by rw [ht]; exact hP9, va_K.moved hW.alike hK9, hD9⟩, hS.F ht⟩) hS.2.2 dX9_isKnot_16
def zo_c_isCord : List Cond := [.code yX9_isCord cX9_isCord 2 (some .boolean), .fieldLink RX9 24 "BowWalkModel" "cords" "[I", .fieldLink RX9 291 "BowWalkModel" "bank" "I", .methodLink RX9 389 yX9_isIn, .static yX9_isIn, .initialized RX9]
def zw_c_isCord : List Cond := zo_c_isCord ++ (zw_c_isInNeg ++ (wsX90 ++ []))
theorem gz_c_isCord : zw_c_isCord.all goodWord = true := p1_ga (by decide +kernel) (p1_ga gz_c_isInNeg (p1_ga gk_X9 p1_g0))
theorem iz_c_isCord : ∀ w ∈ zw_c_isCord, w ∈ lw_tbl := p1_ia (p1_all [1445, 1049, 1080, 1439, 1440, 116] (by decide +kernel)) (p1_ia iz_c_isInNeg (p1_ia ik_X9 p1_i0))
set_option maxHeartbeats 4000000 in
set_option maxRecDepth 100000 in
theorem c_isCord (l : Launch) (dC : Nat → ClassId) (dI : Nat → Nat → Nat) (sz : Nat) (mo : Nat) (ms : List Value) (co : Nat) (cC : ClassId) (cf : Nat → Int32) (k : Int32) (f_ms_12 : ms[12]? = some (.ref co)) (f_ms_43 : ms[43]? = some (.int 0)) (h_cf_0 : cf 0 = 0) : Met l yX9_isCord zw_c_isCord ({ frames := 1, cells := 0, slots := 0, locals := 22 }) (va_Pc [.ref mo, .int k] (fun U => U.heap.size = sz ∧ va_P (dC, dI) vwCl [(mo, .inr (8, ms)), (co, .inl (cC, 2, .inl cf))] U.heap ∧ va_K (dC, dI) vwCl [(cC, .int)] U ∧ va_D (fun _ => True) [(mo, .inr (8, ms)), (co, .inl (cC, 2, .inl cf))])) (va_Qi (fun (r : Int32) (_ : Unit) => r = 0) (fun _ t => va_P (dC, dI) vwCl [(mo, .inr (8, ms)), (co, .inl (cC, 2, .inl cf))] t.heap ∧ va_K (dC, dI) vwCl [(cC, .int)] t ∧ va_D (va_A [(mo, .inr (8, ms)), (co, .inl (cC, 2, .inl cf))] sz) [(mo, .inr (8, ms)), (co, .inl (cC, 2, .inl cf))]) (va_A [(mo, .inr (8, ms)), (co, .inl (cC, 2, .inl cf))] sz)) 0 0 (va_A [(mo, .inr (8, ms)), (co, .inl (cC, 2, .inl cf))] sz) := by
  refine Met.ofW (cc := cX9_isCord) (maxL := 2) (ret := (some .boolean)) (by decide) rfl ?_
  intro p e s m args below meth c s₁ B hml hv
  obtain ⟨rfl, hsz, hP, hK, hD0⟩ := hv
  have hx := B.exec
  have hb := B.bytes
  have hr := B.returns
  have hts := atoms_spec (ws := zw_c_isCord) B.pre
  have hown : s.vm.findClass RX9 = some m.cls := findClass_of_methodNamed B.named
  have hlocks := B.notSynchronized
  subst hsz
  have hD := hD0.self (sz := s.heap.size)
  generalize hAe : va_A [(mo, .inr (8, ms)), (co, .inl (cC, 2, .inl cf))] s.heap.size = A at hD ⊢
  have hA : ∀ q : Nat, s.heap.size ≤ q → A q := fun q h => by rw [← hAe]; exact Or.inr h
  have hS : va_S A s.heap s.heap [] := va_S.rf
  have hP : va_P (dC, dI) vwCl [(mo, .inr (8, ms)), (co, .inl (cC, 2, .inl cf))] s.heap := hP
  have m_0 : (.fieldLink RX9 24 "BowWalkModel" "cords" "[I" : Cond) ∈ zw_c_isCord := List.mem_append_left _ (List.mem_of_getElem? (i := 1) rfl)
  have k_0 := hts _ m_0
  have m_1 : (.fieldLink RX9 291 "BowWalkModel" "bank" "I" : Cond) ∈ zw_c_isCord := List.mem_append_left _ (List.mem_of_getElem? (i := 2) rfl)
  have k_1 := hts _ m_1
  have m_2 : (.methodLink RX9 389 yX9_isIn : Cond) ∈ zw_c_isCord := List.mem_append_left _ (List.mem_of_getElem? (i := 3) rfl)
  have k_2 := hts _ m_2
  have m_3 : (.static yX9_isIn : Cond) ∈ zw_c_isCord := List.mem_append_left _ (List.mem_of_getElem? (i := 4) rfl)
  have k_3 := hts _ m_3
  have m_4 : (.initialized RX9 : Cond) ∈ zw_c_isCord := List.mem_append_left _ (List.mem_of_getElem? (i := 5) rfl)
  have k_4 := hts _ m_4
  have g_c_isInNeg : ∀ w ∈ zw_c_isInNeg, w ∈ zw_c_isCord := fun w h => List.mem_append_right _ (List.mem_append_left _ h)
  have i_X9 : ∀ w ∈ u_ws RX9 TX9 81, w ∈ zw_c_isCord := fun w h => List.mem_append_right _ (List.mem_append_right _ (List.mem_append_left _ h))
  have hl := lv_entry ([.ref mo, .int k]) (n := 2) (Nat.le_of_ble_eq_true rfl)
  rw [lg_entry_eq]
  generalize (lg_sl ([.ref mo, .int k]) ++ List.replicate (2 - (lg_sl ([.ref mo, .int k])).length) Slot.unset).toArray = ls at hl ⊢
  have hl : lv_has ls 2 [(0, .ref mo), (1, .int k)] := hl
  refine lv_iload_n hx hb dX9_isCord_0 rfl (lv_at hl 1 rfl) ?_
  refine lv_iconst (v := 0) hx hb dX9_isCord_1 (by decide) ?_
  refine lv_aload_n hx hb dX9_isCord_2 rfl (lv_at hl 0 rfl) ?_
  refine va_get (D := (dC, dI)) (ci := 8) (v := .ref co) (C := RX9) (T := TX9) (N := 81) hx hb hts i_X9 hown hK hP 0 rfl rfl 12 (by decide) k_0 (fun _ h9 => h9) f_ms_12 dX9_isCord_3 ?_
  refine lv_aload_n hx hb dX9_isCord_6 rfl (lv_at hl 0 rfl) ?_
  refine va_get (D := (dC, dI)) (ci := 8) (v := .int 0) (C := RX9) (T := TX9) (N := 81) hx hb hts i_X9 hown hK hP 0 rfl rfl 43 (by decide) k_1 (fun _ h9 => h9) f_ms_43 dX9_isCord_7 ?_
  refine va_iald hx hb hK hP 1 0 rfl rfl (p1_in (i := 0) (n := 2) (by decide)) dX9_isCord_10 ?_
  refine lv_topi (fun v_1 ev_1 => ?_)
  obtain rfl : v_1 = 0 := ev_1.trans h_cf_0
  refine lv_iconst (v := 1) hx hb dX9_isCord_11 (by decide) ?_
  refine lv_isub hx hb dX9_isCord_12 ?_
  refine lv_topi (fun v_2 ev_2 => ?_)
  obtain rfl : v_2 = (-1) := ev_2.trans (by decide)
  have hPc := hP.sub (ws' := []) [] rfl
  have hDc := hD.sub (ws' := []) [] (by decide) rfl
  have hKc := hK.sub (tys' := []) [] rfl
  have hFc := va_free (wc := []) hD hS hA [] rfl
  refine va_calli (va_runS (As := [.int k, .int 0, .int (-1)]) (rest := []) ⟨hx, hb, hml, hown, hts⟩ (c_isInNeg l dC dI s.heap.size k) (va_cwS 3 hts (p1_gS m_2 m_3 m_4 g_c_isInNeg gz_c_isInNeg) rfl rfl rfl (by decide +kernel) ⟨by decide, by decide⟩) ⟨fun a U g mk q => by obtain ⟨q0, q1, qP, qK, qD⟩ := q; exact ⟨q0, q1, qP, va_K.moved (u := U) (U := U.calling g mk a) (Vm.Alike.refl U.vm) qK, qD⟩, fun U hU hW => ⟨rfl, by rw [hU], by rw [hU]; exact hPc, va_K.moved hW.alike hKc, hDc.weaken (fun _ _ _ _ => trivial)⟩⟩ rfl rfl hl.1 rfl (lv_room (Nat.le_of_ble_eq_true rfl)) dX9_isCord_13 ⟨by decide, by decide⟩) hS (fun q _ h => hFc q h) hFc (fun r_3 u t H1 locs ht hvm hw hB hz1 hk1 hS => ?_)
  obtain ⟨hP1, hK1, hD1⟩ := hB
  rw [ht] at hP1
  obtain ⟨hP, hD⟩ := va_join (wr := [(mo, .inr (8, ms)), (co, .inl (cC, 2, .inl cf))]) (w1 := []) hP hD [] [0, 1] rfl rfl (by decide) (by decide) hk1 hFc hP1 hD1
  generalize H1 = H at hP hS ⊢
  have hP : va_P (dC, dI) vwCl [(mo, .inr (8, ms)), (co, .inl (cC, 2, .inl cf))] H := hP
  have hD : va_D A [(mo, .inr (8, ms)), (co, .inl (cC, 2, .inl cf))] := hD
  try dsimp only at hw
  obtain rfl : r_3 = 0 := hw
  have hP9 := hP.sub (ws' := [(mo, .inr (8, ms)), (co, .inl (cC, 2, .inl cf))]) [0, 1] rfl
  have hD9 := hD.sub (ws' := [(mo, .inr (8, ms)), (co, .inl (cC, 2, .inl cf))]) [0, 1] (by decide) rfl
  have hK9 := hK.sub (tys' := [(cC, .int)]) [0] rfl
  exact W.zret (v := 0) hx hb hr (by decide) (fun t ht hW => ⟨⟨0, (), rfl, rfl, by rw [ht]; exact hP9, va_K.moved hW.alike hK9, hD9⟩, hS.F ht⟩) hS.2.2 dX9_isCord_16
def zo_c_isWalk : List Cond := [.code yX9_isWalk cX9_isWalk 2 (some .boolean), .fieldLink RX9 27 "BowWalkModel" "walks" "[I", .fieldLink RX9 291 "BowWalkModel" "bank" "I", .methodLink RX9 389 yX9_isIn, .static yX9_isIn, .initialized RX9]
def zw_c_isWalk : List Cond := zo_c_isWalk ++ (zw_c_isInNeg ++ (wsX90 ++ []))
theorem gz_c_isWalk : zw_c_isWalk.all goodWord = true := p1_ga (by decide +kernel) (p1_ga gz_c_isInNeg (p1_ga gk_X9 p1_g0))
theorem iz_c_isWalk : ∀ w ∈ zw_c_isWalk, w ∈ lw_tbl := p1_ia (p1_all [1461, 1050, 1080, 1439, 1440, 116] (by decide +kernel)) (p1_ia iz_c_isInNeg (p1_ia ik_X9 p1_i0))
set_option maxHeartbeats 4000000 in
set_option maxRecDepth 100000 in
theorem c_isWalk (l : Launch) (dC : Nat → ClassId) (dI : Nat → Nat → Nat) (sz : Nat) (mo : Nat) (ms : List Value) (wa : Nat) (cW : ClassId) (wf : Nat → Int32) (k : Int32) (f_ms_13 : ms[13]? = some (.ref wa)) (f_ms_43 : ms[43]? = some (.int 0)) (h_wf_0 : wf 0 = 0) : Met l yX9_isWalk zw_c_isWalk ({ frames := 1, cells := 0, slots := 0, locals := 22 }) (va_Pc [.ref mo, .int k] (fun U => U.heap.size = sz ∧ va_P (dC, dI) vwCl [(mo, .inr (8, ms)), (wa, .inl (cW, 2, .inl wf))] U.heap ∧ va_K (dC, dI) vwCl [(cW, .int)] U ∧ va_D (fun _ => True) [(mo, .inr (8, ms)), (wa, .inl (cW, 2, .inl wf))])) (va_Qi (fun (r : Int32) (_ : Unit) => r = 0) (fun _ t => va_P (dC, dI) vwCl [(mo, .inr (8, ms)), (wa, .inl (cW, 2, .inl wf))] t.heap ∧ va_K (dC, dI) vwCl [(cW, .int)] t ∧ va_D (va_A [(mo, .inr (8, ms)), (wa, .inl (cW, 2, .inl wf))] sz) [(mo, .inr (8, ms)), (wa, .inl (cW, 2, .inl wf))]) (va_A [(mo, .inr (8, ms)), (wa, .inl (cW, 2, .inl wf))] sz)) 0 0 (va_A [(mo, .inr (8, ms)), (wa, .inl (cW, 2, .inl wf))] sz) := by
  refine Met.ofW (cc := cX9_isWalk) (maxL := 2) (ret := (some .boolean)) (by decide) rfl ?_
  intro p e s m args below meth c s₁ B hml hv
  obtain ⟨rfl, hsz, hP, hK, hD0⟩ := hv
  have hx := B.exec
  have hb := B.bytes
  have hr := B.returns
  have hts := atoms_spec (ws := zw_c_isWalk) B.pre
  have hown : s.vm.findClass RX9 = some m.cls := findClass_of_methodNamed B.named
  have hlocks := B.notSynchronized
  subst hsz
  have hD := hD0.self (sz := s.heap.size)
  generalize hAe : va_A [(mo, .inr (8, ms)), (wa, .inl (cW, 2, .inl wf))] s.heap.size = A at hD ⊢
  have hA : ∀ q : Nat, s.heap.size ≤ q → A q := fun q h => by rw [← hAe]; exact Or.inr h
  have hS : va_S A s.heap s.heap [] := va_S.rf
  have hP : va_P (dC, dI) vwCl [(mo, .inr (8, ms)), (wa, .inl (cW, 2, .inl wf))] s.heap := hP
  have m_0 : (.fieldLink RX9 27 "BowWalkModel" "walks" "[I" : Cond) ∈ zw_c_isWalk := List.mem_append_left _ (List.mem_of_getElem? (i := 1) rfl)
  have k_0 := hts _ m_0
  have m_1 : (.fieldLink RX9 291 "BowWalkModel" "bank" "I" : Cond) ∈ zw_c_isWalk := List.mem_append_left _ (List.mem_of_getElem? (i := 2) rfl)
  have k_1 := hts _ m_1
  have m_2 : (.methodLink RX9 389 yX9_isIn : Cond) ∈ zw_c_isWalk := List.mem_append_left _ (List.mem_of_getElem? (i := 3) rfl)
  have k_2 := hts _ m_2
  have m_3 : (.static yX9_isIn : Cond) ∈ zw_c_isWalk := List.mem_append_left _ (List.mem_of_getElem? (i := 4) rfl)
  have k_3 := hts _ m_3
  have m_4 : (.initialized RX9 : Cond) ∈ zw_c_isWalk := List.mem_append_left _ (List.mem_of_getElem? (i := 5) rfl)
  have k_4 := hts _ m_4
  have g_c_isInNeg : ∀ w ∈ zw_c_isInNeg, w ∈ zw_c_isWalk := fun w h => List.mem_append_right _ (List.mem_append_left _ h)
  have i_X9 : ∀ w ∈ u_ws RX9 TX9 81, w ∈ zw_c_isWalk := fun w h => List.mem_append_right _ (List.mem_append_right _ (List.mem_append_left _ h))
  have hl := lv_entry ([.ref mo, .int k]) (n := 2) (Nat.le_of_ble_eq_true rfl)
  rw [lg_entry_eq]
  generalize (lg_sl ([.ref mo, .int k]) ++ List.replicate (2 - (lg_sl ([.ref mo, .int k])).length) Slot.unset).toArray = ls at hl ⊢
  have hl : lv_has ls 2 [(0, .ref mo), (1, .int k)] := hl
  refine lv_iload_n hx hb dX9_isWalk_0 rfl (lv_at hl 1 rfl) ?_
  refine lv_iconst (v := 0) hx hb dX9_isWalk_1 (by decide) ?_
  refine lv_aload_n hx hb dX9_isWalk_2 rfl (lv_at hl 0 rfl) ?_
  refine va_get (D := (dC, dI)) (ci := 8) (v := .ref wa) (C := RX9) (T := TX9) (N := 81) hx hb hts i_X9 hown hK hP 0 rfl rfl 13 (by decide) k_0 (fun _ h9 => h9) f_ms_13 dX9_isWalk_3 ?_
  refine lv_aload_n hx hb dX9_isWalk_6 rfl (lv_at hl 0 rfl) ?_
  refine va_get (D := (dC, dI)) (ci := 8) (v := .int 0) (C := RX9) (T := TX9) (N := 81) hx hb hts i_X9 hown hK hP 0 rfl rfl 43 (by decide) k_1 (fun _ h9 => h9) f_ms_43 dX9_isWalk_7 ?_
  refine va_iald hx hb hK hP 1 0 rfl rfl (p1_in (i := 0) (n := 2) (by decide)) dX9_isWalk_10 ?_
  refine lv_topi (fun v_1 ev_1 => ?_)
  obtain rfl : v_1 = 0 := ev_1.trans h_wf_0
  refine lv_iconst (v := 1) hx hb dX9_isWalk_11 (by decide) ?_
  refine lv_isub hx hb dX9_isWalk_12 ?_
  refine lv_topi (fun v_2 ev_2 => ?_)
  obtain rfl : v_2 = (-1) := ev_2.trans (by decide)
  have hPc := hP.sub (ws' := []) [] rfl
  have hDc := hD.sub (ws' := []) [] (by decide) rfl
  have hKc := hK.sub (tys' := []) [] rfl
  have hFc := va_free (wc := []) hD hS hA [] rfl
  refine va_calli (va_runS (As := [.int k, .int 0, .int (-1)]) (rest := []) ⟨hx, hb, hml, hown, hts⟩ (c_isInNeg l dC dI s.heap.size k) (va_cwS 3 hts (p1_gS m_2 m_3 m_4 g_c_isInNeg gz_c_isInNeg) rfl rfl rfl (by decide +kernel) ⟨by decide, by decide⟩) ⟨fun a U g mk q => by obtain ⟨q0, q1, qP, qK, qD⟩ := q; exact ⟨q0, q1, qP, va_K.moved (u := U) (U := U.calling g mk a) (Vm.Alike.refl U.vm) qK, qD⟩, fun U hU hW => ⟨rfl, by rw [hU], by rw [hU]; exact hPc, va_K.moved hW.alike hKc, hDc.weaken (fun _ _ _ _ => trivial)⟩⟩ rfl rfl hl.1 rfl (lv_room (Nat.le_of_ble_eq_true rfl)) dX9_isWalk_13 ⟨by decide, by decide⟩) hS (fun q _ h => hFc q h) hFc (fun r_3 u t H1 locs ht hvm hw hB hz1 hk1 hS => ?_)
  obtain ⟨hP1, hK1, hD1⟩ := hB
  rw [ht] at hP1
  obtain ⟨hP, hD⟩ := va_join (wr := [(mo, .inr (8, ms)), (wa, .inl (cW, 2, .inl wf))]) (w1 := []) hP hD [] [0, 1] rfl rfl (by decide) (by decide) hk1 hFc hP1 hD1
  generalize H1 = H at hP hS ⊢
  have hP : va_P (dC, dI) vwCl [(mo, .inr (8, ms)), (wa, .inl (cW, 2, .inl wf))] H := hP
  have hD : va_D A [(mo, .inr (8, ms)), (wa, .inl (cW, 2, .inl wf))] := hD
  try dsimp only at hw
  obtain rfl : r_3 = 0 := hw
  have hP9 := hP.sub (ws' := [(mo, .inr (8, ms)), (wa, .inl (cW, 2, .inl wf))]) [0, 1] rfl
  have hD9 := hD.sub (ws' := [(mo, .inr (8, ms)), (wa, .inl (cW, 2, .inl wf))]) [0, 1] (by decide) rfl
  have hK9 := hK.sub (tys' := [(cW, .int)]) [0] rfl
  exact W.zret (v := 0) hx hb hr (by decide) (fun t ht hW => ⟨⟨0, (), rfl, rfl, by rw [ht]; exact hP9, va_K.moved hW.alike hK9, hD9⟩, hS.F ht⟩) hS.2.2 dX9_isWalk_16
def zo_c_isWant : List Cond := [.code yX9_isWant cX9_isWant 2 (some .boolean), .fieldLink RX9 33 "BowWalkModel" "wants" "[I", .fieldLink RX9 291 "BowWalkModel" "bank" "I", .methodLink RX9 389 yX9_isIn, .static yX9_isIn, .initialized RX9]
def zw_c_isWant : List Cond := zo_c_isWant ++ (zw_c_isInNeg ++ (wsX90 ++ []))
theorem gz_c_isWant : zw_c_isWant.all goodWord = true := p1_ga (by decide +kernel) (p1_ga gz_c_isInNeg (p1_ga gk_X9 p1_g0))
theorem iz_c_isWant : ∀ w ∈ zw_c_isWant, w ∈ lw_tbl := p1_ia (p1_all [1585, 1052, 1080, 1439, 1440, 116] (by decide +kernel)) (p1_ia iz_c_isInNeg (p1_ia ik_X9 p1_i0))
set_option maxHeartbeats 4000000 in
set_option maxRecDepth 100000 in
theorem c_isWant (l : Launch) (dC : Nat → ClassId) (dI : Nat → Nat → Nat) (sz : Nat) (mo : Nat) (ms : List Value) (wt : Nat) (cT : ClassId) (tf : Nat → Int32) (k : Int32) (f_ms_15 : ms[15]? = some (.ref wt)) (f_ms_43 : ms[43]? = some (.int 0)) (h_tf_0 : tf 0 = 0) : Met l yX9_isWant zw_c_isWant ({ frames := 1, cells := 0, slots := 0, locals := 22 }) (va_Pc [.ref mo, .int k] (fun U => U.heap.size = sz ∧ va_P (dC, dI) vwCl [(mo, .inr (8, ms)), (wt, .inl (cT, 2, .inl tf))] U.heap ∧ va_K (dC, dI) vwCl [(cT, .int)] U ∧ va_D (fun _ => True) [(mo, .inr (8, ms)), (wt, .inl (cT, 2, .inl tf))])) (va_Qi (fun (r : Int32) (_ : Unit) => r = 0) (fun _ t => va_P (dC, dI) vwCl [(mo, .inr (8, ms)), (wt, .inl (cT, 2, .inl tf))] t.heap ∧ va_K (dC, dI) vwCl [(cT, .int)] t ∧ va_D (va_A [(mo, .inr (8, ms)), (wt, .inl (cT, 2, .inl tf))] sz) [(mo, .inr (8, ms)), (wt, .inl (cT, 2, .inl tf))]) (va_A [(mo, .inr (8, ms)), (wt, .inl (cT, 2, .inl tf))] sz)) 0 0 (va_A [(mo, .inr (8, ms)), (wt, .inl (cT, 2, .inl tf))] sz) := by
  refine Met.ofW (cc := cX9_isWant) (maxL := 2) (ret := (some .boolean)) (by decide) rfl ?_
  intro p e s m args below meth c s₁ B hml hv
  obtain ⟨rfl, hsz, hP, hK, hD0⟩ := hv
  have hx := B.exec
  have hb := B.bytes
  have hr := B.returns
  have hts := atoms_spec (ws := zw_c_isWant) B.pre
  have hown : s.vm.findClass RX9 = some m.cls := findClass_of_methodNamed B.named
  have hlocks := B.notSynchronized
  subst hsz
  have hD := hD0.self (sz := s.heap.size)
  generalize hAe : va_A [(mo, .inr (8, ms)), (wt, .inl (cT, 2, .inl tf))] s.heap.size = A at hD ⊢
  have hA : ∀ q : Nat, s.heap.size ≤ q → A q := fun q h => by rw [← hAe]; exact Or.inr h
  have hS : va_S A s.heap s.heap [] := va_S.rf
  have hP : va_P (dC, dI) vwCl [(mo, .inr (8, ms)), (wt, .inl (cT, 2, .inl tf))] s.heap := hP
  have m_0 : (.fieldLink RX9 33 "BowWalkModel" "wants" "[I" : Cond) ∈ zw_c_isWant := List.mem_append_left _ (List.mem_of_getElem? (i := 1) rfl)
  have k_0 := hts _ m_0
  have m_1 : (.fieldLink RX9 291 "BowWalkModel" "bank" "I" : Cond) ∈ zw_c_isWant := List.mem_append_left _ (List.mem_of_getElem? (i := 2) rfl)
  have k_1 := hts _ m_1
  have m_2 : (.methodLink RX9 389 yX9_isIn : Cond) ∈ zw_c_isWant := List.mem_append_left _ (List.mem_of_getElem? (i := 3) rfl)
  have k_2 := hts _ m_2
  have m_3 : (.static yX9_isIn : Cond) ∈ zw_c_isWant := List.mem_append_left _ (List.mem_of_getElem? (i := 4) rfl)
  have k_3 := hts _ m_3
  have m_4 : (.initialized RX9 : Cond) ∈ zw_c_isWant := List.mem_append_left _ (List.mem_of_getElem? (i := 5) rfl)
  have k_4 := hts _ m_4
  have g_c_isInNeg : ∀ w ∈ zw_c_isInNeg, w ∈ zw_c_isWant := fun w h => List.mem_append_right _ (List.mem_append_left _ h)
  have i_X9 : ∀ w ∈ u_ws RX9 TX9 81, w ∈ zw_c_isWant := fun w h => List.mem_append_right _ (List.mem_append_right _ (List.mem_append_left _ h))
  have hl := lv_entry ([.ref mo, .int k]) (n := 2) (Nat.le_of_ble_eq_true rfl)
  rw [lg_entry_eq]
  generalize (lg_sl ([.ref mo, .int k]) ++ List.replicate (2 - (lg_sl ([.ref mo, .int k])).length) Slot.unset).toArray = ls at hl ⊢
  have hl : lv_has ls 2 [(0, .ref mo), (1, .int k)] := hl
  refine lv_iload_n hx hb dX9_isWant_0 rfl (lv_at hl 1 rfl) ?_
  refine lv_iconst (v := 0) hx hb dX9_isWant_1 (by decide) ?_
  refine lv_aload_n hx hb dX9_isWant_2 rfl (lv_at hl 0 rfl) ?_
  refine va_get (D := (dC, dI)) (ci := 8) (v := .ref wt) (C := RX9) (T := TX9) (N := 81) hx hb hts i_X9 hown hK hP 0 rfl rfl 15 (by decide) k_0 (fun _ h9 => h9) f_ms_15 dX9_isWant_3 ?_
  refine lv_aload_n hx hb dX9_isWant_6 rfl (lv_at hl 0 rfl) ?_
  refine va_get (D := (dC, dI)) (ci := 8) (v := .int 0) (C := RX9) (T := TX9) (N := 81) hx hb hts i_X9 hown hK hP 0 rfl rfl 43 (by decide) k_1 (fun _ h9 => h9) f_ms_43 dX9_isWant_7 ?_
  refine va_iald hx hb hK hP 1 0 rfl rfl (p1_in (i := 0) (n := 2) (by decide)) dX9_isWant_10 ?_
  refine lv_topi (fun v_1 ev_1 => ?_)
  obtain rfl : v_1 = 0 := ev_1.trans h_tf_0
  refine lv_iconst (v := 1) hx hb dX9_isWant_11 (by decide) ?_
  refine lv_isub hx hb dX9_isWant_12 ?_
  refine lv_topi (fun v_2 ev_2 => ?_)
  obtain rfl : v_2 = (-1) := ev_2.trans (by decide)
  have hPc := hP.sub (ws' := []) [] rfl
  have hDc := hD.sub (ws' := []) [] (by decide) rfl
  have hKc := hK.sub (tys' := []) [] rfl
  have hFc := va_free (wc := []) hD hS hA [] rfl
  refine va_calli (va_runS (As := [.int k, .int 0, .int (-1)]) (rest := []) ⟨hx, hb, hml, hown, hts⟩ (c_isInNeg l dC dI s.heap.size k) (va_cwS 3 hts (p1_gS m_2 m_3 m_4 g_c_isInNeg gz_c_isInNeg) rfl rfl rfl (by decide +kernel) ⟨by decide, by decide⟩) ⟨fun a U g mk q => by obtain ⟨q0, q1, qP, qK, qD⟩ := q; exact ⟨q0, q1, qP, va_K.moved (u := U) (U := U.calling g mk a) (Vm.Alike.refl U.vm) qK, qD⟩, fun U hU hW => ⟨rfl, by rw [hU], by rw [hU]; exact hPc, va_K.moved hW.alike hKc, hDc.weaken (fun _ _ _ _ => trivial)⟩⟩ rfl rfl hl.1 rfl (lv_room (Nat.le_of_ble_eq_true rfl)) dX9_isWant_13 ⟨by decide, by decide⟩) hS (fun q _ h => hFc q h) hFc (fun r_3 u t H1 locs ht hvm hw hB hz1 hk1 hS => ?_)
  obtain ⟨hP1, hK1, hD1⟩ := hB
  rw [ht] at hP1
  obtain ⟨hP, hD⟩ := va_join (wr := [(mo, .inr (8, ms)), (wt, .inl (cT, 2, .inl tf))]) (w1 := []) hP hD [] [0, 1] rfl rfl (by decide) (by decide) hk1 hFc hP1 hD1
  generalize H1 = H at hP hS ⊢
  have hP : va_P (dC, dI) vwCl [(mo, .inr (8, ms)), (wt, .inl (cT, 2, .inl tf))] H := hP
  have hD : va_D A [(mo, .inr (8, ms)), (wt, .inl (cT, 2, .inl tf))] := hD
  try dsimp only at hw
  obtain rfl : r_3 = 0 := hw
  have hP9 := hP.sub (ws' := [(mo, .inr (8, ms)), (wt, .inl (cT, 2, .inl tf))]) [0, 1] rfl
  have hD9 := hD.sub (ws' := [(mo, .inr (8, ms)), (wt, .inl (cT, 2, .inl tf))]) [0, 1] (by decide) rfl
  have hK9 := hK.sub (tys' := [(cT, .int)]) [0] rfl
  exact W.zret (v := 0) hx hb hr (by decide) (fun t ht hW => ⟨⟨0, (), rfl, rfl, by rw [ht]; exact hP9, va_K.moved hW.alike hK9, hD9⟩, hS.F ht⟩) hS.2.2 dX9_isWant_16
def zo_c_isAll : List Cond := [.code yX9_isAll cX9_isAll 4 (some .boolean), .methodLink RX9 431 yX9_isKnot, .instanceMethod yX9_isKnot, .selects RX9 yX9_isKnot yX9_isKnot, .initialized RX9]
def zw_c_isAll : List Cond := zo_c_isAll ++ (zw_c_isKnot ++ [])
theorem gz_c_isAll : zw_c_isAll.all goodWord = true := p1_ga (by decide +kernel) (p1_ga gz_c_isKnot p1_g0)
theorem iz_c_isAll : ∀ w ∈ zw_c_isAll, w ∈ lw_tbl := p1_ia (p1_all [1521, 1435, 1437, 71, 116] (by decide +kernel)) (p1_ia iz_c_isKnot p1_i0)
set_option maxHeartbeats 4000000 in
set_option maxRecDepth 100000 in
theorem c_isAll (l : Launch) (dC : Nat → ClassId) (dI : Nat → Nat → Nat) (sz : Nat) (mo : Nat) (ms : List Value) (kn : Nat) (cK : ClassId) (kf : Nat → Int32) (a1 : Int32) (a2 : Int32) (a3 : Int32) (f_ms_11 : ms[11]? = some (.ref kn)) (f_ms_43 : ms[43]? = some (.int 0)) (h_kf_0 : kf 0 = 0) : Met l yX9_isAll zw_c_isAll ({ frames := 2, cells := 0, slots := 0, locals := 43 }) (va_Pc [.ref mo, .int a1, .int a2, .int a3] (fun U => U.heap.size = sz ∧ va_P (dC, dI) vwCl [(mo, .inr (8, ms)), (kn, .inl (cK, 2, .inl kf))] U.heap ∧ va_K (dC, dI) vwCl [(cK, .int)] U ∧ va_D (fun _ => True) [(mo, .inr (8, ms)), (kn, .inl (cK, 2, .inl kf))])) (va_Qi (fun (r : Int32) (_ : Unit) => r = 0) (fun _ t => va_P (dC, dI) vwCl [(mo, .inr (8, ms)), (kn, .inl (cK, 2, .inl kf))] t.heap ∧ va_K (dC, dI) vwCl [(cK, .int)] t ∧ va_D (va_A [(mo, .inr (8, ms)), (kn, .inl (cK, 2, .inl kf))] sz) [(mo, .inr (8, ms)), (kn, .inl (cK, 2, .inl kf))]) (va_A [(mo, .inr (8, ms)), (kn, .inl (cK, 2, .inl kf))] sz)) 0 0 (va_A [(mo, .inr (8, ms)), (kn, .inl (cK, 2, .inl kf))] sz) := by
  refine Met.ofW (cc := cX9_isAll) (maxL := 4) (ret := (some .boolean)) (by decide) rfl ?_
  intro p e s m args below meth c s₁ B hml hv
  obtain ⟨rfl, hsz, hP, hK, hD0⟩ := hv
  have hx := B.exec
  have hb := B.bytes
  have hr := B.returns
  have hts := atoms_spec (ws := zw_c_isAll) B.pre
  have hown : s.vm.findClass RX9 = some m.cls := findClass_of_methodNamed B.named
  have hlocks := B.notSynchronized
  subst hsz
  have hD := hD0.self (sz := s.heap.size)
  generalize hAe : va_A [(mo, .inr (8, ms)), (kn, .inl (cK, 2, .inl kf))] s.heap.size = A at hD ⊢
  have hA : ∀ q : Nat, s.heap.size ≤ q → A q := fun q h => by rw [← hAe]; exact Or.inr h
  have hS : va_S A s.heap s.heap [] := va_S.rf
  have hP : va_P (dC, dI) vwCl [(mo, .inr (8, ms)), (kn, .inl (cK, 2, .inl kf))] s.heap := hP
  have m_0 : (.methodLink RX9 431 yX9_isKnot : Cond) ∈ zw_c_isAll := List.mem_append_left _ (List.mem_of_getElem? (i := 1) rfl)
  have k_0 := hts _ m_0
  have m_1 : (.instanceMethod yX9_isKnot : Cond) ∈ zw_c_isAll := List.mem_append_left _ (List.mem_of_getElem? (i := 2) rfl)
  have k_1 := hts _ m_1
  have m_2 : (.selects RX9 yX9_isKnot yX9_isKnot : Cond) ∈ zw_c_isAll := List.mem_append_left _ (List.mem_of_getElem? (i := 3) rfl)
  have k_2 := hts _ m_2
  have m_3 : (.initialized RX9 : Cond) ∈ zw_c_isAll := List.mem_append_left _ (List.mem_of_getElem? (i := 4) rfl)
  have k_3 := hts _ m_3
  have g_c_isKnot : ∀ w ∈ zw_c_isKnot, w ∈ zw_c_isAll := fun w h => List.mem_append_right _ (List.mem_append_left _ h)
  have hl := lv_entry ([.ref mo, .int a1, .int a2, .int a3]) (n := 4) (Nat.le_of_ble_eq_true rfl)
  rw [lg_entry_eq]
  generalize (lg_sl ([.ref mo, .int a1, .int a2, .int a3]) ++ List.replicate (4 - (lg_sl ([.ref mo, .int a1, .int a2, .int a3])).length) Slot.unset).toArray = ls at hl ⊢
  have hl : lv_has ls 4 [(0, .ref mo), (1, .int a1), (2, .int a2), (3, .int a3)] := hl
  refine lv_aload_n hx hb dX9_isAll_0 rfl (lv_at hl 0 rfl) ?_
  refine lv_iload_n hx hb dX9_isAll_1 rfl (lv_at hl 1 rfl) ?_
  have hPc := hP.sub (ws' := [(mo, .inr (8, ms)), (kn, .inl (cK, 2, .inl kf))]) [0, 1] rfl
  have hDc := hD.sub (ws' := [(mo, .inr (8, ms)), (kn, .inl (cK, 2, .inl kf))]) [0, 1] (by decide) rfl
  have hKc := hK.sub (tys' := [(cK, .int)]) [0] rfl
  have hFc := va_free (wc := [(mo, .inr (8, ms)), (kn, .inl (cK, 2, .inl kf))]) hD hS hA [0, 1] rfl
  refine va_calli (va_runV (As := [.int a1]) (rest := []) ⟨hx, hb, hml, hown, hts⟩ (c_isKnot l dC dI s.heap.size mo ms kn cK kf a1 f_ms_11 f_ms_43 h_kf_0) (cwV 1 hts (p1_gV m_0 m_1 m_2 m_3 g_c_isKnot gz_c_isKnot) rfl rfl rfl (by decide +kernel) ⟨by decide, by decide⟩) ⟨fun a U g mk q => by obtain ⟨q0, q1, qP, qK, qD⟩ := q; exact ⟨q0, q1, qP, va_K.moved (u := U) (U := U.calling g mk a) (Vm.Alike.refl U.vm) qK, qD⟩, va_recv hKc hPc (ci := 8) (q0 := 0) rfl rfl, fun U hU hW => ⟨rfl, by rw [hU], by rw [hU]; exact hPc, va_K.moved hW.alike hKc, hDc.weaken (fun _ _ _ _ => trivial)⟩⟩ rfl rfl hl.1 rfl (lv_room (Nat.le_of_ble_eq_true rfl)) dX9_isAll_2 ⟨by decide, by decide⟩) hS (fun q _ h => hFc q h) hFc (fun r_1 u t H1 locs ht hvm hw hB hz1 hk1 hS => ?_)
  obtain ⟨hP1, hK1, hD1⟩ := hB
  rw [ht] at hP1
  obtain ⟨hP, hD⟩ := va_join (wr := []) (w1 := [(mo, .inr (8, ms)), (kn, .inl (cK, 2, .inl kf))]) hP hD [0, 1] [] rfl rfl (by decide) (by decide) hk1 hFc hP1 hD1
  generalize H1 = H at hP hS ⊢
  have hP : va_P (dC, dI) vwCl [(mo, .inr (8, ms)), (kn, .inl (cK, 2, .inl kf))] H := hP
  have hD : va_D A [(mo, .inr (8, ms)), (kn, .inl (cK, 2, .inl kf))] := hD
  try dsimp only at hw
  obtain rfl : r_1 = 0 := hw
  refine lv_if_eq (tgt := 28) hx hb dX9_isAll_5 (by decide) (fun _ => ?_) (fun c9 => absurd c9 (by decide))
  refine lv_iconst (v := 0) hx hb dX9_isAll_28 (by decide) ?_
  have hP9 := hP.sub (ws' := [(mo, .inr (8, ms)), (kn, .inl (cK, 2, .inl kf))]) [0, 1] rfl
  have hD9 := hD.sub (ws' := [(mo, .inr (8, ms)), (kn, .inl (cK, 2, .inl kf))]) [0, 1] (by decide) rfl
  have hK9 := hK.sub (tys' := [(cK, .int)]) [0] rfl
  exact W.zret (v := 0) hx hb hr (by decide) (fun t ht hW => ⟨⟨0, (), rfl, rfl, by rw [ht]; exact hP9, va_K.moved hW.alike hK9, hD9⟩, hS.F ht⟩) hS.2.2 dX9_isAll_29
def zo_c_lawMany : List Cond := [.code yX9_lawMany cX9_lawMany 1 (some .int), .fieldLink RX9 30 "BowWalkModel" "laws" "[I", .fieldLink RX9 291 "BowWalkModel" "bank" "I"]
def zw_c_lawMany : List Cond := zo_c_lawMany ++ (wsX90 ++ [])
theorem gz_c_lawMany : zw_c_lawMany.all goodWord = true := p1_ga (by decide +kernel) (p1_ga gk_X9 p1_g0)
theorem iz_c_lawMany : ∀ w ∈ zw_c_lawMany, w ∈ lw_tbl := p1_ia (p1_all [1651, 1051, 1080] (by decide +kernel)) (p1_ia ik_X9 p1_i0)
set_option maxHeartbeats 4000000 in
set_option maxRecDepth 100000 in
theorem c_lawMany (l : Launch) (dC : Nat → ClassId) (dI : Nat → Nat → Nat) (sz : Nat) (mo : Nat) (ms : List Value) (la : Nat) (cL : ClassId) (lf : Nat → Int32) (f_ms_14 : ms[14]? = some (.ref la)) (f_ms_43 : ms[43]? = some (.int 0)) (h_lf_0 : lf 0 = 0) : Met l yX9_lawMany zw_c_lawMany ({ frames := 0, cells := 0, slots := 0, locals := 0 }) (va_Pc [.ref mo] (fun U => U.heap.size = sz ∧ va_P (dC, dI) vwCl [(mo, .inr (8, ms)), (la, .inl (cL, 2, .inl lf))] U.heap ∧ va_K (dC, dI) vwCl [(cL, .int)] U ∧ va_D (fun _ => True) [(mo, .inr (8, ms)), (la, .inl (cL, 2, .inl lf))])) (va_Qi (fun (r : Int32) (_ : Unit) => r = 1) (fun _ t => va_P (dC, dI) vwCl [(mo, .inr (8, ms)), (la, .inl (cL, 2, .inl lf))] t.heap ∧ va_K (dC, dI) vwCl [(cL, .int)] t ∧ va_D (va_A [(mo, .inr (8, ms)), (la, .inl (cL, 2, .inl lf))] sz) [(mo, .inr (8, ms)), (la, .inl (cL, 2, .inl lf))]) (va_A [(mo, .inr (8, ms)), (la, .inl (cL, 2, .inl lf))] sz)) 0 0 (va_A [(mo, .inr (8, ms)), (la, .inl (cL, 2, .inl lf))] sz) := by
  refine Met.ofW (cc := cX9_lawMany) (maxL := 1) (ret := (some .int)) (by decide) rfl ?_
  intro p e s m args below meth c s₁ B hml hv
  obtain ⟨rfl, hsz, hP, hK, hD0⟩ := hv
  have hx := B.exec
  have hb := B.bytes
  have hr := B.returns
  have hts := atoms_spec (ws := zw_c_lawMany) B.pre
  have hown : s.vm.findClass RX9 = some m.cls := findClass_of_methodNamed B.named
  have hlocks := B.notSynchronized
  subst hsz
  have hD := hD0.self (sz := s.heap.size)
  generalize hAe : va_A [(mo, .inr (8, ms)), (la, .inl (cL, 2, .inl lf))] s.heap.size = A at hD ⊢
  have hA : ∀ q : Nat, s.heap.size ≤ q → A q := fun q h => by rw [← hAe]; exact Or.inr h
  have hS : va_S A s.heap s.heap [] := va_S.rf
  have hP : va_P (dC, dI) vwCl [(mo, .inr (8, ms)), (la, .inl (cL, 2, .inl lf))] s.heap := hP
  have m_0 : (.fieldLink RX9 30 "BowWalkModel" "laws" "[I" : Cond) ∈ zw_c_lawMany := List.mem_append_left _ (List.mem_of_getElem? (i := 1) rfl)
  have k_0 := hts _ m_0
  have m_1 : (.fieldLink RX9 291 "BowWalkModel" "bank" "I" : Cond) ∈ zw_c_lawMany := List.mem_append_left _ (List.mem_of_getElem? (i := 2) rfl)
  have k_1 := hts _ m_1
  have i_X9 : ∀ w ∈ u_ws RX9 TX9 81, w ∈ zw_c_lawMany := fun w h => List.mem_append_right _ (List.mem_append_left _ h)
  have hl := lv_entry ([.ref mo]) (n := 1) (Nat.le_of_ble_eq_true rfl)
  rw [lg_entry_eq]
  generalize (lg_sl ([.ref mo]) ++ List.replicate (1 - (lg_sl ([.ref mo])).length) Slot.unset).toArray = ls at hl ⊢
  have hl : lv_has ls 1 [(0, .ref mo)] := hl
  refine lv_aload_n hx hb dX9_lawMany_0 rfl (lv_at hl 0 rfl) ?_
  refine va_get (D := (dC, dI)) (ci := 8) (v := .ref la) (C := RX9) (T := TX9) (N := 81) hx hb hts i_X9 hown hK hP 0 rfl rfl 14 (by decide) k_0 (fun _ h9 => h9) f_ms_14 dX9_lawMany_1 ?_
  refine lv_aload_n hx hb dX9_lawMany_4 rfl (lv_at hl 0 rfl) ?_
  refine va_get (D := (dC, dI)) (ci := 8) (v := .int 0) (C := RX9) (T := TX9) (N := 81) hx hb hts i_X9 hown hK hP 0 rfl rfl 43 (by decide) k_1 (fun _ h9 => h9) f_ms_43 dX9_lawMany_5 ?_
  refine va_iald hx hb hK hP 1 0 rfl rfl (p1_in (i := 0) (n := 2) (by decide)) dX9_lawMany_8 ?_
  refine lv_topi (fun v_1 ev_1 => ?_)
  obtain rfl : v_1 = 0 := ev_1.trans h_lf_0
  refine lv_if_le (tgt := 24) hx hb dX9_lawMany_9 (by decide) (fun _ => ?_) (fun c9 => absurd c9 (by decide))
  refine lv_iconst (v := 1) hx hb dX9_lawMany_24 (by decide) ?_
  have hP9 := hP.sub (ws' := [(mo, .inr (8, ms)), (la, .inl (cL, 2, .inl lf))]) [0, 1] rfl
  have hD9 := hD.sub (ws' := [(mo, .inr (8, ms)), (la, .inl (cL, 2, .inl lf))]) [0, 1] (by decide) rfl
  have hK9 := hK.sub (tys' := [(cL, .int)]) [0] rfl
  exact W.iret (v := 1) hx hb hr (fun t ht hW => ⟨⟨1, (), rfl, rfl, by rw [ht]; exact hP9, va_K.moved hW.alike hK9, hD9⟩, hS.F ht⟩) hS.2.2 dX9_lawMany_25
def zo_c_lawsAsked : List Cond := [.code yX5_lawsAsked cX5_lawsAsked 1 (some .int), .fieldLink RX5 9 "BowWalk$Shop" "count" "[I", .methodLink RX5 67 Lib.Math.max.name, .static Lib.Math.max.name, .initialized "java/lang/Math", .code Lib.Math.max.name Lib.Math.max.code 2 (some .int)]
def zw_c_lawsAsked : List Cond := zo_c_lawsAsked ++ (wsX50 ++ [])
theorem gz_c_lawsAsked : zw_c_lawsAsked.all goodWord = true := p1_ga (by decide +kernel) (p1_ga gk_X5 p1_g0)
theorem iz_c_lawsAsked : ∀ w ∈ zw_c_lawsAsked, w ∈ lw_tbl := p1_ia (p1_all [821, 174, 822, 763, 117, 764] (by decide +kernel)) (p1_ia ik_X5 p1_i0)
set_option maxHeartbeats 4000000 in
set_option maxRecDepth 100000 in
theorem c_lawsAsked (l : Launch) (dC : Nat → ClassId) (dI : Nat → Nat → Nat) (sz : Nat) (sh : Nat) (ss : List Value) (sc : Nat) (cS : ClassId) (f_ss_0 : ss[0]? = some (.ref sc)) : Met l yX5_lawsAsked zw_c_lawsAsked ({ frames := 1, cells := 0, slots := 0, locals := 22 }) (va_Pc [.ref sh] (fun U => U.heap.size = sz ∧ va_P (dC, dI) vwCl [(sh, .inr (5, ss)), (sc, .inl (cS, 5, .inl (fun _ => 0)))] U.heap ∧ va_K (dC, dI) vwCl [(cS, .int)] U ∧ va_D (fun _ => True) [(sh, .inr (5, ss)), (sc, .inl (cS, 5, .inl (fun _ => 0)))])) (va_Qi (fun (r : Int32) (_ : Unit) => r = 1) (fun _ t => va_P (dC, dI) vwCl [(sh, .inr (5, ss)), (sc, .inl (cS, 5, .inl (fun _ => 0)))] t.heap ∧ va_K (dC, dI) vwCl [(cS, .int)] t ∧ va_D (va_A [(sh, .inr (5, ss)), (sc, .inl (cS, 5, .inl (fun _ => 0)))] sz) [(sh, .inr (5, ss)), (sc, .inl (cS, 5, .inl (fun _ => 0)))]) (va_A [(sh, .inr (5, ss)), (sc, .inl (cS, 5, .inl (fun _ => 0)))] sz)) 0 0 (va_A [(sh, .inr (5, ss)), (sc, .inl (cS, 5, .inl (fun _ => 0)))] sz) := by
  refine Met.ofW (cc := cX5_lawsAsked) (maxL := 1) (ret := (some .int)) (by decide) rfl ?_
  intro p e s m args below meth c s₁ B hml hv
  obtain ⟨rfl, hsz, hP, hK, hD0⟩ := hv
  have hx := B.exec
  have hb := B.bytes
  have hr := B.returns
  have hts := atoms_spec (ws := zw_c_lawsAsked) B.pre
  have hown : s.vm.findClass RX5 = some m.cls := findClass_of_methodNamed B.named
  have hlocks := B.notSynchronized
  subst hsz
  have hD := hD0.self (sz := s.heap.size)
  generalize hAe : va_A [(sh, .inr (5, ss)), (sc, .inl (cS, 5, .inl (fun _ => 0)))] s.heap.size = A at hD ⊢
  have hA : ∀ q : Nat, s.heap.size ≤ q → A q := fun q h => by rw [← hAe]; exact Or.inr h
  have hS : va_S A s.heap s.heap [] := va_S.rf
  have hP : va_P (dC, dI) vwCl [(sh, .inr (5, ss)), (sc, .inl (cS, 5, .inl (fun _ => 0)))] s.heap := hP
  have m_0 : (.fieldLink RX5 9 "BowWalk$Shop" "count" "[I" : Cond) ∈ zw_c_lawsAsked := List.mem_append_left _ (List.mem_of_getElem? (i := 1) rfl)
  have k_0 := hts _ m_0
  have m_1 : (.methodLink RX5 67 Lib.Math.max.name : Cond) ∈ zw_c_lawsAsked := List.mem_append_left _ (List.mem_of_getElem? (i := 2) rfl)
  have k_1 := hts _ m_1
  have m_2 : (.static Lib.Math.max.name : Cond) ∈ zw_c_lawsAsked := List.mem_append_left _ (List.mem_of_getElem? (i := 3) rfl)
  have k_2 := hts _ m_2
  have m_3 : (.initialized "java/lang/Math" : Cond) ∈ zw_c_lawsAsked := List.mem_append_left _ (List.mem_of_getElem? (i := 4) rfl)
  have k_3 := hts _ m_3
  have m_4 : (.code Lib.Math.max.name Lib.Math.max.code 2 (some .int) : Cond) ∈ zw_c_lawsAsked := List.mem_append_left _ (List.mem_of_getElem? (i := 5) rfl)
  have k_4 := hts _ m_4
  have i_X5 : ∀ w ∈ u_ws RX5 TX5 15, w ∈ zw_c_lawsAsked := fun w h => List.mem_append_right _ (List.mem_append_left _ h)
  have hl := lv_entry ([.ref sh]) (n := 1) (Nat.le_of_ble_eq_true rfl)
  rw [lg_entry_eq]
  generalize (lg_sl ([.ref sh]) ++ List.replicate (1 - (lg_sl ([.ref sh])).length) Slot.unset).toArray = ls at hl ⊢
  have hl : lv_has ls 1 [(0, .ref sh)] := hl
  refine lv_iconst (v := 1) hx hb dX5_lawsAsked_0 (by decide) ?_
  refine lv_aload_n hx hb dX5_lawsAsked_1 rfl (lv_at hl 0 rfl) ?_
  refine va_get (D := (dC, dI)) (ci := 5) (v := .ref sc) (C := RX5) (T := TX5) (N := 15) hx hb hts i_X5 hown hK hP 0 rfl rfl 0 (by decide) k_0 (fun _ h9 => h9) f_ss_0 dX5_lawsAsked_2 ?_
  refine lv_iconst (v := 3) hx hb dX5_lawsAsked_5 (by decide) ?_
  refine va_iald hx hb hK hP 1 0 rfl rfl (p1_in (i := 3) (n := 5) (by decide)) dX5_lawsAsked_6 ?_
  refine lv_topi (fun v_1 ev_1 => ?_)
  obtain rfl : v_1 = 0 := ev_1.trans rfl
  refine va_mmax hx hb (by rw [hml]; exact hl.1.symm) hown k_1 k_2 k_3 k_4 (Nat.le_of_ble_eq_true rfl) (Nat.le_of_ble_eq_true rfl) (Nat.le_of_ble_eq_true rfl) (Nat.le_of_ble_eq_true rfl) dX5_lawsAsked_7 ?_
  refine lv_topi (fun v_2 ev_2 => ?_)
  obtain rfl : v_2 = 1 := ev_2.trans (by decide)
  have hP9 := hP.sub (ws' := [(sh, .inr (5, ss)), (sc, .inl (cS, 5, .inl (fun _ => 0)))]) [0, 1] rfl
  have hD9 := hD.sub (ws' := [(sh, .inr (5, ss)), (sc, .inl (cS, 5, .inl (fun _ => 0)))]) [0, 1] (by decide) rfl
  have hK9 := hK.sub (tys' := [(cS, .int)]) [0] rfl
  exact W.iret (v := 1) hx hb hr (fun t ht hW => ⟨⟨1, (), rfl, rfl, by rw [ht]; exact hP9, va_K.moved hW.alike hK9, hD9⟩, hS.F ht⟩) hS.2.2 dX5_lawsAsked_10
def zo_c_hasPair : List Cond := [.code yX5_hasPair cX5_hasPair 2 (some .boolean), .methodLink RX5 73 yX5_lawsAsked, .instanceMethod yX5_lawsAsked, .selects RX5 yX5_lawsAsked yX5_lawsAsked, .initialized RX5, .methodLink RX5 77 yX5_has, .instanceMethod yX5_has, .selects RX5 yX5_has yX5_has]
def zw_c_hasPair : List Cond := zo_c_hasPair ++ (zw_c_lawsAsked ++ (zw_c_has0 ++ []))
theorem gz_c_hasPair : zw_c_hasPair.all goodWord = true := p1_ga (by decide +kernel) (p1_ga gz_c_lawsAsked (p1_ga gz_c_has0 p1_g0))
theorem iz_c_hasPair : ∀ w ∈ zw_c_hasPair, w ∈ lw_tbl := p1_ia (p1_all [954, 955, 819, 820, 106, 956, 715, 716] (by decide +kernel)) (p1_ia iz_c_lawsAsked (p1_ia iz_c_has0 p1_i0))
set_option maxHeartbeats 4000000 in
set_option maxRecDepth 100000 in
theorem c_hasPair (l : Launch) (dC : Nat → ClassId) (dI : Nat → Nat → Nat) (sz : Nat) (sh : Nat) (ss : List Value) (sc : Nat) (cS : ClassId) (a1 : Int32) (f_ss_0 : ss[0]? = some (.ref sc)) : Met l yX5_hasPair zw_c_hasPair ({ frames := 2, cells := 0, slots := 0, locals := 42 }) (va_Pc [.ref sh, .int a1] (fun U => U.heap.size = sz ∧ va_P (dC, dI) vwCl [(sh, .inr (5, ss)), (sc, .inl (cS, 5, .inl (fun _ => 0)))] U.heap ∧ va_K (dC, dI) vwCl [(cS, .int)] U ∧ va_D (fun _ => True) [(sh, .inr (5, ss)), (sc, .inl (cS, 5, .inl (fun _ => 0)))])) (va_Qi (fun (r : Int32) (_ : Unit) => r = 0) (fun _ t => va_P (dC, dI) vwCl [(sh, .inr (5, ss)), (sc, .inl (cS, 5, .inl (fun _ => 0)))] t.heap ∧ va_K (dC, dI) vwCl [(cS, .int)] t ∧ va_D (va_A [(sh, .inr (5, ss)), (sc, .inl (cS, 5, .inl (fun _ => 0)))] sz) [(sh, .inr (5, ss)), (sc, .inl (cS, 5, .inl (fun _ => 0)))]) (va_A [(sh, .inr (5, ss)), (sc, .inl (cS, 5, .inl (fun _ => 0)))] sz)) 0 0 (va_A [(sh, .inr (5, ss)), (sc, .inl (cS, 5, .inl (fun _ => 0)))] sz) := by
  refine Met.ofW (cc := cX5_hasPair) (maxL := 2) (ret := (some .boolean)) (by decide) rfl ?_
  intro p e s m args below meth c s₁ B hml hv
  obtain ⟨rfl, hsz, hP, hK, hD0⟩ := hv
  have hx := B.exec
  have hb := B.bytes
  have hr := B.returns
  have hts := atoms_spec (ws := zw_c_hasPair) B.pre
  have hown : s.vm.findClass RX5 = some m.cls := findClass_of_methodNamed B.named
  have hlocks := B.notSynchronized
  subst hsz
  have hD := hD0.self (sz := s.heap.size)
  generalize hAe : va_A [(sh, .inr (5, ss)), (sc, .inl (cS, 5, .inl (fun _ => 0)))] s.heap.size = A at hD ⊢
  have hA : ∀ q : Nat, s.heap.size ≤ q → A q := fun q h => by rw [← hAe]; exact Or.inr h
  have hS : va_S A s.heap s.heap [] := va_S.rf
  have hP : va_P (dC, dI) vwCl [(sh, .inr (5, ss)), (sc, .inl (cS, 5, .inl (fun _ => 0)))] s.heap := hP
  have m_0 : (.methodLink RX5 73 yX5_lawsAsked : Cond) ∈ zw_c_hasPair := List.mem_append_left _ (List.mem_of_getElem? (i := 1) rfl)
  have k_0 := hts _ m_0
  have m_1 : (.instanceMethod yX5_lawsAsked : Cond) ∈ zw_c_hasPair := List.mem_append_left _ (List.mem_of_getElem? (i := 2) rfl)
  have k_1 := hts _ m_1
  have m_2 : (.selects RX5 yX5_lawsAsked yX5_lawsAsked : Cond) ∈ zw_c_hasPair := List.mem_append_left _ (List.mem_of_getElem? (i := 3) rfl)
  have k_2 := hts _ m_2
  have m_3 : (.initialized RX5 : Cond) ∈ zw_c_hasPair := List.mem_append_left _ (List.mem_of_getElem? (i := 4) rfl)
  have k_3 := hts _ m_3
  have m_4 : (.methodLink RX5 77 yX5_has : Cond) ∈ zw_c_hasPair := List.mem_append_left _ (List.mem_of_getElem? (i := 5) rfl)
  have k_4 := hts _ m_4
  have m_5 : (.instanceMethod yX5_has : Cond) ∈ zw_c_hasPair := List.mem_append_left _ (List.mem_of_getElem? (i := 6) rfl)
  have k_5 := hts _ m_5
  have m_6 : (.selects RX5 yX5_has yX5_has : Cond) ∈ zw_c_hasPair := List.mem_append_left _ (List.mem_of_getElem? (i := 7) rfl)
  have k_6 := hts _ m_6
  have g_c_lawsAsked : ∀ w ∈ zw_c_lawsAsked, w ∈ zw_c_hasPair := fun w h => List.mem_append_right _ (List.mem_append_left _ h)
  have g_c_has0 : ∀ w ∈ zw_c_has0, w ∈ zw_c_hasPair := fun w h => List.mem_append_right _ (List.mem_append_right _ (List.mem_append_left _ h))
  have hl := lv_entry ([.ref sh, .int a1]) (n := 2) (Nat.le_of_ble_eq_true rfl)
  rw [lg_entry_eq]
  generalize (lg_sl ([.ref sh, .int a1]) ++ List.replicate (2 - (lg_sl ([.ref sh, .int a1])).length) Slot.unset).toArray = ls at hl ⊢
  have hl : lv_has ls 2 [(0, .ref sh), (1, .int a1)] := hl
  refine lv_iload_n hx hb dX5_hasPair_0 rfl (lv_at hl 1 rfl) ?_
  refine lv_if_lt (tgt := 29) hx hb dX5_hasPair_1 (by decide) (fun c1 => ?_) (fun c1 => ?_)
  · refine lv_iconst (v := 0) hx hb dX5_hasPair_29 (by decide) ?_
    have hP9 := hP.sub (ws' := [(sh, .inr (5, ss)), (sc, .inl (cS, 5, .inl (fun _ => 0)))]) [0, 1] rfl
    have hD9 := hD.sub (ws' := [(sh, .inr (5, ss)), (sc, .inl (cS, 5, .inl (fun _ => 0)))]) [0, 1] (by decide) rfl
    have hK9 := hK.sub (tys' := [(cS, .int)]) [0] rfl
    exact W.zret (v := 0) hx hb hr (by decide) (fun t ht hW => ⟨⟨0, (), rfl, rfl, by rw [ht]; exact hP9, va_K.moved hW.alike hK9, hD9⟩, hS.F ht⟩) hS.2.2 dX5_hasPair_30
  · refine lv_iload_n hx hb dX5_hasPair_4 rfl (lv_at hl 1 rfl) ?_
    refine lv_iconst (v := 4) hx hb dX5_hasPair_5 (by decide) ?_
    refine lv_idiv hx hb dX5_hasPair_6 (by decide) ?_
    refine lv_topi (fun v_1 ev_1 => ?_)
    refine lv_aload_n hx hb dX5_hasPair_7 rfl (lv_at hl 0 rfl) ?_
    have hPc := hP.sub (ws' := [(sh, .inr (5, ss)), (sc, .inl (cS, 5, .inl (fun _ => 0)))]) [0, 1] rfl
    have hDc := hD.sub (ws' := [(sh, .inr (5, ss)), (sc, .inl (cS, 5, .inl (fun _ => 0)))]) [0, 1] (by decide) rfl
    have hKc := hK.sub (tys' := [(cS, .int)]) [0] rfl
    have hFc := va_free (wc := [(sh, .inr (5, ss)), (sc, .inl (cS, 5, .inl (fun _ => 0)))]) hD hS hA [0, 1] rfl
    refine va_calli (va_runV (As := []) (rest := [.int v_1]) ⟨hx, hb, hml, hown, hts⟩ (c_lawsAsked l dC dI s.heap.size sh ss sc cS f_ss_0) (cwV 0 hts (p1_gV m_0 m_1 m_2 m_3 g_c_lawsAsked gz_c_lawsAsked) rfl rfl rfl (by decide +kernel) ⟨by decide, by decide⟩) ⟨fun a U g mk q => by obtain ⟨q0, q1, qP, qK, qD⟩ := q; exact ⟨q0, q1, qP, va_K.moved (u := U) (U := U.calling g mk a) (Vm.Alike.refl U.vm) qK, qD⟩, va_recv hKc hPc (ci := 5) (q0 := 0) rfl rfl, fun U hU hW => ⟨rfl, by rw [hU], by rw [hU]; exact hPc, va_K.moved hW.alike hKc, hDc.weaken (fun _ _ _ _ => trivial)⟩⟩ rfl rfl hl.1 rfl (lv_room (Nat.le_of_ble_eq_true rfl)) dX5_hasPair_8 ⟨by decide, by decide⟩) hS (fun q _ h => hFc q h) hFc (fun r_2 u t H1 locs ht hvm hw hB hz1 hk1 hS => ?_)
    obtain ⟨hP1, hK1, hD1⟩ := hB
    rw [ht] at hP1
    obtain ⟨hP, hD⟩ := va_join (wr := []) (w1 := [(sh, .inr (5, ss)), (sc, .inl (cS, 5, .inl (fun _ => 0)))]) hP hD [0, 1] [] rfl rfl (by decide) (by decide) hk1 hFc hP1 hD1
    generalize H1 = H at hP hS ⊢
    have hP : va_P (dC, dI) vwCl [(sh, .inr (5, ss)), (sc, .inl (cS, 5, .inl (fun _ => 0)))] H := hP
    have hD : va_D A [(sh, .inr (5, ss)), (sc, .inl (cS, 5, .inl (fun _ => 0)))] := hD
    try dsimp only at hw
    obtain rfl : r_2 = 1 := hw
    refine lv_icmp_ge (tgt := 29) hx hb dX5_hasPair_11 (by decide) (fun c11 => ?_) (fun c11 => ?_)
    · refine lv_iconst (v := 0) hx hb dX5_hasPair_29 (by decide) ?_
      have hP9 := hP.sub (ws' := [(sh, .inr (5, ss)), (sc, .inl (cS, 5, .inl (fun _ => 0)))]) [0, 1] rfl
      have hD9 := hD.sub (ws' := [(sh, .inr (5, ss)), (sc, .inl (cS, 5, .inl (fun _ => 0)))]) [0, 1] (by decide) rfl
      have hK9 := hK.sub (tys' := [(cS, .int)]) [0] rfl
      exact W.zret (v := 0) hx hb hr (by decide) (fun t ht hW => ⟨⟨0, (), rfl, rfl, by rw [ht]; exact hP9, va_K.moved hW.alike hK9, hD9⟩, hS.F ht⟩) hS.2.2 dX5_hasPair_30
    · refine lv_aload_n hx hb dX5_hasPair_14 rfl (lv_at hl 0 rfl) ?_
      refine lv_iconst (v := 1) hx hb dX5_hasPair_15 (by decide) ?_
      refine lv_iload_n hx hb dX5_hasPair_16 rfl (lv_at hl 1 rfl) ?_
      refine lv_iconst (v := 4) hx hb dX5_hasPair_17 (by decide) ?_
      refine lv_irem hx hb dX5_hasPair_18 (by decide) ?_
      refine lv_topi (fun v_3 ev_3 => ?_)
      have hPc := hP.sub (ws' := [(sh, .inr (5, ss)), (sc, .inl (cS, 5, .inl (fun _ => 0)))]) [0, 1] rfl
      have hDc := hD.sub (ws' := [(sh, .inr (5, ss)), (sc, .inl (cS, 5, .inl (fun _ => 0)))]) [0, 1] (by decide) rfl
      have hKc := hK.sub (tys' := [(cS, .int)]) [0] rfl
      have hFc := va_free (wc := [(sh, .inr (5, ss)), (sc, .inl (cS, 5, .inl (fun _ => 0)))]) hD hS hA [0, 1] rfl
      refine va_calli (va_runV (As := [.int 1, .int v_3]) (rest := []) ⟨hx, hb, hml, hown, hts⟩ (c_has0 l dC dI H.size sh ss sc cS 1 v_3 f_ss_0 (p1_in (i := 1) (n := 5) (by decide))) (cwV 2 hts (p1_gV m_4 m_5 m_6 m_3 g_c_has0 gz_c_has0) rfl rfl rfl (by decide +kernel) ⟨by decide, by decide⟩) ⟨fun a U g mk q => by obtain ⟨q0, q1, qP, qK, qD⟩ := q; exact ⟨q0, q1, qP, va_K.moved (u := U) (U := U.calling g mk a) (Vm.Alike.refl U.vm) qK, qD⟩, va_recv hKc hPc (ci := 5) (q0 := 0) rfl rfl, fun U hU hW => ⟨rfl, by rw [hU], by rw [hU]; exact hPc, va_K.moved hW.alike hKc, hDc.weaken (fun _ _ _ _ => trivial)⟩⟩ rfl rfl hl.1 rfl (lv_room (Nat.le_of_ble_eq_true rfl)) dX5_hasPair_19 ⟨by decide, by decide⟩) hS (fun q _ h => hFc q h) hFc (fun r_4 u t H1 locs ht hvm hw hB hz1 hk1 hS => ?_)
      obtain ⟨hP1, hK1, hD1⟩ := hB
      rw [ht] at hP1
      obtain ⟨hP, hD⟩ := va_join (wr := []) (w1 := [(sh, .inr (5, ss)), (sc, .inl (cS, 5, .inl (fun _ => 0)))]) hP hD [0, 1] [] rfl rfl (by decide) (by decide) hk1 hFc hP1 hD1
      generalize H1 = H at hP hS ⊢
      have hP : va_P (dC, dI) vwCl [(sh, .inr (5, ss)), (sc, .inl (cS, 5, .inl (fun _ => 0)))] H := hP
      have hD : va_D A [(sh, .inr (5, ss)), (sc, .inl (cS, 5, .inl (fun _ => 0)))] := hD
      try dsimp only at hw
      obtain rfl : r_4 = 0 := hw
      refine lv_if_eq (tgt := 29) hx hb dX5_hasPair_22 (by decide) (fun _ => ?_) (fun c9 => absurd c9 (by decide))
      refine lv_iconst (v := 0) hx hb dX5_hasPair_29 (by decide) ?_
      have hP9 := hP.sub (ws' := [(sh, .inr (5, ss)), (sc, .inl (cS, 5, .inl (fun _ => 0)))]) [0, 1] rfl
      have hD9 := hD.sub (ws' := [(sh, .inr (5, ss)), (sc, .inl (cS, 5, .inl (fun _ => 0)))]) [0, 1] (by decide) rfl
      have hK9 := hK.sub (tys' := [(cS, .int)]) [0] rfl
      exact W.zret (v := 0) hx hb hr (by decide) (fun t ht hW => ⟨⟨0, (), rfl, rfl, by rw [ht]; exact hP9, va_K.moved hW.alike hK9, hD9⟩, hS.F ht⟩) hS.2.2 dX5_hasPair_30
end
section
def zo_x_knot : List Cond := [.code yX8_knot cX8_knot 3 (some .int), .fieldLink RX8 60 "BowWalk" "shop" "LBowWalk$Shop;", .methodLink RX8 104 yX5_has, .instanceMethod yX5_has, .selects RX5 yX5_has yX5_has, .initialized RX5]
def zw_x_knot : List Cond := zo_x_knot ++ (zw_c_has0 ++ (wsX80 ++ []))
theorem gz_x_knot : zw_x_knot.all goodWord = true := p1_ga (by decide +kernel) (p1_ga gz_c_has0 (p1_ga gk_X8 p1_g0))
theorem iz_x_knot : ∀ w ∈ zw_x_knot, w ∈ lw_tbl := p1_ia (p1_all [713, 508, 714, 715, 716, 106] (by decide +kernel)) (p1_ia iz_c_has0 (p1_ia ik_X8 p1_i0))
set_option maxHeartbeats 4000000 in
set_option maxRecDepth 100000 in
theorem x_knot (l : Launch) (dC : Nat → ClassId) (dI : Nat → Nat → Nat) (sz : Nat) (x : Nat) (xs : List Value) (sh : Nat) (ss : List Value) (sc : Nat) (cS : ClassId) (a1 : Int32) (a2 : Int32) (f_xs_9 : xs[9]? = some (.ref sh)) (f_ss_0 : ss[0]? = some (.ref sc)) : Met l yX8_knot zw_x_knot ({ frames := 1, cells := 0, slots := 0, locals := 22 }) (va_Pc [.ref x, .int a1, .int a2] (fun U => U.heap.size = sz ∧ va_P (dC, dI) vwCl [(x, .inr (7, xs)), (sh, .inr (5, ss)), (sc, .inl (cS, 5, .inl (fun _ => 0)))] U.heap ∧ va_K (dC, dI) vwCl [(cS, .int)] U ∧ va_D (fun _ => True) [(x, .inr (7, xs)), (sh, .inr (5, ss)), (sc, .inl (cS, 5, .inl (fun _ => 0)))])) (va_Qi (fun (r : Int32) (_ : Unit) => r = (-1)) (fun _ t => va_P (dC, dI) vwCl [] t.heap ∧ va_K (dC, dI) vwCl [] t ∧ va_D (va_A [(x, .inr (7, xs)), (sh, .inr (5, ss)), (sc, .inl (cS, 5, .inl (fun _ => 0)))] sz) []) (va_A [(x, .inr (7, xs)), (sh, .inr (5, ss)), (sc, .inl (cS, 5, .inl (fun _ => 0)))] sz)) 0 0 (va_A [(x, .inr (7, xs)), (sh, .inr (5, ss)), (sc, .inl (cS, 5, .inl (fun _ => 0)))] sz) := by
  refine Met.ofW (cc := cX8_knot) (maxL := 3) (ret := (some .int)) (by decide) rfl ?_
  intro p e s m args below meth c s₁ B hml hv
  obtain ⟨rfl, hsz, hP, hK, hD0⟩ := hv
  have hx := B.exec
  have hb := B.bytes
  have hr := B.returns
  have hts := atoms_spec (ws := zw_x_knot) B.pre
  have hown : s.vm.findClass RX8 = some m.cls := findClass_of_methodNamed B.named
  have hlocks := B.notSynchronized
  subst hsz
  have hD := hD0.self (sz := s.heap.size)
  generalize hAe : va_A [(x, .inr (7, xs)), (sh, .inr (5, ss)), (sc, .inl (cS, 5, .inl (fun _ => 0)))] s.heap.size = A at hD ⊢
  have hA : ∀ q : Nat, s.heap.size ≤ q → A q := fun q h => by rw [← hAe]; exact Or.inr h
  have hS : va_S A s.heap s.heap [] := va_S.rf
  have hP : va_P (dC, dI) vwCl [(x, .inr (7, xs)), (sh, .inr (5, ss)), (sc, .inl (cS, 5, .inl (fun _ => 0)))] s.heap := hP
  have m_0 : (.fieldLink RX8 60 "BowWalk" "shop" "LBowWalk$Shop;" : Cond) ∈ zw_x_knot := List.mem_append_left _ (List.mem_of_getElem? (i := 1) rfl)
  have k_0 := hts _ m_0
  have m_1 : (.methodLink RX8 104 yX5_has : Cond) ∈ zw_x_knot := List.mem_append_left _ (List.mem_of_getElem? (i := 2) rfl)
  have k_1 := hts _ m_1
  have m_2 : (.instanceMethod yX5_has : Cond) ∈ zw_x_knot := List.mem_append_left _ (List.mem_of_getElem? (i := 3) rfl)
  have k_2 := hts _ m_2
  have m_3 : (.selects RX5 yX5_has yX5_has : Cond) ∈ zw_x_knot := List.mem_append_left _ (List.mem_of_getElem? (i := 4) rfl)
  have k_3 := hts _ m_3
  have m_4 : (.initialized RX5 : Cond) ∈ zw_x_knot := List.mem_append_left _ (List.mem_of_getElem? (i := 5) rfl)
  have k_4 := hts _ m_4
  have g_c_has0 : ∀ w ∈ zw_c_has0, w ∈ zw_x_knot := fun w h => List.mem_append_right _ (List.mem_append_left _ h)
  have i_X8 : ∀ w ∈ u_ws RX8 TX8 14, w ∈ zw_x_knot := fun w h => List.mem_append_right _ (List.mem_append_right _ (List.mem_append_left _ h))
  have hl := lv_entry ([.ref x, .int a1, .int a2]) (n := 3) (Nat.le_of_ble_eq_true rfl)
  rw [lg_entry_eq]
  generalize (lg_sl ([.ref x, .int a1, .int a2]) ++ List.replicate (3 - (lg_sl ([.ref x, .int a1, .int a2])).length) Slot.unset).toArray = ls at hl ⊢
  have hl : lv_has ls 3 [(0, .ref x), (1, .int a1), (2, .int a2)] := hl
  refine lv_aload_n hx hb dX8_knot_0 rfl (lv_at hl 0 rfl) ?_
  refine va_get (D := (dC, dI)) (ci := 7) (v := .ref sh) (C := RX8) (T := TX8) (N := 14) hx hb hts i_X8 hown hK hP 0 rfl rfl 9 (by decide) k_0 (fun _ h9 => h9) f_xs_9 dX8_knot_1 ?_
  refine lv_iconst (v := 0) hx hb dX8_knot_4 (by decide) ?_
  refine lv_iload_n hx hb dX8_knot_5 rfl (lv_at hl 1 rfl) ?_
  have hPc := hP.sub (ws' := [(sh, .inr (5, ss)), (sc, .inl (cS, 5, .inl (fun _ => 0)))]) [1, 2] rfl
  have hDc := hD.sub (ws' := [(sh, .inr (5, ss)), (sc, .inl (cS, 5, .inl (fun _ => 0)))]) [1, 2] (by decide) rfl
  have hKc := hK.sub (tys' := [(cS, .int)]) [0] rfl
  have hFc := va_free (wc := [(sh, .inr (5, ss)), (sc, .inl (cS, 5, .inl (fun _ => 0)))]) hD hS hA [1, 2] rfl
  refine va_calli (va_runV (As := [.int 0, .int a1]) (rest := []) ⟨hx, hb, hml, hown, hts⟩ (c_has0 l dC dI s.heap.size sh ss sc cS 0 a1 f_ss_0 (p1_in (i := 0) (n := 5) (by decide))) (cwV 2 hts (p1_gV m_1 m_2 m_3 m_4 g_c_has0 gz_c_has0) rfl rfl rfl (by decide +kernel) ⟨by decide, by decide⟩) ⟨fun a U g mk q => by obtain ⟨q0, q1, qP, qK, qD⟩ := q; exact ⟨q0, q1, qP, va_K.moved (u := U) (U := U.calling g mk a) (Vm.Alike.refl U.vm) qK, qD⟩, va_recv hKc hPc (ci := 5) (q0 := 0) rfl rfl, fun U hU hW => ⟨rfl, by rw [hU], by rw [hU]; exact hPc, va_K.moved hW.alike hKc, hDc.weaken (fun _ _ _ _ => trivial)⟩⟩ rfl rfl hl.1 rfl (lv_room (Nat.le_of_ble_eq_true rfl)) dX8_knot_6 ⟨by decide, by decide⟩) hS (fun q _ h => hFc q h) hFc (fun r_1 u t H1 locs ht hvm hw hB hz1 hk1 hS => ?_)
  obtain ⟨hP1, hK1, hD1⟩ := hB
  rw [ht] at hP1
  obtain ⟨hP, hD⟩ := va_join (wr := [(x, .inr (7, xs))]) (w1 := [(sh, .inr (5, ss)), (sc, .inl (cS, 5, .inl (fun _ => 0)))]) hP hD [1, 2] [0] rfl rfl (by decide) (by decide) hk1 hFc hP1 hD1
  generalize H1 = H at hP hS ⊢
  have hP : va_P (dC, dI) vwCl [(x, .inr (7, xs)), (sh, .inr (5, ss)), (sc, .inl (cS, 5, .inl (fun _ => 0)))] H := hP
  have hD : va_D A [(x, .inr (7, xs)), (sh, .inr (5, ss)), (sc, .inl (cS, 5, .inl (fun _ => 0)))] := hD
  try dsimp only at hw
  obtain rfl : r_1 = 0 := hw
  refine lv_if_ne (tgt := 14) hx hb dX8_knot_9 (by decide) (fun c9 => absurd c9 (by decide)) (fun _ => ?_)
  refine lv_iconst (v := (-1)) hx hb dX8_knot_12 (by decide) ?_
  have hP9 := hP.sub (ws' := []) [] rfl
  have hD9 := hD.sub (ws' := []) [] (by decide) rfl
  have hK9 := hK.sub (tys' := []) [] rfl
  exact W.iret (v := (-1)) hx hb hr (fun t ht hW => ⟨⟨(-1), (), rfl, rfl, by rw [ht]; exact hP9, va_K.moved hW.alike hK9, hD9⟩, hS.F ht⟩) hS.2.2 dX8_knot_13
def zo_x_tie : List Cond := [.code yX8_tie cX8_tie 3 (some .int), .fieldLink RX8 60 "BowWalk" "shop" "LBowWalk$Shop;", .methodLink RX8 104 yX5_has, .instanceMethod yX5_has, .selects RX5 yX5_has yX5_has, .initialized RX5]
def zw_x_tie : List Cond := zo_x_tie ++ (zw_c_has0 ++ (wsX80 ++ []))
theorem gz_x_tie : zw_x_tie.all goodWord = true := p1_ga (by decide +kernel) (p1_ga gz_c_has0 (p1_ga gk_X8 p1_g0))
theorem iz_x_tie : ∀ w ∈ zw_x_tie, w ∈ lw_tbl := p1_ia (p1_all [730, 508, 714, 715, 716, 106] (by decide +kernel)) (p1_ia iz_c_has0 (p1_ia ik_X8 p1_i0))
set_option maxHeartbeats 4000000 in
set_option maxRecDepth 100000 in
theorem x_tie (l : Launch) (dC : Nat → ClassId) (dI : Nat → Nat → Nat) (sz : Nat) (x : Nat) (xs : List Value) (sh : Nat) (ss : List Value) (sc : Nat) (cS : ClassId) (a1 : Int32) (a2 : Int32) (f_xs_9 : xs[9]? = some (.ref sh)) (f_ss_0 : ss[0]? = some (.ref sc)) : Met l yX8_tie zw_x_tie ({ frames := 1, cells := 0, slots := 0, locals := 22 }) (va_Pc [.ref x, .int a1, .int a2] (fun U => U.heap.size = sz ∧ va_P (dC, dI) vwCl [(x, .inr (7, xs)), (sh, .inr (5, ss)), (sc, .inl (cS, 5, .inl (fun _ => 0)))] U.heap ∧ va_K (dC, dI) vwCl [(cS, .int)] U ∧ va_D (fun _ => True) [(x, .inr (7, xs)), (sh, .inr (5, ss)), (sc, .inl (cS, 5, .inl (fun _ => 0)))])) (va_Qi (fun (r : Int32) (_ : Unit) => r = (-1)) (fun _ t => va_P (dC, dI) vwCl [] t.heap ∧ va_K (dC, dI) vwCl [] t ∧ va_D (va_A [(x, .inr (7, xs)), (sh, .inr (5, ss)), (sc, .inl (cS, 5, .inl (fun _ => 0)))] sz) []) (va_A [(x, .inr (7, xs)), (sh, .inr (5, ss)), (sc, .inl (cS, 5, .inl (fun _ => 0)))] sz)) 0 0 (va_A [(x, .inr (7, xs)), (sh, .inr (5, ss)), (sc, .inl (cS, 5, .inl (fun _ => 0)))] sz) := by
  refine Met.ofW (cc := cX8_tie) (maxL := 3) (ret := (some .int)) (by decide) rfl ?_
  intro p e s m args below meth c s₁ B hml hv
  obtain ⟨rfl, hsz, hP, hK, hD0⟩ := hv
  have hx := B.exec
  have hb := B.bytes
  have hr := B.returns
  have hts := atoms_spec (ws := zw_x_tie) B.pre
  have hown : s.vm.findClass RX8 = some m.cls := findClass_of_methodNamed B.named
  have hlocks := B.notSynchronized
  subst hsz
  have hD := hD0.self (sz := s.heap.size)
  generalize hAe : va_A [(x, .inr (7, xs)), (sh, .inr (5, ss)), (sc, .inl (cS, 5, .inl (fun _ => 0)))] s.heap.size = A at hD ⊢
  have hA : ∀ q : Nat, s.heap.size ≤ q → A q := fun q h => by rw [← hAe]; exact Or.inr h
  have hS : va_S A s.heap s.heap [] := va_S.rf
  have hP : va_P (dC, dI) vwCl [(x, .inr (7, xs)), (sh, .inr (5, ss)), (sc, .inl (cS, 5, .inl (fun _ => 0)))] s.heap := hP
  have m_0 : (.fieldLink RX8 60 "BowWalk" "shop" "LBowWalk$Shop;" : Cond) ∈ zw_x_tie := List.mem_append_left _ (List.mem_of_getElem? (i := 1) rfl)
  have k_0 := hts _ m_0
  have m_1 : (.methodLink RX8 104 yX5_has : Cond) ∈ zw_x_tie := List.mem_append_left _ (List.mem_of_getElem? (i := 2) rfl)
  have k_1 := hts _ m_1
  have m_2 : (.instanceMethod yX5_has : Cond) ∈ zw_x_tie := List.mem_append_left _ (List.mem_of_getElem? (i := 3) rfl)
  have k_2 := hts _ m_2
  have m_3 : (.selects RX5 yX5_has yX5_has : Cond) ∈ zw_x_tie := List.mem_append_left _ (List.mem_of_getElem? (i := 4) rfl)
  have k_3 := hts _ m_3
  have m_4 : (.initialized RX5 : Cond) ∈ zw_x_tie := List.mem_append_left _ (List.mem_of_getElem? (i := 5) rfl)
  have k_4 := hts _ m_4
  have g_c_has0 : ∀ w ∈ zw_c_has0, w ∈ zw_x_tie := fun w h => List.mem_append_right _ (List.mem_append_left _ h)
  have i_X8 : ∀ w ∈ u_ws RX8 TX8 14, w ∈ zw_x_tie := fun w h => List.mem_append_right _ (List.mem_append_right _ (List.mem_append_left _ h))
  have hl := lv_entry ([.ref x, .int a1, .int a2]) (n := 3) (Nat.le_of_ble_eq_true rfl)
  rw [lg_entry_eq]
  generalize (lg_sl ([.ref x, .int a1, .int a2]) ++ List.replicate (3 - (lg_sl ([.ref x, .int a1, .int a2])).length) Slot.unset).toArray = ls at hl ⊢
  have hl : lv_has ls 3 [(0, .ref x), (1, .int a1), (2, .int a2)] := hl
  refine lv_aload_n hx hb dX8_tie_0 rfl (lv_at hl 0 rfl) ?_
  refine va_get (D := (dC, dI)) (ci := 7) (v := .ref sh) (C := RX8) (T := TX8) (N := 14) hx hb hts i_X8 hown hK hP 0 rfl rfl 9 (by decide) k_0 (fun _ h9 => h9) f_xs_9 dX8_tie_1 ?_
  refine lv_iconst (v := 0) hx hb dX8_tie_4 (by decide) ?_
  refine lv_iload_n hx hb dX8_tie_5 rfl (lv_at hl 1 rfl) ?_
  have hPc := hP.sub (ws' := [(sh, .inr (5, ss)), (sc, .inl (cS, 5, .inl (fun _ => 0)))]) [1, 2] rfl
  have hDc := hD.sub (ws' := [(sh, .inr (5, ss)), (sc, .inl (cS, 5, .inl (fun _ => 0)))]) [1, 2] (by decide) rfl
  have hKc := hK.sub (tys' := [(cS, .int)]) [0] rfl
  have hFc := va_free (wc := [(sh, .inr (5, ss)), (sc, .inl (cS, 5, .inl (fun _ => 0)))]) hD hS hA [1, 2] rfl
  refine va_calli (va_runV (As := [.int 0, .int a1]) (rest := []) ⟨hx, hb, hml, hown, hts⟩ (c_has0 l dC dI s.heap.size sh ss sc cS 0 a1 f_ss_0 (p1_in (i := 0) (n := 5) (by decide))) (cwV 2 hts (p1_gV m_1 m_2 m_3 m_4 g_c_has0 gz_c_has0) rfl rfl rfl (by decide +kernel) ⟨by decide, by decide⟩) ⟨fun a U g mk q => by obtain ⟨q0, q1, qP, qK, qD⟩ := q; exact ⟨q0, q1, qP, va_K.moved (u := U) (U := U.calling g mk a) (Vm.Alike.refl U.vm) qK, qD⟩, va_recv hKc hPc (ci := 5) (q0 := 0) rfl rfl, fun U hU hW => ⟨rfl, by rw [hU], by rw [hU]; exact hPc, va_K.moved hW.alike hKc, hDc.weaken (fun _ _ _ _ => trivial)⟩⟩ rfl rfl hl.1 rfl (lv_room (Nat.le_of_ble_eq_true rfl)) dX8_tie_6 ⟨by decide, by decide⟩) hS (fun q _ h => hFc q h) hFc (fun r_1 u t H1 locs ht hvm hw hB hz1 hk1 hS => ?_)
  obtain ⟨hP1, hK1, hD1⟩ := hB
  rw [ht] at hP1
  obtain ⟨hP, hD⟩ := va_join (wr := [(x, .inr (7, xs))]) (w1 := [(sh, .inr (5, ss)), (sc, .inl (cS, 5, .inl (fun _ => 0)))]) hP hD [1, 2] [0] rfl rfl (by decide) (by decide) hk1 hFc hP1 hD1
  generalize H1 = H at hP hS ⊢
  have hP : va_P (dC, dI) vwCl [(x, .inr (7, xs)), (sh, .inr (5, ss)), (sc, .inl (cS, 5, .inl (fun _ => 0)))] H := hP
  have hD : va_D A [(x, .inr (7, xs)), (sh, .inr (5, ss)), (sc, .inl (cS, 5, .inl (fun _ => 0)))] := hD
  try dsimp only at hw
  obtain rfl : r_1 = 0 := hw
  refine lv_if_eq (tgt := 24) hx hb dX8_tie_9 (by decide) (fun _ => ?_) (fun c9 => absurd c9 (by decide))
  refine lv_iconst (v := (-1)) hx hb dX8_tie_24 (by decide) ?_
  have hP9 := hP.sub (ws' := []) [] rfl
  have hD9 := hD.sub (ws' := []) [] (by decide) rfl
  have hK9 := hK.sub (tys' := []) [] rfl
  exact W.iret (v := (-1)) hx hb hr (fun t ht hW => ⟨⟨(-1), (), rfl, rfl, by rw [ht]; exact hP9, va_K.moved hW.alike hK9, hD9⟩, hS.F ht⟩) hS.2.2 dX8_tie_25
def zo_x_walk : List Cond := [.code yX8_walk cX8_walk 5 (some .int), .fieldLink RX8 68 "BowWalk" "tied" "Z"]
def zw_x_walk : List Cond := zo_x_walk ++ (wsX80 ++ [])
theorem gz_x_walk : zw_x_walk.all goodWord = true := p1_ga (by decide +kernel) (p1_ga gk_X8 p1_g0)
theorem iz_x_walk : ∀ w ∈ zw_x_walk, w ∈ lw_tbl := p1_ia (p1_all [748, 510] (by decide +kernel)) (p1_ia ik_X8 p1_i0)
set_option maxHeartbeats 4000000 in
set_option maxRecDepth 100000 in
theorem x_walk (l : Launch) (dC : Nat → ClassId) (dI : Nat → Nat → Nat) (sz : Nat) (x : Nat) (xs : List Value) (a1 : Int32) (a2 : Int32) (f_xs_11 : xs[11]? = some (.int 0)) : Met l yX8_walk zw_x_walk ({ frames := 0, cells := 0, slots := 0, locals := 0 }) (va_Pc [.ref x, .int a1, .int a2] (fun U => U.heap.size = sz ∧ va_P (dC, dI) vwCl [(x, .inr (7, xs))] U.heap ∧ va_K (dC, dI) vwCl [] U ∧ va_D (fun _ => True) [(x, .inr (7, xs))])) (va_Qi (fun (r : Int32) (_ : Unit) => r = (-1)) (fun _ t => va_P (dC, dI) vwCl [] t.heap ∧ va_K (dC, dI) vwCl [] t ∧ va_D (va_A [(x, .inr (7, xs))] sz) []) (va_A [(x, .inr (7, xs))] sz)) 0 0 (va_A [(x, .inr (7, xs))] sz) := by
  refine Met.ofW (cc := cX8_walk) (maxL := 5) (ret := (some .int)) (by decide) rfl ?_
  intro p e s m args below meth c s₁ B hml hv
  obtain ⟨rfl, hsz, hP, hK, hD0⟩ := hv
  have hx := B.exec
  have hb := B.bytes
  have hr := B.returns
  have hts := atoms_spec (ws := zw_x_walk) B.pre
  have hown : s.vm.findClass RX8 = some m.cls := findClass_of_methodNamed B.named
  have hlocks := B.notSynchronized
  subst hsz
  have hD := hD0.self (sz := s.heap.size)
  generalize hAe : va_A [(x, .inr (7, xs))] s.heap.size = A at hD ⊢
  have hA : ∀ q : Nat, s.heap.size ≤ q → A q := fun q h => by rw [← hAe]; exact Or.inr h
  have hS : va_S A s.heap s.heap [] := va_S.rf
  have hP : va_P (dC, dI) vwCl [(x, .inr (7, xs))] s.heap := hP
  have m_0 : (.fieldLink RX8 68 "BowWalk" "tied" "Z" : Cond) ∈ zw_x_walk := List.mem_append_left _ (List.mem_of_getElem? (i := 1) rfl)
  have k_0 := hts _ m_0
  have i_X8 : ∀ w ∈ u_ws RX8 TX8 14, w ∈ zw_x_walk := fun w h => List.mem_append_right _ (List.mem_append_left _ h)
  have hl := lv_entry ([.ref x, .int a1, .int a2]) (n := 5) (Nat.le_of_ble_eq_true rfl)
  rw [lg_entry_eq]
  generalize (lg_sl ([.ref x, .int a1, .int a2]) ++ List.replicate (5 - (lg_sl ([.ref x, .int a1, .int a2])).length) Slot.unset).toArray = ls at hl ⊢
  have hl : lv_has ls 5 [(0, .ref x), (1, .int a1), (2, .int a2)] := hl
  refine lv_aload_n hx hb dX8_walk_0 rfl (lv_at hl 0 rfl) ?_
  refine va_get (D := (dC, dI)) (ci := 7) (v := .int 0) (C := RX8) (T := TX8) (N := 14) hx hb hts i_X8 hown hK hP 0 rfl rfl 11 (by decide) k_0 (fun _ h9 => h9) f_xs_11 dX8_walk_1 ?_
  refine lv_if_eq (tgt := 30) hx hb dX8_walk_4 (by decide) (fun _ => ?_) (fun c9 => absurd c9 (by decide))
  refine lv_iconst (v := (-1)) hx hb dX8_walk_30 (by decide) ?_
  have hP9 := hP.sub (ws' := []) [] rfl
  have hD9 := hD.sub (ws' := []) [] (by decide) rfl
  have hK9 := hK.sub (tys' := []) [] rfl
  exact W.iret (v := (-1)) hx hb hr (fun t ht hW => ⟨⟨(-1), (), rfl, rfl, by rw [ht]; exact hP9, va_K.moved hW.alike hK9, hD9⟩, hS.F ht⟩) hS.2.2 dX8_walk_31
def zo_x_pull : List Cond := [.code yX8_pull cX8_pull 2 (some .int), .fieldLink RX8 68 "BowWalk" "tied" "Z"]
def zw_x_pull : List Cond := zo_x_pull ++ (wsX80 ++ [])
theorem gz_x_pull : zw_x_pull.all goodWord = true := p1_ga (by decide +kernel) (p1_ga gk_X8 p1_g0)
theorem iz_x_pull : ∀ w ∈ zw_x_pull, w ∈ lw_tbl := p1_ia (p1_all [797, 510] (by decide +kernel)) (p1_ia ik_X8 p1_i0)
set_option maxHeartbeats 4000000 in
set_option maxRecDepth 100000 in
theorem x_pull (l : Launch) (dC : Nat → ClassId) (dI : Nat → Nat → Nat) (sz : Nat) (x : Nat) (xs : List Value) (a1 : Int32) (f_xs_11 : xs[11]? = some (.int 0)) : Met l yX8_pull zw_x_pull ({ frames := 0, cells := 0, slots := 0, locals := 0 }) (va_Pc [.ref x, .int a1] (fun U => U.heap.size = sz ∧ va_P (dC, dI) vwCl [(x, .inr (7, xs))] U.heap ∧ va_K (dC, dI) vwCl [] U ∧ va_D (fun _ => True) [(x, .inr (7, xs))])) (va_Qi (fun (r : Int32) (_ : Unit) => r = (-1)) (fun _ t => va_P (dC, dI) vwCl [] t.heap ∧ va_K (dC, dI) vwCl [] t ∧ va_D (va_A [(x, .inr (7, xs))] sz) []) (va_A [(x, .inr (7, xs))] sz)) 0 0 (va_A [(x, .inr (7, xs))] sz) := by
  refine Met.ofW (cc := cX8_pull) (maxL := 2) (ret := (some .int)) (by decide) rfl ?_
  intro p e s m args below meth c s₁ B hml hv
  obtain ⟨rfl, hsz, hP, hK, hD0⟩ := hv
  have hx := B.exec
  have hb := B.bytes
  have hr := B.returns
  have hts := atoms_spec (ws := zw_x_pull) B.pre
  have hown : s.vm.findClass RX8 = some m.cls := findClass_of_methodNamed B.named
  have hlocks := B.notSynchronized
  subst hsz
  have hD := hD0.self (sz := s.heap.size)
  generalize hAe : va_A [(x, .inr (7, xs))] s.heap.size = A at hD ⊢
  have hA : ∀ q : Nat, s.heap.size ≤ q → A q := fun q h => by rw [← hAe]; exact Or.inr h
  have hS : va_S A s.heap s.heap [] := va_S.rf
  have hP : va_P (dC, dI) vwCl [(x, .inr (7, xs))] s.heap := hP
  have m_0 : (.fieldLink RX8 68 "BowWalk" "tied" "Z" : Cond) ∈ zw_x_pull := List.mem_append_left _ (List.mem_of_getElem? (i := 1) rfl)
  have k_0 := hts _ m_0
  have i_X8 : ∀ w ∈ u_ws RX8 TX8 14, w ∈ zw_x_pull := fun w h => List.mem_append_right _ (List.mem_append_left _ h)
  have hl := lv_entry ([.ref x, .int a1]) (n := 2) (Nat.le_of_ble_eq_true rfl)
  rw [lg_entry_eq]
  generalize (lg_sl ([.ref x, .int a1]) ++ List.replicate (2 - (lg_sl ([.ref x, .int a1])).length) Slot.unset).toArray = ls at hl ⊢
  have hl : lv_has ls 2 [(0, .ref x), (1, .int a1)] := hl
  refine lv_aload_n hx hb dX8_pull_0 rfl (lv_at hl 0 rfl) ?_
  refine va_get (D := (dC, dI)) (ci := 7) (v := .int 0) (C := RX8) (T := TX8) (N := 14) hx hb hts i_X8 hown hK hP 0 rfl rfl 11 (by decide) k_0 (fun _ h9 => h9) f_xs_11 dX8_pull_1 ?_
  refine lv_if_eq (tgt := 28) hx hb dX8_pull_4 (by decide) (fun _ => ?_) (fun c9 => absurd c9 (by decide))
  refine lv_iconst (v := (-1)) hx hb dX8_pull_28 (by decide) ?_
  have hP9 := hP.sub (ws' := []) [] rfl
  have hD9 := hD.sub (ws' := []) [] (by decide) rfl
  have hK9 := hK.sub (tys' := []) [] rfl
  exact W.iret (v := (-1)) hx hb hr (fun t ht hW => ⟨⟨(-1), (), rfl, rfl, by rw [ht]; exact hP9, va_K.moved hW.alike hK9, hD9⟩, hS.F ht⟩) hS.2.2 dX8_pull_29
def zo_x_bow : List Cond := [.code yX8_bow cX8_bow 2 (some .int), .fieldLink RX8 68 "BowWalk" "tied" "Z"]
def zw_x_bow : List Cond := zo_x_bow ++ (wsX80 ++ [])
theorem gz_x_bow : zw_x_bow.all goodWord = true := p1_ga (by decide +kernel) (p1_ga gk_X8 p1_g0)
theorem iz_x_bow : ∀ w ∈ zw_x_bow, w ∈ lw_tbl := p1_ia (p1_all [805, 510] (by decide +kernel)) (p1_ia ik_X8 p1_i0)
set_option maxHeartbeats 4000000 in
set_option maxRecDepth 100000 in
theorem x_bow (l : Launch) (dC : Nat → ClassId) (dI : Nat → Nat → Nat) (sz : Nat) (x : Nat) (xs : List Value) (a1 : Int32) (f_xs_11 : xs[11]? = some (.int 0)) : Met l yX8_bow zw_x_bow ({ frames := 0, cells := 0, slots := 0, locals := 0 }) (va_Pc [.ref x, .int a1] (fun U => U.heap.size = sz ∧ va_P (dC, dI) vwCl [(x, .inr (7, xs))] U.heap ∧ va_K (dC, dI) vwCl [] U ∧ va_D (fun _ => True) [(x, .inr (7, xs))])) (va_Qi (fun (r : Int32) (_ : Unit) => r = (-1)) (fun _ t => va_P (dC, dI) vwCl [] t.heap ∧ va_K (dC, dI) vwCl [] t ∧ va_D (va_A [(x, .inr (7, xs))] sz) []) (va_A [(x, .inr (7, xs))] sz)) 0 0 (va_A [(x, .inr (7, xs))] sz) := by
  refine Met.ofW (cc := cX8_bow) (maxL := 2) (ret := (some .int)) (by decide) rfl ?_
  intro p e s m args below meth c s₁ B hml hv
  obtain ⟨rfl, hsz, hP, hK, hD0⟩ := hv
  have hx := B.exec
  have hb := B.bytes
  have hr := B.returns
  have hts := atoms_spec (ws := zw_x_bow) B.pre
  have hown : s.vm.findClass RX8 = some m.cls := findClass_of_methodNamed B.named
  have hlocks := B.notSynchronized
  subst hsz
  have hD := hD0.self (sz := s.heap.size)
  generalize hAe : va_A [(x, .inr (7, xs))] s.heap.size = A at hD ⊢
  have hA : ∀ q : Nat, s.heap.size ≤ q → A q := fun q h => by rw [← hAe]; exact Or.inr h
  have hS : va_S A s.heap s.heap [] := va_S.rf
  have hP : va_P (dC, dI) vwCl [(x, .inr (7, xs))] s.heap := hP
  have m_0 : (.fieldLink RX8 68 "BowWalk" "tied" "Z" : Cond) ∈ zw_x_bow := List.mem_append_left _ (List.mem_of_getElem? (i := 1) rfl)
  have k_0 := hts _ m_0
  have i_X8 : ∀ w ∈ u_ws RX8 TX8 14, w ∈ zw_x_bow := fun w h => List.mem_append_right _ (List.mem_append_left _ h)
  have hl := lv_entry ([.ref x, .int a1]) (n := 2) (Nat.le_of_ble_eq_true rfl)
  rw [lg_entry_eq]
  generalize (lg_sl ([.ref x, .int a1]) ++ List.replicate (2 - (lg_sl ([.ref x, .int a1])).length) Slot.unset).toArray = ls at hl ⊢
  have hl : lv_has ls 2 [(0, .ref x), (1, .int a1)] := hl
  refine lv_aload_n hx hb dX8_bow_0 rfl (lv_at hl 0 rfl) ?_
  refine va_get (D := (dC, dI)) (ci := 7) (v := .int 0) (C := RX8) (T := TX8) (N := 14) hx hb hts i_X8 hown hK hP 0 rfl rfl 11 (by decide) k_0 (fun _ h9 => h9) f_xs_11 dX8_bow_1 ?_
  refine lv_if_ne (tgt := 9) hx hb dX8_bow_4 (by decide) (fun c9 => absurd c9 (by decide)) (fun _ => ?_)
  refine lv_iconst (v := (-1)) hx hb dX8_bow_7 (by decide) ?_
  have hP9 := hP.sub (ws' := []) [] rfl
  have hD9 := hD.sub (ws' := []) [] (by decide) rfl
  have hK9 := hK.sub (tys' := []) [] rfl
  exact W.iret (v := (-1)) hx hb hr (fun t ht hW => ⟨⟨(-1), (), rfl, rfl, by rw [ht]; exact hP9, va_K.moved hW.alike hK9, hD9⟩, hS.F ht⟩) hS.2.2 dX8_bow_8
def zo_x_image : List Cond := [.code yX8_image cX8_image 2 (some .int), .fieldLink RX8 68 "BowWalk" "tied" "Z"]
def zw_x_image : List Cond := zo_x_image ++ (wsX80 ++ [])
theorem gz_x_image : zw_x_image.all goodWord = true := p1_ga (by decide +kernel) (p1_ga gk_X8 p1_g0)
theorem iz_x_image : ∀ w ∈ zw_x_image, w ∈ lw_tbl := p1_ia (p1_all [1012, 510] (by decide +kernel)) (p1_ia ik_X8 p1_i0)
set_option maxHeartbeats 4000000 in
set_option maxRecDepth 100000 in
theorem x_image (l : Launch) (dC : Nat → ClassId) (dI : Nat → Nat → Nat) (sz : Nat) (x : Nat) (xs : List Value) (a1 : Int32) (f_xs_11 : xs[11]? = some (.int 0)) : Met l yX8_image zw_x_image ({ frames := 0, cells := 0, slots := 0, locals := 0 }) (va_Pc [.ref x, .int a1] (fun U => U.heap.size = sz ∧ va_P (dC, dI) vwCl [(x, .inr (7, xs))] U.heap ∧ va_K (dC, dI) vwCl [] U ∧ va_D (fun _ => True) [(x, .inr (7, xs))])) (va_Qi (fun (r : Int32) (_ : Unit) => r = (-1)) (fun _ t => va_P (dC, dI) vwCl [] t.heap ∧ va_K (dC, dI) vwCl [] t ∧ va_D (va_A [(x, .inr (7, xs))] sz) []) (va_A [(x, .inr (7, xs))] sz)) 0 0 (va_A [(x, .inr (7, xs))] sz) := by
  refine Met.ofW (cc := cX8_image) (maxL := 2) (ret := (some .int)) (by decide) rfl ?_
  intro p e s m args below meth c s₁ B hml hv
  obtain ⟨rfl, hsz, hP, hK, hD0⟩ := hv
  have hx := B.exec
  have hb := B.bytes
  have hr := B.returns
  have hts := atoms_spec (ws := zw_x_image) B.pre
  have hown : s.vm.findClass RX8 = some m.cls := findClass_of_methodNamed B.named
  have hlocks := B.notSynchronized
  subst hsz
  have hD := hD0.self (sz := s.heap.size)
  generalize hAe : va_A [(x, .inr (7, xs))] s.heap.size = A at hD ⊢
  have hA : ∀ q : Nat, s.heap.size ≤ q → A q := fun q h => by rw [← hAe]; exact Or.inr h
  have hS : va_S A s.heap s.heap [] := va_S.rf
  have hP : va_P (dC, dI) vwCl [(x, .inr (7, xs))] s.heap := hP
  have m_0 : (.fieldLink RX8 68 "BowWalk" "tied" "Z" : Cond) ∈ zw_x_image := List.mem_append_left _ (List.mem_of_getElem? (i := 1) rfl)
  have k_0 := hts _ m_0
  have i_X8 : ∀ w ∈ u_ws RX8 TX8 14, w ∈ zw_x_image := fun w h => List.mem_append_right _ (List.mem_append_left _ h)
  have hl := lv_entry ([.ref x, .int a1]) (n := 2) (Nat.le_of_ble_eq_true rfl)
  rw [lg_entry_eq]
  generalize (lg_sl ([.ref x, .int a1]) ++ List.replicate (2 - (lg_sl ([.ref x, .int a1])).length) Slot.unset).toArray = ls at hl ⊢
  have hl : lv_has ls 2 [(0, .ref x), (1, .int a1)] := hl
  refine lv_aload_n hx hb dX8_image_0 rfl (lv_at hl 0 rfl) ?_
  refine va_get (D := (dC, dI)) (ci := 7) (v := .int 0) (C := RX8) (T := TX8) (N := 14) hx hb hts i_X8 hown hK hP 0 rfl rfl 11 (by decide) k_0 (fun _ h9 => h9) f_xs_11 dX8_image_1 ?_
  refine lv_if_eq (tgt := 16) hx hb dX8_image_4 (by decide) (fun _ => ?_) (fun c9 => absurd c9 (by decide))
  refine lv_iconst (v := (-1)) hx hb dX8_image_16 (by decide) ?_
  have hP9 := hP.sub (ws' := []) [] rfl
  have hD9 := hD.sub (ws' := []) [] (by decide) rfl
  have hK9 := hK.sub (tys' := []) [] rfl
  exact W.iret (v := (-1)) hx hb hr (fun t ht hW => ⟨⟨(-1), (), rfl, rfl, by rw [ht]; exact hP9, va_K.moved hW.alike hK9, hD9⟩, hS.F ht⟩) hS.2.2 dX8_image_17
def zo_x_holds : List Cond := [.code yX8_holds cX8_holds 5 (some .int), .methodLink RX8 208 yX8_canTry, .instanceMethod yX8_canTry, .selects RX8 yX8_canTry yX8_canTry, .initialized RX8]
def zw_x_holds : List Cond := zo_x_holds ++ (zw_c_canTry ++ [])
theorem gz_x_holds : zw_x_holds.all goodWord = true := p1_ga (by decide +kernel) (p1_ga gz_c_canTry p1_g0)
theorem iz_x_holds : ∀ w ∈ zw_x_holds, w ∈ lw_tbl := p1_ia (p1_all [809, 810, 812, 28, 104] (by decide +kernel)) (p1_ia iz_c_canTry p1_i0)
set_option maxHeartbeats 4000000 in
set_option maxRecDepth 100000 in
theorem x_holds (l : Launch) (dC : Nat → ClassId) (dI : Nat → Nat → Nat) (sz : Nat) (x : Nat) (xs : List Value) (sh : Nat) (ss : List Value) (sc : Nat) (cS : ClassId) (a1 : Int32) (a2 : Int32) (a3 : Int32) (a4 : Int32) (f_xs_9 : xs[9]? = some (.ref sh)) (f_ss_0 : ss[0]? = some (.ref sc)) : Met l yX8_holds zw_x_holds ({ frames := 2, cells := 0, slots := 0, locals := 45 }) (va_Pc [.ref x, .int a1, .int a2, .int a3, .int a4] (fun U => U.heap.size = sz ∧ va_P (dC, dI) vwCl [(x, .inr (7, xs)), (sh, .inr (5, ss)), (sc, .inl (cS, 5, .inl (fun _ => 0)))] U.heap ∧ va_K (dC, dI) vwCl [(cS, .int)] U ∧ va_D (fun _ => True) [(x, .inr (7, xs)), (sh, .inr (5, ss)), (sc, .inl (cS, 5, .inl (fun _ => 0)))])) (va_Qi (fun (r : Int32) (_ : Unit) => r = (-1)) (fun _ t => va_P (dC, dI) vwCl [] t.heap ∧ va_K (dC, dI) vwCl [] t ∧ va_D (va_A [(x, .inr (7, xs)), (sh, .inr (5, ss)), (sc, .inl (cS, 5, .inl (fun _ => 0)))] sz) []) (va_A [(x, .inr (7, xs)), (sh, .inr (5, ss)), (sc, .inl (cS, 5, .inl (fun _ => 0)))] sz)) 0 0 (va_A [(x, .inr (7, xs)), (sh, .inr (5, ss)), (sc, .inl (cS, 5, .inl (fun _ => 0)))] sz) := by
  refine Met.ofW (cc := cX8_holds) (maxL := 5) (ret := (some .int)) (by decide) rfl ?_
  intro p e s m args below meth c s₁ B hml hv
  obtain ⟨rfl, hsz, hP, hK, hD0⟩ := hv
  have hx := B.exec
  have hb := B.bytes
  have hr := B.returns
  have hts := atoms_spec (ws := zw_x_holds) B.pre
  have hown : s.vm.findClass RX8 = some m.cls := findClass_of_methodNamed B.named
  have hlocks := B.notSynchronized
  subst hsz
  have hD := hD0.self (sz := s.heap.size)
  generalize hAe : va_A [(x, .inr (7, xs)), (sh, .inr (5, ss)), (sc, .inl (cS, 5, .inl (fun _ => 0)))] s.heap.size = A at hD ⊢
  have hA : ∀ q : Nat, s.heap.size ≤ q → A q := fun q h => by rw [← hAe]; exact Or.inr h
  have hS : va_S A s.heap s.heap [] := va_S.rf
  have hP : va_P (dC, dI) vwCl [(x, .inr (7, xs)), (sh, .inr (5, ss)), (sc, .inl (cS, 5, .inl (fun _ => 0)))] s.heap := hP
  have m_0 : (.methodLink RX8 208 yX8_canTry : Cond) ∈ zw_x_holds := List.mem_append_left _ (List.mem_of_getElem? (i := 1) rfl)
  have k_0 := hts _ m_0
  have m_1 : (.instanceMethod yX8_canTry : Cond) ∈ zw_x_holds := List.mem_append_left _ (List.mem_of_getElem? (i := 2) rfl)
  have k_1 := hts _ m_1
  have m_2 : (.selects RX8 yX8_canTry yX8_canTry : Cond) ∈ zw_x_holds := List.mem_append_left _ (List.mem_of_getElem? (i := 3) rfl)
  have k_2 := hts _ m_2
  have m_3 : (.initialized RX8 : Cond) ∈ zw_x_holds := List.mem_append_left _ (List.mem_of_getElem? (i := 4) rfl)
  have k_3 := hts _ m_3
  have g_c_canTry : ∀ w ∈ zw_c_canTry, w ∈ zw_x_holds := fun w h => List.mem_append_right _ (List.mem_append_left _ h)
  have hl := lv_entry ([.ref x, .int a1, .int a2, .int a3, .int a4]) (n := 5) (Nat.le_of_ble_eq_true rfl)
  rw [lg_entry_eq]
  generalize (lg_sl ([.ref x, .int a1, .int a2, .int a3, .int a4]) ++ List.replicate (5 - (lg_sl ([.ref x, .int a1, .int a2, .int a3, .int a4])).length) Slot.unset).toArray = ls at hl ⊢
  have hl : lv_has ls 5 [(0, .ref x), (1, .int a1), (2, .int a2), (3, .int a3), (4, .int a4)] := hl
  refine lv_aload_n hx hb dX8_holds_0 rfl (lv_at hl 0 rfl) ?_
  refine lv_iload_n hx hb dX8_holds_1 rfl (lv_at hl 1 rfl) ?_
  refine lv_iload_n hx hb dX8_holds_2 rfl (lv_at hl 2 rfl) ?_
  refine lv_iload_n hx hb dX8_holds_3 rfl (lv_at hl 3 rfl) ?_
  have hPc := hP.sub (ws' := [(x, .inr (7, xs)), (sh, .inr (5, ss)), (sc, .inl (cS, 5, .inl (fun _ => 0)))]) [0, 1, 2] rfl
  have hDc := hD.sub (ws' := [(x, .inr (7, xs)), (sh, .inr (5, ss)), (sc, .inl (cS, 5, .inl (fun _ => 0)))]) [0, 1, 2] (by decide) rfl
  have hKc := hK.sub (tys' := [(cS, .int)]) [0] rfl
  have hFc := va_free (wc := [(x, .inr (7, xs)), (sh, .inr (5, ss)), (sc, .inl (cS, 5, .inl (fun _ => 0)))]) hD hS hA [0, 1, 2] rfl
  refine va_calli (va_runV (As := [.int a1, .int a2, .int a3]) (rest := []) ⟨hx, hb, hml, hown, hts⟩ (c_canTry l dC dI s.heap.size x xs sh ss sc cS a1 a2 a3 f_xs_9 f_ss_0) (cwV 3 hts (p1_gV m_0 m_1 m_2 m_3 g_c_canTry gz_c_canTry) rfl rfl rfl (by decide +kernel) ⟨by decide, by decide⟩) ⟨fun a U g mk q => by obtain ⟨q0, q1, qP, qK, qD⟩ := q; exact ⟨q0, q1, qP, va_K.moved (u := U) (U := U.calling g mk a) (Vm.Alike.refl U.vm) qK, qD⟩, va_recv hKc hPc (ci := 7) (q0 := 0) rfl rfl, fun U hU hW => ⟨rfl, by rw [hU], by rw [hU]; exact hPc, va_K.moved hW.alike hKc, hDc.weaken (fun _ _ _ _ => trivial)⟩⟩ rfl rfl hl.1 rfl (lv_room (Nat.le_of_ble_eq_true rfl)) dX8_holds_4 ⟨by decide, by decide⟩) hS (fun q _ h => hFc q h) hFc (fun r_1 u t H1 locs ht hvm hw hB hz1 hk1 hS => ?_)
  obtain ⟨hP1, hK1, hD1⟩ := hB
  rw [ht] at hP1
  obtain ⟨hP, hD⟩ := va_join (wr := []) (w1 := [(x, .inr (7, xs)), (sh, .inr (5, ss)), (sc, .inl (cS, 5, .inl (fun _ => 0)))]) hP hD [0, 1, 2] [] rfl rfl (by decide) (by decide) hk1 hFc hP1 hD1
  generalize H1 = H at hP hS ⊢
  have hP : va_P (dC, dI) vwCl [(x, .inr (7, xs)), (sh, .inr (5, ss)), (sc, .inl (cS, 5, .inl (fun _ => 0)))] H := hP
  have hD : va_D A [(x, .inr (7, xs)), (sh, .inr (5, ss)), (sc, .inl (cS, 5, .inl (fun _ => 0)))] := hD
  try dsimp only at hw
  obtain rfl : r_1 = 0 := hw
  refine lv_if_eq (tgt := 28) hx hb dX8_holds_7 (by decide) (fun _ => ?_) (fun c9 => absurd c9 (by decide))
  refine lv_iconst (v := (-1)) hx hb dX8_holds_28 (by decide) ?_
  have hP9 := hP.sub (ws' := []) [] rfl
  have hD9 := hD.sub (ws' := []) [] (by decide) rfl
  have hK9 := hK.sub (tys' := []) [] rfl
  exact W.iret (v := (-1)) hx hb hr (fun t ht hW => ⟨⟨(-1), (), rfl, rfl, by rw [ht]; exact hP9, va_K.moved hW.alike hK9, hD9⟩, hS.F ht⟩) hS.2.2 dX8_holds_29
def zo_x_begins : List Cond := [.code yX8_begins cX8_begins 4 (some .int), .methodLink RX8 208 yX8_canTry, .instanceMethod yX8_canTry, .selects RX8 yX8_canTry yX8_canTry, .initialized RX8]
def zw_x_begins : List Cond := zo_x_begins ++ (zw_c_canTry ++ [])
theorem gz_x_begins : zw_x_begins.all goodWord = true := p1_ga (by decide +kernel) (p1_ga gz_c_canTry p1_g0)
theorem iz_x_begins : ∀ w ∈ zw_x_begins, w ∈ lw_tbl := p1_ia (p1_all [852, 810, 812, 28, 104] (by decide +kernel)) (p1_ia iz_c_canTry p1_i0)
set_option maxHeartbeats 4000000 in
set_option maxRecDepth 100000 in
theorem x_begins (l : Launch) (dC : Nat → ClassId) (dI : Nat → Nat → Nat) (sz : Nat) (x : Nat) (xs : List Value) (sh : Nat) (ss : List Value) (sc : Nat) (cS : ClassId) (a1 : Int32) (a2 : Int32) (a3 : Int32) (f_xs_9 : xs[9]? = some (.ref sh)) (f_ss_0 : ss[0]? = some (.ref sc)) : Met l yX8_begins zw_x_begins ({ frames := 2, cells := 0, slots := 0, locals := 45 }) (va_Pc [.ref x, .int a1, .int a2, .int a3] (fun U => U.heap.size = sz ∧ va_P (dC, dI) vwCl [(x, .inr (7, xs)), (sh, .inr (5, ss)), (sc, .inl (cS, 5, .inl (fun _ => 0)))] U.heap ∧ va_K (dC, dI) vwCl [(cS, .int)] U ∧ va_D (fun _ => True) [(x, .inr (7, xs)), (sh, .inr (5, ss)), (sc, .inl (cS, 5, .inl (fun _ => 0)))])) (va_Qi (fun (r : Int32) (_ : Unit) => r = (-1)) (fun _ t => va_P (dC, dI) vwCl [] t.heap ∧ va_K (dC, dI) vwCl [] t ∧ va_D (va_A [(x, .inr (7, xs)), (sh, .inr (5, ss)), (sc, .inl (cS, 5, .inl (fun _ => 0)))] sz) []) (va_A [(x, .inr (7, xs)), (sh, .inr (5, ss)), (sc, .inl (cS, 5, .inl (fun _ => 0)))] sz)) 0 0 (va_A [(x, .inr (7, xs)), (sh, .inr (5, ss)), (sc, .inl (cS, 5, .inl (fun _ => 0)))] sz) := by
  refine Met.ofW (cc := cX8_begins) (maxL := 4) (ret := (some .int)) (by decide) rfl ?_
  intro p e s m args below meth c s₁ B hml hv
  obtain ⟨rfl, hsz, hP, hK, hD0⟩ := hv
  have hx := B.exec
  have hb := B.bytes
  have hr := B.returns
  have hts := atoms_spec (ws := zw_x_begins) B.pre
  have hown : s.vm.findClass RX8 = some m.cls := findClass_of_methodNamed B.named
  have hlocks := B.notSynchronized
  subst hsz
  have hD := hD0.self (sz := s.heap.size)
  generalize hAe : va_A [(x, .inr (7, xs)), (sh, .inr (5, ss)), (sc, .inl (cS, 5, .inl (fun _ => 0)))] s.heap.size = A at hD ⊢
  have hA : ∀ q : Nat, s.heap.size ≤ q → A q := fun q h => by rw [← hAe]; exact Or.inr h
  have hS : va_S A s.heap s.heap [] := va_S.rf
  have hP : va_P (dC, dI) vwCl [(x, .inr (7, xs)), (sh, .inr (5, ss)), (sc, .inl (cS, 5, .inl (fun _ => 0)))] s.heap := hP
  have m_0 : (.methodLink RX8 208 yX8_canTry : Cond) ∈ zw_x_begins := List.mem_append_left _ (List.mem_of_getElem? (i := 1) rfl)
  have k_0 := hts _ m_0
  have m_1 : (.instanceMethod yX8_canTry : Cond) ∈ zw_x_begins := List.mem_append_left _ (List.mem_of_getElem? (i := 2) rfl)
  have k_1 := hts _ m_1
  have m_2 : (.selects RX8 yX8_canTry yX8_canTry : Cond) ∈ zw_x_begins := List.mem_append_left _ (List.mem_of_getElem? (i := 3) rfl)
  have k_2 := hts _ m_2
  have m_3 : (.initialized RX8 : Cond) ∈ zw_x_begins := List.mem_append_left _ (List.mem_of_getElem? (i := 4) rfl)
  have k_3 := hts _ m_3
  have g_c_canTry : ∀ w ∈ zw_c_canTry, w ∈ zw_x_begins := fun w h => List.mem_append_right _ (List.mem_append_left _ h)
  have hl := lv_entry ([.ref x, .int a1, .int a2, .int a3]) (n := 4) (Nat.le_of_ble_eq_true rfl)
  rw [lg_entry_eq]
  generalize (lg_sl ([.ref x, .int a1, .int a2, .int a3]) ++ List.replicate (4 - (lg_sl ([.ref x, .int a1, .int a2, .int a3])).length) Slot.unset).toArray = ls at hl ⊢
  have hl : lv_has ls 4 [(0, .ref x), (1, .int a1), (2, .int a2), (3, .int a3)] := hl
  refine lv_aload_n hx hb dX8_begins_0 rfl (lv_at hl 0 rfl) ?_
  refine lv_iload_n hx hb dX8_begins_1 rfl (lv_at hl 1 rfl) ?_
  refine lv_iload_n hx hb dX8_begins_2 rfl (lv_at hl 2 rfl) ?_
  refine lv_iload_n hx hb dX8_begins_3 rfl (lv_at hl 3 rfl) ?_
  have hPc := hP.sub (ws' := [(x, .inr (7, xs)), (sh, .inr (5, ss)), (sc, .inl (cS, 5, .inl (fun _ => 0)))]) [0, 1, 2] rfl
  have hDc := hD.sub (ws' := [(x, .inr (7, xs)), (sh, .inr (5, ss)), (sc, .inl (cS, 5, .inl (fun _ => 0)))]) [0, 1, 2] (by decide) rfl
  have hKc := hK.sub (tys' := [(cS, .int)]) [0] rfl
  have hFc := va_free (wc := [(x, .inr (7, xs)), (sh, .inr (5, ss)), (sc, .inl (cS, 5, .inl (fun _ => 0)))]) hD hS hA [0, 1, 2] rfl
  refine va_calli (va_runV (As := [.int a1, .int a2, .int a3]) (rest := []) ⟨hx, hb, hml, hown, hts⟩ (c_canTry l dC dI s.heap.size x xs sh ss sc cS a1 a2 a3 f_xs_9 f_ss_0) (cwV 3 hts (p1_gV m_0 m_1 m_2 m_3 g_c_canTry gz_c_canTry) rfl rfl rfl (by decide +kernel) ⟨by decide, by decide⟩) ⟨fun a U g mk q => by obtain ⟨q0, q1, qP, qK, qD⟩ := q; exact ⟨q0, q1, qP, va_K.moved (u := U) (U := U.calling g mk a) (Vm.Alike.refl U.vm) qK, qD⟩, va_recv hKc hPc (ci := 7) (q0 := 0) rfl rfl, fun U hU hW => ⟨rfl, by rw [hU], by rw [hU]; exact hPc, va_K.moved hW.alike hKc, hDc.weaken (fun _ _ _ _ => trivial)⟩⟩ rfl rfl hl.1 rfl (lv_room (Nat.le_of_ble_eq_true rfl)) dX8_begins_4 ⟨by decide, by decide⟩) hS (fun q _ h => hFc q h) hFc (fun r_1 u t H1 locs ht hvm hw hB hz1 hk1 hS => ?_)
  obtain ⟨hP1, hK1, hD1⟩ := hB
  rw [ht] at hP1
  obtain ⟨hP, hD⟩ := va_join (wr := []) (w1 := [(x, .inr (7, xs)), (sh, .inr (5, ss)), (sc, .inl (cS, 5, .inl (fun _ => 0)))]) hP hD [0, 1, 2] [] rfl rfl (by decide) (by decide) hk1 hFc hP1 hD1
  generalize H1 = H at hP hS ⊢
  have hP : va_P (dC, dI) vwCl [(x, .inr (7, xs)), (sh, .inr (5, ss)), (sc, .inl (cS, 5, .inl (fun _ => 0)))] H := hP
  have hD : va_D A [(x, .inr (7, xs)), (sh, .inr (5, ss)), (sc, .inl (cS, 5, .inl (fun _ => 0)))] := hD
  try dsimp only at hw
  obtain rfl : r_1 = 0 := hw
  refine lv_if_ne (tgt := 12) hx hb dX8_begins_7 (by decide) (fun c9 => absurd c9 (by decide)) (fun _ => ?_)
  refine lv_iconst (v := (-1)) hx hb dX8_begins_10 (by decide) ?_
  have hP9 := hP.sub (ws' := []) [] rfl
  have hD9 := hD.sub (ws' := []) [] (by decide) rfl
  have hK9 := hK.sub (tys' := []) [] rfl
  exact W.iret (v := (-1)) hx hb hr (fun t ht hW => ⟨⟨(-1), (), rfl, rfl, by rw [ht]; exact hP9, va_K.moved hW.alike hK9, hD9⟩, hS.F ht⟩) hS.2.2 dX8_begins_11
def zo_x_alone : List Cond := [.code yX8_alone cX8_alone 5 (some .int), .methodLink RX8 208 yX8_canTry, .instanceMethod yX8_canTry, .selects RX8 yX8_canTry yX8_canTry, .initialized RX8]
def zw_x_alone : List Cond := zo_x_alone ++ (zw_c_canTry ++ [])
theorem gz_x_alone : zw_x_alone.all goodWord = true := p1_ga (by decide +kernel) (p1_ga gz_c_canTry p1_g0)
theorem iz_x_alone : ∀ w ∈ zw_x_alone, w ∈ lw_tbl := p1_ia (p1_all [860, 810, 812, 28, 104] (by decide +kernel)) (p1_ia iz_c_canTry p1_i0)
set_option maxHeartbeats 4000000 in
set_option maxRecDepth 100000 in
theorem x_alone (l : Launch) (dC : Nat → ClassId) (dI : Nat → Nat → Nat) (sz : Nat) (x : Nat) (xs : List Value) (sh : Nat) (ss : List Value) (sc : Nat) (cS : ClassId) (a1 : Int32) (a2 : Int32) (a3 : Int32) (a4 : Int32) (f_xs_9 : xs[9]? = some (.ref sh)) (f_ss_0 : ss[0]? = some (.ref sc)) : Met l yX8_alone zw_x_alone ({ frames := 2, cells := 0, slots := 0, locals := 45 }) (va_Pc [.ref x, .int a1, .int a2, .int a3, .int a4] (fun U => U.heap.size = sz ∧ va_P (dC, dI) vwCl [(x, .inr (7, xs)), (sh, .inr (5, ss)), (sc, .inl (cS, 5, .inl (fun _ => 0)))] U.heap ∧ va_K (dC, dI) vwCl [(cS, .int)] U ∧ va_D (fun _ => True) [(x, .inr (7, xs)), (sh, .inr (5, ss)), (sc, .inl (cS, 5, .inl (fun _ => 0)))])) (va_Qi (fun (r : Int32) (_ : Unit) => r = (-1)) (fun _ t => va_P (dC, dI) vwCl [] t.heap ∧ va_K (dC, dI) vwCl [] t ∧ va_D (va_A [(x, .inr (7, xs)), (sh, .inr (5, ss)), (sc, .inl (cS, 5, .inl (fun _ => 0)))] sz) []) (va_A [(x, .inr (7, xs)), (sh, .inr (5, ss)), (sc, .inl (cS, 5, .inl (fun _ => 0)))] sz)) 0 0 (va_A [(x, .inr (7, xs)), (sh, .inr (5, ss)), (sc, .inl (cS, 5, .inl (fun _ => 0)))] sz) := by
  refine Met.ofW (cc := cX8_alone) (maxL := 5) (ret := (some .int)) (by decide) rfl ?_
  intro p e s m args below meth c s₁ B hml hv
  obtain ⟨rfl, hsz, hP, hK, hD0⟩ := hv
  have hx := B.exec
  have hb := B.bytes
  have hr := B.returns
  have hts := atoms_spec (ws := zw_x_alone) B.pre
  have hown : s.vm.findClass RX8 = some m.cls := findClass_of_methodNamed B.named
  have hlocks := B.notSynchronized
  subst hsz
  have hD := hD0.self (sz := s.heap.size)
  generalize hAe : va_A [(x, .inr (7, xs)), (sh, .inr (5, ss)), (sc, .inl (cS, 5, .inl (fun _ => 0)))] s.heap.size = A at hD ⊢
  have hA : ∀ q : Nat, s.heap.size ≤ q → A q := fun q h => by rw [← hAe]; exact Or.inr h
  have hS : va_S A s.heap s.heap [] := va_S.rf
  have hP : va_P (dC, dI) vwCl [(x, .inr (7, xs)), (sh, .inr (5, ss)), (sc, .inl (cS, 5, .inl (fun _ => 0)))] s.heap := hP
  have m_0 : (.methodLink RX8 208 yX8_canTry : Cond) ∈ zw_x_alone := List.mem_append_left _ (List.mem_of_getElem? (i := 1) rfl)
  have k_0 := hts _ m_0
  have m_1 : (.instanceMethod yX8_canTry : Cond) ∈ zw_x_alone := List.mem_append_left _ (List.mem_of_getElem? (i := 2) rfl)
  have k_1 := hts _ m_1
  have m_2 : (.selects RX8 yX8_canTry yX8_canTry : Cond) ∈ zw_x_alone := List.mem_append_left _ (List.mem_of_getElem? (i := 3) rfl)
  have k_2 := hts _ m_2
  have m_3 : (.initialized RX8 : Cond) ∈ zw_x_alone := List.mem_append_left _ (List.mem_of_getElem? (i := 4) rfl)
  have k_3 := hts _ m_3
  have g_c_canTry : ∀ w ∈ zw_c_canTry, w ∈ zw_x_alone := fun w h => List.mem_append_right _ (List.mem_append_left _ h)
  have hl := lv_entry ([.ref x, .int a1, .int a2, .int a3, .int a4]) (n := 5) (Nat.le_of_ble_eq_true rfl)
  rw [lg_entry_eq]
  generalize (lg_sl ([.ref x, .int a1, .int a2, .int a3, .int a4]) ++ List.replicate (5 - (lg_sl ([.ref x, .int a1, .int a2, .int a3, .int a4])).length) Slot.unset).toArray = ls at hl ⊢
  have hl : lv_has ls 5 [(0, .ref x), (1, .int a1), (2, .int a2), (3, .int a3), (4, .int a4)] := hl
  refine lv_aload_n hx hb dX8_alone_0 rfl (lv_at hl 0 rfl) ?_
  refine lv_iload_n hx hb dX8_alone_1 rfl (lv_at hl 1 rfl) ?_
  refine lv_iload_n hx hb dX8_alone_2 rfl (lv_at hl 2 rfl) ?_
  refine lv_iload_n hx hb dX8_alone_3 rfl (lv_at hl 3 rfl) ?_
  have hPc := hP.sub (ws' := [(x, .inr (7, xs)), (sh, .inr (5, ss)), (sc, .inl (cS, 5, .inl (fun _ => 0)))]) [0, 1, 2] rfl
  have hDc := hD.sub (ws' := [(x, .inr (7, xs)), (sh, .inr (5, ss)), (sc, .inl (cS, 5, .inl (fun _ => 0)))]) [0, 1, 2] (by decide) rfl
  have hKc := hK.sub (tys' := [(cS, .int)]) [0] rfl
  have hFc := va_free (wc := [(x, .inr (7, xs)), (sh, .inr (5, ss)), (sc, .inl (cS, 5, .inl (fun _ => 0)))]) hD hS hA [0, 1, 2] rfl
  refine va_calli (va_runV (As := [.int a1, .int a2, .int a3]) (rest := []) ⟨hx, hb, hml, hown, hts⟩ (c_canTry l dC dI s.heap.size x xs sh ss sc cS a1 a2 a3 f_xs_9 f_ss_0) (cwV 3 hts (p1_gV m_0 m_1 m_2 m_3 g_c_canTry gz_c_canTry) rfl rfl rfl (by decide +kernel) ⟨by decide, by decide⟩) ⟨fun a U g mk q => by obtain ⟨q0, q1, qP, qK, qD⟩ := q; exact ⟨q0, q1, qP, va_K.moved (u := U) (U := U.calling g mk a) (Vm.Alike.refl U.vm) qK, qD⟩, va_recv hKc hPc (ci := 7) (q0 := 0) rfl rfl, fun U hU hW => ⟨rfl, by rw [hU], by rw [hU]; exact hPc, va_K.moved hW.alike hKc, hDc.weaken (fun _ _ _ _ => trivial)⟩⟩ rfl rfl hl.1 rfl (lv_room (Nat.le_of_ble_eq_true rfl)) dX8_alone_4 ⟨by decide, by decide⟩) hS (fun q _ h => hFc q h) hFc (fun r_1 u t H1 locs ht hvm hw hB hz1 hk1 hS => ?_)
  obtain ⟨hP1, hK1, hD1⟩ := hB
  rw [ht] at hP1
  obtain ⟨hP, hD⟩ := va_join (wr := []) (w1 := [(x, .inr (7, xs)), (sh, .inr (5, ss)), (sc, .inl (cS, 5, .inl (fun _ => 0)))]) hP hD [0, 1, 2] [] rfl rfl (by decide) (by decide) hk1 hFc hP1 hD1
  generalize H1 = H at hP hS ⊢
  have hP : va_P (dC, dI) vwCl [(x, .inr (7, xs)), (sh, .inr (5, ss)), (sc, .inl (cS, 5, .inl (fun _ => 0)))] H := hP
  have hD : va_D A [(x, .inr (7, xs)), (sh, .inr (5, ss)), (sc, .inl (cS, 5, .inl (fun _ => 0)))] := hD
  try dsimp only at hw
  obtain rfl : r_1 = 0 := hw
  refine lv_if_eq (tgt := 20) hx hb dX8_alone_7 (by decide) (fun _ => ?_) (fun c9 => absurd c9 (by decide))
  refine lv_iconst (v := (-1)) hx hb dX8_alone_20 (by decide) ?_
  have hP9 := hP.sub (ws' := []) [] rfl
  have hD9 := hD.sub (ws' := []) [] (by decide) rfl
  have hK9 := hK.sub (tys' := []) [] rfl
  exact W.iret (v := (-1)) hx hb hr (fun t ht hW => ⟨⟨(-1), (), rfl, rfl, by rw [ht]; exact hP9, va_K.moved hW.alike hK9, hD9⟩, hS.F ht⟩) hS.2.2 dX8_alone_21
def zo_x_undone : List Cond := [.code yX8_undone cX8_undone 3 (some .int), .fieldLink RX8 60 "BowWalk" "shop" "LBowWalk$Shop;", .methodLink RX8 104 yX5_has, .instanceMethod yX5_has, .selects RX5 yX5_has yX5_has, .initialized RX5]
def zw_x_undone : List Cond := zo_x_undone ++ (zw_c_has0 ++ (wsX80 ++ []))
theorem gz_x_undone : zw_x_undone.all goodWord = true := p1_ga (by decide +kernel) (p1_ga gz_c_has0 (p1_ga gk_X8 p1_g0))
theorem iz_x_undone : ∀ w ∈ zw_x_undone, w ∈ lw_tbl := p1_ia (p1_all [869, 508, 714, 715, 716, 106] (by decide +kernel)) (p1_ia iz_c_has0 (p1_ia ik_X8 p1_i0))
set_option maxHeartbeats 4000000 in
set_option maxRecDepth 100000 in
theorem x_undone (l : Launch) (dC : Nat → ClassId) (dI : Nat → Nat → Nat) (sz : Nat) (x : Nat) (xs : List Value) (sh : Nat) (ss : List Value) (sc : Nat) (cS : ClassId) (a1 : Int32) (a2 : Int32) (f_xs_9 : xs[9]? = some (.ref sh)) (f_ss_0 : ss[0]? = some (.ref sc)) : Met l yX8_undone zw_x_undone ({ frames := 1, cells := 0, slots := 0, locals := 22 }) (va_Pc [.ref x, .int a1, .int a2] (fun U => U.heap.size = sz ∧ va_P (dC, dI) vwCl [(x, .inr (7, xs)), (sh, .inr (5, ss)), (sc, .inl (cS, 5, .inl (fun _ => 0)))] U.heap ∧ va_K (dC, dI) vwCl [(cS, .int)] U ∧ va_D (fun _ => True) [(x, .inr (7, xs)), (sh, .inr (5, ss)), (sc, .inl (cS, 5, .inl (fun _ => 0)))])) (va_Qi (fun (r : Int32) (_ : Unit) => r = (-1)) (fun _ t => va_P (dC, dI) vwCl [] t.heap ∧ va_K (dC, dI) vwCl [] t ∧ va_D (va_A [(x, .inr (7, xs)), (sh, .inr (5, ss)), (sc, .inl (cS, 5, .inl (fun _ => 0)))] sz) []) (va_A [(x, .inr (7, xs)), (sh, .inr (5, ss)), (sc, .inl (cS, 5, .inl (fun _ => 0)))] sz)) 0 0 (va_A [(x, .inr (7, xs)), (sh, .inr (5, ss)), (sc, .inl (cS, 5, .inl (fun _ => 0)))] sz) := by
  refine Met.ofW (cc := cX8_undone) (maxL := 3) (ret := (some .int)) (by decide) rfl ?_
  intro p e s m args below meth c s₁ B hml hv
  obtain ⟨rfl, hsz, hP, hK, hD0⟩ := hv
  have hx := B.exec
  have hb := B.bytes
  have hr := B.returns
  have hts := atoms_spec (ws := zw_x_undone) B.pre
  have hown : s.vm.findClass RX8 = some m.cls := findClass_of_methodNamed B.named
  have hlocks := B.notSynchronized
  subst hsz
  have hD := hD0.self (sz := s.heap.size)
  generalize hAe : va_A [(x, .inr (7, xs)), (sh, .inr (5, ss)), (sc, .inl (cS, 5, .inl (fun _ => 0)))] s.heap.size = A at hD ⊢
  have hA : ∀ q : Nat, s.heap.size ≤ q → A q := fun q h => by rw [← hAe]; exact Or.inr h
  have hS : va_S A s.heap s.heap [] := va_S.rf
  have hP : va_P (dC, dI) vwCl [(x, .inr (7, xs)), (sh, .inr (5, ss)), (sc, .inl (cS, 5, .inl (fun _ => 0)))] s.heap := hP
  have m_0 : (.fieldLink RX8 60 "BowWalk" "shop" "LBowWalk$Shop;" : Cond) ∈ zw_x_undone := List.mem_append_left _ (List.mem_of_getElem? (i := 1) rfl)
  have k_0 := hts _ m_0
  have m_1 : (.methodLink RX8 104 yX5_has : Cond) ∈ zw_x_undone := List.mem_append_left _ (List.mem_of_getElem? (i := 2) rfl)
  have k_1 := hts _ m_1
  have m_2 : (.instanceMethod yX5_has : Cond) ∈ zw_x_undone := List.mem_append_left _ (List.mem_of_getElem? (i := 3) rfl)
  have k_2 := hts _ m_2
  have m_3 : (.selects RX5 yX5_has yX5_has : Cond) ∈ zw_x_undone := List.mem_append_left _ (List.mem_of_getElem? (i := 4) rfl)
  have k_3 := hts _ m_3
  have m_4 : (.initialized RX5 : Cond) ∈ zw_x_undone := List.mem_append_left _ (List.mem_of_getElem? (i := 5) rfl)
  have k_4 := hts _ m_4
  have g_c_has0 : ∀ w ∈ zw_c_has0, w ∈ zw_x_undone := fun w h => List.mem_append_right _ (List.mem_append_left _ h)
  have i_X8 : ∀ w ∈ u_ws RX8 TX8 14, w ∈ zw_x_undone := fun w h => List.mem_append_right _ (List.mem_append_right _ (List.mem_append_left _ h))
  have hl := lv_entry ([.ref x, .int a1, .int a2]) (n := 3) (Nat.le_of_ble_eq_true rfl)
  rw [lg_entry_eq]
  generalize (lg_sl ([.ref x, .int a1, .int a2]) ++ List.replicate (3 - (lg_sl ([.ref x, .int a1, .int a2])).length) Slot.unset).toArray = ls at hl ⊢
  have hl : lv_has ls 3 [(0, .ref x), (1, .int a1), (2, .int a2)] := hl
  refine lv_aload_n hx hb dX8_undone_0 rfl (lv_at hl 0 rfl) ?_
  refine va_get (D := (dC, dI)) (ci := 7) (v := .ref sh) (C := RX8) (T := TX8) (N := 14) hx hb hts i_X8 hown hK hP 0 rfl rfl 9 (by decide) k_0 (fun _ h9 => h9) f_xs_9 dX8_undone_1 ?_
  refine lv_iconst (v := 0) hx hb dX8_undone_4 (by decide) ?_
  refine lv_iload_n hx hb dX8_undone_5 rfl (lv_at hl 1 rfl) ?_
  have hPc := hP.sub (ws' := [(sh, .inr (5, ss)), (sc, .inl (cS, 5, .inl (fun _ => 0)))]) [1, 2] rfl
  have hDc := hD.sub (ws' := [(sh, .inr (5, ss)), (sc, .inl (cS, 5, .inl (fun _ => 0)))]) [1, 2] (by decide) rfl
  have hKc := hK.sub (tys' := [(cS, .int)]) [0] rfl
  have hFc := va_free (wc := [(sh, .inr (5, ss)), (sc, .inl (cS, 5, .inl (fun _ => 0)))]) hD hS hA [1, 2] rfl
  refine va_calli (va_runV (As := [.int 0, .int a1]) (rest := []) ⟨hx, hb, hml, hown, hts⟩ (c_has0 l dC dI s.heap.size sh ss sc cS 0 a1 f_ss_0 (p1_in (i := 0) (n := 5) (by decide))) (cwV 2 hts (p1_gV m_1 m_2 m_3 m_4 g_c_has0 gz_c_has0) rfl rfl rfl (by decide +kernel) ⟨by decide, by decide⟩) ⟨fun a U g mk q => by obtain ⟨q0, q1, qP, qK, qD⟩ := q; exact ⟨q0, q1, qP, va_K.moved (u := U) (U := U.calling g mk a) (Vm.Alike.refl U.vm) qK, qD⟩, va_recv hKc hPc (ci := 5) (q0 := 0) rfl rfl, fun U hU hW => ⟨rfl, by rw [hU], by rw [hU]; exact hPc, va_K.moved hW.alike hKc, hDc.weaken (fun _ _ _ _ => trivial)⟩⟩ rfl rfl hl.1 rfl (lv_room (Nat.le_of_ble_eq_true rfl)) dX8_undone_6 ⟨by decide, by decide⟩) hS (fun q _ h => hFc q h) hFc (fun r_1 u t H1 locs ht hvm hw hB hz1 hk1 hS => ?_)
  obtain ⟨hP1, hK1, hD1⟩ := hB
  rw [ht] at hP1
  obtain ⟨hP, hD⟩ := va_join (wr := [(x, .inr (7, xs))]) (w1 := [(sh, .inr (5, ss)), (sc, .inl (cS, 5, .inl (fun _ => 0)))]) hP hD [1, 2] [0] rfl rfl (by decide) (by decide) hk1 hFc hP1 hD1
  generalize H1 = H at hP hS ⊢
  have hP : va_P (dC, dI) vwCl [(x, .inr (7, xs)), (sh, .inr (5, ss)), (sc, .inl (cS, 5, .inl (fun _ => 0)))] H := hP
  have hD : va_D A [(x, .inr (7, xs)), (sh, .inr (5, ss)), (sc, .inl (cS, 5, .inl (fun _ => 0)))] := hD
  try dsimp only at hw
  obtain rfl : r_1 = 0 := hw
  refine lv_if_eq (tgt := 24) hx hb dX8_undone_9 (by decide) (fun _ => ?_) (fun c9 => absurd c9 (by decide))
  refine lv_iconst (v := (-1)) hx hb dX8_undone_24 (by decide) ?_
  have hP9 := hP.sub (ws' := []) [] rfl
  have hD9 := hD.sub (ws' := []) [] (by decide) rfl
  have hK9 := hK.sub (tys' := []) [] rfl
  exact W.iret (v := (-1)) hx hb hr (fun t ht hW => ⟨⟨(-1), (), rfl, rfl, by rw [ht]; exact hP9, va_K.moved hW.alike hK9, hD9⟩, hS.F ht⟩) hS.2.2 dX8_undone_25
def zo_x_met : List Cond := [.code yX8_met cX8_met 5 (some .int), .fieldLink RX8 60 "BowWalk" "shop" "LBowWalk$Shop;", .methodLink RX8 104 yX5_has, .instanceMethod yX5_has, .selects RX5 yX5_has yX5_has, .initialized RX5]
def zw_x_met : List Cond := zo_x_met ++ (zw_c_has0 ++ (wsX80 ++ []))
theorem gz_x_met : zw_x_met.all goodWord = true := p1_ga (by decide +kernel) (p1_ga gz_c_has0 (p1_ga gk_X8 p1_g0))
theorem iz_x_met : ∀ w ∈ zw_x_met, w ∈ lw_tbl := p1_ia (p1_all [882, 508, 714, 715, 716, 106] (by decide +kernel)) (p1_ia iz_c_has0 (p1_ia ik_X8 p1_i0))
set_option maxHeartbeats 4000000 in
set_option maxRecDepth 100000 in
theorem x_met (l : Launch) (dC : Nat → ClassId) (dI : Nat → Nat → Nat) (sz : Nat) (x : Nat) (xs : List Value) (sh : Nat) (ss : List Value) (sc : Nat) (cS : ClassId) (a1 : Int32) (a2 : Int32) (a3 : Int32) (a4 : Int32) (f_xs_9 : xs[9]? = some (.ref sh)) (f_ss_0 : ss[0]? = some (.ref sc)) : Met l yX8_met zw_x_met ({ frames := 1, cells := 0, slots := 0, locals := 22 }) (va_Pc [.ref x, .int a1, .int a2, .int a3, .int a4] (fun U => U.heap.size = sz ∧ va_P (dC, dI) vwCl [(x, .inr (7, xs)), (sh, .inr (5, ss)), (sc, .inl (cS, 5, .inl (fun _ => 0)))] U.heap ∧ va_K (dC, dI) vwCl [(cS, .int)] U ∧ va_D (fun _ => True) [(x, .inr (7, xs)), (sh, .inr (5, ss)), (sc, .inl (cS, 5, .inl (fun _ => 0)))])) (va_Qi (fun (r : Int32) (_ : Unit) => r = (-1)) (fun _ t => va_P (dC, dI) vwCl [] t.heap ∧ va_K (dC, dI) vwCl [] t ∧ va_D (va_A [(x, .inr (7, xs)), (sh, .inr (5, ss)), (sc, .inl (cS, 5, .inl (fun _ => 0)))] sz) []) (va_A [(x, .inr (7, xs)), (sh, .inr (5, ss)), (sc, .inl (cS, 5, .inl (fun _ => 0)))] sz)) 0 0 (va_A [(x, .inr (7, xs)), (sh, .inr (5, ss)), (sc, .inl (cS, 5, .inl (fun _ => 0)))] sz) := by
  refine Met.ofW (cc := cX8_met) (maxL := 5) (ret := (some .int)) (by decide) rfl ?_
  intro p e s m args below meth c s₁ B hml hv
  obtain ⟨rfl, hsz, hP, hK, hD0⟩ := hv
  have hx := B.exec
  have hb := B.bytes
  have hr := B.returns
  have hts := atoms_spec (ws := zw_x_met) B.pre
  have hown : s.vm.findClass RX8 = some m.cls := findClass_of_methodNamed B.named
  have hlocks := B.notSynchronized
  subst hsz
  have hD := hD0.self (sz := s.heap.size)
  generalize hAe : va_A [(x, .inr (7, xs)), (sh, .inr (5, ss)), (sc, .inl (cS, 5, .inl (fun _ => 0)))] s.heap.size = A at hD ⊢
  have hA : ∀ q : Nat, s.heap.size ≤ q → A q := fun q h => by rw [← hAe]; exact Or.inr h
  have hS : va_S A s.heap s.heap [] := va_S.rf
  have hP : va_P (dC, dI) vwCl [(x, .inr (7, xs)), (sh, .inr (5, ss)), (sc, .inl (cS, 5, .inl (fun _ => 0)))] s.heap := hP
  have m_0 : (.fieldLink RX8 60 "BowWalk" "shop" "LBowWalk$Shop;" : Cond) ∈ zw_x_met := List.mem_append_left _ (List.mem_of_getElem? (i := 1) rfl)
  have k_0 := hts _ m_0
  have m_1 : (.methodLink RX8 104 yX5_has : Cond) ∈ zw_x_met := List.mem_append_left _ (List.mem_of_getElem? (i := 2) rfl)
  have k_1 := hts _ m_1
  have m_2 : (.instanceMethod yX5_has : Cond) ∈ zw_x_met := List.mem_append_left _ (List.mem_of_getElem? (i := 3) rfl)
  have k_2 := hts _ m_2
  have m_3 : (.selects RX5 yX5_has yX5_has : Cond) ∈ zw_x_met := List.mem_append_left _ (List.mem_of_getElem? (i := 4) rfl)
  have k_3 := hts _ m_3
  have m_4 : (.initialized RX5 : Cond) ∈ zw_x_met := List.mem_append_left _ (List.mem_of_getElem? (i := 5) rfl)
  have k_4 := hts _ m_4
  have g_c_has0 : ∀ w ∈ zw_c_has0, w ∈ zw_x_met := fun w h => List.mem_append_right _ (List.mem_append_left _ h)
  have i_X8 : ∀ w ∈ u_ws RX8 TX8 14, w ∈ zw_x_met := fun w h => List.mem_append_right _ (List.mem_append_right _ (List.mem_append_left _ h))
  have hl := lv_entry ([.ref x, .int a1, .int a2, .int a3, .int a4]) (n := 5) (Nat.le_of_ble_eq_true rfl)
  rw [lg_entry_eq]
  generalize (lg_sl ([.ref x, .int a1, .int a2, .int a3, .int a4]) ++ List.replicate (5 - (lg_sl ([.ref x, .int a1, .int a2, .int a3, .int a4])).length) Slot.unset).toArray = ls at hl ⊢
  have hl : lv_has ls 5 [(0, .ref x), (1, .int a1), (2, .int a2), (3, .int a3), (4, .int a4)] := hl
  refine lv_aload_n hx hb dX8_met_0 rfl (lv_at hl 0 rfl) ?_
  refine va_get (D := (dC, dI)) (ci := 7) (v := .ref sh) (C := RX8) (T := TX8) (N := 14) hx hb hts i_X8 hown hK hP 0 rfl rfl 9 (by decide) k_0 (fun _ h9 => h9) f_xs_9 dX8_met_1 ?_
  refine lv_iconst (v := 4) hx hb dX8_met_4 (by decide) ?_
  refine lv_iload_n hx hb dX8_met_5 rfl (lv_at hl 1 rfl) ?_
  have hPc := hP.sub (ws' := [(sh, .inr (5, ss)), (sc, .inl (cS, 5, .inl (fun _ => 0)))]) [1, 2] rfl
  have hDc := hD.sub (ws' := [(sh, .inr (5, ss)), (sc, .inl (cS, 5, .inl (fun _ => 0)))]) [1, 2] (by decide) rfl
  have hKc := hK.sub (tys' := [(cS, .int)]) [0] rfl
  have hFc := va_free (wc := [(sh, .inr (5, ss)), (sc, .inl (cS, 5, .inl (fun _ => 0)))]) hD hS hA [1, 2] rfl
  refine va_calli (va_runV (As := [.int 4, .int a1]) (rest := []) ⟨hx, hb, hml, hown, hts⟩ (c_has0 l dC dI s.heap.size sh ss sc cS 4 a1 f_ss_0 (p1_in (i := 4) (n := 5) (by decide))) (cwV 2 hts (p1_gV m_1 m_2 m_3 m_4 g_c_has0 gz_c_has0) rfl rfl rfl (by decide +kernel) ⟨by decide, by decide⟩) ⟨fun a U g mk q => by obtain ⟨q0, q1, qP, qK, qD⟩ := q; exact ⟨q0, q1, qP, va_K.moved (u := U) (U := U.calling g mk a) (Vm.Alike.refl U.vm) qK, qD⟩, va_recv hKc hPc (ci := 5) (q0 := 0) rfl rfl, fun U hU hW => ⟨rfl, by rw [hU], by rw [hU]; exact hPc, va_K.moved hW.alike hKc, hDc.weaken (fun _ _ _ _ => trivial)⟩⟩ rfl rfl hl.1 rfl (lv_room (Nat.le_of_ble_eq_true rfl)) dX8_met_6 ⟨by decide, by decide⟩) hS (fun q _ h => hFc q h) hFc (fun r_1 u t H1 locs ht hvm hw hB hz1 hk1 hS => ?_)
  obtain ⟨hP1, hK1, hD1⟩ := hB
  rw [ht] at hP1
  obtain ⟨hP, hD⟩ := va_join (wr := [(x, .inr (7, xs))]) (w1 := [(sh, .inr (5, ss)), (sc, .inl (cS, 5, .inl (fun _ => 0)))]) hP hD [1, 2] [0] rfl rfl (by decide) (by decide) hk1 hFc hP1 hD1
  generalize H1 = H at hP hS ⊢
  have hP : va_P (dC, dI) vwCl [(x, .inr (7, xs)), (sh, .inr (5, ss)), (sc, .inl (cS, 5, .inl (fun _ => 0)))] H := hP
  have hD : va_D A [(x, .inr (7, xs)), (sh, .inr (5, ss)), (sc, .inl (cS, 5, .inl (fun _ => 0)))] := hD
  try dsimp only at hw
  obtain rfl : r_1 = 0 := hw
  refine lv_if_eq (tgt := 23) hx hb dX8_met_9 (by decide) (fun _ => ?_) (fun c9 => absurd c9 (by decide))
  refine lv_iconst (v := (-1)) hx hb dX8_met_23 (by decide) ?_
  have hP9 := hP.sub (ws' := []) [] rfl
  have hD9 := hD.sub (ws' := []) [] (by decide) rfl
  have hK9 := hK.sub (tys' := []) [] rfl
  exact W.iret (v := (-1)) hx hb hr (fun t ht hW => ⟨⟨(-1), (), rfl, rfl, by rw [ht]; exact hP9, va_K.moved hW.alike hK9, hD9⟩, hS.F ht⟩) hS.2.2 dX8_met_24
def zo_x_meets : List Cond := [.code yX8_meets cX8_meets 6 (some .int), .fieldLink RX8 60 "BowWalk" "shop" "LBowWalk$Shop;", .methodLink RX8 104 yX5_has, .instanceMethod yX5_has, .selects RX5 yX5_has yX5_has, .initialized RX5]
def zw_x_meets : List Cond := zo_x_meets ++ (zw_c_has0 ++ (wsX80 ++ []))
theorem gz_x_meets : zw_x_meets.all goodWord = true := p1_ga (by decide +kernel) (p1_ga gz_c_has0 (p1_ga gk_X8 p1_g0))
theorem iz_x_meets : ∀ w ∈ zw_x_meets, w ∈ lw_tbl := p1_ia (p1_all [890, 508, 714, 715, 716, 106] (by decide +kernel)) (p1_ia iz_c_has0 (p1_ia ik_X8 p1_i0))
set_option maxHeartbeats 4000000 in
set_option maxRecDepth 100000 in
theorem x_meets (l : Launch) (dC : Nat → ClassId) (dI : Nat → Nat → Nat) (sz : Nat) (x : Nat) (xs : List Value) (sh : Nat) (ss : List Value) (sc : Nat) (cS : ClassId) (a1 : Int32) (a2 : Int32) (a3 : Int32) (f_xs_9 : xs[9]? = some (.ref sh)) (f_ss_0 : ss[0]? = some (.ref sc)) : Met l yX8_meets zw_x_meets ({ frames := 1, cells := 0, slots := 0, locals := 22 }) (va_Pc [.ref x, .int a1, .int a2, .int a3] (fun U => U.heap.size = sz ∧ va_P (dC, dI) vwCl [(x, .inr (7, xs)), (sh, .inr (5, ss)), (sc, .inl (cS, 5, .inl (fun _ => 0)))] U.heap ∧ va_K (dC, dI) vwCl [(cS, .int)] U ∧ va_D (fun _ => True) [(x, .inr (7, xs)), (sh, .inr (5, ss)), (sc, .inl (cS, 5, .inl (fun _ => 0)))])) (va_Qi (fun (r : Int32) (_ : Unit) => r = (-1)) (fun _ t => va_P (dC, dI) vwCl [] t.heap ∧ va_K (dC, dI) vwCl [] t ∧ va_D (va_A [(x, .inr (7, xs)), (sh, .inr (5, ss)), (sc, .inl (cS, 5, .inl (fun _ => 0)))] sz) []) (va_A [(x, .inr (7, xs)), (sh, .inr (5, ss)), (sc, .inl (cS, 5, .inl (fun _ => 0)))] sz)) 0 0 (va_A [(x, .inr (7, xs)), (sh, .inr (5, ss)), (sc, .inl (cS, 5, .inl (fun _ => 0)))] sz) := by
  refine Met.ofW (cc := cX8_meets) (maxL := 6) (ret := (some .int)) (by decide) rfl ?_
  intro p e s m args below meth c s₁ B hml hv
  obtain ⟨rfl, hsz, hP, hK, hD0⟩ := hv
  have hx := B.exec
  have hb := B.bytes
  have hr := B.returns
  have hts := atoms_spec (ws := zw_x_meets) B.pre
  have hown : s.vm.findClass RX8 = some m.cls := findClass_of_methodNamed B.named
  have hlocks := B.notSynchronized
  subst hsz
  have hD := hD0.self (sz := s.heap.size)
  generalize hAe : va_A [(x, .inr (7, xs)), (sh, .inr (5, ss)), (sc, .inl (cS, 5, .inl (fun _ => 0)))] s.heap.size = A at hD ⊢
  have hA : ∀ q : Nat, s.heap.size ≤ q → A q := fun q h => by rw [← hAe]; exact Or.inr h
  have hS : va_S A s.heap s.heap [] := va_S.rf
  have hP : va_P (dC, dI) vwCl [(x, .inr (7, xs)), (sh, .inr (5, ss)), (sc, .inl (cS, 5, .inl (fun _ => 0)))] s.heap := hP
  have m_0 : (.fieldLink RX8 60 "BowWalk" "shop" "LBowWalk$Shop;" : Cond) ∈ zw_x_meets := List.mem_append_left _ (List.mem_of_getElem? (i := 1) rfl)
  have k_0 := hts _ m_0
  have m_1 : (.methodLink RX8 104 yX5_has : Cond) ∈ zw_x_meets := List.mem_append_left _ (List.mem_of_getElem? (i := 2) rfl)
  have k_1 := hts _ m_1
  have m_2 : (.instanceMethod yX5_has : Cond) ∈ zw_x_meets := List.mem_append_left _ (List.mem_of_getElem? (i := 3) rfl)
  have k_2 := hts _ m_2
  have m_3 : (.selects RX5 yX5_has yX5_has : Cond) ∈ zw_x_meets := List.mem_append_left _ (List.mem_of_getElem? (i := 4) rfl)
  have k_3 := hts _ m_3
  have m_4 : (.initialized RX5 : Cond) ∈ zw_x_meets := List.mem_append_left _ (List.mem_of_getElem? (i := 5) rfl)
  have k_4 := hts _ m_4
  have g_c_has0 : ∀ w ∈ zw_c_has0, w ∈ zw_x_meets := fun w h => List.mem_append_right _ (List.mem_append_left _ h)
  have i_X8 : ∀ w ∈ u_ws RX8 TX8 14, w ∈ zw_x_meets := fun w h => List.mem_append_right _ (List.mem_append_right _ (List.mem_append_left _ h))
  have hl := lv_entry ([.ref x, .int a1, .int a2, .int a3]) (n := 6) (Nat.le_of_ble_eq_true rfl)
  rw [lg_entry_eq]
  generalize (lg_sl ([.ref x, .int a1, .int a2, .int a3]) ++ List.replicate (6 - (lg_sl ([.ref x, .int a1, .int a2, .int a3])).length) Slot.unset).toArray = ls at hl ⊢
  have hl : lv_has ls 6 [(0, .ref x), (1, .int a1), (2, .int a2), (3, .int a3)] := hl
  refine lv_aload_n hx hb dX8_meets_0 rfl (lv_at hl 0 rfl) ?_
  refine va_get (D := (dC, dI)) (ci := 7) (v := .ref sh) (C := RX8) (T := TX8) (N := 14) hx hb hts i_X8 hown hK hP 0 rfl rfl 9 (by decide) k_0 (fun _ h9 => h9) f_xs_9 dX8_meets_1 ?_
  refine lv_iconst (v := 4) hx hb dX8_meets_4 (by decide) ?_
  refine lv_iload_n hx hb dX8_meets_5 rfl (lv_at hl 1 rfl) ?_
  have hPc := hP.sub (ws' := [(sh, .inr (5, ss)), (sc, .inl (cS, 5, .inl (fun _ => 0)))]) [1, 2] rfl
  have hDc := hD.sub (ws' := [(sh, .inr (5, ss)), (sc, .inl (cS, 5, .inl (fun _ => 0)))]) [1, 2] (by decide) rfl
  have hKc := hK.sub (tys' := [(cS, .int)]) [0] rfl
  have hFc := va_free (wc := [(sh, .inr (5, ss)), (sc, .inl (cS, 5, .inl (fun _ => 0)))]) hD hS hA [1, 2] rfl
  refine va_calli (va_runV (As := [.int 4, .int a1]) (rest := []) ⟨hx, hb, hml, hown, hts⟩ (c_has0 l dC dI s.heap.size sh ss sc cS 4 a1 f_ss_0 (p1_in (i := 4) (n := 5) (by decide))) (cwV 2 hts (p1_gV m_1 m_2 m_3 m_4 g_c_has0 gz_c_has0) rfl rfl rfl (by decide +kernel) ⟨by decide, by decide⟩) ⟨fun a U g mk q => by obtain ⟨q0, q1, qP, qK, qD⟩ := q; exact ⟨q0, q1, qP, va_K.moved (u := U) (U := U.calling g mk a) (Vm.Alike.refl U.vm) qK, qD⟩, va_recv hKc hPc (ci := 5) (q0 := 0) rfl rfl, fun U hU hW => ⟨rfl, by rw [hU], by rw [hU]; exact hPc, va_K.moved hW.alike hKc, hDc.weaken (fun _ _ _ _ => trivial)⟩⟩ rfl rfl hl.1 rfl (lv_room (Nat.le_of_ble_eq_true rfl)) dX8_meets_6 ⟨by decide, by decide⟩) hS (fun q _ h => hFc q h) hFc (fun r_1 u t H1 locs ht hvm hw hB hz1 hk1 hS => ?_)
  obtain ⟨hP1, hK1, hD1⟩ := hB
  rw [ht] at hP1
  obtain ⟨hP, hD⟩ := va_join (wr := [(x, .inr (7, xs))]) (w1 := [(sh, .inr (5, ss)), (sc, .inl (cS, 5, .inl (fun _ => 0)))]) hP hD [1, 2] [0] rfl rfl (by decide) (by decide) hk1 hFc hP1 hD1
  generalize H1 = H at hP hS ⊢
  have hP : va_P (dC, dI) vwCl [(x, .inr (7, xs)), (sh, .inr (5, ss)), (sc, .inl (cS, 5, .inl (fun _ => 0)))] H := hP
  have hD : va_D A [(x, .inr (7, xs)), (sh, .inr (5, ss)), (sc, .inl (cS, 5, .inl (fun _ => 0)))] := hD
  try dsimp only at hw
  obtain rfl : r_1 = 0 := hw
  refine lv_if_eq (tgt := 21) hx hb dX8_meets_9 (by decide) (fun _ => ?_) (fun c9 => absurd c9 (by decide))
  refine lv_iconst (v := (-1)) hx hb dX8_meets_21 (by decide) ?_
  have hP9 := hP.sub (ws' := []) [] rfl
  have hD9 := hD.sub (ws' := []) [] (by decide) rfl
  have hK9 := hK.sub (tys' := []) [] rfl
  exact W.iret (v := (-1)) hx hb hr (fun t ht hW => ⟨⟨(-1), (), rfl, rfl, by rw [ht]; exact hP9, va_K.moved hW.alike hK9, hD9⟩, hS.F ht⟩) hS.2.2 dX8_meets_22
def zo_x_odds : List Cond := [.code yX8_odds cX8_odds 8 (some .int), .fieldLink RX8 60 "BowWalk" "shop" "LBowWalk$Shop;", .fieldLink RX8 96 "BowWalk$Shop" "count" "[I", .methodLink RX8 104 yX5_has, .instanceMethod yX5_has, .selects RX5 yX5_has yX5_has, .initialized RX5]
def zw_x_odds : List Cond := zo_x_odds ++ (zw_c_has0 ++ (wsX80 ++ (wsX50 ++ [])))
theorem gz_x_odds : zw_x_odds.all goodWord = true := p1_ga (by decide +kernel) (p1_ga gz_c_has0 (p1_ga gk_X8 (p1_ga gk_X5 p1_g0)))
theorem iz_x_odds : ∀ w ∈ zw_x_odds, w ∈ lw_tbl := p1_ia (p1_all [894, 508, 176, 714, 715, 716, 106] (by decide +kernel)) (p1_ia iz_c_has0 (p1_ia ik_X8 (p1_ia ik_X5 p1_i0)))
set_option maxHeartbeats 4000000 in
set_option maxRecDepth 100000 in
theorem x_odds (l : Launch) (dC : Nat → ClassId) (dI : Nat → Nat → Nat) (sz : Nat) (x : Nat) (xs : List Value) (sh : Nat) (ss : List Value) (sc : Nat) (cS : ClassId) (a1 : Int32) (a2 : Int32) (a3 : Int32) (f_xs_9 : xs[9]? = some (.ref sh)) (f_ss_0 : ss[0]? = some (.ref sc)) : Met l yX8_odds zw_x_odds ({ frames := 1, cells := 0, slots := 0, locals := 22 }) (va_Pc [.ref x, .int a1, .int a2, .int a3] (fun U => U.heap.size = sz ∧ va_P (dC, dI) vwCl [(x, .inr (7, xs)), (sh, .inr (5, ss)), (sc, .inl (cS, 5, .inl (fun _ => 0)))] U.heap ∧ va_K (dC, dI) vwCl [(cS, .int)] U ∧ va_D (fun _ => True) [(x, .inr (7, xs)), (sh, .inr (5, ss)), (sc, .inl (cS, 5, .inl (fun _ => 0)))])) (va_Qi (fun (r : Int32) (_ : Unit) => r = (-1)) (fun _ t => va_P (dC, dI) vwCl [] t.heap ∧ va_K (dC, dI) vwCl [] t ∧ va_D (va_A [(x, .inr (7, xs)), (sh, .inr (5, ss)), (sc, .inl (cS, 5, .inl (fun _ => 0)))] sz) []) (va_A [(x, .inr (7, xs)), (sh, .inr (5, ss)), (sc, .inl (cS, 5, .inl (fun _ => 0)))] sz)) 0 0 (va_A [(x, .inr (7, xs)), (sh, .inr (5, ss)), (sc, .inl (cS, 5, .inl (fun _ => 0)))] sz) := by
  refine Met.ofW (cc := cX8_odds) (maxL := 8) (ret := (some .int)) (by decide) rfl ?_
  intro p e s m args below meth c s₁ B hml hv
  obtain ⟨rfl, hsz, hP, hK, hD0⟩ := hv
  have hx := B.exec
  have hb := B.bytes
  have hr := B.returns
  have hts := atoms_spec (ws := zw_x_odds) B.pre
  have hown : s.vm.findClass RX8 = some m.cls := findClass_of_methodNamed B.named
  have hlocks := B.notSynchronized
  subst hsz
  have hD := hD0.self (sz := s.heap.size)
  generalize hAe : va_A [(x, .inr (7, xs)), (sh, .inr (5, ss)), (sc, .inl (cS, 5, .inl (fun _ => 0)))] s.heap.size = A at hD ⊢
  have hA : ∀ q : Nat, s.heap.size ≤ q → A q := fun q h => by rw [← hAe]; exact Or.inr h
  have hS : va_S A s.heap s.heap [] := va_S.rf
  have hP : va_P (dC, dI) vwCl [(x, .inr (7, xs)), (sh, .inr (5, ss)), (sc, .inl (cS, 5, .inl (fun _ => 0)))] s.heap := hP
  have m_0 : (.fieldLink RX8 60 "BowWalk" "shop" "LBowWalk$Shop;" : Cond) ∈ zw_x_odds := List.mem_append_left _ (List.mem_of_getElem? (i := 1) rfl)
  have k_0 := hts _ m_0
  have m_1 : (.fieldLink RX8 96 "BowWalk$Shop" "count" "[I" : Cond) ∈ zw_x_odds := List.mem_append_left _ (List.mem_of_getElem? (i := 2) rfl)
  have k_1 := hts _ m_1
  have m_2 : (.methodLink RX8 104 yX5_has : Cond) ∈ zw_x_odds := List.mem_append_left _ (List.mem_of_getElem? (i := 3) rfl)
  have k_2 := hts _ m_2
  have m_3 : (.instanceMethod yX5_has : Cond) ∈ zw_x_odds := List.mem_append_left _ (List.mem_of_getElem? (i := 4) rfl)
  have k_3 := hts _ m_3
  have m_4 : (.selects RX5 yX5_has yX5_has : Cond) ∈ zw_x_odds := List.mem_append_left _ (List.mem_of_getElem? (i := 5) rfl)
  have k_4 := hts _ m_4
  have m_5 : (.initialized RX5 : Cond) ∈ zw_x_odds := List.mem_append_left _ (List.mem_of_getElem? (i := 6) rfl)
  have k_5 := hts _ m_5
  have g_c_has0 : ∀ w ∈ zw_c_has0, w ∈ zw_x_odds := fun w h => List.mem_append_right _ (List.mem_append_left _ h)
  have i_X8 : ∀ w ∈ u_ws RX8 TX8 14, w ∈ zw_x_odds := fun w h => List.mem_append_right _ (List.mem_append_right _ (List.mem_append_left _ h))
  have i_X5 : ∀ w ∈ u_ws RX5 TX5 15, w ∈ zw_x_odds := fun w h => List.mem_append_right _ (List.mem_append_right _ (List.mem_append_right _ (List.mem_append_left _ h)))
  have hl := lv_entry ([.ref x, .int a1, .int a2, .int a3]) (n := 8) (Nat.le_of_ble_eq_true rfl)
  rw [lg_entry_eq]
  generalize (lg_sl ([.ref x, .int a1, .int a2, .int a3]) ++ List.replicate (8 - (lg_sl ([.ref x, .int a1, .int a2, .int a3])).length) Slot.unset).toArray = ls at hl ⊢
  have hl : lv_has ls 8 [(0, .ref x), (1, .int a1), (2, .int a2), (3, .int a3)] := hl
  refine lv_aload_n hx hb dX8_odds_0 rfl (lv_at hl 0 rfl) ?_
  refine va_get (D := (dC, dI)) (ci := 7) (v := .ref sh) (C := RX8) (T := TX8) (N := 14) hx hb hts i_X8 hown hK hP 0 rfl rfl 9 (by decide) k_0 (fun _ h9 => h9) f_xs_9 dX8_odds_1 ?_
  refine va_get (D := (dC, dI)) (ci := 5) (v := .ref sc) (C := RX5) (T := TX5) (N := 15) hx hb hts i_X5 hown hK hP 1 rfl rfl 0 (by decide) k_1 (fun _ h9 => h9) f_ss_0 dX8_odds_4 ?_
  refine lv_iconst (v := 1) hx hb dX8_odds_7 (by decide) ?_
  refine va_iald hx hb hK hP 2 0 rfl rfl (p1_in (i := 1) (n := 5) (by decide)) dX8_odds_8 ?_
  refine lv_topi (fun v_1 ev_1 => ?_)
  obtain rfl : v_1 = 0 := ev_1.trans rfl
  refine lv_aload_n hx hb dX8_odds_9 rfl (lv_at hl 0 rfl) ?_
  refine va_get (D := (dC, dI)) (ci := 7) (v := .ref sh) (C := RX8) (T := TX8) (N := 14) hx hb hts i_X8 hown hK hP 0 rfl rfl 9 (by decide) k_0 (fun _ h9 => h9) f_xs_9 dX8_odds_10 ?_
  refine va_get (D := (dC, dI)) (ci := 5) (v := .ref sc) (C := RX5) (T := TX5) (N := 15) hx hb hts i_X5 hown hK hP 1 rfl rfl 0 (by decide) k_1 (fun _ h9 => h9) f_ss_0 dX8_odds_13 ?_
  refine lv_iconst (v := 2) hx hb dX8_odds_16 (by decide) ?_
  refine va_iald hx hb hK hP 2 0 rfl rfl (p1_in (i := 2) (n := 5) (by decide)) dX8_odds_17 ?_
  refine lv_topi (fun v_2 ev_2 => ?_)
  obtain rfl : v_2 = 0 := ev_2.trans rfl
  refine lv_imul hx hb dX8_odds_18 ?_
  refine lv_topi (fun v_3 ev_3 => ?_)
  obtain rfl : v_3 = 0 := ev_3.trans (by decide)
  refine lv_istore (lv' := [(4, .int 0), (0, .ref x), (1, .int a1), (2, .int a2), (3, .int a3)]) hx hb dX8_odds_19 hl (by decide) rfl (fun ls hl => ?_)
  refine lv_aload_n hx hb dX8_odds_21 rfl (lv_at hl 1 rfl) ?_
  refine va_get (D := (dC, dI)) (ci := 7) (v := .ref sh) (C := RX8) (T := TX8) (N := 14) hx hb hts i_X8 hown hK hP 0 rfl rfl 9 (by decide) k_0 (fun _ h9 => h9) f_xs_9 dX8_odds_22 ?_
  refine lv_iconst (v := 0) hx hb dX8_odds_25 (by decide) ?_
  refine lv_iload_n hx hb dX8_odds_26 rfl (lv_at hl 2 rfl) ?_
  have hPc := hP.sub (ws' := [(sh, .inr (5, ss)), (sc, .inl (cS, 5, .inl (fun _ => 0)))]) [1, 2] rfl
  have hDc := hD.sub (ws' := [(sh, .inr (5, ss)), (sc, .inl (cS, 5, .inl (fun _ => 0)))]) [1, 2] (by decide) rfl
  have hKc := hK.sub (tys' := [(cS, .int)]) [0] rfl
  have hFc := va_free (wc := [(sh, .inr (5, ss)), (sc, .inl (cS, 5, .inl (fun _ => 0)))]) hD hS hA [1, 2] rfl
  refine va_calli (va_runV (As := [.int 0, .int a1]) (rest := []) ⟨hx, hb, hml, hown, hts⟩ (c_has0 l dC dI s.heap.size sh ss sc cS 0 a1 f_ss_0 (p1_in (i := 0) (n := 5) (by decide))) (cwV 2 hts (p1_gV m_2 m_3 m_4 m_5 g_c_has0 gz_c_has0) rfl rfl rfl (by decide +kernel) ⟨by decide, by decide⟩) ⟨fun a U g mk q => by obtain ⟨q0, q1, qP, qK, qD⟩ := q; exact ⟨q0, q1, qP, va_K.moved (u := U) (U := U.calling g mk a) (Vm.Alike.refl U.vm) qK, qD⟩, va_recv hKc hPc (ci := 5) (q0 := 0) rfl rfl, fun U hU hW => ⟨rfl, by rw [hU], by rw [hU]; exact hPc, va_K.moved hW.alike hKc, hDc.weaken (fun _ _ _ _ => trivial)⟩⟩ rfl rfl hl.1 rfl (lv_room (Nat.le_of_ble_eq_true rfl)) dX8_odds_27 ⟨by decide, by decide⟩) hS (fun q _ h => hFc q h) hFc (fun r_4 u t H1 locs ht hvm hw hB hz1 hk1 hS => ?_)
  obtain ⟨hP1, hK1, hD1⟩ := hB
  rw [ht] at hP1
  obtain ⟨hP, hD⟩ := va_join (wr := [(x, .inr (7, xs))]) (w1 := [(sh, .inr (5, ss)), (sc, .inl (cS, 5, .inl (fun _ => 0)))]) hP hD [1, 2] [0] rfl rfl (by decide) (by decide) hk1 hFc hP1 hD1
  generalize H1 = H at hP hS ⊢
  have hP : va_P (dC, dI) vwCl [(x, .inr (7, xs)), (sh, .inr (5, ss)), (sc, .inl (cS, 5, .inl (fun _ => 0)))] H := hP
  have hD : va_D A [(x, .inr (7, xs)), (sh, .inr (5, ss)), (sc, .inl (cS, 5, .inl (fun _ => 0)))] := hD
  try dsimp only at hw
  obtain rfl : r_4 = 0 := hw
  refine lv_if_eq (tgt := 58) hx hb dX8_odds_30 (by decide) (fun _ => ?_) (fun c9 => absurd c9 (by decide))
  refine lv_iconst (v := (-1)) hx hb dX8_odds_58 (by decide) ?_
  have hP9 := hP.sub (ws' := []) [] rfl
  have hD9 := hD.sub (ws' := []) [] (by decide) rfl
  have hK9 := hK.sub (tys' := []) [] rfl
  exact W.iret (v := (-1)) hx hb hr (fun t ht hW => ⟨⟨(-1), (), rfl, rfl, by rw [ht]; exact hP9, va_K.moved hW.alike hK9, hD9⟩, hS.F ht⟩) hS.2.2 dX8_odds_59
def zo_x_worse : List Cond := [.code yX8_worse cX8_worse 5 (some .int), .methodLink RX8 208 yX8_canTry, .instanceMethod yX8_canTry, .selects RX8 yX8_canTry yX8_canTry, .initialized RX8]
def zw_x_worse : List Cond := zo_x_worse ++ (zw_c_canTry ++ [])
theorem gz_x_worse : zw_x_worse.all goodWord = true := p1_ga (by decide +kernel) (p1_ga gz_c_canTry p1_g0)
theorem iz_x_worse : ∀ w ∈ zw_x_worse, w ∈ lw_tbl := p1_ia (p1_all [901, 810, 812, 28, 104] (by decide +kernel)) (p1_ia iz_c_canTry p1_i0)
set_option maxHeartbeats 4000000 in
set_option maxRecDepth 100000 in
theorem x_worse (l : Launch) (dC : Nat → ClassId) (dI : Nat → Nat → Nat) (sz : Nat) (x : Nat) (xs : List Value) (sh : Nat) (ss : List Value) (sc : Nat) (cS : ClassId) (a1 : Int32) (a2 : Int32) (a3 : Int32) (a4 : Int32) (f_xs_9 : xs[9]? = some (.ref sh)) (f_ss_0 : ss[0]? = some (.ref sc)) : Met l yX8_worse zw_x_worse ({ frames := 2, cells := 0, slots := 0, locals := 45 }) (va_Pc [.ref x, .int a1, .int a2, .int a3, .int a4] (fun U => U.heap.size = sz ∧ va_P (dC, dI) vwCl [(x, .inr (7, xs)), (sh, .inr (5, ss)), (sc, .inl (cS, 5, .inl (fun _ => 0)))] U.heap ∧ va_K (dC, dI) vwCl [(cS, .int)] U ∧ va_D (fun _ => True) [(x, .inr (7, xs)), (sh, .inr (5, ss)), (sc, .inl (cS, 5, .inl (fun _ => 0)))])) (va_Qi (fun (r : Int32) (_ : Unit) => r = (-10000)) (fun _ t => va_P (dC, dI) vwCl [] t.heap ∧ va_K (dC, dI) vwCl [] t ∧ va_D (va_A [(x, .inr (7, xs)), (sh, .inr (5, ss)), (sc, .inl (cS, 5, .inl (fun _ => 0)))] sz) []) (va_A [(x, .inr (7, xs)), (sh, .inr (5, ss)), (sc, .inl (cS, 5, .inl (fun _ => 0)))] sz)) 0 0 (va_A [(x, .inr (7, xs)), (sh, .inr (5, ss)), (sc, .inl (cS, 5, .inl (fun _ => 0)))] sz) := by
  refine Met.ofW (cc := cX8_worse) (maxL := 5) (ret := (some .int)) (by decide) rfl ?_
  intro p e s m args below meth c s₁ B hml hv
  obtain ⟨rfl, hsz, hP, hK, hD0⟩ := hv
  have hx := B.exec
  have hb := B.bytes
  have hr := B.returns
  have hts := atoms_spec (ws := zw_x_worse) B.pre
  have hown : s.vm.findClass RX8 = some m.cls := findClass_of_methodNamed B.named
  have hlocks := B.notSynchronized
  subst hsz
  have hD := hD0.self (sz := s.heap.size)
  generalize hAe : va_A [(x, .inr (7, xs)), (sh, .inr (5, ss)), (sc, .inl (cS, 5, .inl (fun _ => 0)))] s.heap.size = A at hD ⊢
  have hA : ∀ q : Nat, s.heap.size ≤ q → A q := fun q h => by rw [← hAe]; exact Or.inr h
  have hS : va_S A s.heap s.heap [] := va_S.rf
  have hP : va_P (dC, dI) vwCl [(x, .inr (7, xs)), (sh, .inr (5, ss)), (sc, .inl (cS, 5, .inl (fun _ => 0)))] s.heap := hP
  have m_0 : (.methodLink RX8 208 yX8_canTry : Cond) ∈ zw_x_worse := List.mem_append_left _ (List.mem_of_getElem? (i := 1) rfl)
  have k_0 := hts _ m_0
  have m_1 : (.instanceMethod yX8_canTry : Cond) ∈ zw_x_worse := List.mem_append_left _ (List.mem_of_getElem? (i := 2) rfl)
  have k_1 := hts _ m_1
  have m_2 : (.selects RX8 yX8_canTry yX8_canTry : Cond) ∈ zw_x_worse := List.mem_append_left _ (List.mem_of_getElem? (i := 3) rfl)
  have k_2 := hts _ m_2
  have m_3 : (.initialized RX8 : Cond) ∈ zw_x_worse := List.mem_append_left _ (List.mem_of_getElem? (i := 4) rfl)
  have k_3 := hts _ m_3
  have g_c_canTry : ∀ w ∈ zw_c_canTry, w ∈ zw_x_worse := fun w h => List.mem_append_right _ (List.mem_append_left _ h)
  have hl := lv_entry ([.ref x, .int a1, .int a2, .int a3, .int a4]) (n := 5) (Nat.le_of_ble_eq_true rfl)
  rw [lg_entry_eq]
  generalize (lg_sl ([.ref x, .int a1, .int a2, .int a3, .int a4]) ++ List.replicate (5 - (lg_sl ([.ref x, .int a1, .int a2, .int a3, .int a4])).length) Slot.unset).toArray = ls at hl ⊢
  have hl : lv_has ls 5 [(0, .ref x), (1, .int a1), (2, .int a2), (3, .int a3), (4, .int a4)] := hl
  refine lv_aload_n hx hb dX8_worse_0 rfl (lv_at hl 0 rfl) ?_
  refine lv_iload_n hx hb dX8_worse_1 rfl (lv_at hl 1 rfl) ?_
  refine lv_iload_n hx hb dX8_worse_2 rfl (lv_at hl 2 rfl) ?_
  refine lv_iload_n hx hb dX8_worse_3 rfl (lv_at hl 3 rfl) ?_
  have hPc := hP.sub (ws' := [(x, .inr (7, xs)), (sh, .inr (5, ss)), (sc, .inl (cS, 5, .inl (fun _ => 0)))]) [0, 1, 2] rfl
  have hDc := hD.sub (ws' := [(x, .inr (7, xs)), (sh, .inr (5, ss)), (sc, .inl (cS, 5, .inl (fun _ => 0)))]) [0, 1, 2] (by decide) rfl
  have hKc := hK.sub (tys' := [(cS, .int)]) [0] rfl
  have hFc := va_free (wc := [(x, .inr (7, xs)), (sh, .inr (5, ss)), (sc, .inl (cS, 5, .inl (fun _ => 0)))]) hD hS hA [0, 1, 2] rfl
  refine va_calli (va_runV (As := [.int a1, .int a2, .int a3]) (rest := []) ⟨hx, hb, hml, hown, hts⟩ (c_canTry l dC dI s.heap.size x xs sh ss sc cS a1 a2 a3 f_xs_9 f_ss_0) (cwV 3 hts (p1_gV m_0 m_1 m_2 m_3 g_c_canTry gz_c_canTry) rfl rfl rfl (by decide +kernel) ⟨by decide, by decide⟩) ⟨fun a U g mk q => by obtain ⟨q0, q1, qP, qK, qD⟩ := q; exact ⟨q0, q1, qP, va_K.moved (u := U) (U := U.calling g mk a) (Vm.Alike.refl U.vm) qK, qD⟩, va_recv hKc hPc (ci := 7) (q0 := 0) rfl rfl, fun U hU hW => ⟨rfl, by rw [hU], by rw [hU]; exact hPc, va_K.moved hW.alike hKc, hDc.weaken (fun _ _ _ _ => trivial)⟩⟩ rfl rfl hl.1 rfl (lv_room (Nat.le_of_ble_eq_true rfl)) dX8_worse_4 ⟨by decide, by decide⟩) hS (fun q _ h => hFc q h) hFc (fun r_1 u t H1 locs ht hvm hw hB hz1 hk1 hS => ?_)
  obtain ⟨hP1, hK1, hD1⟩ := hB
  rw [ht] at hP1
  obtain ⟨hP, hD⟩ := va_join (wr := []) (w1 := [(x, .inr (7, xs)), (sh, .inr (5, ss)), (sc, .inl (cS, 5, .inl (fun _ => 0)))]) hP hD [0, 1, 2] [] rfl rfl (by decide) (by decide) hk1 hFc hP1 hD1
  generalize H1 = H at hP hS ⊢
  have hP : va_P (dC, dI) vwCl [(x, .inr (7, xs)), (sh, .inr (5, ss)), (sc, .inl (cS, 5, .inl (fun _ => 0)))] H := hP
  have hD : va_D A [(x, .inr (7, xs)), (sh, .inr (5, ss)), (sc, .inl (cS, 5, .inl (fun _ => 0)))] := hD
  try dsimp only at hw
  obtain rfl : r_1 = 0 := hw
  refine lv_if_eq (tgt := 30) hx hb dX8_worse_7 (by decide) (fun _ => ?_) (fun c9 => absurd c9 (by decide))
  refine lv_sipush (v := (-10000)) hx hb dX8_worse_30 (by decide) ?_
  have hP9 := hP.sub (ws' := []) [] rfl
  have hD9 := hD.sub (ws' := []) [] (by decide) rfl
  have hK9 := hK.sub (tys' := []) [] rfl
  exact W.iret (v := (-10000)) hx hb hr (fun t ht hW => ⟨⟨(-10000), (), rfl, rfl, by rw [ht]; exact hP9, va_K.moved hW.alike hK9, hD9⟩, hS.F ht⟩) hS.2.2 dX8_worse_33
def zo_x_which : List Cond := [.code yX8_which cX8_which 8 (some .int), .methodLink RX8 208 yX8_canTry, .instanceMethod yX8_canTry, .selects RX8 yX8_canTry yX8_canTry, .initialized RX8]
def zw_x_which : List Cond := zo_x_which ++ (zw_c_canTry ++ [])
theorem gz_x_which : zw_x_which.all goodWord = true := p1_ga (by decide +kernel) (p1_ga gz_c_canTry p1_g0)
theorem iz_x_which : ∀ w ∈ zw_x_which, w ∈ lw_tbl := p1_ia (p1_all [909, 810, 812, 28, 104] (by decide +kernel)) (p1_ia iz_c_canTry p1_i0)
set_option maxHeartbeats 4000000 in
set_option maxRecDepth 100000 in
theorem x_which (l : Launch) (dC : Nat → ClassId) (dI : Nat → Nat → Nat) (sz : Nat) (x : Nat) (xs : List Value) (sh : Nat) (ss : List Value) (sc : Nat) (cS : ClassId) (a1 : Int32) (a2 : Int32) (a3 : Int32) (f_xs_9 : xs[9]? = some (.ref sh)) (f_ss_0 : ss[0]? = some (.ref sc)) : Met l yX8_which zw_x_which ({ frames := 2, cells := 0, slots := 0, locals := 45 }) (va_Pc [.ref x, .int a1, .int a2, .int a3] (fun U => U.heap.size = sz ∧ va_P (dC, dI) vwCl [(x, .inr (7, xs)), (sh, .inr (5, ss)), (sc, .inl (cS, 5, .inl (fun _ => 0)))] U.heap ∧ va_K (dC, dI) vwCl [(cS, .int)] U ∧ va_D (fun _ => True) [(x, .inr (7, xs)), (sh, .inr (5, ss)), (sc, .inl (cS, 5, .inl (fun _ => 0)))])) (va_Qi (fun (r : Int32) (_ : Unit) => r = (-1)) (fun _ t => va_P (dC, dI) vwCl [] t.heap ∧ va_K (dC, dI) vwCl [] t ∧ va_D (va_A [(x, .inr (7, xs)), (sh, .inr (5, ss)), (sc, .inl (cS, 5, .inl (fun _ => 0)))] sz) []) (va_A [(x, .inr (7, xs)), (sh, .inr (5, ss)), (sc, .inl (cS, 5, .inl (fun _ => 0)))] sz)) 0 0 (va_A [(x, .inr (7, xs)), (sh, .inr (5, ss)), (sc, .inl (cS, 5, .inl (fun _ => 0)))] sz) := by
  refine Met.ofW (cc := cX8_which) (maxL := 8) (ret := (some .int)) (by decide) rfl ?_
  intro p e s m args below meth c s₁ B hml hv
  obtain ⟨rfl, hsz, hP, hK, hD0⟩ := hv
  have hx := B.exec
  have hb := B.bytes
  have hr := B.returns
  have hts := atoms_spec (ws := zw_x_which) B.pre
  have hown : s.vm.findClass RX8 = some m.cls := findClass_of_methodNamed B.named
  have hlocks := B.notSynchronized
  subst hsz
  have hD := hD0.self (sz := s.heap.size)
  generalize hAe : va_A [(x, .inr (7, xs)), (sh, .inr (5, ss)), (sc, .inl (cS, 5, .inl (fun _ => 0)))] s.heap.size = A at hD ⊢
  have hA : ∀ q : Nat, s.heap.size ≤ q → A q := fun q h => by rw [← hAe]; exact Or.inr h
  have hS : va_S A s.heap s.heap [] := va_S.rf
  have hP : va_P (dC, dI) vwCl [(x, .inr (7, xs)), (sh, .inr (5, ss)), (sc, .inl (cS, 5, .inl (fun _ => 0)))] s.heap := hP
  have m_0 : (.methodLink RX8 208 yX8_canTry : Cond) ∈ zw_x_which := List.mem_append_left _ (List.mem_of_getElem? (i := 1) rfl)
  have k_0 := hts _ m_0
  have m_1 : (.instanceMethod yX8_canTry : Cond) ∈ zw_x_which := List.mem_append_left _ (List.mem_of_getElem? (i := 2) rfl)
  have k_1 := hts _ m_1
  have m_2 : (.selects RX8 yX8_canTry yX8_canTry : Cond) ∈ zw_x_which := List.mem_append_left _ (List.mem_of_getElem? (i := 3) rfl)
  have k_2 := hts _ m_2
  have m_3 : (.initialized RX8 : Cond) ∈ zw_x_which := List.mem_append_left _ (List.mem_of_getElem? (i := 4) rfl)
  have k_3 := hts _ m_3
  have g_c_canTry : ∀ w ∈ zw_c_canTry, w ∈ zw_x_which := fun w h => List.mem_append_right _ (List.mem_append_left _ h)
  have hl := lv_entry ([.ref x, .int a1, .int a2, .int a3]) (n := 8) (Nat.le_of_ble_eq_true rfl)
  rw [lg_entry_eq]
  generalize (lg_sl ([.ref x, .int a1, .int a2, .int a3]) ++ List.replicate (8 - (lg_sl ([.ref x, .int a1, .int a2, .int a3])).length) Slot.unset).toArray = ls at hl ⊢
  have hl : lv_has ls 8 [(0, .ref x), (1, .int a1), (2, .int a2), (3, .int a3)] := hl
  refine lv_aload_n hx hb dX8_which_0 rfl (lv_at hl 0 rfl) ?_
  refine lv_iload_n hx hb dX8_which_1 rfl (lv_at hl 1 rfl) ?_
  refine lv_iload_n hx hb dX8_which_2 rfl (lv_at hl 2 rfl) ?_
  refine lv_iload_n hx hb dX8_which_3 rfl (lv_at hl 3 rfl) ?_
  have hPc := hP.sub (ws' := [(x, .inr (7, xs)), (sh, .inr (5, ss)), (sc, .inl (cS, 5, .inl (fun _ => 0)))]) [0, 1, 2] rfl
  have hDc := hD.sub (ws' := [(x, .inr (7, xs)), (sh, .inr (5, ss)), (sc, .inl (cS, 5, .inl (fun _ => 0)))]) [0, 1, 2] (by decide) rfl
  have hKc := hK.sub (tys' := [(cS, .int)]) [0] rfl
  have hFc := va_free (wc := [(x, .inr (7, xs)), (sh, .inr (5, ss)), (sc, .inl (cS, 5, .inl (fun _ => 0)))]) hD hS hA [0, 1, 2] rfl
  refine va_calli (va_runV (As := [.int a1, .int a2, .int a3]) (rest := []) ⟨hx, hb, hml, hown, hts⟩ (c_canTry l dC dI s.heap.size x xs sh ss sc cS a1 a2 a3 f_xs_9 f_ss_0) (cwV 3 hts (p1_gV m_0 m_1 m_2 m_3 g_c_canTry gz_c_canTry) rfl rfl rfl (by decide +kernel) ⟨by decide, by decide⟩) ⟨fun a U g mk q => by obtain ⟨q0, q1, qP, qK, qD⟩ := q; exact ⟨q0, q1, qP, va_K.moved (u := U) (U := U.calling g mk a) (Vm.Alike.refl U.vm) qK, qD⟩, va_recv hKc hPc (ci := 7) (q0 := 0) rfl rfl, fun U hU hW => ⟨rfl, by rw [hU], by rw [hU]; exact hPc, va_K.moved hW.alike hKc, hDc.weaken (fun _ _ _ _ => trivial)⟩⟩ rfl rfl hl.1 rfl (lv_room (Nat.le_of_ble_eq_true rfl)) dX8_which_4 ⟨by decide, by decide⟩) hS (fun q _ h => hFc q h) hFc (fun r_1 u t H1 locs ht hvm hw hB hz1 hk1 hS => ?_)
  obtain ⟨hP1, hK1, hD1⟩ := hB
  rw [ht] at hP1
  obtain ⟨hP, hD⟩ := va_join (wr := []) (w1 := [(x, .inr (7, xs)), (sh, .inr (5, ss)), (sc, .inl (cS, 5, .inl (fun _ => 0)))]) hP hD [0, 1, 2] [] rfl rfl (by decide) (by decide) hk1 hFc hP1 hD1
  generalize H1 = H at hP hS ⊢
  have hP : va_P (dC, dI) vwCl [(x, .inr (7, xs)), (sh, .inr (5, ss)), (sc, .inl (cS, 5, .inl (fun _ => 0)))] H := hP
  have hD : va_D A [(x, .inr (7, xs)), (sh, .inr (5, ss)), (sc, .inl (cS, 5, .inl (fun _ => 0)))] := hD
  try dsimp only at hw
  obtain rfl : r_1 = 0 := hw
  refine lv_if_ne (tgt := 12) hx hb dX8_which_7 (by decide) (fun c9 => absurd c9 (by decide)) (fun _ => ?_)
  refine lv_iconst (v := (-1)) hx hb dX8_which_10 (by decide) ?_
  have hP9 := hP.sub (ws' := []) [] rfl
  have hD9 := hD.sub (ws' := []) [] (by decide) rfl
  have hK9 := hK.sub (tys' := []) [] rfl
  exact W.iret (v := (-1)) hx hb hr (fun t ht hW => ⟨⟨(-1), (), rfl, rfl, by rw [ht]; exact hP9, va_K.moved hW.alike hK9, hD9⟩, hS.F ht⟩) hS.2.2 dX8_which_11
def zo_x_best : List Cond := [.code yX8_best cX8_best 12 (some .int), .methodLink RX8 150 yX8_within, .static yX8_within, .initialized RX8, .methodLink RX8 244 yX8_canWalkIn, .instanceMethod yX8_canWalkIn, .selects RX8 yX8_canWalkIn yX8_canWalkIn]
def zw_x_best : List Cond := zo_x_best ++ (zw_c_within ++ (zw_c_canWalkIn ++ []))
theorem gz_x_best : zw_x_best.all goodWord = true := p1_ga (by decide +kernel) (p1_ga gz_c_within (p1_ga gz_c_canWalkIn p1_g0))
theorem iz_x_best : ∀ w ∈ zw_x_best, w ∈ lw_tbl := p1_ia (p1_all [913, 749, 750, 104, 814, 816, 29] (by decide +kernel)) (p1_ia iz_c_within (p1_ia iz_c_canWalkIn p1_i0))
set_option maxHeartbeats 4000000 in
set_option maxRecDepth 100000 in
theorem x_best (l : Launch) (dC : Nat → ClassId) (dI : Nat → Nat → Nat) (sz : Nat) (x : Nat) (xs : List Value) (sh : Nat) (ss : List Value) (sc : Nat) (cS : ClassId) (a1 : Int32) (a2 : Int32) (a3 : Int32) (a4 : Int32) (a5 : Int32) (f_xs_9 : xs[9]? = some (.ref sh)) (f_ss_0 : ss[0]? = some (.ref sc)) : Met l yX8_best zw_x_best ({ frames := 2, cells := 0, slots := 0, locals := 44 }) (va_Pc [.ref x, .int a1, .int a2, .int a3, .int a4, .int a5] (fun U => U.heap.size = sz ∧ va_P (dC, dI) vwCl [(x, .inr (7, xs)), (sh, .inr (5, ss)), (sc, .inl (cS, 5, .inl (fun _ => 0)))] U.heap ∧ va_K (dC, dI) vwCl [(cS, .int)] U ∧ va_D (fun _ => True) [(x, .inr (7, xs)), (sh, .inr (5, ss)), (sc, .inl (cS, 5, .inl (fun _ => 0)))])) (va_Qi (fun (r : Int32) (_ : Unit) => r = (-1)) (fun _ t => va_P (dC, dI) vwCl [] t.heap ∧ va_K (dC, dI) vwCl [] t ∧ va_D (va_A [(x, .inr (7, xs)), (sh, .inr (5, ss)), (sc, .inl (cS, 5, .inl (fun _ => 0)))] sz) []) (va_A [(x, .inr (7, xs)), (sh, .inr (5, ss)), (sc, .inl (cS, 5, .inl (fun _ => 0)))] sz)) 0 0 (va_A [(x, .inr (7, xs)), (sh, .inr (5, ss)), (sc, .inl (cS, 5, .inl (fun _ => 0)))] sz) := by
  refine Met.ofW (cc := cX8_best) (maxL := 12) (ret := (some .int)) (by decide) rfl ?_
  intro p e s m args below meth c s₁ B hml hv
  obtain ⟨rfl, hsz, hP, hK, hD0⟩ := hv
  have hx := B.exec
  have hb := B.bytes
  have hr := B.returns
  have hts := atoms_spec (ws := zw_x_best) B.pre
  have hown : s.vm.findClass RX8 = some m.cls := findClass_of_methodNamed B.named
  have hlocks := B.notSynchronized
  subst hsz
  have hD := hD0.self (sz := s.heap.size)
  generalize hAe : va_A [(x, .inr (7, xs)), (sh, .inr (5, ss)), (sc, .inl (cS, 5, .inl (fun _ => 0)))] s.heap.size = A at hD ⊢
  have hA : ∀ q : Nat, s.heap.size ≤ q → A q := fun q h => by rw [← hAe]; exact Or.inr h
  have hS : va_S A s.heap s.heap [] := va_S.rf
  have hP : va_P (dC, dI) vwCl [(x, .inr (7, xs)), (sh, .inr (5, ss)), (sc, .inl (cS, 5, .inl (fun _ => 0)))] s.heap := hP
  have m_0 : (.methodLink RX8 150 yX8_within : Cond) ∈ zw_x_best := List.mem_append_left _ (List.mem_of_getElem? (i := 1) rfl)
  have k_0 := hts _ m_0
  have m_1 : (.static yX8_within : Cond) ∈ zw_x_best := List.mem_append_left _ (List.mem_of_getElem? (i := 2) rfl)
  have k_1 := hts _ m_1
  have m_2 : (.initialized RX8 : Cond) ∈ zw_x_best := List.mem_append_left _ (List.mem_of_getElem? (i := 3) rfl)
  have k_2 := hts _ m_2
  have m_3 : (.methodLink RX8 244 yX8_canWalkIn : Cond) ∈ zw_x_best := List.mem_append_left _ (List.mem_of_getElem? (i := 4) rfl)
  have k_3 := hts _ m_3
  have m_4 : (.instanceMethod yX8_canWalkIn : Cond) ∈ zw_x_best := List.mem_append_left _ (List.mem_of_getElem? (i := 5) rfl)
  have k_4 := hts _ m_4
  have m_5 : (.selects RX8 yX8_canWalkIn yX8_canWalkIn : Cond) ∈ zw_x_best := List.mem_append_left _ (List.mem_of_getElem? (i := 6) rfl)
  have k_5 := hts _ m_5
  have g_c_within : ∀ w ∈ zw_c_within, w ∈ zw_x_best := fun w h => List.mem_append_right _ (List.mem_append_left _ h)
  have g_c_canWalkIn : ∀ w ∈ zw_c_canWalkIn, w ∈ zw_x_best := fun w h => List.mem_append_right _ (List.mem_append_right _ (List.mem_append_left _ h))
  have hl := lv_entry ([.ref x, .int a1, .int a2, .int a3, .int a4, .int a5]) (n := 12) (Nat.le_of_ble_eq_true rfl)
  rw [lg_entry_eq]
  generalize (lg_sl ([.ref x, .int a1, .int a2, .int a3, .int a4, .int a5]) ++ List.replicate (12 - (lg_sl ([.ref x, .int a1, .int a2, .int a3, .int a4, .int a5])).length) Slot.unset).toArray = ls at hl ⊢
  have hl : lv_has ls 12 [(0, .ref x), (1, .int a1), (2, .int a2), (3, .int a3), (4, .int a4), (5, .int a5)] := hl
  refine lv_iload_n hx hb dX8_best_0 rfl (lv_at hl 1 rfl) ?_
  refine lv_iconst (v := 1) hx hb dX8_best_1 (by decide) ?_
  refine lv_bipush (v := 6) hx hb dX8_best_2 (by decide) ?_
  have hPc := hP.sub (ws' := []) [] rfl
  have hDc := hD.sub (ws' := []) [] (by decide) rfl
  have hKc := hK.sub (tys' := []) [] rfl
  have hFc := va_free (wc := []) hD hS hA [] rfl
  refine va_calli (va_runS (As := [.int a1, .int 1, .int 6]) (rest := []) ⟨hx, hb, hml, hown, hts⟩ (c_within l dC dI s.heap.size a1 1 6) (va_cwS 3 hts (p1_gS m_0 m_1 m_2 g_c_within gz_c_within) rfl rfl rfl (by decide +kernel) ⟨by decide, by decide⟩) ⟨fun a U g mk q => by obtain ⟨q0, q1, qP, qK, qD⟩ := q; exact ⟨q0, q1, qP, va_K.moved (u := U) (U := U.calling g mk a) (Vm.Alike.refl U.vm) qK, qD⟩, fun U hU hW => ⟨rfl, by rw [hU], by rw [hU]; exact hPc, va_K.moved hW.alike hKc, hDc.weaken (fun _ _ _ _ => trivial)⟩⟩ rfl rfl hl.1 rfl (lv_room (Nat.le_of_ble_eq_true rfl)) dX8_best_4 ⟨by decide, by decide⟩) hS (fun q _ h => hFc q h) hFc (fun r_1 u t H1 locs ht hvm hw hB hz1 hk1 hS => ?_)
  obtain ⟨hP1, hK1, hD1⟩ := hB
  rw [ht] at hP1
  obtain ⟨hP, hD⟩ := va_join (wr := [(x, .inr (7, xs)), (sh, .inr (5, ss)), (sc, .inl (cS, 5, .inl (fun _ => 0)))]) (w1 := []) hP hD [] [0, 1, 2] rfl rfl (by decide) (by decide) hk1 hFc hP1 hD1
  generalize H1 = H at hP hS ⊢
  have hP : va_P (dC, dI) vwCl [(x, .inr (7, xs)), (sh, .inr (5, ss)), (sc, .inl (cS, 5, .inl (fun _ => 0)))] H := hP
  have hD : va_D A [(x, .inr (7, xs)), (sh, .inr (5, ss)), (sc, .inl (cS, 5, .inl (fun _ => 0)))] := hD
  try dsimp only at hw
  rcases hw with ⟨rfl, hw_2⟩ | ⟨rfl, hw_2⟩
  · refine lv_if_eq (tgt := 19) hx hb dX8_best_7 (by decide) (fun c9 => absurd c9 (by decide)) (fun _ => ?_)
    refine lv_aload_n hx hb dX8_best_10 rfl (lv_at hl 0 rfl) ?_
    refine lv_iload_n hx hb dX8_best_11 rfl (lv_at hl 2 rfl) ?_
    refine lv_iload_n hx hb dX8_best_12 rfl (lv_at hl 3 rfl) ?_
    have hPc := hP.sub (ws' := [(x, .inr (7, xs)), (sh, .inr (5, ss)), (sc, .inl (cS, 5, .inl (fun _ => 0)))]) [0, 1, 2] rfl
    have hDc := hD.sub (ws' := [(x, .inr (7, xs)), (sh, .inr (5, ss)), (sc, .inl (cS, 5, .inl (fun _ => 0)))]) [0, 1, 2] (by decide) rfl
    have hKc := hK.sub (tys' := [(cS, .int)]) [0] rfl
    have hFc := va_free (wc := [(x, .inr (7, xs)), (sh, .inr (5, ss)), (sc, .inl (cS, 5, .inl (fun _ => 0)))]) hD hS hA [0, 1, 2] rfl
    refine va_calli (va_runV (As := [.int a2, .int a3]) (rest := []) ⟨hx, hb, hml, hown, hts⟩ (c_canWalkIn l dC dI H.size x xs sh ss sc cS a2 a3 f_xs_9 f_ss_0) (cwV 2 hts (p1_gV m_3 m_4 m_5 m_2 g_c_canWalkIn gz_c_canWalkIn) rfl rfl rfl (by decide +kernel) ⟨by decide, by decide⟩) ⟨fun a U g mk q => by obtain ⟨q0, q1, qP, qK, qD⟩ := q; exact ⟨q0, q1, qP, va_K.moved (u := U) (U := U.calling g mk a) (Vm.Alike.refl U.vm) qK, qD⟩, va_recv hKc hPc (ci := 7) (q0 := 0) rfl rfl, fun U hU hW => ⟨rfl, by rw [hU], by rw [hU]; exact hPc, va_K.moved hW.alike hKc, hDc.weaken (fun _ _ _ _ => trivial)⟩⟩ rfl rfl hl.1 rfl (lv_room (Nat.le_of_ble_eq_true rfl)) dX8_best_13 ⟨by decide, by decide⟩) hS (fun q _ h => hFc q h) hFc (fun r_3 u t H1 locs ht hvm hw hB hz1 hk1 hS => ?_)
    obtain ⟨hP1, hK1, hD1⟩ := hB
    rw [ht] at hP1
    obtain ⟨hP, hD⟩ := va_join (wr := []) (w1 := [(x, .inr (7, xs)), (sh, .inr (5, ss)), (sc, .inl (cS, 5, .inl (fun _ => 0)))]) hP hD [0, 1, 2] [] rfl rfl (by decide) (by decide) hk1 hFc hP1 hD1
    generalize H1 = H at hP hS ⊢
    have hP : va_P (dC, dI) vwCl [(x, .inr (7, xs)), (sh, .inr (5, ss)), (sc, .inl (cS, 5, .inl (fun _ => 0)))] H := hP
    have hD : va_D A [(x, .inr (7, xs)), (sh, .inr (5, ss)), (sc, .inl (cS, 5, .inl (fun _ => 0)))] := hD
    try dsimp only at hw
    obtain rfl : r_3 = 0 := hw
    refine lv_if_ne (tgt := 21) hx hb dX8_best_16 (by decide) (fun c9 => absurd c9 (by decide)) (fun _ => ?_)
    refine lv_iconst (v := (-1)) hx hb dX8_best_19 (by decide) ?_
    have hP9 := hP.sub (ws' := []) [] rfl
    have hD9 := hD.sub (ws' := []) [] (by decide) rfl
    have hK9 := hK.sub (tys' := []) [] rfl
    exact W.iret (v := (-1)) hx hb hr (fun t ht hW => ⟨⟨(-1), (), rfl, rfl, by rw [ht]; exact hP9, va_K.moved hW.alike hK9, hD9⟩, hS.F ht⟩) hS.2.2 dX8_best_20
  · refine lv_if_eq (tgt := 19) hx hb dX8_best_7 (by decide) (fun _ => ?_) (fun c9 => absurd c9 (by decide))
    refine lv_iconst (v := (-1)) hx hb dX8_best_19 (by decide) ?_
    have hP9 := hP.sub (ws' := []) [] rfl
    have hD9 := hD.sub (ws' := []) [] (by decide) rfl
    have hK9 := hK.sub (tys' := []) [] rfl
    exact W.iret (v := (-1)) hx hb hr (fun t ht hW => ⟨⟨(-1), (), rfl, rfl, by rw [ht]; exact hP9, va_K.moved hW.alike hK9, hD9⟩, hS.F ht⟩) hS.2.2 dX8_best_20
def zo_x_both : List Cond := [.code yX8_both cX8_both 6 (some .int), .methodLink RX8 244 yX8_canWalkIn, .instanceMethod yX8_canWalkIn, .selects RX8 yX8_canWalkIn yX8_canWalkIn, .initialized RX8]
def zw_x_both : List Cond := zo_x_both ++ (zw_c_canWalkIn ++ [])
theorem gz_x_both : zw_x_both.all goodWord = true := p1_ga (by decide +kernel) (p1_ga gz_c_canWalkIn p1_g0)
theorem iz_x_both : ∀ w ∈ zw_x_both, w ∈ lw_tbl := p1_ia (p1_all [921, 814, 816, 29, 104] (by decide +kernel)) (p1_ia iz_c_canWalkIn p1_i0)
set_option maxHeartbeats 4000000 in
set_option maxRecDepth 100000 in
theorem x_both (l : Launch) (dC : Nat → ClassId) (dI : Nat → Nat → Nat) (sz : Nat) (x : Nat) (xs : List Value) (sh : Nat) (ss : List Value) (sc : Nat) (cS : ClassId) (a1 : Int32) (a2 : Int32) (f_xs_9 : xs[9]? = some (.ref sh)) (f_ss_0 : ss[0]? = some (.ref sc)) : Met l yX8_both zw_x_both ({ frames := 2, cells := 0, slots := 0, locals := 44 }) (va_Pc [.ref x, .int a1, .int a2] (fun U => U.heap.size = sz ∧ va_P (dC, dI) vwCl [(x, .inr (7, xs)), (sh, .inr (5, ss)), (sc, .inl (cS, 5, .inl (fun _ => 0)))] U.heap ∧ va_K (dC, dI) vwCl [(cS, .int)] U ∧ va_D (fun _ => True) [(x, .inr (7, xs)), (sh, .inr (5, ss)), (sc, .inl (cS, 5, .inl (fun _ => 0)))])) (va_Qi (fun (r : Int32) (_ : Unit) => r = (-1)) (fun _ t => va_P (dC, dI) vwCl [] t.heap ∧ va_K (dC, dI) vwCl [] t ∧ va_D (va_A [(x, .inr (7, xs)), (sh, .inr (5, ss)), (sc, .inl (cS, 5, .inl (fun _ => 0)))] sz) []) (va_A [(x, .inr (7, xs)), (sh, .inr (5, ss)), (sc, .inl (cS, 5, .inl (fun _ => 0)))] sz)) 0 0 (va_A [(x, .inr (7, xs)), (sh, .inr (5, ss)), (sc, .inl (cS, 5, .inl (fun _ => 0)))] sz) := by
  refine Met.ofW (cc := cX8_both) (maxL := 6) (ret := (some .int)) (by decide) rfl ?_
  intro p e s m args below meth c s₁ B hml hv
  obtain ⟨rfl, hsz, hP, hK, hD0⟩ := hv
  have hx := B.exec
  have hb := B.bytes
  have hr := B.returns
  have hts := atoms_spec (ws := zw_x_both) B.pre
  have hown : s.vm.findClass RX8 = some m.cls := findClass_of_methodNamed B.named
  have hlocks := B.notSynchronized
  subst hsz
  have hD := hD0.self (sz := s.heap.size)
  generalize hAe : va_A [(x, .inr (7, xs)), (sh, .inr (5, ss)), (sc, .inl (cS, 5, .inl (fun _ => 0)))] s.heap.size = A at hD ⊢
  have hA : ∀ q : Nat, s.heap.size ≤ q → A q := fun q h => by rw [← hAe]; exact Or.inr h
  have hS : va_S A s.heap s.heap [] := va_S.rf
  have hP : va_P (dC, dI) vwCl [(x, .inr (7, xs)), (sh, .inr (5, ss)), (sc, .inl (cS, 5, .inl (fun _ => 0)))] s.heap := hP
  have m_0 : (.methodLink RX8 244 yX8_canWalkIn : Cond) ∈ zw_x_both := List.mem_append_left _ (List.mem_of_getElem? (i := 1) rfl)
  have k_0 := hts _ m_0
  have m_1 : (.instanceMethod yX8_canWalkIn : Cond) ∈ zw_x_both := List.mem_append_left _ (List.mem_of_getElem? (i := 2) rfl)
  have k_1 := hts _ m_1
  have m_2 : (.selects RX8 yX8_canWalkIn yX8_canWalkIn : Cond) ∈ zw_x_both := List.mem_append_left _ (List.mem_of_getElem? (i := 3) rfl)
  have k_2 := hts _ m_2
  have m_3 : (.initialized RX8 : Cond) ∈ zw_x_both := List.mem_append_left _ (List.mem_of_getElem? (i := 4) rfl)
  have k_3 := hts _ m_3
  have g_c_canWalkIn : ∀ w ∈ zw_c_canWalkIn, w ∈ zw_x_both := fun w h => List.mem_append_right _ (List.mem_append_left _ h)
  have hl := lv_entry ([.ref x, .int a1, .int a2]) (n := 6) (Nat.le_of_ble_eq_true rfl)
  rw [lg_entry_eq]
  generalize (lg_sl ([.ref x, .int a1, .int a2]) ++ List.replicate (6 - (lg_sl ([.ref x, .int a1, .int a2])).length) Slot.unset).toArray = ls at hl ⊢
  have hl : lv_has ls 6 [(0, .ref x), (1, .int a1), (2, .int a2)] := hl
  refine lv_aload_n hx hb dX8_both_0 rfl (lv_at hl 0 rfl) ?_
  refine lv_iload_n hx hb dX8_both_1 rfl (lv_at hl 1 rfl) ?_
  refine lv_iload_n hx hb dX8_both_2 rfl (lv_at hl 2 rfl) ?_
  have hPc := hP.sub (ws' := [(x, .inr (7, xs)), (sh, .inr (5, ss)), (sc, .inl (cS, 5, .inl (fun _ => 0)))]) [0, 1, 2] rfl
  have hDc := hD.sub (ws' := [(x, .inr (7, xs)), (sh, .inr (5, ss)), (sc, .inl (cS, 5, .inl (fun _ => 0)))]) [0, 1, 2] (by decide) rfl
  have hKc := hK.sub (tys' := [(cS, .int)]) [0] rfl
  have hFc := va_free (wc := [(x, .inr (7, xs)), (sh, .inr (5, ss)), (sc, .inl (cS, 5, .inl (fun _ => 0)))]) hD hS hA [0, 1, 2] rfl
  refine va_calli (va_runV (As := [.int a1, .int a2]) (rest := []) ⟨hx, hb, hml, hown, hts⟩ (c_canWalkIn l dC dI s.heap.size x xs sh ss sc cS a1 a2 f_xs_9 f_ss_0) (cwV 2 hts (p1_gV m_0 m_1 m_2 m_3 g_c_canWalkIn gz_c_canWalkIn) rfl rfl rfl (by decide +kernel) ⟨by decide, by decide⟩) ⟨fun a U g mk q => by obtain ⟨q0, q1, qP, qK, qD⟩ := q; exact ⟨q0, q1, qP, va_K.moved (u := U) (U := U.calling g mk a) (Vm.Alike.refl U.vm) qK, qD⟩, va_recv hKc hPc (ci := 7) (q0 := 0) rfl rfl, fun U hU hW => ⟨rfl, by rw [hU], by rw [hU]; exact hPc, va_K.moved hW.alike hKc, hDc.weaken (fun _ _ _ _ => trivial)⟩⟩ rfl rfl hl.1 rfl (lv_room (Nat.le_of_ble_eq_true rfl)) dX8_both_3 ⟨by decide, by decide⟩) hS (fun q _ h => hFc q h) hFc (fun r_1 u t H1 locs ht hvm hw hB hz1 hk1 hS => ?_)
  obtain ⟨hP1, hK1, hD1⟩ := hB
  rw [ht] at hP1
  obtain ⟨hP, hD⟩ := va_join (wr := []) (w1 := [(x, .inr (7, xs)), (sh, .inr (5, ss)), (sc, .inl (cS, 5, .inl (fun _ => 0)))]) hP hD [0, 1, 2] [] rfl rfl (by decide) (by decide) hk1 hFc hP1 hD1
  generalize H1 = H at hP hS ⊢
  have hP : va_P (dC, dI) vwCl [(x, .inr (7, xs)), (sh, .inr (5, ss)), (sc, .inl (cS, 5, .inl (fun _ => 0)))] H := hP
  have hD : va_D A [(x, .inr (7, xs)), (sh, .inr (5, ss)), (sc, .inl (cS, 5, .inl (fun _ => 0)))] := hD
  try dsimp only at hw
  obtain rfl : r_1 = 0 := hw
  refine lv_if_ne (tgt := 11) hx hb dX8_both_6 (by decide) (fun c9 => absurd c9 (by decide)) (fun _ => ?_)
  refine lv_iconst (v := (-1)) hx hb dX8_both_9 (by decide) ?_
  have hP9 := hP.sub (ws' := []) [] rfl
  have hD9 := hD.sub (ws' := []) [] (by decide) rfl
  have hK9 := hK.sub (tys' := []) [] rfl
  exact W.iret (v := (-1)) hx hb hr (fun t ht hW => ⟨⟨(-1), (), rfl, rfl, by rw [ht]; exact hP9, va_K.moved hW.alike hK9, hD9⟩, hS.F ht⟩) hS.2.2 dX8_both_10
def zo_x_ends : List Cond := [.code yX8_ends cX8_ends 6 (some .int), .methodLink RX8 208 yX8_canTry, .instanceMethod yX8_canTry, .selects RX8 yX8_canTry yX8_canTry, .initialized RX8]
def zw_x_ends : List Cond := zo_x_ends ++ (zw_c_canTry ++ [])
theorem gz_x_ends : zw_x_ends.all goodWord = true := p1_ga (by decide +kernel) (p1_ga gz_c_canTry p1_g0)
theorem iz_x_ends : ∀ w ∈ zw_x_ends, w ∈ lw_tbl := p1_ia (p1_all [929, 810, 812, 28, 104] (by decide +kernel)) (p1_ia iz_c_canTry p1_i0)
set_option maxHeartbeats 4000000 in
set_option maxRecDepth 100000 in
theorem x_ends (l : Launch) (dC : Nat → ClassId) (dI : Nat → Nat → Nat) (sz : Nat) (x : Nat) (xs : List Value) (sh : Nat) (ss : List Value) (sc : Nat) (cS : ClassId) (a1 : Int32) (a2 : Int32) (a3 : Int32) (a4 : Int32) (f_xs_9 : xs[9]? = some (.ref sh)) (f_ss_0 : ss[0]? = some (.ref sc)) : Met l yX8_ends zw_x_ends ({ frames := 2, cells := 0, slots := 0, locals := 45 }) (va_Pc [.ref x, .int a1, .int a2, .int a3, .int a4] (fun U => U.heap.size = sz ∧ va_P (dC, dI) vwCl [(x, .inr (7, xs)), (sh, .inr (5, ss)), (sc, .inl (cS, 5, .inl (fun _ => 0)))] U.heap ∧ va_K (dC, dI) vwCl [(cS, .int)] U ∧ va_D (fun _ => True) [(x, .inr (7, xs)), (sh, .inr (5, ss)), (sc, .inl (cS, 5, .inl (fun _ => 0)))])) (va_Qi (fun (r : Int32) (_ : Unit) => r = (-1)) (fun _ t => va_P (dC, dI) vwCl [] t.heap ∧ va_K (dC, dI) vwCl [] t ∧ va_D (va_A [(x, .inr (7, xs)), (sh, .inr (5, ss)), (sc, .inl (cS, 5, .inl (fun _ => 0)))] sz) []) (va_A [(x, .inr (7, xs)), (sh, .inr (5, ss)), (sc, .inl (cS, 5, .inl (fun _ => 0)))] sz)) 0 0 (va_A [(x, .inr (7, xs)), (sh, .inr (5, ss)), (sc, .inl (cS, 5, .inl (fun _ => 0)))] sz) := by
  refine Met.ofW (cc := cX8_ends) (maxL := 6) (ret := (some .int)) (by decide) rfl ?_
  intro p e s m args below meth c s₁ B hml hv
  obtain ⟨rfl, hsz, hP, hK, hD0⟩ := hv
  have hx := B.exec
  have hb := B.bytes
  have hr := B.returns
  have hts := atoms_spec (ws := zw_x_ends) B.pre
  have hown : s.vm.findClass RX8 = some m.cls := findClass_of_methodNamed B.named
  have hlocks := B.notSynchronized
  subst hsz
  have hD := hD0.self (sz := s.heap.size)
  generalize hAe : va_A [(x, .inr (7, xs)), (sh, .inr (5, ss)), (sc, .inl (cS, 5, .inl (fun _ => 0)))] s.heap.size = A at hD ⊢
  have hA : ∀ q : Nat, s.heap.size ≤ q → A q := fun q h => by rw [← hAe]; exact Or.inr h
  have hS : va_S A s.heap s.heap [] := va_S.rf
  have hP : va_P (dC, dI) vwCl [(x, .inr (7, xs)), (sh, .inr (5, ss)), (sc, .inl (cS, 5, .inl (fun _ => 0)))] s.heap := hP
  have m_0 : (.methodLink RX8 208 yX8_canTry : Cond) ∈ zw_x_ends := List.mem_append_left _ (List.mem_of_getElem? (i := 1) rfl)
  have k_0 := hts _ m_0
  have m_1 : (.instanceMethod yX8_canTry : Cond) ∈ zw_x_ends := List.mem_append_left _ (List.mem_of_getElem? (i := 2) rfl)
  have k_1 := hts _ m_1
  have m_2 : (.selects RX8 yX8_canTry yX8_canTry : Cond) ∈ zw_x_ends := List.mem_append_left _ (List.mem_of_getElem? (i := 3) rfl)
  have k_2 := hts _ m_2
  have m_3 : (.initialized RX8 : Cond) ∈ zw_x_ends := List.mem_append_left _ (List.mem_of_getElem? (i := 4) rfl)
  have k_3 := hts _ m_3
  have g_c_canTry : ∀ w ∈ zw_c_canTry, w ∈ zw_x_ends := fun w h => List.mem_append_right _ (List.mem_append_left _ h)
  have hl := lv_entry ([.ref x, .int a1, .int a2, .int a3, .int a4]) (n := 6) (Nat.le_of_ble_eq_true rfl)
  rw [lg_entry_eq]
  generalize (lg_sl ([.ref x, .int a1, .int a2, .int a3, .int a4]) ++ List.replicate (6 - (lg_sl ([.ref x, .int a1, .int a2, .int a3, .int a4])).length) Slot.unset).toArray = ls at hl ⊢
  have hl : lv_has ls 6 [(0, .ref x), (1, .int a1), (2, .int a2), (3, .int a3), (4, .int a4)] := hl
  refine lv_aload_n hx hb dX8_ends_0 rfl (lv_at hl 0 rfl) ?_
  refine lv_iload_n hx hb dX8_ends_1 rfl (lv_at hl 1 rfl) ?_
  refine lv_iload_n hx hb dX8_ends_2 rfl (lv_at hl 2 rfl) ?_
  refine lv_iload_n hx hb dX8_ends_3 rfl (lv_at hl 3 rfl) ?_
  have hPc := hP.sub (ws' := [(x, .inr (7, xs)), (sh, .inr (5, ss)), (sc, .inl (cS, 5, .inl (fun _ => 0)))]) [0, 1, 2] rfl
  have hDc := hD.sub (ws' := [(x, .inr (7, xs)), (sh, .inr (5, ss)), (sc, .inl (cS, 5, .inl (fun _ => 0)))]) [0, 1, 2] (by decide) rfl
  have hKc := hK.sub (tys' := [(cS, .int)]) [0] rfl
  have hFc := va_free (wc := [(x, .inr (7, xs)), (sh, .inr (5, ss)), (sc, .inl (cS, 5, .inl (fun _ => 0)))]) hD hS hA [0, 1, 2] rfl
  refine va_calli (va_runV (As := [.int a1, .int a2, .int a3]) (rest := []) ⟨hx, hb, hml, hown, hts⟩ (c_canTry l dC dI s.heap.size x xs sh ss sc cS a1 a2 a3 f_xs_9 f_ss_0) (cwV 3 hts (p1_gV m_0 m_1 m_2 m_3 g_c_canTry gz_c_canTry) rfl rfl rfl (by decide +kernel) ⟨by decide, by decide⟩) ⟨fun a U g mk q => by obtain ⟨q0, q1, qP, qK, qD⟩ := q; exact ⟨q0, q1, qP, va_K.moved (u := U) (U := U.calling g mk a) (Vm.Alike.refl U.vm) qK, qD⟩, va_recv hKc hPc (ci := 7) (q0 := 0) rfl rfl, fun U hU hW => ⟨rfl, by rw [hU], by rw [hU]; exact hPc, va_K.moved hW.alike hKc, hDc.weaken (fun _ _ _ _ => trivial)⟩⟩ rfl rfl hl.1 rfl (lv_room (Nat.le_of_ble_eq_true rfl)) dX8_ends_4 ⟨by decide, by decide⟩) hS (fun q _ h => hFc q h) hFc (fun r_1 u t H1 locs ht hvm hw hB hz1 hk1 hS => ?_)
  obtain ⟨hP1, hK1, hD1⟩ := hB
  rw [ht] at hP1
  obtain ⟨hP, hD⟩ := va_join (wr := []) (w1 := [(x, .inr (7, xs)), (sh, .inr (5, ss)), (sc, .inl (cS, 5, .inl (fun _ => 0)))]) hP hD [0, 1, 2] [] rfl rfl (by decide) (by decide) hk1 hFc hP1 hD1
  generalize H1 = H at hP hS ⊢
  have hP : va_P (dC, dI) vwCl [(x, .inr (7, xs)), (sh, .inr (5, ss)), (sc, .inl (cS, 5, .inl (fun _ => 0)))] H := hP
  have hD : va_D A [(x, .inr (7, xs)), (sh, .inr (5, ss)), (sc, .inl (cS, 5, .inl (fun _ => 0)))] := hD
  try dsimp only at hw
  obtain rfl : r_1 = 0 := hw
  refine lv_if_eq (tgt := 22) hx hb dX8_ends_7 (by decide) (fun _ => ?_) (fun c9 => absurd c9 (by decide))
  refine lv_iconst (v := (-1)) hx hb dX8_ends_22 (by decide) ?_
  have hP9 := hP.sub (ws' := []) [] rfl
  have hD9 := hD.sub (ws' := []) [] (by decide) rfl
  have hK9 := hK.sub (tys' := []) [] rfl
  exact W.iret (v := (-1)) hx hb hr (fun t ht hW => ⟨⟨(-1), (), rfl, rfl, by rw [ht]; exact hP9, va_K.moved hW.alike hK9, hD9⟩, hS.F ht⟩) hS.2.2 dX8_ends_23
def zo_x_change : List Cond := [.code yX8_change cX8_change 9 (some .int), .methodLink RX8 208 yX8_canTry, .instanceMethod yX8_canTry, .selects RX8 yX8_canTry yX8_canTry, .initialized RX8]
def zw_x_change : List Cond := zo_x_change ++ (zw_c_canTry ++ [])
theorem gz_x_change : zw_x_change.all goodWord = true := p1_ga (by decide +kernel) (p1_ga gz_c_canTry p1_g0)
theorem iz_x_change : ∀ w ∈ zw_x_change, w ∈ lw_tbl := p1_ia (p1_all [933, 810, 812, 28, 104] (by decide +kernel)) (p1_ia iz_c_canTry p1_i0)
set_option maxHeartbeats 4000000 in
set_option maxRecDepth 100000 in
theorem x_change (l : Launch) (dC : Nat → ClassId) (dI : Nat → Nat → Nat) (sz : Nat) (x : Nat) (xs : List Value) (sh : Nat) (ss : List Value) (sc : Nat) (cS : ClassId) (a1 : Int32) (a2 : Int32) (a3 : Int32) (a4 : Int32) (a5 : Int32) (f_xs_9 : xs[9]? = some (.ref sh)) (f_ss_0 : ss[0]? = some (.ref sc)) : Met l yX8_change zw_x_change ({ frames := 2, cells := 0, slots := 0, locals := 45 }) (va_Pc [.ref x, .int a1, .int a2, .int a3, .int a4, .int a5] (fun U => U.heap.size = sz ∧ va_P (dC, dI) vwCl [(x, .inr (7, xs)), (sh, .inr (5, ss)), (sc, .inl (cS, 5, .inl (fun _ => 0)))] U.heap ∧ va_K (dC, dI) vwCl [(cS, .int)] U ∧ va_D (fun _ => True) [(x, .inr (7, xs)), (sh, .inr (5, ss)), (sc, .inl (cS, 5, .inl (fun _ => 0)))])) (va_Qi (fun (r : Int32) (_ : Unit) => r = (-1)) (fun _ t => va_P (dC, dI) vwCl [] t.heap ∧ va_K (dC, dI) vwCl [] t ∧ va_D (va_A [(x, .inr (7, xs)), (sh, .inr (5, ss)), (sc, .inl (cS, 5, .inl (fun _ => 0)))] sz) []) (va_A [(x, .inr (7, xs)), (sh, .inr (5, ss)), (sc, .inl (cS, 5, .inl (fun _ => 0)))] sz)) 0 0 (va_A [(x, .inr (7, xs)), (sh, .inr (5, ss)), (sc, .inl (cS, 5, .inl (fun _ => 0)))] sz) := by
  refine Met.ofW (cc := cX8_change) (maxL := 9) (ret := (some .int)) (by decide) rfl ?_
  intro p e s m args below meth c s₁ B hml hv
  obtain ⟨rfl, hsz, hP, hK, hD0⟩ := hv
  have hx := B.exec
  have hb := B.bytes
  have hr := B.returns
  have hts := atoms_spec (ws := zw_x_change) B.pre
  have hown : s.vm.findClass RX8 = some m.cls := findClass_of_methodNamed B.named
  have hlocks := B.notSynchronized
  subst hsz
  have hD := hD0.self (sz := s.heap.size)
  generalize hAe : va_A [(x, .inr (7, xs)), (sh, .inr (5, ss)), (sc, .inl (cS, 5, .inl (fun _ => 0)))] s.heap.size = A at hD ⊢
  have hA : ∀ q : Nat, s.heap.size ≤ q → A q := fun q h => by rw [← hAe]; exact Or.inr h
  have hS : va_S A s.heap s.heap [] := va_S.rf
  have hP : va_P (dC, dI) vwCl [(x, .inr (7, xs)), (sh, .inr (5, ss)), (sc, .inl (cS, 5, .inl (fun _ => 0)))] s.heap := hP
  have m_0 : (.methodLink RX8 208 yX8_canTry : Cond) ∈ zw_x_change := List.mem_append_left _ (List.mem_of_getElem? (i := 1) rfl)
  have k_0 := hts _ m_0
  have m_1 : (.instanceMethod yX8_canTry : Cond) ∈ zw_x_change := List.mem_append_left _ (List.mem_of_getElem? (i := 2) rfl)
  have k_1 := hts _ m_1
  have m_2 : (.selects RX8 yX8_canTry yX8_canTry : Cond) ∈ zw_x_change := List.mem_append_left _ (List.mem_of_getElem? (i := 3) rfl)
  have k_2 := hts _ m_2
  have m_3 : (.initialized RX8 : Cond) ∈ zw_x_change := List.mem_append_left _ (List.mem_of_getElem? (i := 4) rfl)
  have k_3 := hts _ m_3
  have g_c_canTry : ∀ w ∈ zw_c_canTry, w ∈ zw_x_change := fun w h => List.mem_append_right _ (List.mem_append_left _ h)
  have hl := lv_entry ([.ref x, .int a1, .int a2, .int a3, .int a4, .int a5]) (n := 9) (Nat.le_of_ble_eq_true rfl)
  rw [lg_entry_eq]
  generalize (lg_sl ([.ref x, .int a1, .int a2, .int a3, .int a4, .int a5]) ++ List.replicate (9 - (lg_sl ([.ref x, .int a1, .int a2, .int a3, .int a4, .int a5])).length) Slot.unset).toArray = ls at hl ⊢
  have hl : lv_has ls 9 [(0, .ref x), (1, .int a1), (2, .int a2), (3, .int a3), (4, .int a4), (5, .int a5)] := hl
  refine lv_aload_n hx hb dX8_change_0 rfl (lv_at hl 0 rfl) ?_
  refine lv_iload_n hx hb dX8_change_1 rfl (lv_at hl 1 rfl) ?_
  refine lv_iload_n hx hb dX8_change_2 rfl (lv_at hl 2 rfl) ?_
  refine lv_iload_n hx hb dX8_change_3 rfl (lv_at hl 3 rfl) ?_
  have hPc := hP.sub (ws' := [(x, .inr (7, xs)), (sh, .inr (5, ss)), (sc, .inl (cS, 5, .inl (fun _ => 0)))]) [0, 1, 2] rfl
  have hDc := hD.sub (ws' := [(x, .inr (7, xs)), (sh, .inr (5, ss)), (sc, .inl (cS, 5, .inl (fun _ => 0)))]) [0, 1, 2] (by decide) rfl
  have hKc := hK.sub (tys' := [(cS, .int)]) [0] rfl
  have hFc := va_free (wc := [(x, .inr (7, xs)), (sh, .inr (5, ss)), (sc, .inl (cS, 5, .inl (fun _ => 0)))]) hD hS hA [0, 1, 2] rfl
  refine va_calli (va_runV (As := [.int a1, .int a2, .int a3]) (rest := []) ⟨hx, hb, hml, hown, hts⟩ (c_canTry l dC dI s.heap.size x xs sh ss sc cS a1 a2 a3 f_xs_9 f_ss_0) (cwV 3 hts (p1_gV m_0 m_1 m_2 m_3 g_c_canTry gz_c_canTry) rfl rfl rfl (by decide +kernel) ⟨by decide, by decide⟩) ⟨fun a U g mk q => by obtain ⟨q0, q1, qP, qK, qD⟩ := q; exact ⟨q0, q1, qP, va_K.moved (u := U) (U := U.calling g mk a) (Vm.Alike.refl U.vm) qK, qD⟩, va_recv hKc hPc (ci := 7) (q0 := 0) rfl rfl, fun U hU hW => ⟨rfl, by rw [hU], by rw [hU]; exact hPc, va_K.moved hW.alike hKc, hDc.weaken (fun _ _ _ _ => trivial)⟩⟩ rfl rfl hl.1 rfl (lv_room (Nat.le_of_ble_eq_true rfl)) dX8_change_4 ⟨by decide, by decide⟩) hS (fun q _ h => hFc q h) hFc (fun r_1 u t H1 locs ht hvm hw hB hz1 hk1 hS => ?_)
  obtain ⟨hP1, hK1, hD1⟩ := hB
  rw [ht] at hP1
  obtain ⟨hP, hD⟩ := va_join (wr := []) (w1 := [(x, .inr (7, xs)), (sh, .inr (5, ss)), (sc, .inl (cS, 5, .inl (fun _ => 0)))]) hP hD [0, 1, 2] [] rfl rfl (by decide) (by decide) hk1 hFc hP1 hD1
  generalize H1 = H at hP hS ⊢
  have hP : va_P (dC, dI) vwCl [(x, .inr (7, xs)), (sh, .inr (5, ss)), (sc, .inl (cS, 5, .inl (fun _ => 0)))] H := hP
  have hD : va_D A [(x, .inr (7, xs)), (sh, .inr (5, ss)), (sc, .inl (cS, 5, .inl (fun _ => 0)))] := hD
  try dsimp only at hw
  obtain rfl : r_1 = 0 := hw
  refine lv_if_eq (tgt := 32) hx hb dX8_change_7 (by decide) (fun _ => ?_) (fun c9 => absurd c9 (by decide))
  refine lv_iconst (v := (-1)) hx hb dX8_change_32 (by decide) ?_
  have hP9 := hP.sub (ws' := []) [] rfl
  have hD9 := hD.sub (ws' := []) [] (by decide) rfl
  have hK9 := hK.sub (tys' := []) [] rfl
  exact W.iret (v := (-1)) hx hb hr (fun t ht hW => ⟨⟨(-1), (), rfl, rfl, by rw [ht]; exact hP9, va_K.moved hW.alike hK9, hD9⟩, hS.F ht⟩) hS.2.2 dX8_change_33
def zo_x_film : List Cond := [.code yX8_film cX8_film 7 (some .int), .fieldLink RX8 37 "BowWalk" "films" "LBowWalk$Films;", .fieldLink RX8 90 "BowWalk$Films" "count" "I", .fieldLink RX8 60 "BowWalk" "shop" "LBowWalk$Shop;", .methodLink RX8 104 yX5_has, .instanceMethod yX5_has, .selects RX5 yX5_has yX5_has, .initialized RX5]
def zw_x_film : List Cond := zo_x_film ++ (zw_c_has0 ++ (wsX80 ++ (wsX20 ++ [])))
theorem gz_x_film : zw_x_film.all goodWord = true := p1_ga (by decide +kernel) (p1_ga gz_c_has0 (p1_ga gk_X8 (p1_ga gk_X2 p1_g0)))
theorem iz_x_film : ∀ w ∈ zw_x_film, w ∈ lw_tbl := p1_ia (p1_all [941, 503, 457, 508, 714, 715, 716, 106] (by decide +kernel)) (p1_ia iz_c_has0 (p1_ia ik_X8 (p1_ia ik_X2 p1_i0)))
set_option maxHeartbeats 4000000 in
set_option maxRecDepth 100000 in
theorem x_film (l : Launch) (dC : Nat → ClassId) (dI : Nat → Nat → Nat) (sz : Nat) (x : Nat) (xs : List Value) (sh : Nat) (fl : Nat) (ss : List Value) (sc : Nat) (cS : ClassId) (ff : List Value) (a1 : Int32) (a2 : Int32) (a3 : Int32) (a4 : Int32) (a5 : Int32) (f_xs_9 : xs[9]? = some (.ref sh)) (f_xs_4 : xs[4]? = some (.ref fl)) (f_ss_0 : ss[0]? = some (.ref sc)) (f_ff_7 : ff[7]? = some (.int 0)) : Met l yX8_film zw_x_film ({ frames := 1, cells := 0, slots := 0, locals := 22 }) (va_Pc [.ref x, .int a1, .int a2, .int a3, .int a4, .int a5] (fun U => U.heap.size = sz ∧ va_P (dC, dI) vwCl [(x, .inr (7, xs)), (sh, .inr (5, ss)), (sc, .inl (cS, 5, .inl (fun _ => 0))), (fl, .inr (2, ff))] U.heap ∧ va_K (dC, dI) vwCl [(cS, .int)] U ∧ va_D (fun _ => True) [(x, .inr (7, xs)), (sh, .inr (5, ss)), (sc, .inl (cS, 5, .inl (fun _ => 0))), (fl, .inr (2, ff))])) (va_Qi (fun (r : Int32) (_ : Unit) => r = (-1)) (fun _ t => va_P (dC, dI) vwCl [] t.heap ∧ va_K (dC, dI) vwCl [] t ∧ va_D (va_A [(x, .inr (7, xs)), (sh, .inr (5, ss)), (sc, .inl (cS, 5, .inl (fun _ => 0))), (fl, .inr (2, ff))] sz) []) (va_A [(x, .inr (7, xs)), (sh, .inr (5, ss)), (sc, .inl (cS, 5, .inl (fun _ => 0))), (fl, .inr (2, ff))] sz)) 0 0 (va_A [(x, .inr (7, xs)), (sh, .inr (5, ss)), (sc, .inl (cS, 5, .inl (fun _ => 0))), (fl, .inr (2, ff))] sz) := by
  refine Met.ofW (cc := cX8_film) (maxL := 7) (ret := (some .int)) (by decide) rfl ?_
  intro p e s m args below meth c s₁ B hml hv
  obtain ⟨rfl, hsz, hP, hK, hD0⟩ := hv
  have hx := B.exec
  have hb := B.bytes
  have hr := B.returns
  have hts := atoms_spec (ws := zw_x_film) B.pre
  have hown : s.vm.findClass RX8 = some m.cls := findClass_of_methodNamed B.named
  have hlocks := B.notSynchronized
  subst hsz
  have hD := hD0.self (sz := s.heap.size)
  generalize hAe : va_A [(x, .inr (7, xs)), (sh, .inr (5, ss)), (sc, .inl (cS, 5, .inl (fun _ => 0))), (fl, .inr (2, ff))] s.heap.size = A at hD ⊢
  have hA : ∀ q : Nat, s.heap.size ≤ q → A q := fun q h => by rw [← hAe]; exact Or.inr h
  have hS : va_S A s.heap s.heap [] := va_S.rf
  have hP : va_P (dC, dI) vwCl [(x, .inr (7, xs)), (sh, .inr (5, ss)), (sc, .inl (cS, 5, .inl (fun _ => 0))), (fl, .inr (2, ff))] s.heap := hP
  have m_0 : (.fieldLink RX8 37 "BowWalk" "films" "LBowWalk$Films;" : Cond) ∈ zw_x_film := List.mem_append_left _ (List.mem_of_getElem? (i := 1) rfl)
  have k_0 := hts _ m_0
  have m_1 : (.fieldLink RX8 90 "BowWalk$Films" "count" "I" : Cond) ∈ zw_x_film := List.mem_append_left _ (List.mem_of_getElem? (i := 2) rfl)
  have k_1 := hts _ m_1
  have m_2 : (.fieldLink RX8 60 "BowWalk" "shop" "LBowWalk$Shop;" : Cond) ∈ zw_x_film := List.mem_append_left _ (List.mem_of_getElem? (i := 3) rfl)
  have k_2 := hts _ m_2
  have m_3 : (.methodLink RX8 104 yX5_has : Cond) ∈ zw_x_film := List.mem_append_left _ (List.mem_of_getElem? (i := 4) rfl)
  have k_3 := hts _ m_3
  have m_4 : (.instanceMethod yX5_has : Cond) ∈ zw_x_film := List.mem_append_left _ (List.mem_of_getElem? (i := 5) rfl)
  have k_4 := hts _ m_4
  have m_5 : (.selects RX5 yX5_has yX5_has : Cond) ∈ zw_x_film := List.mem_append_left _ (List.mem_of_getElem? (i := 6) rfl)
  have k_5 := hts _ m_5
  have m_6 : (.initialized RX5 : Cond) ∈ zw_x_film := List.mem_append_left _ (List.mem_of_getElem? (i := 7) rfl)
  have k_6 := hts _ m_6
  have g_c_has0 : ∀ w ∈ zw_c_has0, w ∈ zw_x_film := fun w h => List.mem_append_right _ (List.mem_append_left _ h)
  have i_X8 : ∀ w ∈ u_ws RX8 TX8 14, w ∈ zw_x_film := fun w h => List.mem_append_right _ (List.mem_append_right _ (List.mem_append_left _ h))
  have i_X2 : ∀ w ∈ u_ws RX2 TX2 8, w ∈ zw_x_film := fun w h => List.mem_append_right _ (List.mem_append_right _ (List.mem_append_right _ (List.mem_append_left _ h)))
  have hl := lv_entry ([.ref x, .int a1, .int a2, .int a3, .int a4, .int a5]) (n := 7) (Nat.le_of_ble_eq_true rfl)
  rw [lg_entry_eq]
  generalize (lg_sl ([.ref x, .int a1, .int a2, .int a3, .int a4, .int a5]) ++ List.replicate (7 - (lg_sl ([.ref x, .int a1, .int a2, .int a3, .int a4, .int a5])).length) Slot.unset).toArray = ls at hl ⊢
  have hl : lv_has ls 7 [(0, .ref x), (1, .int a1), (2, .int a2), (3, .int a3), (4, .int a4), (5, .int a5)] := hl
  refine lv_aload_n hx hb dX8_film_0 rfl (lv_at hl 0 rfl) ?_
  refine va_get (D := (dC, dI)) (ci := 7) (v := .ref fl) (C := RX8) (T := TX8) (N := 14) hx hb hts i_X8 hown hK hP 0 rfl rfl 4 (by decide) k_0 (fun _ h9 => h9) f_xs_4 dX8_film_1 ?_
  refine va_get (D := (dC, dI)) (ci := 2) (v := .int 0) (C := RX2) (T := TX2) (N := 8) hx hb hts i_X2 hown hK hP 3 rfl rfl 7 (by decide) k_1 (fun _ h9 => h9) f_ff_7 dX8_film_4 ?_
  refine lv_bipush (v := 40) hx hb dX8_film_7 (by decide) ?_
  refine lv_icmp_ge (tgt := 36) hx hb dX8_film_9 (by decide) (fun c9 => absurd c9 (by decide)) (fun _ => ?_)
  refine lv_aload_n hx hb dX8_film_12 rfl (lv_at hl 0 rfl) ?_
  refine va_get (D := (dC, dI)) (ci := 7) (v := .ref sh) (C := RX8) (T := TX8) (N := 14) hx hb hts i_X8 hown hK hP 0 rfl rfl 9 (by decide) k_2 (fun _ h9 => h9) f_xs_9 dX8_film_13 ?_
  refine lv_iconst (v := 0) hx hb dX8_film_16 (by decide) ?_
  refine lv_iload_n hx hb dX8_film_17 rfl (lv_at hl 1 rfl) ?_
  have hPc := hP.sub (ws' := [(sh, .inr (5, ss)), (sc, .inl (cS, 5, .inl (fun _ => 0)))]) [1, 2] rfl
  have hDc := hD.sub (ws' := [(sh, .inr (5, ss)), (sc, .inl (cS, 5, .inl (fun _ => 0)))]) [1, 2] (by decide) rfl
  have hKc := hK.sub (tys' := [(cS, .int)]) [0] rfl
  have hFc := va_free (wc := [(sh, .inr (5, ss)), (sc, .inl (cS, 5, .inl (fun _ => 0)))]) hD hS hA [1, 2] rfl
  refine va_calli (va_runV (As := [.int 0, .int a1]) (rest := []) ⟨hx, hb, hml, hown, hts⟩ (c_has0 l dC dI s.heap.size sh ss sc cS 0 a1 f_ss_0 (p1_in (i := 0) (n := 5) (by decide))) (cwV 2 hts (p1_gV m_3 m_4 m_5 m_6 g_c_has0 gz_c_has0) rfl rfl rfl (by decide +kernel) ⟨by decide, by decide⟩) ⟨fun a U g mk q => by obtain ⟨q0, q1, qP, qK, qD⟩ := q; exact ⟨q0, q1, qP, va_K.moved (u := U) (U := U.calling g mk a) (Vm.Alike.refl U.vm) qK, qD⟩, va_recv hKc hPc (ci := 5) (q0 := 0) rfl rfl, fun U hU hW => ⟨rfl, by rw [hU], by rw [hU]; exact hPc, va_K.moved hW.alike hKc, hDc.weaken (fun _ _ _ _ => trivial)⟩⟩ rfl rfl hl.1 rfl (lv_room (Nat.le_of_ble_eq_true rfl)) dX8_film_18 ⟨by decide, by decide⟩) hS (fun q _ h => hFc q h) hFc (fun r_1 u t H1 locs ht hvm hw hB hz1 hk1 hS => ?_)
  obtain ⟨hP1, hK1, hD1⟩ := hB
  rw [ht] at hP1
  obtain ⟨hP, hD⟩ := va_join (wr := [(x, .inr (7, xs)), (fl, .inr (2, ff))]) (w1 := [(sh, .inr (5, ss)), (sc, .inl (cS, 5, .inl (fun _ => 0)))]) hP hD [1, 2] [0, 3] rfl rfl (by decide) (by decide) hk1 hFc hP1 hD1
  generalize H1 = H at hP hS ⊢
  have hP : va_P (dC, dI) vwCl [(x, .inr (7, xs)), (fl, .inr (2, ff)), (sh, .inr (5, ss)), (sc, .inl (cS, 5, .inl (fun _ => 0)))] H := hP
  have hD : va_D A [(x, .inr (7, xs)), (fl, .inr (2, ff)), (sh, .inr (5, ss)), (sc, .inl (cS, 5, .inl (fun _ => 0)))] := hD
  try dsimp only at hw
  obtain rfl : r_1 = 0 := hw
  refine lv_if_eq (tgt := 36) hx hb dX8_film_21 (by decide) (fun _ => ?_) (fun c9 => absurd c9 (by decide))
  refine lv_iconst (v := (-1)) hx hb dX8_film_36 (by decide) ?_
  have hP9 := hP.sub (ws' := []) [] rfl
  have hD9 := hD.sub (ws' := []) [] (by decide) rfl
  have hK9 := hK.sub (tys' := []) [] rfl
  exact W.iret (v := (-1)) hx hb hr (fun t ht hW => ⟨⟨(-1), (), rfl, rfl, by rw [ht]; exact hP9, va_K.moved hW.alike hK9, hD9⟩, hS.F ht⟩) hS.2.2 dX8_film_37
def zo_x_untell : List Cond := [.code yX8_untell cX8_untell 2 (some .boolean), .fieldLink RX8 37 "BowWalk" "films" "LBowWalk$Films;", .fieldLink RX8 90 "BowWalk$Films" "count" "I", .methodLink RX8 150 yX8_within, .static yX8_within, .initialized RX8]
def zw_x_untell : List Cond := zo_x_untell ++ (zw_c_withinNeg ++ (wsX80 ++ (wsX20 ++ [])))
theorem gz_x_untell : zw_x_untell.all goodWord = true := p1_ga (by decide +kernel) (p1_ga gz_c_withinNeg (p1_ga gk_X8 (p1_ga gk_X2 p1_g0)))
theorem iz_x_untell : ∀ w ∈ zw_x_untell, w ∈ lw_tbl := p1_ia (p1_all [971, 503, 457, 749, 750, 104] (by decide +kernel)) (p1_ia iz_c_withinNeg (p1_ia ik_X8 (p1_ia ik_X2 p1_i0)))
set_option maxHeartbeats 4000000 in
set_option maxRecDepth 100000 in
theorem x_untell (l : Launch) (dC : Nat → ClassId) (dI : Nat → Nat → Nat) (sz : Nat) (x : Nat) (xs : List Value) (fl : Nat) (ff : List Value) (a1 : Int32) (f_xs_4 : xs[4]? = some (.ref fl)) (f_ff_7 : ff[7]? = some (.int 0)) : Met l yX8_untell zw_x_untell ({ frames := 1, cells := 0, slots := 0, locals := 22 }) (va_Pc [.ref x, .int a1] (fun U => U.heap.size = sz ∧ va_P (dC, dI) vwCl [(x, .inr (7, xs)), (fl, .inr (2, ff))] U.heap ∧ va_K (dC, dI) vwCl [] U ∧ va_D (fun _ => True) [(x, .inr (7, xs)), (fl, .inr (2, ff))])) (va_Qi (fun (r : Int32) (_ : Unit) => r = 0) (fun _ t => va_P (dC, dI) vwCl [] t.heap ∧ va_K (dC, dI) vwCl [] t ∧ va_D (va_A [(x, .inr (7, xs)), (fl, .inr (2, ff))] sz) []) (va_A [(x, .inr (7, xs)), (fl, .inr (2, ff))] sz)) 0 0 (va_A [(x, .inr (7, xs)), (fl, .inr (2, ff))] sz) := by
  refine Met.ofW (cc := cX8_untell) (maxL := 2) (ret := (some .boolean)) (by decide) rfl ?_
  intro p e s m args below meth c s₁ B hml hv
  obtain ⟨rfl, hsz, hP, hK, hD0⟩ := hv
  have hx := B.exec
  have hb := B.bytes
  have hr := B.returns
  have hts := atoms_spec (ws := zw_x_untell) B.pre
  have hown : s.vm.findClass RX8 = some m.cls := findClass_of_methodNamed B.named
  have hlocks := B.notSynchronized
  subst hsz
  have hD := hD0.self (sz := s.heap.size)
  generalize hAe : va_A [(x, .inr (7, xs)), (fl, .inr (2, ff))] s.heap.size = A at hD ⊢
  have hA : ∀ q : Nat, s.heap.size ≤ q → A q := fun q h => by rw [← hAe]; exact Or.inr h
  have hS : va_S A s.heap s.heap [] := va_S.rf
  have hP : va_P (dC, dI) vwCl [(x, .inr (7, xs)), (fl, .inr (2, ff))] s.heap := hP
  have m_0 : (.fieldLink RX8 37 "BowWalk" "films" "LBowWalk$Films;" : Cond) ∈ zw_x_untell := List.mem_append_left _ (List.mem_of_getElem? (i := 1) rfl)
  have k_0 := hts _ m_0
  have m_1 : (.fieldLink RX8 90 "BowWalk$Films" "count" "I" : Cond) ∈ zw_x_untell := List.mem_append_left _ (List.mem_of_getElem? (i := 2) rfl)
  have k_1 := hts _ m_1
  have m_2 : (.methodLink RX8 150 yX8_within : Cond) ∈ zw_x_untell := List.mem_append_left _ (List.mem_of_getElem? (i := 3) rfl)
  have k_2 := hts _ m_2
  have m_3 : (.static yX8_within : Cond) ∈ zw_x_untell := List.mem_append_left _ (List.mem_of_getElem? (i := 4) rfl)
  have k_3 := hts _ m_3
  have m_4 : (.initialized RX8 : Cond) ∈ zw_x_untell := List.mem_append_left _ (List.mem_of_getElem? (i := 5) rfl)
  have k_4 := hts _ m_4
  have g_c_withinNeg : ∀ w ∈ zw_c_withinNeg, w ∈ zw_x_untell := fun w h => List.mem_append_right _ (List.mem_append_left _ h)
  have i_X8 : ∀ w ∈ u_ws RX8 TX8 14, w ∈ zw_x_untell := fun w h => List.mem_append_right _ (List.mem_append_right _ (List.mem_append_left _ h))
  have i_X2 : ∀ w ∈ u_ws RX2 TX2 8, w ∈ zw_x_untell := fun w h => List.mem_append_right _ (List.mem_append_right _ (List.mem_append_right _ (List.mem_append_left _ h)))
  have hl := lv_entry ([.ref x, .int a1]) (n := 2) (Nat.le_of_ble_eq_true rfl)
  rw [lg_entry_eq]
  generalize (lg_sl ([.ref x, .int a1]) ++ List.replicate (2 - (lg_sl ([.ref x, .int a1])).length) Slot.unset).toArray = ls at hl ⊢
  have hl : lv_has ls 2 [(0, .ref x), (1, .int a1)] := hl
  refine lv_iload_n hx hb dX8_untell_0 rfl (lv_at hl 1 rfl) ?_
  refine lv_iconst (v := 0) hx hb dX8_untell_1 (by decide) ?_
  refine lv_aload_n hx hb dX8_untell_2 rfl (lv_at hl 0 rfl) ?_
  refine va_get (D := (dC, dI)) (ci := 7) (v := .ref fl) (C := RX8) (T := TX8) (N := 14) hx hb hts i_X8 hown hK hP 0 rfl rfl 4 (by decide) k_0 (fun _ h9 => h9) f_xs_4 dX8_untell_3 ?_
  refine va_get (D := (dC, dI)) (ci := 2) (v := .int 0) (C := RX2) (T := TX2) (N := 8) hx hb hts i_X2 hown hK hP 1 rfl rfl 7 (by decide) k_1 (fun _ h9 => h9) f_ff_7 dX8_untell_6 ?_
  refine lv_iconst (v := 1) hx hb dX8_untell_9 (by decide) ?_
  refine lv_isub hx hb dX8_untell_10 ?_
  refine lv_topi (fun v_1 ev_1 => ?_)
  obtain rfl : v_1 = (-1) := ev_1.trans (by decide)
  have hPc := hP.sub (ws' := []) [] rfl
  have hDc := hD.sub (ws' := []) [] (by decide) rfl
  have hKc := hK.sub (tys' := []) [] rfl
  have hFc := va_free (wc := []) hD hS hA [] rfl
  refine va_calli (va_runS (As := [.int a1, .int 0, .int (-1)]) (rest := []) ⟨hx, hb, hml, hown, hts⟩ (c_withinNeg l dC dI s.heap.size a1) (va_cwS 3 hts (p1_gS m_2 m_3 m_4 g_c_withinNeg gz_c_withinNeg) rfl rfl rfl (by decide +kernel) ⟨by decide, by decide⟩) ⟨fun a U g mk q => by obtain ⟨q0, q1, qP, qK, qD⟩ := q; exact ⟨q0, q1, qP, va_K.moved (u := U) (U := U.calling g mk a) (Vm.Alike.refl U.vm) qK, qD⟩, fun U hU hW => ⟨rfl, by rw [hU], by rw [hU]; exact hPc, va_K.moved hW.alike hKc, hDc.weaken (fun _ _ _ _ => trivial)⟩⟩ rfl rfl hl.1 rfl (lv_room (Nat.le_of_ble_eq_true rfl)) dX8_untell_11 ⟨by decide, by decide⟩) hS (fun q _ h => hFc q h) hFc (fun r_2 u t H1 locs ht hvm hw hB hz1 hk1 hS => ?_)
  obtain ⟨hP1, hK1, hD1⟩ := hB
  rw [ht] at hP1
  obtain ⟨hP, hD⟩ := va_join (wr := [(x, .inr (7, xs)), (fl, .inr (2, ff))]) (w1 := []) hP hD [] [0, 1] rfl rfl (by decide) (by decide) hk1 hFc hP1 hD1
  generalize H1 = H at hP hS ⊢
  have hP : va_P (dC, dI) vwCl [(x, .inr (7, xs)), (fl, .inr (2, ff))] H := hP
  have hD : va_D A [(x, .inr (7, xs)), (fl, .inr (2, ff))] := hD
  try dsimp only at hw
  obtain rfl : r_2 = 0 := hw
  refine lv_if_eq (tgt := 29) hx hb dX8_untell_14 (by decide) (fun _ => ?_) (fun c9 => absurd c9 (by decide))
  refine lv_iconst (v := 0) hx hb dX8_untell_29 (by decide) ?_
  have hP9 := hP.sub (ws' := []) [] rfl
  have hD9 := hD.sub (ws' := []) [] (by decide) rfl
  have hK9 := hK.sub (tys' := []) [] rfl
  exact W.zret (v := 0) hx hb hr (by decide) (fun t ht hW => ⟨⟨0, (), rfl, rfl, by rw [ht]; exact hP9, va_K.moved hW.alike hK9, hD9⟩, hS.F ht⟩) hS.2.2 dX8_untell_30
def zo_x_began : List Cond := [.code yX8_began cX8_began 3 (some .int), .fieldLink RX8 37 "BowWalk" "films" "LBowWalk$Films;", .fieldLink RX8 90 "BowWalk$Films" "count" "I", .methodLink RX8 150 yX8_within, .static yX8_within, .initialized RX8]
def zw_x_began : List Cond := zo_x_began ++ (zw_c_withinNeg ++ (wsX80 ++ (wsX20 ++ [])))
theorem gz_x_began : zw_x_began.all goodWord = true := p1_ga (by decide +kernel) (p1_ga gz_c_withinNeg (p1_ga gk_X8 (p1_ga gk_X2 p1_g0)))
theorem iz_x_began : ∀ w ∈ zw_x_began, w ∈ lw_tbl := p1_ia (p1_all [1000, 503, 457, 749, 750, 104] (by decide +kernel)) (p1_ia iz_c_withinNeg (p1_ia ik_X8 (p1_ia ik_X2 p1_i0)))
set_option maxHeartbeats 4000000 in
set_option maxRecDepth 100000 in
theorem x_began (l : Launch) (dC : Nat → ClassId) (dI : Nat → Nat → Nat) (sz : Nat) (x : Nat) (xs : List Value) (fl : Nat) (ff : List Value) (a1 : Int32) (a2 : Int32) (f_xs_4 : xs[4]? = some (.ref fl)) (f_ff_7 : ff[7]? = some (.int 0)) : Met l yX8_began zw_x_began ({ frames := 1, cells := 0, slots := 0, locals := 22 }) (va_Pc [.ref x, .int a1, .int a2] (fun U => U.heap.size = sz ∧ va_P (dC, dI) vwCl [(x, .inr (7, xs)), (fl, .inr (2, ff))] U.heap ∧ va_K (dC, dI) vwCl [] U ∧ va_D (fun _ => True) [(x, .inr (7, xs)), (fl, .inr (2, ff))])) (va_Qi (fun (r : Int32) (_ : Unit) => r = (-1)) (fun _ t => va_P (dC, dI) vwCl [] t.heap ∧ va_K (dC, dI) vwCl [] t ∧ va_D (va_A [(x, .inr (7, xs)), (fl, .inr (2, ff))] sz) []) (va_A [(x, .inr (7, xs)), (fl, .inr (2, ff))] sz)) 0 0 (va_A [(x, .inr (7, xs)), (fl, .inr (2, ff))] sz) := by
  refine Met.ofW (cc := cX8_began) (maxL := 3) (ret := (some .int)) (by decide) rfl ?_
  intro p e s m args below meth c s₁ B hml hv
  obtain ⟨rfl, hsz, hP, hK, hD0⟩ := hv
  have hx := B.exec
  have hb := B.bytes
  have hr := B.returns
  have hts := atoms_spec (ws := zw_x_began) B.pre
  have hown : s.vm.findClass RX8 = some m.cls := findClass_of_methodNamed B.named
  have hlocks := B.notSynchronized
  subst hsz
  have hD := hD0.self (sz := s.heap.size)
  generalize hAe : va_A [(x, .inr (7, xs)), (fl, .inr (2, ff))] s.heap.size = A at hD ⊢
  have hA : ∀ q : Nat, s.heap.size ≤ q → A q := fun q h => by rw [← hAe]; exact Or.inr h
  have hS : va_S A s.heap s.heap [] := va_S.rf
  have hP : va_P (dC, dI) vwCl [(x, .inr (7, xs)), (fl, .inr (2, ff))] s.heap := hP
  have m_0 : (.fieldLink RX8 37 "BowWalk" "films" "LBowWalk$Films;" : Cond) ∈ zw_x_began := List.mem_append_left _ (List.mem_of_getElem? (i := 1) rfl)
  have k_0 := hts _ m_0
  have m_1 : (.fieldLink RX8 90 "BowWalk$Films" "count" "I" : Cond) ∈ zw_x_began := List.mem_append_left _ (List.mem_of_getElem? (i := 2) rfl)
  have k_1 := hts _ m_1
  have m_2 : (.methodLink RX8 150 yX8_within : Cond) ∈ zw_x_began := List.mem_append_left _ (List.mem_of_getElem? (i := 3) rfl)
  have k_2 := hts _ m_2
  have m_3 : (.static yX8_within : Cond) ∈ zw_x_began := List.mem_append_left _ (List.mem_of_getElem? (i := 4) rfl)
  have k_3 := hts _ m_3
  have m_4 : (.initialized RX8 : Cond) ∈ zw_x_began := List.mem_append_left _ (List.mem_of_getElem? (i := 5) rfl)
  have k_4 := hts _ m_4
  have g_c_withinNeg : ∀ w ∈ zw_c_withinNeg, w ∈ zw_x_began := fun w h => List.mem_append_right _ (List.mem_append_left _ h)
  have i_X8 : ∀ w ∈ u_ws RX8 TX8 14, w ∈ zw_x_began := fun w h => List.mem_append_right _ (List.mem_append_right _ (List.mem_append_left _ h))
  have i_X2 : ∀ w ∈ u_ws RX2 TX2 8, w ∈ zw_x_began := fun w h => List.mem_append_right _ (List.mem_append_right _ (List.mem_append_right _ (List.mem_append_left _ h)))
  have hl := lv_entry ([.ref x, .int a1, .int a2]) (n := 3) (Nat.le_of_ble_eq_true rfl)
  rw [lg_entry_eq]
  generalize (lg_sl ([.ref x, .int a1, .int a2]) ++ List.replicate (3 - (lg_sl ([.ref x, .int a1, .int a2])).length) Slot.unset).toArray = ls at hl ⊢
  have hl : lv_has ls 3 [(0, .ref x), (1, .int a1), (2, .int a2)] := hl
  refine lv_iload_n hx hb dX8_began_0 rfl (lv_at hl 1 rfl) ?_
  refine lv_iconst (v := 0) hx hb dX8_began_1 (by decide) ?_
  refine lv_aload_n hx hb dX8_began_2 rfl (lv_at hl 0 rfl) ?_
  refine va_get (D := (dC, dI)) (ci := 7) (v := .ref fl) (C := RX8) (T := TX8) (N := 14) hx hb hts i_X8 hown hK hP 0 rfl rfl 4 (by decide) k_0 (fun _ h9 => h9) f_xs_4 dX8_began_3 ?_
  refine va_get (D := (dC, dI)) (ci := 2) (v := .int 0) (C := RX2) (T := TX2) (N := 8) hx hb hts i_X2 hown hK hP 1 rfl rfl 7 (by decide) k_1 (fun _ h9 => h9) f_ff_7 dX8_began_6 ?_
  refine lv_iconst (v := 1) hx hb dX8_began_9 (by decide) ?_
  refine lv_isub hx hb dX8_began_10 ?_
  refine lv_topi (fun v_1 ev_1 => ?_)
  obtain rfl : v_1 = (-1) := ev_1.trans (by decide)
  have hPc := hP.sub (ws' := []) [] rfl
  have hDc := hD.sub (ws' := []) [] (by decide) rfl
  have hKc := hK.sub (tys' := []) [] rfl
  have hFc := va_free (wc := []) hD hS hA [] rfl
  refine va_calli (va_runS (As := [.int a1, .int 0, .int (-1)]) (rest := []) ⟨hx, hb, hml, hown, hts⟩ (c_withinNeg l dC dI s.heap.size a1) (va_cwS 3 hts (p1_gS m_2 m_3 m_4 g_c_withinNeg gz_c_withinNeg) rfl rfl rfl (by decide +kernel) ⟨by decide, by decide⟩) ⟨fun a U g mk q => by obtain ⟨q0, q1, qP, qK, qD⟩ := q; exact ⟨q0, q1, qP, va_K.moved (u := U) (U := U.calling g mk a) (Vm.Alike.refl U.vm) qK, qD⟩, fun U hU hW => ⟨rfl, by rw [hU], by rw [hU]; exact hPc, va_K.moved hW.alike hKc, hDc.weaken (fun _ _ _ _ => trivial)⟩⟩ rfl rfl hl.1 rfl (lv_room (Nat.le_of_ble_eq_true rfl)) dX8_began_11 ⟨by decide, by decide⟩) hS (fun q _ h => hFc q h) hFc (fun r_2 u t H1 locs ht hvm hw hB hz1 hk1 hS => ?_)
  obtain ⟨hP1, hK1, hD1⟩ := hB
  rw [ht] at hP1
  obtain ⟨hP, hD⟩ := va_join (wr := [(x, .inr (7, xs)), (fl, .inr (2, ff))]) (w1 := []) hP hD [] [0, 1] rfl rfl (by decide) (by decide) hk1 hFc hP1 hD1
  generalize H1 = H at hP hS ⊢
  have hP : va_P (dC, dI) vwCl [(x, .inr (7, xs)), (fl, .inr (2, ff))] H := hP
  have hD : va_D A [(x, .inr (7, xs)), (fl, .inr (2, ff))] := hD
  try dsimp only at hw
  obtain rfl : r_2 = 0 := hw
  refine lv_if_eq (tgt := 28) hx hb dX8_began_14 (by decide) (fun _ => ?_) (fun c9 => absurd c9 (by decide))
  refine lv_iconst (v := (-1)) hx hb dX8_began_28 (by decide) ?_
  have hP9 := hP.sub (ws' := []) [] rfl
  have hD9 := hD.sub (ws' := []) [] (by decide) rfl
  have hK9 := hK.sub (tys' := []) [] rfl
  exact W.iret (v := (-1)) hx hb hr (fun t ht hW => ⟨⟨(-1), (), rfl, rfl, by rw [ht]; exact hP9, va_K.moved hW.alike hK9, hD9⟩, hS.F ht⟩) hS.2.2 dX8_began_29
def zo_x_parts : List Cond := [.code yX8_parts cX8_parts 10 (some .int), .fieldLink RX8 60 "BowWalk" "shop" "LBowWalk$Shop;", .methodLink RX8 104 yX5_has, .instanceMethod yX5_has, .selects RX5 yX5_has yX5_has, .initialized RX5]
def zw_x_parts : List Cond := zo_x_parts ++ (zw_c_has0 ++ (wsX80 ++ []))
theorem gz_x_parts : zw_x_parts.all goodWord = true := p1_ga (by decide +kernel) (p1_ga gz_c_has0 (p1_ga gk_X8 p1_g0))
theorem iz_x_parts : ∀ w ∈ zw_x_parts, w ∈ lw_tbl := p1_ia (p1_all [987, 508, 714, 715, 716, 106] (by decide +kernel)) (p1_ia iz_c_has0 (p1_ia ik_X8 p1_i0))
set_option maxHeartbeats 4000000 in
set_option maxRecDepth 100000 in
theorem x_parts (l : Launch) (dC : Nat → ClassId) (dI : Nat → Nat → Nat) (sz : Nat) (x : Nat) (xs : List Value) (sh : Nat) (ss : List Value) (sc : Nat) (cS : ClassId) (a1 : Int32) (a2 : Int32) (a3 : Int32) (a4 : Int32) (f_xs_9 : xs[9]? = some (.ref sh)) (f_ss_0 : ss[0]? = some (.ref sc)) : Met l yX8_parts zw_x_parts ({ frames := 1, cells := 0, slots := 0, locals := 22 }) (va_Pc [.ref x, .int a1, .int a2, .int a3, .int a4] (fun U => U.heap.size = sz ∧ va_P (dC, dI) vwCl [(x, .inr (7, xs)), (sh, .inr (5, ss)), (sc, .inl (cS, 5, .inl (fun _ => 0)))] U.heap ∧ va_K (dC, dI) vwCl [(cS, .int)] U ∧ va_D (fun _ => True) [(x, .inr (7, xs)), (sh, .inr (5, ss)), (sc, .inl (cS, 5, .inl (fun _ => 0)))])) (va_Qi (fun (r : Int32) (_ : Unit) => r = (-1)) (fun _ t => va_P (dC, dI) vwCl [] t.heap ∧ va_K (dC, dI) vwCl [] t ∧ va_D (va_A [(x, .inr (7, xs)), (sh, .inr (5, ss)), (sc, .inl (cS, 5, .inl (fun _ => 0)))] sz) []) (va_A [(x, .inr (7, xs)), (sh, .inr (5, ss)), (sc, .inl (cS, 5, .inl (fun _ => 0)))] sz)) 0 0 (va_A [(x, .inr (7, xs)), (sh, .inr (5, ss)), (sc, .inl (cS, 5, .inl (fun _ => 0)))] sz) := by
  refine Met.ofW (cc := cX8_parts) (maxL := 10) (ret := (some .int)) (by decide) rfl ?_
  intro p e s m args below meth c s₁ B hml hv
  obtain ⟨rfl, hsz, hP, hK, hD0⟩ := hv
  have hx := B.exec
  have hb := B.bytes
  have hr := B.returns
  have hts := atoms_spec (ws := zw_x_parts) B.pre
  have hown : s.vm.findClass RX8 = some m.cls := findClass_of_methodNamed B.named
  have hlocks := B.notSynchronized
  subst hsz
  have hD := hD0.self (sz := s.heap.size)
  generalize hAe : va_A [(x, .inr (7, xs)), (sh, .inr (5, ss)), (sc, .inl (cS, 5, .inl (fun _ => 0)))] s.heap.size = A at hD ⊢
  have hA : ∀ q : Nat, s.heap.size ≤ q → A q := fun q h => by rw [← hAe]; exact Or.inr h
  have hS : va_S A s.heap s.heap [] := va_S.rf
  have hP : va_P (dC, dI) vwCl [(x, .inr (7, xs)), (sh, .inr (5, ss)), (sc, .inl (cS, 5, .inl (fun _ => 0)))] s.heap := hP
  have m_0 : (.fieldLink RX8 60 "BowWalk" "shop" "LBowWalk$Shop;" : Cond) ∈ zw_x_parts := List.mem_append_left _ (List.mem_of_getElem? (i := 1) rfl)
  have k_0 := hts _ m_0
  have m_1 : (.methodLink RX8 104 yX5_has : Cond) ∈ zw_x_parts := List.mem_append_left _ (List.mem_of_getElem? (i := 2) rfl)
  have k_1 := hts _ m_1
  have m_2 : (.instanceMethod yX5_has : Cond) ∈ zw_x_parts := List.mem_append_left _ (List.mem_of_getElem? (i := 3) rfl)
  have k_2 := hts _ m_2
  have m_3 : (.selects RX5 yX5_has yX5_has : Cond) ∈ zw_x_parts := List.mem_append_left _ (List.mem_of_getElem? (i := 4) rfl)
  have k_3 := hts _ m_3
  have m_4 : (.initialized RX5 : Cond) ∈ zw_x_parts := List.mem_append_left _ (List.mem_of_getElem? (i := 5) rfl)
  have k_4 := hts _ m_4
  have g_c_has0 : ∀ w ∈ zw_c_has0, w ∈ zw_x_parts := fun w h => List.mem_append_right _ (List.mem_append_left _ h)
  have i_X8 : ∀ w ∈ u_ws RX8 TX8 14, w ∈ zw_x_parts := fun w h => List.mem_append_right _ (List.mem_append_right _ (List.mem_append_left _ h))
  have hl := lv_entry ([.ref x, .int a1, .int a2, .int a3, .int a4]) (n := 10) (Nat.le_of_ble_eq_true rfl)
  rw [lg_entry_eq]
  generalize (lg_sl ([.ref x, .int a1, .int a2, .int a3, .int a4]) ++ List.replicate (10 - (lg_sl ([.ref x, .int a1, .int a2, .int a3, .int a4])).length) Slot.unset).toArray = ls at hl ⊢
  have hl : lv_has ls 10 [(0, .ref x), (1, .int a1), (2, .int a2), (3, .int a3), (4, .int a4)] := hl
  refine lv_aload_n hx hb dX8_parts_0 rfl (lv_at hl 0 rfl) ?_
  refine va_get (D := (dC, dI)) (ci := 7) (v := .ref sh) (C := RX8) (T := TX8) (N := 14) hx hb hts i_X8 hown hK hP 0 rfl rfl 9 (by decide) k_0 (fun _ h9 => h9) f_xs_9 dX8_parts_1 ?_
  refine lv_iconst (v := 0) hx hb dX8_parts_4 (by decide) ?_
  refine lv_iload_n hx hb dX8_parts_5 rfl (lv_at hl 1 rfl) ?_
  have hPc := hP.sub (ws' := [(sh, .inr (5, ss)), (sc, .inl (cS, 5, .inl (fun _ => 0)))]) [1, 2] rfl
  have hDc := hD.sub (ws' := [(sh, .inr (5, ss)), (sc, .inl (cS, 5, .inl (fun _ => 0)))]) [1, 2] (by decide) rfl
  have hKc := hK.sub (tys' := [(cS, .int)]) [0] rfl
  have hFc := va_free (wc := [(sh, .inr (5, ss)), (sc, .inl (cS, 5, .inl (fun _ => 0)))]) hD hS hA [1, 2] rfl
  refine va_calli (va_runV (As := [.int 0, .int a1]) (rest := []) ⟨hx, hb, hml, hown, hts⟩ (c_has0 l dC dI s.heap.size sh ss sc cS 0 a1 f_ss_0 (p1_in (i := 0) (n := 5) (by decide))) (cwV 2 hts (p1_gV m_1 m_2 m_3 m_4 g_c_has0 gz_c_has0) rfl rfl rfl (by decide +kernel) ⟨by decide, by decide⟩) ⟨fun a U g mk q => by obtain ⟨q0, q1, qP, qK, qD⟩ := q; exact ⟨q0, q1, qP, va_K.moved (u := U) (U := U.calling g mk a) (Vm.Alike.refl U.vm) qK, qD⟩, va_recv hKc hPc (ci := 5) (q0 := 0) rfl rfl, fun U hU hW => ⟨rfl, by rw [hU], by rw [hU]; exact hPc, va_K.moved hW.alike hKc, hDc.weaken (fun _ _ _ _ => trivial)⟩⟩ rfl rfl hl.1 rfl (lv_room (Nat.le_of_ble_eq_true rfl)) dX8_parts_6 ⟨by decide, by decide⟩) hS (fun q _ h => hFc q h) hFc (fun r_1 u t H1 locs ht hvm hw hB hz1 hk1 hS => ?_)
  obtain ⟨hP1, hK1, hD1⟩ := hB
  rw [ht] at hP1
  obtain ⟨hP, hD⟩ := va_join (wr := [(x, .inr (7, xs))]) (w1 := [(sh, .inr (5, ss)), (sc, .inl (cS, 5, .inl (fun _ => 0)))]) hP hD [1, 2] [0] rfl rfl (by decide) (by decide) hk1 hFc hP1 hD1
  generalize H1 = H at hP hS ⊢
  have hP : va_P (dC, dI) vwCl [(x, .inr (7, xs)), (sh, .inr (5, ss)), (sc, .inl (cS, 5, .inl (fun _ => 0)))] H := hP
  have hD : va_D A [(x, .inr (7, xs)), (sh, .inr (5, ss)), (sc, .inl (cS, 5, .inl (fun _ => 0)))] := hD
  try dsimp only at hw
  obtain rfl : r_1 = 0 := hw
  refine lv_if_eq (tgt := 32) hx hb dX8_parts_9 (by decide) (fun _ => ?_) (fun c9 => absurd c9 (by decide))
  refine lv_iconst (v := (-1)) hx hb dX8_parts_32 (by decide) ?_
  have hP9 := hP.sub (ws' := []) [] rfl
  have hD9 := hD.sub (ws' := []) [] (by decide) rfl
  have hK9 := hK.sub (tys' := []) [] rfl
  exact W.iret (v := (-1)) hx hb hr (fun t ht hW => ⟨⟨(-1), (), rfl, rfl, by rw [ht]; exact hP9, va_K.moved hW.alike hK9, hD9⟩, hS.F ht⟩) hS.2.2 dX8_parts_33
def zo_x_seed : List Cond := [.code yX8_seed cX8_seed 3 (some .int), .fieldLink RX8 72 "BowWalk" "w" "I"]
def zw_x_seed : List Cond := zo_x_seed ++ (wsX80 ++ [])
theorem gz_x_seed : zw_x_seed.all goodWord = true := p1_ga (by decide +kernel) (p1_ga gk_X8 p1_g0)
theorem iz_x_seed : ∀ w ∈ zw_x_seed, w ∈ lw_tbl := p1_ia (p1_all [1008, 511] (by decide +kernel)) (p1_ia ik_X8 p1_i0)
set_option maxHeartbeats 4000000 in
set_option maxRecDepth 100000 in
theorem x_seed (l : Launch) (dC : Nat → ClassId) (dI : Nat → Nat → Nat) (sz : Nat) (x : Nat) (xs : List Value) (a1 : Int32) (f_xs_12 : xs[12]? = some (.int 1)) (l_xs : xs.length = 14) : Met l yX8_seed zw_x_seed ({ frames := 0, cells := 0, slots := 0, locals := 0 }) (va_Pc [.ref x, .int a1] (fun U => U.heap.size = sz ∧ va_P (dC, dI) vwCl [(x, .inr (7, xs))] U.heap ∧ va_K (dC, dI) vwCl [] U ∧ va_D (fun _ => True) [(x, .inr (7, xs))])) (va_Qi (fun (r : Int32) (_ : Unit) => r = 1) (fun _ t => va_P (dC, dI) vwCl [] t.heap ∧ va_K (dC, dI) vwCl [] t ∧ va_D (va_A [(x, .inr (7, xs))] sz) []) (va_A [(x, .inr (7, xs))] sz)) 0 0 (va_A [(x, .inr (7, xs))] sz) := by
  refine Met.ofW (cc := cX8_seed) (maxL := 3) (ret := (some .int)) (by decide) rfl ?_
  intro p e s m args below meth c s₁ B hml hv
  obtain ⟨rfl, hsz, hP, hK, hD0⟩ := hv
  have hx := B.exec
  have hb := B.bytes
  have hr := B.returns
  have hts := atoms_spec (ws := zw_x_seed) B.pre
  have hown : s.vm.findClass RX8 = some m.cls := findClass_of_methodNamed B.named
  have hlocks := B.notSynchronized
  subst hsz
  have hD := hD0.self (sz := s.heap.size)
  generalize hAe : va_A [(x, .inr (7, xs))] s.heap.size = A at hD ⊢
  have hA : ∀ q : Nat, s.heap.size ≤ q → A q := fun q h => by rw [← hAe]; exact Or.inr h
  have hS : va_S A s.heap s.heap [] := va_S.rf
  have hP : va_P (dC, dI) vwCl [(x, .inr (7, xs))] s.heap := hP
  have m_0 : (.fieldLink RX8 72 "BowWalk" "w" "I" : Cond) ∈ zw_x_seed := List.mem_append_left _ (List.mem_of_getElem? (i := 1) rfl)
  have k_0 := hts _ m_0
  have i_X8 : ∀ w ∈ u_ws RX8 TX8 14, w ∈ zw_x_seed := fun w h => List.mem_append_right _ (List.mem_append_left _ h)
  have hl := lv_entry ([.ref x, .int a1]) (n := 3) (Nat.le_of_ble_eq_true rfl)
  rw [lg_entry_eq]
  generalize (lg_sl ([.ref x, .int a1]) ++ List.replicate (3 - (lg_sl ([.ref x, .int a1])).length) Slot.unset).toArray = ls at hl ⊢
  have hl : lv_has ls 3 [(0, .ref x), (1, .int a1)] := hl
  refine lv_aload_n hx hb dX8_seed_0 rfl (lv_at hl 0 rfl) ?_
  refine va_get (D := (dC, dI)) (ci := 7) (v := .int 1) (C := RX8) (T := TX8) (N := 14) hx hb hts i_X8 hown hK hP 0 rfl rfl 12 (by decide) k_0 (fun _ h9 => h9) f_xs_12 dX8_seed_1 ?_
  refine lv_istore_n (lv' := [(2, .int 1), (0, .ref x), (1, .int a1)]) hx hb dX8_seed_4 rfl hl (by decide) rfl (fun ls hl => ?_)
  refine lv_aload_n hx hb dX8_seed_5 rfl (lv_at hl 1 rfl) ?_
  refine lv_iload_n hx hb dX8_seed_6 rfl (lv_at hl 2 rfl) ?_
  refine va_put (D := (dC, dI)) (ci := 7) (v := .int a1) (ty := .int) (C := RX8) (T := TX8) (N := 14) hx hb hts i_X8 tyX8 tyX8_ok nmX8 hown hK hP hD hS 0 rfl rfl 12 (by decide) k_0 (fun _ h9 => h9) rfl (by decide +kernel) rfl rfl (by rw [l_xs]; decide) dX8_seed_7 (fun H locs hP hD hS => ?_)
  have hP : va_P (dC, dI) vwCl [(x, .inr (7, (xs.set 12 (.int a1))))] H := hP
  have hD : va_D A [(x, .inr (7, (xs.set 12 (.int a1))))] := hD
  generalize efs_1 : (xs.set 12 (.int a1)) = fs_1 at hP hD
  have lfs_1 : fs_1.length = 14 := by rw [← efs_1, List.length_set]; exact l_xs
  have ffs_1_12 : fs_1[12]? = some (.int a1) := by rw [← efs_1]; exact p1_sa l_xs (by decide)
  refine lv_iload_n hx hb dX8_seed_10 rfl (lv_at hl 0 rfl) ?_
  have hP9 := hP.sub (ws' := []) [] rfl
  have hD9 := hD.sub (ws' := []) [] (by decide) rfl
  have hK9 := hK.sub (tys' := []) [] rfl
  exact W.iret (v := 1) hx hb hr (fun t ht hW => ⟨⟨1, (), rfl, rfl, by rw [ht]; exact hP9, va_K.moved hW.alike hK9, hD9⟩, hS.F ht⟩) hS.2.2 dX8_seed_11
def zo_x_end : List Cond := [.code yX8_end cX8_end 2 (some .int), .fieldLink RX8 64 "BowWalk" "tapeLength" "I"]
def zw_x_end : List Cond := zo_x_end ++ (wsX80 ++ [])
theorem gz_x_end : zw_x_end.all goodWord = true := p1_ga (by decide +kernel) (p1_ga gk_X8 p1_g0)
theorem iz_x_end : ∀ w ∈ zw_x_end, w ∈ lw_tbl := p1_ia (p1_all [553, 509] (by decide +kernel)) (p1_ia ik_X8 p1_i0)
set_option maxHeartbeats 4000000 in
set_option maxRecDepth 100000 in
theorem x_end (l : Launch) (dC : Nat → ClassId) (dI : Nat → Nat → Nat) (sz : Nat) (x : Nat) (xs : List Value) (a1 : Int32) (f_xs_10 : xs[10]? = some (.int 0)) (l_xs : xs.length = 14) : Met l yX8_end zw_x_end ({ frames := 0, cells := 0, slots := 0, locals := 0 }) (va_Pc [.ref x, .int a1] (fun U => U.heap.size = sz ∧ va_P (dC, dI) vwCl [(x, .inr (7, xs))] U.heap ∧ va_K (dC, dI) vwCl [] U ∧ va_D (fun _ => True) [(x, .inr (7, xs))])) (va_Qi (fun (r : Int32) (_ : Unit) => r = p1_end a1) (fun _ t => va_P (dC, dI) vwCl [] t.heap ∧ va_K (dC, dI) vwCl [] t ∧ va_D (va_A [(x, .inr (7, xs))] sz) []) (va_A [(x, .inr (7, xs))] sz)) 0 0 (va_A [(x, .inr (7, xs))] sz) := by
  refine Met.ofW (cc := cX8_end) (maxL := 2) (ret := (some .int)) (by decide) rfl ?_
  intro p e s m args below meth c s₁ B hml hv
  obtain ⟨rfl, hsz, hP, hK, hD0⟩ := hv
  have hx := B.exec
  have hb := B.bytes
  have hr := B.returns
  have hts := atoms_spec (ws := zw_x_end) B.pre
  have hown : s.vm.findClass RX8 = some m.cls := findClass_of_methodNamed B.named
  have hlocks := B.notSynchronized
  subst hsz
  have hD := hD0.self (sz := s.heap.size)
  generalize hAe : va_A [(x, .inr (7, xs))] s.heap.size = A at hD ⊢
  have hA : ∀ q : Nat, s.heap.size ≤ q → A q := fun q h => by rw [← hAe]; exact Or.inr h
  have hS : va_S A s.heap s.heap [] := va_S.rf
  have hP : va_P (dC, dI) vwCl [(x, .inr (7, xs))] s.heap := hP
  have m_0 : (.fieldLink RX8 64 "BowWalk" "tapeLength" "I" : Cond) ∈ zw_x_end := List.mem_append_left _ (List.mem_of_getElem? (i := 1) rfl)
  have k_0 := hts _ m_0
  have i_X8 : ∀ w ∈ u_ws RX8 TX8 14, w ∈ zw_x_end := fun w h => List.mem_append_right _ (List.mem_append_left _ h)
  have hl := lv_entry ([.ref x, .int a1]) (n := 2) (Nat.le_of_ble_eq_true rfl)
  rw [lg_entry_eq]
  generalize (lg_sl ([.ref x, .int a1]) ++ List.replicate (2 - (lg_sl ([.ref x, .int a1])).length) Slot.unset).toArray = ls at hl ⊢
  have hl : lv_has ls 2 [(0, .ref x), (1, .int a1)] := hl
  refine lv_iload_n hx hb dX8_end_0 rfl (lv_at hl 1 rfl) ?_
  refine lv_if_lt (tgt := 12) hx hb dX8_end_1 (by decide) (fun c1 => ?_) (fun c1 => ?_)
  · refine lv_iconst (v := (-1)) hx hb dX8_end_12 (by decide) ?_
    have hP9 := hP.sub (ws' := []) [] rfl
    have hD9 := hD.sub (ws' := []) [] (by decide) rfl
    have hK9 := hK.sub (tys' := []) [] rfl
    exact W.iret (v := (-1)) hx hb hr (fun t ht hW => ⟨⟨(-1), (), rfl, by first | exact p1_end_no (by assumption) (by assumption) | exact p1_end_lt (by assumption) | exact p1_end_gt (by assumption), by rw [ht]; exact hP9, va_K.moved hW.alike hK9, hD9⟩, hS.F ht⟩) hS.2.2 dX8_end_13
  · refine lv_iload_n hx hb dX8_end_4 rfl (lv_at hl 1 rfl) ?_
    refine lv_aload_n hx hb dX8_end_5 rfl (lv_at hl 0 rfl) ?_
    refine va_get (D := (dC, dI)) (ci := 7) (v := .int 0) (C := RX8) (T := TX8) (N := 14) hx hb hts i_X8 hown hK hP 0 rfl rfl 10 (by decide) k_0 (fun _ h9 => h9) f_xs_10 dX8_end_6 ?_
    refine lv_icmp_le (tgt := 14) hx hb dX8_end_9 (by decide) (fun c9 => ?_) (fun c9 => ?_)
    · refine lv_aload_n hx hb dX8_end_14 rfl (lv_at hl 0 rfl) ?_
      refine lv_iload_n hx hb dX8_end_15 rfl (lv_at hl 1 rfl) ?_
      refine va_put (D := (dC, dI)) (ci := 7) (v := .int a1) (ty := .int) (C := RX8) (T := TX8) (N := 14) hx hb hts i_X8 tyX8 tyX8_ok nmX8 hown hK hP hD hS 0 rfl rfl 10 (by decide) k_0 (fun _ h9 => h9) rfl (by decide +kernel) rfl rfl (by rw [l_xs]; decide) dX8_end_16 (fun H locs hP hD hS => ?_)
      have hP : va_P (dC, dI) vwCl [(x, .inr (7, (xs.set 10 (.int a1))))] H := hP
      have hD : va_D A [(x, .inr (7, (xs.set 10 (.int a1))))] := hD
      generalize efs_1 : (xs.set 10 (.int a1)) = fs_1 at hP hD
      have lfs_1 : fs_1.length = 14 := by rw [← efs_1, List.length_set]; exact l_xs
      have ffs_1_10 : fs_1[10]? = some (.int a1) := by rw [← efs_1]; exact p1_sa l_xs (by decide)
      refine lv_iload_n hx hb dX8_end_19 rfl (lv_at hl 1 rfl) ?_
      have hP9 := hP.sub (ws' := []) [] rfl
      have hD9 := hD.sub (ws' := []) [] (by decide) rfl
      have hK9 := hK.sub (tys' := []) [] rfl
      exact W.iret (v := a1) hx hb hr (fun t ht hW => ⟨⟨a1, (), rfl, by first | exact p1_end_no (by assumption) (by assumption) | exact p1_end_lt (by assumption) | exact p1_end_gt (by assumption), by rw [ht]; exact hP9, va_K.moved hW.alike hK9, hD9⟩, hS.F ht⟩) hS.2.2 dX8_end_20
    · refine lv_iconst (v := (-1)) hx hb dX8_end_12 (by decide) ?_
      have hP9 := hP.sub (ws' := []) [] rfl
      have hD9 := hD.sub (ws' := []) [] (by decide) rfl
      have hK9 := hK.sub (tys' := []) [] rfl
      exact W.iret (v := (-1)) hx hb hr (fun t ht hW => ⟨⟨(-1), (), rfl, by first | exact p1_end_no (by assumption) (by assumption) | exact p1_end_lt (by assumption) | exact p1_end_gt (by assumption), by rw [ht]; exact hP9, va_K.moved hW.alike hK9, hD9⟩, hS.F ht⟩) hS.2.2 dX8_end_13
def zo_x_later : List Cond := [.code yX8_later cX8_later 2 (some .int), .methodLink RX8 150 yX8_within, .static yX8_within, .initialized RX8, .fieldLink RX8 75 "BowWalk" "time" "I", .constant RX8 157 (100000)]
def zw_x_later : List Cond := zo_x_later ++ (zw_c_within ++ (wsX80 ++ []))
theorem gz_x_later : zw_x_later.all goodWord = true := p1_ga (by decide +kernel) (p1_ga gz_c_within (p1_ga gk_X8 p1_g0))
theorem iz_x_later : ∀ w ∈ zw_x_later, w ∈ lw_tbl := p1_ia (p1_all [975, 749, 750, 104, 512, 752] (by decide +kernel)) (p1_ia iz_c_within (p1_ia ik_X8 p1_i0))
set_option maxHeartbeats 4000000 in
set_option maxRecDepth 100000 in
theorem x_later (l : Launch) (dC : Nat → ClassId) (dI : Nat → Nat → Nat) (sz : Nat) (x : Nat) (xs : List Value) (a1 : Int32) (f_xs_13 : xs[13]? = some (.int 0)) (l_xs : xs.length = 14) : Met l yX8_later zw_x_later ({ frames := 1, cells := 0, slots := 0, locals := 22 }) (va_Pc [.ref x, .int a1] (fun U => U.heap.size = sz ∧ va_P (dC, dI) vwCl [(x, .inr (7, xs))] U.heap ∧ va_K (dC, dI) vwCl [] U ∧ va_D (fun _ => True) [(x, .inr (7, xs))])) (va_Qi (fun (r : Int32) (_ : Unit) => r = p1_later a1) (fun _ t => va_P (dC, dI) vwCl [] t.heap ∧ va_K (dC, dI) vwCl [] t ∧ va_D (va_A [(x, .inr (7, xs))] sz) []) (va_A [(x, .inr (7, xs))] sz)) 0 0 (va_A [(x, .inr (7, xs))] sz) := by
  refine Met.ofW (cc := cX8_later) (maxL := 2) (ret := (some .int)) (by decide) rfl ?_
  intro p e s m args below meth c s₁ B hml hv
  obtain ⟨rfl, hsz, hP, hK, hD0⟩ := hv
  have hx := B.exec
  have hb := B.bytes
  have hr := B.returns
  have hts := atoms_spec (ws := zw_x_later) B.pre
  have hown : s.vm.findClass RX8 = some m.cls := findClass_of_methodNamed B.named
  have hlocks := B.notSynchronized
  subst hsz
  have hD := hD0.self (sz := s.heap.size)
  generalize hAe : va_A [(x, .inr (7, xs))] s.heap.size = A at hD ⊢
  have hA : ∀ q : Nat, s.heap.size ≤ q → A q := fun q h => by rw [← hAe]; exact Or.inr h
  have hS : va_S A s.heap s.heap [] := va_S.rf
  have hP : va_P (dC, dI) vwCl [(x, .inr (7, xs))] s.heap := hP
  have m_0 : (.methodLink RX8 150 yX8_within : Cond) ∈ zw_x_later := List.mem_append_left _ (List.mem_of_getElem? (i := 1) rfl)
  have k_0 := hts _ m_0
  have m_1 : (.static yX8_within : Cond) ∈ zw_x_later := List.mem_append_left _ (List.mem_of_getElem? (i := 2) rfl)
  have k_1 := hts _ m_1
  have m_2 : (.initialized RX8 : Cond) ∈ zw_x_later := List.mem_append_left _ (List.mem_of_getElem? (i := 3) rfl)
  have k_2 := hts _ m_2
  have m_3 : (.fieldLink RX8 75 "BowWalk" "time" "I" : Cond) ∈ zw_x_later := List.mem_append_left _ (List.mem_of_getElem? (i := 4) rfl)
  have k_3 := hts _ m_3
  have m_4 : (.constant RX8 157 (100000) : Cond) ∈ zw_x_later := List.mem_append_left _ (List.mem_of_getElem? (i := 5) rfl)
  have k_4 := hts _ m_4
  have g_c_within : ∀ w ∈ zw_c_within, w ∈ zw_x_later := fun w h => List.mem_append_right _ (List.mem_append_left _ h)
  have i_X8 : ∀ w ∈ u_ws RX8 TX8 14, w ∈ zw_x_later := fun w h => List.mem_append_right _ (List.mem_append_right _ (List.mem_append_left _ h))
  have hl := lv_entry ([.ref x, .int a1]) (n := 2) (Nat.le_of_ble_eq_true rfl)
  rw [lg_entry_eq]
  generalize (lg_sl ([.ref x, .int a1]) ++ List.replicate (2 - (lg_sl ([.ref x, .int a1])).length) Slot.unset).toArray = ls at hl ⊢
  have hl : lv_has ls 2 [(0, .ref x), (1, .int a1)] := hl
  refine lv_iload_n hx hb dX8_later_0 rfl (lv_at hl 1 rfl) ?_
  refine lv_iconst (v := 0) hx hb dX8_later_1 (by decide) ?_
  refine lv_sipush (v := 1000) hx hb dX8_later_2 (by decide) ?_
  have hPc := hP.sub (ws' := []) [] rfl
  have hDc := hD.sub (ws' := []) [] (by decide) rfl
  have hKc := hK.sub (tys' := []) [] rfl
  have hFc := va_free (wc := []) hD hS hA [] rfl
  refine va_calli (va_runS (As := [.int a1, .int 0, .int 1000]) (rest := []) ⟨hx, hb, hml, hown, hts⟩ (c_within l dC dI s.heap.size a1 0 1000) (va_cwS 3 hts (p1_gS m_0 m_1 m_2 g_c_within gz_c_within) rfl rfl rfl (by decide +kernel) ⟨by decide, by decide⟩) ⟨fun a U g mk q => by obtain ⟨q0, q1, qP, qK, qD⟩ := q; exact ⟨q0, q1, qP, va_K.moved (u := U) (U := U.calling g mk a) (Vm.Alike.refl U.vm) qK, qD⟩, fun U hU hW => ⟨rfl, by rw [hU], by rw [hU]; exact hPc, va_K.moved hW.alike hKc, hDc.weaken (fun _ _ _ _ => trivial)⟩⟩ rfl rfl hl.1 rfl (lv_room (Nat.le_of_ble_eq_true rfl)) dX8_later_5 ⟨by decide, by decide⟩) hS (fun q _ h => hFc q h) hFc (fun r_1 u t H1 locs ht hvm hw hB hz1 hk1 hS => ?_)
  obtain ⟨hP1, hK1, hD1⟩ := hB
  rw [ht] at hP1
  obtain ⟨hP, hD⟩ := va_join (wr := [(x, .inr (7, xs))]) (w1 := []) hP hD [] [0] rfl rfl (by decide) (by decide) hk1 hFc hP1 hD1
  generalize H1 = H at hP hS ⊢
  have hP : va_P (dC, dI) vwCl [(x, .inr (7, xs))] H := hP
  have hD : va_D A [(x, .inr (7, xs))] := hD
  try dsimp only at hw
  rcases hw with ⟨rfl, hw_2⟩ | ⟨rfl, hw_2⟩
  · refine lv_if_eq (tgt := 22) hx hb dX8_later_8 (by decide) (fun c9 => absurd c9 (by decide)) (fun _ => ?_)
    refine lv_aload_n hx hb dX8_later_11 rfl (lv_at hl 0 rfl) ?_
    refine va_get (D := (dC, dI)) (ci := 7) (v := .int 0) (C := RX8) (T := TX8) (N := 14) hx hb hts i_X8 hown hK hP 0 rfl rfl 13 (by decide) k_3 (fun _ h9 => h9) f_xs_13 dX8_later_12 ?_
    refine lv_iload_n hx hb dX8_later_15 rfl (lv_at hl 1 rfl) ?_
    refine lv_iadd hx hb dX8_later_16 ?_
    refine lv_topi (fun v_3 ev_3 => ?_)
    refine lv_ldc (v := 100000) hx hb hown k_4 dX8_later_17 ?_
    refine lv_icmp_le (tgt := 24) hx hb dX8_later_19 (by decide) (fun c19 => ?_) (fun c19 => absurd c19 (fun z9 => z9 (p1_late hw_2 ev_3)))
    refine lv_aload_n hx hb dX8_later_24 rfl (lv_at hl 0 rfl) ?_
    refine lv_dup hx hb dX8_later_25 rfl ?_
    refine va_get (D := (dC, dI)) (ci := 7) (v := .int 0) (C := RX8) (T := TX8) (N := 14) hx hb hts i_X8 hown hK hP 0 rfl rfl 13 (by decide) k_3 (fun _ h9 => h9) f_xs_13 dX8_later_26 ?_
    refine lv_iload_n hx hb dX8_later_29 rfl (lv_at hl 1 rfl) ?_
    refine lv_iadd hx hb dX8_later_30 ?_
    refine lv_topi (fun v_4 ev_4 => ?_)
    refine va_put (D := (dC, dI)) (ci := 7) (v := .int v_4) (ty := .int) (C := RX8) (T := TX8) (N := 14) hx hb hts i_X8 tyX8 tyX8_ok nmX8 hown hK hP hD hS 0 rfl rfl 13 (by decide) k_3 (fun _ h9 => h9) rfl (by decide +kernel) rfl rfl (by rw [l_xs]; decide) dX8_later_31 (fun H locs hP hD hS => ?_)
    have hP : va_P (dC, dI) vwCl [(x, .inr (7, (xs.set 13 (.int v_4))))] H := hP
    have hD : va_D A [(x, .inr (7, (xs.set 13 (.int v_4))))] := hD
    generalize efs_5 : (xs.set 13 (.int v_4)) = fs_5 at hP hD
    have lfs_5 : fs_5.length = 14 := by rw [← efs_5, List.length_set]; exact l_xs
    have ffs_5_13 : fs_5[13]? = some (.int v_4) := by rw [← efs_5]; exact p1_sa l_xs (by decide)
    refine lv_aload_n hx hb dX8_later_34 rfl (lv_at hl 0 rfl) ?_
    refine va_get (D := (dC, dI)) (ci := 7) (v := .int v_4) (C := RX8) (T := TX8) (N := 14) hx hb hts i_X8 hown hK hP 0 rfl rfl 13 (by decide) k_3 (fun _ h9 => h9) ffs_5_13 dX8_later_35 ?_
    have hP9 := hP.sub (ws' := []) [] rfl
    have hD9 := hD.sub (ws' := []) [] (by decide) rfl
    have hK9 := hK.sub (tys' := []) [] rfl
    exact W.iret (v := v_4) hx hb hr (fun t ht hW => ⟨⟨v_4, (), rfl, by rw [p1_later, if_pos hw_2]; exact ev_4, by rw [ht]; exact hP9, va_K.moved hW.alike hK9, hD9⟩, hS.F ht⟩) hS.2.2 dX8_later_38
  · refine lv_if_eq (tgt := 22) hx hb dX8_later_8 (by decide) (fun _ => ?_) (fun c9 => absurd c9 (by decide))
    refine lv_iconst (v := (-1)) hx hb dX8_later_22 (by decide) ?_
    have hP9 := hP.sub (ws' := []) [] rfl
    have hD9 := hD.sub (ws' := []) [] (by decide) rfl
    have hK9 := hK.sub (tys' := []) [] rfl
    exact W.iret (v := (-1)) hx hb hr (fun t ht hW => ⟨⟨(-1), (), rfl, (if_neg hw_2).symm, by rw [ht]; exact hP9, va_K.moved hW.alike hK9, hD9⟩, hS.F ht⟩) hS.2.2 dX8_later_23
def zo_x_fault : List Cond := [.code yX8_fault cX8_fault 2 (some .int), .fieldLink RX8 16 "BowWalk" "reader" "LBowWalk$Reader;", .fieldLink RX8 101 "BowWalk$Reader" "faultPlace" "I", .fieldLink RX8 98 "BowWalk$Reader" "faultKind" "I"]
def zw_x_fault : List Cond := zo_x_fault ++ (wsX80 ++ (wsX40 ++ []))
theorem gz_x_fault : zw_x_fault.all goodWord = true := p1_ga (by decide +kernel) (p1_ga gk_X8 (p1_ga gk_X4 p1_g0))
theorem iz_x_fault : ∀ w ∈ zw_x_fault, w ∈ lw_tbl := p1_ia (p1_all [709, 500, 320, 318] (by decide +kernel)) (p1_ia ik_X8 (p1_ia ik_X4 p1_i0))
set_option maxHeartbeats 4000000 in
set_option maxRecDepth 100000 in
theorem x_fault (l : Launch) (dC : Nat → ClassId) (dI : Nat → Nat → Nat) (sz : Nat) (x : Nat) (xs : List Value) (rd : Nat) (rs : List Value) (a1 : Int32) (f_xs_1 : xs[1]? = some (.ref rd)) (f_rs_9 : rs[9]? = some (.int 0)) (f_rs_10 : rs[10]? = some (.int (-1))) : Met l yX8_fault zw_x_fault ({ frames := 0, cells := 0, slots := 0, locals := 0 }) (va_Pc [.ref x, .int a1] (fun U => U.heap.size = sz ∧ va_P (dC, dI) vwCl [(x, .inr (7, xs)), (rd, .inr (4, rs))] U.heap ∧ va_K (dC, dI) vwCl [] U ∧ va_D (fun _ => True) [(x, .inr (7, xs)), (rd, .inr (4, rs))])) (va_Qi (fun (r : Int32) (_ : Unit) => r = p1_fault a1) (fun _ t => va_P (dC, dI) vwCl [] t.heap ∧ va_K (dC, dI) vwCl [] t ∧ va_D (va_A [(x, .inr (7, xs)), (rd, .inr (4, rs))] sz) []) (va_A [(x, .inr (7, xs)), (rd, .inr (4, rs))] sz)) 0 0 (va_A [(x, .inr (7, xs)), (rd, .inr (4, rs))] sz) := by
  refine Met.ofW (cc := cX8_fault) (maxL := 2) (ret := (some .int)) (by decide) rfl ?_
  intro p e s m args below meth c s₁ B hml hv
  obtain ⟨rfl, hsz, hP, hK, hD0⟩ := hv
  have hx := B.exec
  have hb := B.bytes
  have hr := B.returns
  have hts := atoms_spec (ws := zw_x_fault) B.pre
  have hown : s.vm.findClass RX8 = some m.cls := findClass_of_methodNamed B.named
  have hlocks := B.notSynchronized
  subst hsz
  have hD := hD0.self (sz := s.heap.size)
  generalize hAe : va_A [(x, .inr (7, xs)), (rd, .inr (4, rs))] s.heap.size = A at hD ⊢
  have hA : ∀ q : Nat, s.heap.size ≤ q → A q := fun q h => by rw [← hAe]; exact Or.inr h
  have hS : va_S A s.heap s.heap [] := va_S.rf
  have hP : va_P (dC, dI) vwCl [(x, .inr (7, xs)), (rd, .inr (4, rs))] s.heap := hP
  have m_0 : (.fieldLink RX8 16 "BowWalk" "reader" "LBowWalk$Reader;" : Cond) ∈ zw_x_fault := List.mem_append_left _ (List.mem_of_getElem? (i := 1) rfl)
  have k_0 := hts _ m_0
  have m_1 : (.fieldLink RX8 101 "BowWalk$Reader" "faultPlace" "I" : Cond) ∈ zw_x_fault := List.mem_append_left _ (List.mem_of_getElem? (i := 2) rfl)
  have k_1 := hts _ m_1
  have m_2 : (.fieldLink RX8 98 "BowWalk$Reader" "faultKind" "I" : Cond) ∈ zw_x_fault := List.mem_append_left _ (List.mem_of_getElem? (i := 3) rfl)
  have k_2 := hts _ m_2
  have i_X8 : ∀ w ∈ u_ws RX8 TX8 14, w ∈ zw_x_fault := fun w h => List.mem_append_right _ (List.mem_append_left _ h)
  have i_X4 : ∀ w ∈ u_ws RX4 TX4 11, w ∈ zw_x_fault := fun w h => List.mem_append_right _ (List.mem_append_right _ (List.mem_append_left _ h))
  have hl := lv_entry ([.ref x, .int a1]) (n := 2) (Nat.le_of_ble_eq_true rfl)
  rw [lg_entry_eq]
  generalize (lg_sl ([.ref x, .int a1]) ++ List.replicate (2 - (lg_sl ([.ref x, .int a1])).length) Slot.unset).toArray = ls at hl ⊢
  have hl : lv_has ls 2 [(0, .ref x), (1, .int a1)] := hl
  refine lv_iload_n hx hb dX8_fault_0 rfl (lv_at hl 1 rfl) ?_
  refine lv_if_ne (tgt := 12) hx hb dX8_fault_1 (by decide) (fun c1 => ?_) (fun c1 => ?_)
  · refine lv_iload_n hx hb dX8_fault_12 rfl (lv_at hl 1 rfl) ?_
    refine lv_iconst (v := 1) hx hb dX8_fault_13 (by decide) ?_
    refine lv_icmp_ne (tgt := 27) hx hb dX8_fault_14 (by decide) (fun c14 => ?_) (fun c14 => ?_)
    · refine lv_iconst (v := (-1)) hx hb dX8_fault_27 (by decide) ?_
      have hP9 := hP.sub (ws' := []) [] rfl
      have hD9 := hD.sub (ws' := []) [] (by decide) rfl
      have hK9 := hK.sub (tys' := []) [] rfl
      exact W.iret (v := (-1)) hx hb hr (fun t ht hW => ⟨⟨(-1), (), rfl, by simp only [p1_fault]; first | exact (if_pos (by assumption)).symm | exact (if_neg (by assumption)).symm, by rw [ht]; exact hP9, va_K.moved hW.alike hK9, hD9⟩, hS.F ht⟩) hS.2.2 dX8_fault_28
    · refine lv_aload_n hx hb dX8_fault_17 rfl (lv_at hl 0 rfl) ?_
      refine va_get (D := (dC, dI)) (ci := 7) (v := .ref rd) (C := RX8) (T := TX8) (N := 14) hx hb hts i_X8 hown hK hP 0 rfl rfl 1 (by decide) k_0 (fun _ h9 => h9) f_xs_1 dX8_fault_18 ?_
      refine va_get (D := (dC, dI)) (ci := 4) (v := .int (-1)) (C := RX4) (T := TX4) (N := 11) hx hb hts i_X4 hown hK hP 1 rfl rfl 10 (by decide) k_1 (fun _ h9 => h9) f_rs_10 dX8_fault_21 ?_
      refine lv_goto (tgt := 28) hx hb dX8_fault_24 (by decide) ?_
      have hP9 := hP.sub (ws' := []) [] rfl
      have hD9 := hD.sub (ws' := []) [] (by decide) rfl
      have hK9 := hK.sub (tys' := []) [] rfl
      exact W.iret (v := (-1)) hx hb hr (fun t ht hW => ⟨⟨(-1), (), rfl, by simp only [p1_fault]; first | exact (if_pos (by assumption)).symm | exact (if_neg (by assumption)).symm, by rw [ht]; exact hP9, va_K.moved hW.alike hK9, hD9⟩, hS.F ht⟩) hS.2.2 dX8_fault_28
  · refine lv_aload_n hx hb dX8_fault_4 rfl (lv_at hl 0 rfl) ?_
    refine va_get (D := (dC, dI)) (ci := 7) (v := .ref rd) (C := RX8) (T := TX8) (N := 14) hx hb hts i_X8 hown hK hP 0 rfl rfl 1 (by decide) k_0 (fun _ h9 => h9) f_xs_1 dX8_fault_5 ?_
    refine va_get (D := (dC, dI)) (ci := 4) (v := .int 0) (C := RX4) (T := TX4) (N := 11) hx hb hts i_X4 hown hK hP 1 rfl rfl 9 (by decide) k_2 (fun _ h9 => h9) f_rs_9 dX8_fault_8 ?_
    have hP9 := hP.sub (ws' := []) [] rfl
    have hD9 := hD.sub (ws' := []) [] (by decide) rfl
    have hK9 := hK.sub (tys' := []) [] rfl
    exact W.iret (v := 0) hx hb hr (fun t ht hW => ⟨⟨0, (), rfl, by simp only [p1_fault]; first | exact (if_pos (by assumption)).symm | exact (if_neg (by assumption)).symm, by rw [ht]; exact hP9, va_K.moved hW.alike hK9, hD9⟩, hS.F ht⟩) hS.2.2 dX8_fault_11
def zo_x_about : List Cond := [.code yX8_about cX8_about 2 (some .int), .fieldLink RX8 60 "BowWalk" "shop" "LBowWalk$Shop;", .fieldLink RX8 96 "BowWalk$Shop" "count" "[I", .fieldLink RX8 37 "BowWalk" "films" "LBowWalk$Films;", .fieldLink RX8 90 "BowWalk$Films" "count" "I", .fieldLink RX8 75 "BowWalk" "time" "I", .fieldLink RX8 64 "BowWalk" "tapeLength" "I", .fieldLink RX8 72 "BowWalk" "w" "I", .fieldLink RX8 181 "BowWalk$Shop" "laws" "LBowWalk$Laws;", .fieldLink RX8 329 "BowWalk$Laws" "units" "I"]
def zw_x_about : List Cond := zo_x_about ++ (wsX80 ++ (wsX50 ++ (wsX20 ++ (wsX30 ++ []))))
theorem gz_x_about : zw_x_about.all goodWord = true := p1_ga (by decide +kernel) (p1_ga gk_X8 (p1_ga gk_X5 (p1_ga gk_X2 (p1_ga gk_X3 p1_g0))))
theorem iz_x_about : ∀ w ∈ zw_x_about, w ∈ lw_tbl := p1_ia (p1_all [1026, 508, 176, 503, 457, 512, 509, 511, 215, 157] (by decide +kernel)) (p1_ia ik_X8 (p1_ia ik_X5 (p1_ia ik_X2 (p1_ia ik_X3 p1_i0))))
set_option maxHeartbeats 4000000 in
set_option maxRecDepth 100000 in
theorem x_about (l : Launch) (dC : Nat → ClassId) (dI : Nat → Nat → Nat) (sz : Nat) (x : Nat) (xs : List Value) (sh : Nat) (fl : Nat) (ss : List Value) (sc : Nat) (lw : Nat) (cS : ClassId) (ff : List Value) (lf : List Value) (a1 : Int32) (f_xs_9 : xs[9]? = some (.ref sh)) (f_xs_4 : xs[4]? = some (.ref fl)) (f_xs_13 : xs[13]? = some (.int 0)) (f_xs_10 : xs[10]? = some (.int 0)) (f_xs_12 : xs[12]? = some (.int 1)) (f_ss_0 : ss[0]? = some (.ref sc)) (f_ss_12 : ss[12]? = some (.ref lw)) (f_ff_7 : ff[7]? = some (.int 0)) (f_lf_5 : lf[5]? = some (.int 0)) : Met l yX8_about zw_x_about ({ frames := 0, cells := 0, slots := 0, locals := 0 }) (va_Pc [.ref x, .int a1] (fun U => U.heap.size = sz ∧ va_P (dC, dI) vwCl [(x, .inr (7, xs)), (sh, .inr (5, ss)), (sc, .inl (cS, 5, .inl (fun _ => 0))), (fl, .inr (2, ff)), (lw, .inr (3, lf))] U.heap ∧ va_K (dC, dI) vwCl [(cS, .int)] U ∧ va_D (fun _ => True) [(x, .inr (7, xs)), (sh, .inr (5, ss)), (sc, .inl (cS, 5, .inl (fun _ => 0))), (fl, .inr (2, ff)), (lw, .inr (3, lf))])) (va_Qi (fun (r : Int32) (_ : Unit) => r = p1_about a1) (fun _ t => va_P (dC, dI) vwCl [] t.heap ∧ va_K (dC, dI) vwCl [] t ∧ va_D (va_A [(x, .inr (7, xs)), (sh, .inr (5, ss)), (sc, .inl (cS, 5, .inl (fun _ => 0))), (fl, .inr (2, ff)), (lw, .inr (3, lf))] sz) []) (va_A [(x, .inr (7, xs)), (sh, .inr (5, ss)), (sc, .inl (cS, 5, .inl (fun _ => 0))), (fl, .inr (2, ff)), (lw, .inr (3, lf))] sz)) 0 0 (va_A [(x, .inr (7, xs)), (sh, .inr (5, ss)), (sc, .inl (cS, 5, .inl (fun _ => 0))), (fl, .inr (2, ff)), (lw, .inr (3, lf))] sz) := by
  refine Met.ofW (cc := cX8_about) (maxL := 2) (ret := (some .int)) (by decide) rfl ?_
  intro p e s m args below meth c s₁ B hml hv
  obtain ⟨rfl, hsz, hP, hK, hD0⟩ := hv
  have hx := B.exec
  have hb := B.bytes
  have hr := B.returns
  have hts := atoms_spec (ws := zw_x_about) B.pre
  have hown : s.vm.findClass RX8 = some m.cls := findClass_of_methodNamed B.named
  have hlocks := B.notSynchronized
  subst hsz
  have hD := hD0.self (sz := s.heap.size)
  generalize hAe : va_A [(x, .inr (7, xs)), (sh, .inr (5, ss)), (sc, .inl (cS, 5, .inl (fun _ => 0))), (fl, .inr (2, ff)), (lw, .inr (3, lf))] s.heap.size = A at hD ⊢
  have hA : ∀ q : Nat, s.heap.size ≤ q → A q := fun q h => by rw [← hAe]; exact Or.inr h
  have hS : va_S A s.heap s.heap [] := va_S.rf
  have hP : va_P (dC, dI) vwCl [(x, .inr (7, xs)), (sh, .inr (5, ss)), (sc, .inl (cS, 5, .inl (fun _ => 0))), (fl, .inr (2, ff)), (lw, .inr (3, lf))] s.heap := hP
  have m_0 : (.fieldLink RX8 60 "BowWalk" "shop" "LBowWalk$Shop;" : Cond) ∈ zw_x_about := List.mem_append_left _ (List.mem_of_getElem? (i := 1) rfl)
  have k_0 := hts _ m_0
  have m_1 : (.fieldLink RX8 96 "BowWalk$Shop" "count" "[I" : Cond) ∈ zw_x_about := List.mem_append_left _ (List.mem_of_getElem? (i := 2) rfl)
  have k_1 := hts _ m_1
  have m_2 : (.fieldLink RX8 37 "BowWalk" "films" "LBowWalk$Films;" : Cond) ∈ zw_x_about := List.mem_append_left _ (List.mem_of_getElem? (i := 3) rfl)
  have k_2 := hts _ m_2
  have m_3 : (.fieldLink RX8 90 "BowWalk$Films" "count" "I" : Cond) ∈ zw_x_about := List.mem_append_left _ (List.mem_of_getElem? (i := 4) rfl)
  have k_3 := hts _ m_3
  have m_4 : (.fieldLink RX8 75 "BowWalk" "time" "I" : Cond) ∈ zw_x_about := List.mem_append_left _ (List.mem_of_getElem? (i := 5) rfl)
  have k_4 := hts _ m_4
  have m_5 : (.fieldLink RX8 64 "BowWalk" "tapeLength" "I" : Cond) ∈ zw_x_about := List.mem_append_left _ (List.mem_of_getElem? (i := 6) rfl)
  have k_5 := hts _ m_5
  have m_6 : (.fieldLink RX8 72 "BowWalk" "w" "I" : Cond) ∈ zw_x_about := List.mem_append_left _ (List.mem_of_getElem? (i := 7) rfl)
  have k_6 := hts _ m_6
  have m_7 : (.fieldLink RX8 181 "BowWalk$Shop" "laws" "LBowWalk$Laws;" : Cond) ∈ zw_x_about := List.mem_append_left _ (List.mem_of_getElem? (i := 8) rfl)
  have k_7 := hts _ m_7
  have m_8 : (.fieldLink RX8 329 "BowWalk$Laws" "units" "I" : Cond) ∈ zw_x_about := List.mem_append_left _ (List.mem_of_getElem? (i := 9) rfl)
  have k_8 := hts _ m_8
  have i_X8 : ∀ w ∈ u_ws RX8 TX8 14, w ∈ zw_x_about := fun w h => List.mem_append_right _ (List.mem_append_left _ h)
  have i_X5 : ∀ w ∈ u_ws RX5 TX5 15, w ∈ zw_x_about := fun w h => List.mem_append_right _ (List.mem_append_right _ (List.mem_append_left _ h))
  have i_X2 : ∀ w ∈ u_ws RX2 TX2 8, w ∈ zw_x_about := fun w h => List.mem_append_right _ (List.mem_append_right _ (List.mem_append_right _ (List.mem_append_left _ h)))
  have i_X3 : ∀ w ∈ u_ws RX3 TX3 6, w ∈ zw_x_about := fun w h => List.mem_append_right _ (List.mem_append_right _ (List.mem_append_right _ (List.mem_append_right _ (List.mem_append_left _ h))))
  have hl := lv_entry ([.ref x, .int a1]) (n := 2) (Nat.le_of_ble_eq_true rfl)
  rw [lg_entry_eq]
  generalize (lg_sl ([.ref x, .int a1]) ++ List.replicate (2 - (lg_sl ([.ref x, .int a1])).length) Slot.unset).toArray = ls at hl ⊢
  have hl : lv_has ls 2 [(0, .ref x), (1, .int a1)] := hl
  refine lv_iload_n hx hb dX8_about_0 rfl (lv_at hl 1 rfl) ?_
  rcases p1_sw9 a1 with rfl | rfl | rfl | rfl | rfl | rfl | rfl | rfl | rfl | rfl | hsw
  · refine lv_tableIn (tgt := 56) (off := 55) hx hb dX8_about_1 (by decide) (by decide) (by decide) (by decide) ?_
    refine lv_aload_n hx hb dX8_about_56 rfl (lv_at hl 0 rfl) ?_
    refine va_get (D := (dC, dI)) (ci := 7) (v := .ref sh) (C := RX8) (T := TX8) (N := 14) hx hb hts i_X8 hown hK hP 0 rfl rfl 9 (by decide) k_0 (fun _ h9 => h9) f_xs_9 dX8_about_57 ?_
    refine va_get (D := (dC, dI)) (ci := 5) (v := .ref sc) (C := RX5) (T := TX5) (N := 15) hx hb hts i_X5 hown hK hP 1 rfl rfl 0 (by decide) k_1 (fun _ h9 => h9) f_ss_0 dX8_about_60 ?_
    refine lv_iload_n hx hb dX8_about_63 rfl (lv_at hl 1 rfl) ?_
    refine va_iald hx hb hK hP 2 0 rfl rfl (p1_in (i := 0) (n := 5) (by decide)) dX8_about_64 ?_
    refine lv_topi (fun v_1 ev_1 => ?_)
    obtain rfl : v_1 = 0 := ev_1.trans rfl
    have hP9 := hP.sub (ws' := []) [] rfl
    have hD9 := hD.sub (ws' := []) [] (by decide) rfl
    have hK9 := hK.sub (tys' := []) [] rfl
    exact W.iret (v := 0) hx hb hr (fun t ht hW => ⟨⟨0, (), rfl, (by decide), by rw [ht]; exact hP9, va_K.moved hW.alike hK9, hD9⟩, hS.F ht⟩) hS.2.2 dX8_about_65
  · refine lv_tableIn (tgt := 56) (off := 55) hx hb dX8_about_1 (by decide) (by decide) (by decide) (by decide) ?_
    refine lv_aload_n hx hb dX8_about_56 rfl (lv_at hl 0 rfl) ?_
    refine va_get (D := (dC, dI)) (ci := 7) (v := .ref sh) (C := RX8) (T := TX8) (N := 14) hx hb hts i_X8 hown hK hP 0 rfl rfl 9 (by decide) k_0 (fun _ h9 => h9) f_xs_9 dX8_about_57 ?_
    refine va_get (D := (dC, dI)) (ci := 5) (v := .ref sc) (C := RX5) (T := TX5) (N := 15) hx hb hts i_X5 hown hK hP 1 rfl rfl 0 (by decide) k_1 (fun _ h9 => h9) f_ss_0 dX8_about_60 ?_
    refine lv_iload_n hx hb dX8_about_63 rfl (lv_at hl 1 rfl) ?_
    refine va_iald hx hb hK hP 2 0 rfl rfl (p1_in (i := 1) (n := 5) (by decide)) dX8_about_64 ?_
    refine lv_topi (fun v_2 ev_2 => ?_)
    obtain rfl : v_2 = 0 := ev_2.trans rfl
    have hP9 := hP.sub (ws' := []) [] rfl
    have hD9 := hD.sub (ws' := []) [] (by decide) rfl
    have hK9 := hK.sub (tys' := []) [] rfl
    exact W.iret (v := 0) hx hb hr (fun t ht hW => ⟨⟨0, (), rfl, (by decide), by rw [ht]; exact hP9, va_K.moved hW.alike hK9, hD9⟩, hS.F ht⟩) hS.2.2 dX8_about_65
  · refine lv_tableIn (tgt := 56) (off := 55) hx hb dX8_about_1 (by decide) (by decide) (by decide) (by decide) ?_
    refine lv_aload_n hx hb dX8_about_56 rfl (lv_at hl 0 rfl) ?_
    refine va_get (D := (dC, dI)) (ci := 7) (v := .ref sh) (C := RX8) (T := TX8) (N := 14) hx hb hts i_X8 hown hK hP 0 rfl rfl 9 (by decide) k_0 (fun _ h9 => h9) f_xs_9 dX8_about_57 ?_
    refine va_get (D := (dC, dI)) (ci := 5) (v := .ref sc) (C := RX5) (T := TX5) (N := 15) hx hb hts i_X5 hown hK hP 1 rfl rfl 0 (by decide) k_1 (fun _ h9 => h9) f_ss_0 dX8_about_60 ?_
    refine lv_iload_n hx hb dX8_about_63 rfl (lv_at hl 1 rfl) ?_
    refine va_iald hx hb hK hP 2 0 rfl rfl (p1_in (i := 2) (n := 5) (by decide)) dX8_about_64 ?_
    refine lv_topi (fun v_3 ev_3 => ?_)
    obtain rfl : v_3 = 0 := ev_3.trans rfl
    have hP9 := hP.sub (ws' := []) [] rfl
    have hD9 := hD.sub (ws' := []) [] (by decide) rfl
    have hK9 := hK.sub (tys' := []) [] rfl
    exact W.iret (v := 0) hx hb hr (fun t ht hW => ⟨⟨0, (), rfl, (by decide), by rw [ht]; exact hP9, va_K.moved hW.alike hK9, hD9⟩, hS.F ht⟩) hS.2.2 dX8_about_65
  · refine lv_tableIn (tgt := 56) (off := 55) hx hb dX8_about_1 (by decide) (by decide) (by decide) (by decide) ?_
    refine lv_aload_n hx hb dX8_about_56 rfl (lv_at hl 0 rfl) ?_
    refine va_get (D := (dC, dI)) (ci := 7) (v := .ref sh) (C := RX8) (T := TX8) (N := 14) hx hb hts i_X8 hown hK hP 0 rfl rfl 9 (by decide) k_0 (fun _ h9 => h9) f_xs_9 dX8_about_57 ?_
    refine va_get (D := (dC, dI)) (ci := 5) (v := .ref sc) (C := RX5) (T := TX5) (N := 15) hx hb hts i_X5 hown hK hP 1 rfl rfl 0 (by decide) k_1 (fun _ h9 => h9) f_ss_0 dX8_about_60 ?_
    refine lv_iload_n hx hb dX8_about_63 rfl (lv_at hl 1 rfl) ?_
    refine va_iald hx hb hK hP 2 0 rfl rfl (p1_in (i := 3) (n := 5) (by decide)) dX8_about_64 ?_
    refine lv_topi (fun v_4 ev_4 => ?_)
    obtain rfl : v_4 = 0 := ev_4.trans rfl
    have hP9 := hP.sub (ws' := []) [] rfl
    have hD9 := hD.sub (ws' := []) [] (by decide) rfl
    have hK9 := hK.sub (tys' := []) [] rfl
    exact W.iret (v := 0) hx hb hr (fun t ht hW => ⟨⟨0, (), rfl, (by decide), by rw [ht]; exact hP9, va_K.moved hW.alike hK9, hD9⟩, hS.F ht⟩) hS.2.2 dX8_about_65
  · refine lv_tableIn (tgt := 56) (off := 55) hx hb dX8_about_1 (by decide) (by decide) (by decide) (by decide) ?_
    refine lv_aload_n hx hb dX8_about_56 rfl (lv_at hl 0 rfl) ?_
    refine va_get (D := (dC, dI)) (ci := 7) (v := .ref sh) (C := RX8) (T := TX8) (N := 14) hx hb hts i_X8 hown hK hP 0 rfl rfl 9 (by decide) k_0 (fun _ h9 => h9) f_xs_9 dX8_about_57 ?_
    refine va_get (D := (dC, dI)) (ci := 5) (v := .ref sc) (C := RX5) (T := TX5) (N := 15) hx hb hts i_X5 hown hK hP 1 rfl rfl 0 (by decide) k_1 (fun _ h9 => h9) f_ss_0 dX8_about_60 ?_
    refine lv_iload_n hx hb dX8_about_63 rfl (lv_at hl 1 rfl) ?_
    refine va_iald hx hb hK hP 2 0 rfl rfl (p1_in (i := 4) (n := 5) (by decide)) dX8_about_64 ?_
    refine lv_topi (fun v_5 ev_5 => ?_)
    obtain rfl : v_5 = 0 := ev_5.trans rfl
    have hP9 := hP.sub (ws' := []) [] rfl
    have hD9 := hD.sub (ws' := []) [] (by decide) rfl
    have hK9 := hK.sub (tys' := []) [] rfl
    exact W.iret (v := 0) hx hb hr (fun t ht hW => ⟨⟨0, (), rfl, (by decide), by rw [ht]; exact hP9, va_K.moved hW.alike hK9, hD9⟩, hS.F ht⟩) hS.2.2 dX8_about_65
  · refine lv_tableIn (tgt := 66) (off := 65) hx hb dX8_about_1 (by decide) (by decide) (by decide) (by decide) ?_
    refine lv_aload_n hx hb dX8_about_66 rfl (lv_at hl 0 rfl) ?_
    refine va_get (D := (dC, dI)) (ci := 7) (v := .ref fl) (C := RX8) (T := TX8) (N := 14) hx hb hts i_X8 hown hK hP 0 rfl rfl 4 (by decide) k_2 (fun _ h9 => h9) f_xs_4 dX8_about_67 ?_
    refine va_get (D := (dC, dI)) (ci := 2) (v := .int 0) (C := RX2) (T := TX2) (N := 8) hx hb hts i_X2 hown hK hP 3 rfl rfl 7 (by decide) k_3 (fun _ h9 => h9) f_ff_7 dX8_about_70 ?_
    have hP9 := hP.sub (ws' := []) [] rfl
    have hD9 := hD.sub (ws' := []) [] (by decide) rfl
    have hK9 := hK.sub (tys' := []) [] rfl
    exact W.iret (v := 0) hx hb hr (fun t ht hW => ⟨⟨0, (), rfl, (by decide), by rw [ht]; exact hP9, va_K.moved hW.alike hK9, hD9⟩, hS.F ht⟩) hS.2.2 dX8_about_73
  · refine lv_tableIn (tgt := 74) (off := 73) hx hb dX8_about_1 (by decide) (by decide) (by decide) (by decide) ?_
    refine lv_aload_n hx hb dX8_about_74 rfl (lv_at hl 0 rfl) ?_
    refine va_get (D := (dC, dI)) (ci := 7) (v := .int 0) (C := RX8) (T := TX8) (N := 14) hx hb hts i_X8 hown hK hP 0 rfl rfl 13 (by decide) k_4 (fun _ h9 => h9) f_xs_13 dX8_about_75 ?_
    have hP9 := hP.sub (ws' := []) [] rfl
    have hD9 := hD.sub (ws' := []) [] (by decide) rfl
    have hK9 := hK.sub (tys' := []) [] rfl
    exact W.iret (v := 0) hx hb hr (fun t ht hW => ⟨⟨0, (), rfl, (by decide), by rw [ht]; exact hP9, va_K.moved hW.alike hK9, hD9⟩, hS.F ht⟩) hS.2.2 dX8_about_78
  · refine lv_tableIn (tgt := 79) (off := 78) hx hb dX8_about_1 (by decide) (by decide) (by decide) (by decide) ?_
    refine lv_aload_n hx hb dX8_about_79 rfl (lv_at hl 0 rfl) ?_
    refine va_get (D := (dC, dI)) (ci := 7) (v := .int 0) (C := RX8) (T := TX8) (N := 14) hx hb hts i_X8 hown hK hP 0 rfl rfl 10 (by decide) k_5 (fun _ h9 => h9) f_xs_10 dX8_about_80 ?_
    have hP9 := hP.sub (ws' := []) [] rfl
    have hD9 := hD.sub (ws' := []) [] (by decide) rfl
    have hK9 := hK.sub (tys' := []) [] rfl
    exact W.iret (v := 0) hx hb hr (fun t ht hW => ⟨⟨0, (), rfl, (by decide), by rw [ht]; exact hP9, va_K.moved hW.alike hK9, hD9⟩, hS.F ht⟩) hS.2.2 dX8_about_83
  · refine lv_tableIn (tgt := 84) (off := 83) hx hb dX8_about_1 (by decide) (by decide) (by decide) (by decide) ?_
    refine lv_aload_n hx hb dX8_about_84 rfl (lv_at hl 0 rfl) ?_
    refine va_get (D := (dC, dI)) (ci := 7) (v := .int 1) (C := RX8) (T := TX8) (N := 14) hx hb hts i_X8 hown hK hP 0 rfl rfl 12 (by decide) k_6 (fun _ h9 => h9) f_xs_12 dX8_about_85 ?_
    have hP9 := hP.sub (ws' := []) [] rfl
    have hD9 := hD.sub (ws' := []) [] (by decide) rfl
    have hK9 := hK.sub (tys' := []) [] rfl
    exact W.iret (v := 1) hx hb hr (fun t ht hW => ⟨⟨1, (), rfl, (by decide), by rw [ht]; exact hP9, va_K.moved hW.alike hK9, hD9⟩, hS.F ht⟩) hS.2.2 dX8_about_88
  · refine lv_tableIn (tgt := 89) (off := 88) hx hb dX8_about_1 (by decide) (by decide) (by decide) (by decide) ?_
    refine lv_aload_n hx hb dX8_about_89 rfl (lv_at hl 0 rfl) ?_
    refine va_get (D := (dC, dI)) (ci := 7) (v := .ref sh) (C := RX8) (T := TX8) (N := 14) hx hb hts i_X8 hown hK hP 0 rfl rfl 9 (by decide) k_0 (fun _ h9 => h9) f_xs_9 dX8_about_90 ?_
    refine va_get (D := (dC, dI)) (ci := 5) (v := .ref lw) (C := RX5) (T := TX5) (N := 15) hx hb hts i_X5 hown hK hP 1 rfl rfl 12 (by decide) k_7 (fun _ h9 => h9) f_ss_12 dX8_about_93 ?_
    refine va_get (D := (dC, dI)) (ci := 3) (v := .int 0) (C := RX3) (T := TX3) (N := 6) hx hb hts i_X3 hown hK hP 4 rfl rfl 5 (by decide) k_8 (fun _ h9 => h9) f_lf_5 dX8_about_96 ?_
    have hP9 := hP.sub (ws' := []) [] rfl
    have hD9 := hD.sub (ws' := []) [] (by decide) rfl
    have hK9 := hK.sub (tys' := []) [] rfl
    exact W.iret (v := 0) hx hb hr (fun t ht hW => ⟨⟨0, (), rfl, (by decide), by rw [ht]; exact hP9, va_K.moved hW.alike hK9, hD9⟩, hS.F ht⟩) hS.2.2 dX8_about_99
  · refine lv_tableOut (tgt := 100) hx hb dX8_about_1 hsw (by decide) ?_
    refine lv_iconst (v := (-1)) hx hb dX8_about_100 (by decide) ?_
    have hP9 := hP.sub (ws' := []) [] rfl
    have hD9 := hD.sub (ws' := []) [] (by decide) rfl
    have hK9 := hK.sub (tys' := []) [] rfl
    exact W.iret (v := (-1)) hx hb hr (fun t ht hW => ⟨⟨(-1), (), rfl, p1_about_out hsw, by rw [ht]; exact hP9, va_K.moved hW.alike hK9, hD9⟩, hS.F ht⟩) hS.2.2 dX8_about_101
def zo_x_back : List Cond := [.code yX8_back cX8_back 2 (some .int), .methodLink RX8 150 yX8_within, .static yX8_within, .initialized RX8, .fieldLink RX8 43 "BowWalk" "boxes" "[LBowWalk$Box;", .fieldLink RX8 93 "BowWalk$Box" "full" "Z"]
def zw_x_back : List Cond := zo_x_back ++ (zw_c_within ++ (wsX80 ++ (wsX10 ++ [])))
theorem gz_x_back : zw_x_back.all goodWord = true := p1_ga (by decide +kernel) (p1_ga gz_c_within (p1_ga gk_X8 (p1_ga gk_X1 p1_g0)))
theorem iz_x_back : ∀ w ∈ zw_x_back, w ∈ lw_tbl := p1_ia (p1_all [1022, 749, 750, 104, 504, 491] (by decide +kernel)) (p1_ia iz_c_within (p1_ia ik_X8 (p1_ia ik_X1 p1_i0)))
set_option maxHeartbeats 4000000 in
set_option maxRecDepth 100000 in
theorem x_back (l : Launch) (dC : Nat → ClassId) (dI : Nat → Nat → Nat) (sz : Nat) (x : Nat) (xs : List Value) (bx : Nat) (cX : ClassId) (b0 : Nat) (bf0 : List Value) (b1 : Nat) (bf1 : List Value) (b2 : Nat) (bf2 : List Value) (a1 : Int32) (f_xs_5 : xs[5]? = some (.ref bx)) (f_bf0_2 : bf0[2]? = some (.int 0)) (f_bf1_2 : bf1[2]? = some (.int 0)) (f_bf2_2 : bf2[2]? = some (.int 0)) : Met l yX8_back zw_x_back ({ frames := 1, cells := 0, slots := 0, locals := 22 }) (va_Pc [.ref x, .int a1] (fun U => U.heap.size = sz ∧ va_P (dC, dI) vwCl [(x, .inr (7, xs)), (bx, .inl (cX, 3, .inr (.inr (.inr (.inr (va_up (va_up (va_up (fun _ => none) (0 : Int32).toNatClampNeg (some b0)) (1 : Int32).toNatClampNeg (some b1)) (2 : Int32).toNatClampNeg (some b2))))))), (b0, .inr (1, bf0)), (b1, .inr (1, bf1)), (b2, .inr (1, bf2))] U.heap ∧ va_K (dC, dI) vwCl [(cX, .object "BowWalk$Box")] U ∧ va_D (fun _ => True) [(x, .inr (7, xs)), (bx, .inl (cX, 3, .inr (.inr (.inr (.inr (va_up (va_up (va_up (fun _ => none) (0 : Int32).toNatClampNeg (some b0)) (1 : Int32).toNatClampNeg (some b1)) (2 : Int32).toNatClampNeg (some b2))))))), (b0, .inr (1, bf0)), (b1, .inr (1, bf1)), (b2, .inr (1, bf2))])) (va_Qi (fun (r : Int32) (_ : Unit) => r = (-1)) (fun _ t => va_P (dC, dI) vwCl [] t.heap ∧ va_K (dC, dI) vwCl [] t ∧ va_D (va_A [(x, .inr (7, xs)), (bx, .inl (cX, 3, .inr (.inr (.inr (.inr (va_up (va_up (va_up (fun _ => none) (0 : Int32).toNatClampNeg (some b0)) (1 : Int32).toNatClampNeg (some b1)) (2 : Int32).toNatClampNeg (some b2))))))), (b0, .inr (1, bf0)), (b1, .inr (1, bf1)), (b2, .inr (1, bf2))] sz) []) (va_A [(x, .inr (7, xs)), (bx, .inl (cX, 3, .inr (.inr (.inr (.inr (va_up (va_up (va_up (fun _ => none) (0 : Int32).toNatClampNeg (some b0)) (1 : Int32).toNatClampNeg (some b1)) (2 : Int32).toNatClampNeg (some b2))))))), (b0, .inr (1, bf0)), (b1, .inr (1, bf1)), (b2, .inr (1, bf2))] sz)) 0 0 (va_A [(x, .inr (7, xs)), (bx, .inl (cX, 3, .inr (.inr (.inr (.inr (va_up (va_up (va_up (fun _ => none) (0 : Int32).toNatClampNeg (some b0)) (1 : Int32).toNatClampNeg (some b1)) (2 : Int32).toNatClampNeg (some b2))))))), (b0, .inr (1, bf0)), (b1, .inr (1, bf1)), (b2, .inr (1, bf2))] sz) := by
  refine Met.ofW (cc := cX8_back) (maxL := 2) (ret := (some .int)) (by decide) rfl ?_
  intro p e s m args below meth c s₁ B hml hv
  obtain ⟨rfl, hsz, hP, hK, hD0⟩ := hv
  have hx := B.exec
  have hb := B.bytes
  have hr := B.returns
  have hts := atoms_spec (ws := zw_x_back) B.pre
  have hown : s.vm.findClass RX8 = some m.cls := findClass_of_methodNamed B.named
  have hlocks := B.notSynchronized
  subst hsz
  have hD := hD0.self (sz := s.heap.size)
  generalize hAe : va_A [(x, .inr (7, xs)), (bx, .inl (cX, 3, .inr (.inr (.inr (.inr (va_up (va_up (va_up (fun _ => none) (0 : Int32).toNatClampNeg (some b0)) (1 : Int32).toNatClampNeg (some b1)) (2 : Int32).toNatClampNeg (some b2))))))), (b0, .inr (1, bf0)), (b1, .inr (1, bf1)), (b2, .inr (1, bf2))] s.heap.size = A at hD ⊢
  have hA : ∀ q : Nat, s.heap.size ≤ q → A q := fun q h => by rw [← hAe]; exact Or.inr h
  have hS : va_S A s.heap s.heap [] := va_S.rf
  have hP : va_P (dC, dI) vwCl [(x, .inr (7, xs)), (bx, .inl (cX, 3, .inr (.inr (.inr (.inr (va_up (va_up (va_up (fun _ => none) (0 : Int32).toNatClampNeg (some b0)) (1 : Int32).toNatClampNeg (some b1)) (2 : Int32).toNatClampNeg (some b2))))))), (b0, .inr (1, bf0)), (b1, .inr (1, bf1)), (b2, .inr (1, bf2))] s.heap := hP
  have m_0 : (.methodLink RX8 150 yX8_within : Cond) ∈ zw_x_back := List.mem_append_left _ (List.mem_of_getElem? (i := 1) rfl)
  have k_0 := hts _ m_0
  have m_1 : (.static yX8_within : Cond) ∈ zw_x_back := List.mem_append_left _ (List.mem_of_getElem? (i := 2) rfl)
  have k_1 := hts _ m_1
  have m_2 : (.initialized RX8 : Cond) ∈ zw_x_back := List.mem_append_left _ (List.mem_of_getElem? (i := 3) rfl)
  have k_2 := hts _ m_2
  have m_3 : (.fieldLink RX8 43 "BowWalk" "boxes" "[LBowWalk$Box;" : Cond) ∈ zw_x_back := List.mem_append_left _ (List.mem_of_getElem? (i := 4) rfl)
  have k_3 := hts _ m_3
  have m_4 : (.fieldLink RX8 93 "BowWalk$Box" "full" "Z" : Cond) ∈ zw_x_back := List.mem_append_left _ (List.mem_of_getElem? (i := 5) rfl)
  have k_4 := hts _ m_4
  have g_c_within : ∀ w ∈ zw_c_within, w ∈ zw_x_back := fun w h => List.mem_append_right _ (List.mem_append_left _ h)
  have i_X8 : ∀ w ∈ u_ws RX8 TX8 14, w ∈ zw_x_back := fun w h => List.mem_append_right _ (List.mem_append_right _ (List.mem_append_left _ h))
  have i_X1 : ∀ w ∈ u_ws RX1 TX1 3, w ∈ zw_x_back := fun w h => List.mem_append_right _ (List.mem_append_right _ (List.mem_append_right _ (List.mem_append_left _ h)))
  have hl := lv_entry ([.ref x, .int a1]) (n := 2) (Nat.le_of_ble_eq_true rfl)
  rw [lg_entry_eq]
  generalize (lg_sl ([.ref x, .int a1]) ++ List.replicate (2 - (lg_sl ([.ref x, .int a1])).length) Slot.unset).toArray = ls at hl ⊢
  have hl : lv_has ls 2 [(0, .ref x), (1, .int a1)] := hl
  refine lv_iload_n hx hb dX8_back_0 rfl (lv_at hl 1 rfl) ?_
  refine lv_iconst (v := 0) hx hb dX8_back_1 (by decide) ?_
  refine lv_iconst (v := 2) hx hb dX8_back_2 (by decide) ?_
  have hPc := hP.sub (ws' := []) [] rfl
  have hDc := hD.sub (ws' := []) [] (by decide) rfl
  have hKc := hK.sub (tys' := []) [] rfl
  have hFc := va_free (wc := []) hD hS hA [] rfl
  refine va_calli (va_runS (As := [.int a1, .int 0, .int 2]) (rest := []) ⟨hx, hb, hml, hown, hts⟩ (c_within l dC dI s.heap.size a1 0 2) (va_cwS 3 hts (p1_gS m_0 m_1 m_2 g_c_within gz_c_within) rfl rfl rfl (by decide +kernel) ⟨by decide, by decide⟩) ⟨fun a U g mk q => by obtain ⟨q0, q1, qP, qK, qD⟩ := q; exact ⟨q0, q1, qP, va_K.moved (u := U) (U := U.calling g mk a) (Vm.Alike.refl U.vm) qK, qD⟩, fun U hU hW => ⟨rfl, by rw [hU], by rw [hU]; exact hPc, va_K.moved hW.alike hKc, hDc.weaken (fun _ _ _ _ => trivial)⟩⟩ rfl rfl hl.1 rfl (lv_room (Nat.le_of_ble_eq_true rfl)) dX8_back_3 ⟨by decide, by decide⟩) hS (fun q _ h => hFc q h) hFc (fun r_1 u t H1 locs ht hvm hw hB hz1 hk1 hS => ?_)
  obtain ⟨hP1, hK1, hD1⟩ := hB
  rw [ht] at hP1
  obtain ⟨hP, hD⟩ := va_join (wr := [(x, .inr (7, xs)), (bx, .inl (cX, 3, .inr (.inr (.inr (.inr (va_up (va_up (va_up (fun _ => none) (0 : Int32).toNatClampNeg (some b0)) (1 : Int32).toNatClampNeg (some b1)) (2 : Int32).toNatClampNeg (some b2))))))), (b0, .inr (1, bf0)), (b1, .inr (1, bf1)), (b2, .inr (1, bf2))]) (w1 := []) hP hD [] [0, 1, 2, 3, 4] rfl rfl (by decide) (by decide) hk1 hFc hP1 hD1
  generalize H1 = H at hP hS ⊢
  have hP : va_P (dC, dI) vwCl [(x, .inr (7, xs)), (bx, .inl (cX, 3, .inr (.inr (.inr (.inr (va_up (va_up (va_up (fun _ => none) (0 : Int32).toNatClampNeg (some b0)) (1 : Int32).toNatClampNeg (some b1)) (2 : Int32).toNatClampNeg (some b2))))))), (b0, .inr (1, bf0)), (b1, .inr (1, bf1)), (b2, .inr (1, bf2))] H := hP
  have hD : va_D A [(x, .inr (7, xs)), (bx, .inl (cX, 3, .inr (.inr (.inr (.inr (va_up (va_up (va_up (fun _ => none) (0 : Int32).toNatClampNeg (some b0)) (1 : Int32).toNatClampNeg (some b1)) (2 : Int32).toNatClampNeg (some b2))))))), (b0, .inr (1, bf0)), (b1, .inr (1, bf1)), (b2, .inr (1, bf2))] := hD
  try dsimp only at hw
  rcases hw with ⟨rfl, hw_2⟩ | ⟨rfl, hw_2⟩
  · refine lv_if_eq (tgt := 21) hx hb dX8_back_6 (by decide) (fun c9 => absurd c9 (by decide)) (fun _ => ?_)
    rcases p1_012 hw_2 with rfl | rfl | rfl
    · refine lv_aload_n hx hb dX8_back_9 rfl (lv_at hl 0 rfl) ?_
      refine va_get (D := (dC, dI)) (ci := 7) (v := .ref bx) (C := RX8) (T := TX8) (N := 14) hx hb hts i_X8 hown hK hP 0 rfl rfl 5 (by decide) k_3 (fun _ h9 => h9) f_xs_5 dX8_back_10 ?_
      refine lv_iload_n hx hb dX8_back_13 rfl (lv_at hl 1 rfl) ?_
      refine va_aldq hx hb hK hP 1 0 rfl rfl (p1_in (i := 0) (n := 3) (by decide)) dX8_back_14 ?_
      refine W.eq (g2 := F0 m 15 ls [.ref b0]) rfl ?_
      refine va_get (D := (dC, dI)) (ci := 1) (v := .int 0) (C := RX1) (T := TX1) (N := 3) hx hb hts i_X1 hown hK hP 2 rfl rfl 2 (by decide) k_4 (fun _ h9 => h9) f_bf0_2 dX8_back_15 ?_
      refine lv_if_ne (tgt := 23) hx hb dX8_back_18 (by decide) (fun c9 => absurd c9 (by decide)) (fun _ => ?_)
      refine lv_iconst (v := (-1)) hx hb dX8_back_21 (by decide) ?_
      have hP9 := hP.sub (ws' := []) [] rfl
      have hD9 := hD.sub (ws' := []) [] (by decide) rfl
      have hK9 := hK.sub (tys' := []) [] rfl
      exact W.iret (v := (-1)) hx hb hr (fun t ht hW => ⟨⟨(-1), (), rfl, rfl, by rw [ht]; exact hP9, va_K.moved hW.alike hK9, hD9⟩, hS.F ht⟩) hS.2.2 dX8_back_22
    · refine lv_aload_n hx hb dX8_back_9 rfl (lv_at hl 0 rfl) ?_
      refine va_get (D := (dC, dI)) (ci := 7) (v := .ref bx) (C := RX8) (T := TX8) (N := 14) hx hb hts i_X8 hown hK hP 0 rfl rfl 5 (by decide) k_3 (fun _ h9 => h9) f_xs_5 dX8_back_10 ?_
      refine lv_iload_n hx hb dX8_back_13 rfl (lv_at hl 1 rfl) ?_
      refine va_aldq hx hb hK hP 1 0 rfl rfl (p1_in (i := 1) (n := 3) (by decide)) dX8_back_14 ?_
      refine W.eq (g2 := F0 m 15 ls [.ref b1]) rfl ?_
      refine va_get (D := (dC, dI)) (ci := 1) (v := .int 0) (C := RX1) (T := TX1) (N := 3) hx hb hts i_X1 hown hK hP 3 rfl rfl 2 (by decide) k_4 (fun _ h9 => h9) f_bf1_2 dX8_back_15 ?_
      refine lv_if_ne (tgt := 23) hx hb dX8_back_18 (by decide) (fun c9 => absurd c9 (by decide)) (fun _ => ?_)
      refine lv_iconst (v := (-1)) hx hb dX8_back_21 (by decide) ?_
      have hP9 := hP.sub (ws' := []) [] rfl
      have hD9 := hD.sub (ws' := []) [] (by decide) rfl
      have hK9 := hK.sub (tys' := []) [] rfl
      exact W.iret (v := (-1)) hx hb hr (fun t ht hW => ⟨⟨(-1), (), rfl, rfl, by rw [ht]; exact hP9, va_K.moved hW.alike hK9, hD9⟩, hS.F ht⟩) hS.2.2 dX8_back_22
    · refine lv_aload_n hx hb dX8_back_9 rfl (lv_at hl 0 rfl) ?_
      refine va_get (D := (dC, dI)) (ci := 7) (v := .ref bx) (C := RX8) (T := TX8) (N := 14) hx hb hts i_X8 hown hK hP 0 rfl rfl 5 (by decide) k_3 (fun _ h9 => h9) f_xs_5 dX8_back_10 ?_
      refine lv_iload_n hx hb dX8_back_13 rfl (lv_at hl 1 rfl) ?_
      refine va_aldq hx hb hK hP 1 0 rfl rfl (p1_in (i := 2) (n := 3) (by decide)) dX8_back_14 ?_
      refine W.eq (g2 := F0 m 15 ls [.ref b2]) rfl ?_
      refine va_get (D := (dC, dI)) (ci := 1) (v := .int 0) (C := RX1) (T := TX1) (N := 3) hx hb hts i_X1 hown hK hP 4 rfl rfl 2 (by decide) k_4 (fun _ h9 => h9) f_bf2_2 dX8_back_15 ?_
      refine lv_if_ne (tgt := 23) hx hb dX8_back_18 (by decide) (fun c9 => absurd c9 (by decide)) (fun _ => ?_)
      refine lv_iconst (v := (-1)) hx hb dX8_back_21 (by decide) ?_
      have hP9 := hP.sub (ws' := []) [] rfl
      have hD9 := hD.sub (ws' := []) [] (by decide) rfl
      have hK9 := hK.sub (tys' := []) [] rfl
      exact W.iret (v := (-1)) hx hb hr (fun t ht hW => ⟨⟨(-1), (), rfl, rfl, by rw [ht]; exact hP9, va_K.moved hW.alike hK9, hD9⟩, hS.F ht⟩) hS.2.2 dX8_back_22
  · refine lv_if_eq (tgt := 21) hx hb dX8_back_6 (by decide) (fun _ => ?_) (fun c9 => absurd c9 (by decide))
    refine lv_iconst (v := (-1)) hx hb dX8_back_21 (by decide) ?_
    have hP9 := hP.sub (ws' := []) [] rfl
    have hD9 := hD.sub (ws' := []) [] (by decide) rfl
    have hK9 := hK.sub (tys' := []) [] rfl
    exact W.iret (v := (-1)) hx hb hr (fun t ht hW => ⟨⟨(-1), (), rfl, rfl, by rw [ht]; exact hP9, va_K.moved hW.alike hK9, hD9⟩, hS.F ht⟩) hS.2.2 dX8_back_22
def zo_x_fits : List Cond := [.code yX8_fits cX8_fits 4 (some .int), .fieldLink RX8 60 "BowWalk" "shop" "LBowWalk$Shop;", .methodLink RX8 281 yX5_hasPair, .instanceMethod yX5_hasPair, .selects RX5 yX5_hasPair yX5_hasPair, .initialized RX5, .fieldLink RX8 37 "BowWalk" "films" "LBowWalk$Films;", .fieldLink RX8 90 "BowWalk$Films" "count" "I"]
def zw_x_fits : List Cond := zo_x_fits ++ (zw_c_hasPair ++ (wsX80 ++ (wsX20 ++ [])))
theorem gz_x_fits : zw_x_fits.all goodWord = true := p1_ga (by decide +kernel) (p1_ga gz_c_hasPair (p1_ga gk_X8 (p1_ga gk_X2 p1_g0)))
theorem iz_x_fits : ∀ w ∈ zw_x_fits, w ∈ lw_tbl := p1_ia (p1_all [979, 508, 951, 952, 953, 106, 503, 457] (by decide +kernel)) (p1_ia iz_c_hasPair (p1_ia ik_X8 (p1_ia ik_X2 p1_i0)))
set_option maxHeartbeats 4000000 in
set_option maxRecDepth 100000 in
theorem x_fits (l : Launch) (dC : Nat → ClassId) (dI : Nat → Nat → Nat) (sz : Nat) (x : Nat) (xs : List Value) (sh : Nat) (fl : Nat) (ss : List Value) (sc : Nat) (cS : ClassId) (ff : List Value) (a1 : Int32) (f_xs_9 : xs[9]? = some (.ref sh)) (f_xs_4 : xs[4]? = some (.ref fl)) (f_ss_0 : ss[0]? = some (.ref sc)) (f_ff_7 : ff[7]? = some (.int 0)) : Met l yX8_fits zw_x_fits ({ frames := 3, cells := 0, slots := 0, locals := 63 }) (va_Pc [.ref x, .int a1] (fun U => U.heap.size = sz ∧ va_P (dC, dI) vwCl [(x, .inr (7, xs)), (sh, .inr (5, ss)), (sc, .inl (cS, 5, .inl (fun _ => 0))), (fl, .inr (2, ff))] U.heap ∧ va_K (dC, dI) vwCl [(cS, .int)] U ∧ va_D (fun _ => True) [(x, .inr (7, xs)), (sh, .inr (5, ss)), (sc, .inl (cS, 5, .inl (fun _ => 0))), (fl, .inr (2, ff))])) (va_Qi (fun (r : Int32) (_ : Unit) => r = 0) (fun _ t => va_P (dC, dI) vwCl [] t.heap ∧ va_K (dC, dI) vwCl [] t ∧ va_D (va_A [(x, .inr (7, xs)), (sh, .inr (5, ss)), (sc, .inl (cS, 5, .inl (fun _ => 0))), (fl, .inr (2, ff))] sz) []) (va_A [(x, .inr (7, xs)), (sh, .inr (5, ss)), (sc, .inl (cS, 5, .inl (fun _ => 0))), (fl, .inr (2, ff))] sz)) 0 0 (va_A [(x, .inr (7, xs)), (sh, .inr (5, ss)), (sc, .inl (cS, 5, .inl (fun _ => 0))), (fl, .inr (2, ff))] sz) := by
  refine Met.ofW (cc := cX8_fits) (maxL := 4) (ret := (some .int)) (by decide) rfl ?_
  intro p e s m args below meth c s₁ B hml hv
  obtain ⟨rfl, hsz, hP, hK, hD0⟩ := hv
  have hx := B.exec
  have hb := B.bytes
  have hr := B.returns
  have hts := atoms_spec (ws := zw_x_fits) B.pre
  have hown : s.vm.findClass RX8 = some m.cls := findClass_of_methodNamed B.named
  have hlocks := B.notSynchronized
  subst hsz
  have hD := hD0.self (sz := s.heap.size)
  generalize hAe : va_A [(x, .inr (7, xs)), (sh, .inr (5, ss)), (sc, .inl (cS, 5, .inl (fun _ => 0))), (fl, .inr (2, ff))] s.heap.size = A at hD ⊢
  have hA : ∀ q : Nat, s.heap.size ≤ q → A q := fun q h => by rw [← hAe]; exact Or.inr h
  have hS : va_S A s.heap s.heap [] := va_S.rf
  have hP : va_P (dC, dI) vwCl [(x, .inr (7, xs)), (sh, .inr (5, ss)), (sc, .inl (cS, 5, .inl (fun _ => 0))), (fl, .inr (2, ff))] s.heap := hP
  have m_0 : (.fieldLink RX8 60 "BowWalk" "shop" "LBowWalk$Shop;" : Cond) ∈ zw_x_fits := List.mem_append_left _ (List.mem_of_getElem? (i := 1) rfl)
  have k_0 := hts _ m_0
  have m_1 : (.methodLink RX8 281 yX5_hasPair : Cond) ∈ zw_x_fits := List.mem_append_left _ (List.mem_of_getElem? (i := 2) rfl)
  have k_1 := hts _ m_1
  have m_2 : (.instanceMethod yX5_hasPair : Cond) ∈ zw_x_fits := List.mem_append_left _ (List.mem_of_getElem? (i := 3) rfl)
  have k_2 := hts _ m_2
  have m_3 : (.selects RX5 yX5_hasPair yX5_hasPair : Cond) ∈ zw_x_fits := List.mem_append_left _ (List.mem_of_getElem? (i := 4) rfl)
  have k_3 := hts _ m_3
  have m_4 : (.initialized RX5 : Cond) ∈ zw_x_fits := List.mem_append_left _ (List.mem_of_getElem? (i := 5) rfl)
  have k_4 := hts _ m_4
  have m_5 : (.fieldLink RX8 37 "BowWalk" "films" "LBowWalk$Films;" : Cond) ∈ zw_x_fits := List.mem_append_left _ (List.mem_of_getElem? (i := 6) rfl)
  have k_5 := hts _ m_5
  have m_6 : (.fieldLink RX8 90 "BowWalk$Films" "count" "I" : Cond) ∈ zw_x_fits := List.mem_append_left _ (List.mem_of_getElem? (i := 7) rfl)
  have k_6 := hts _ m_6
  have g_c_hasPair : ∀ w ∈ zw_c_hasPair, w ∈ zw_x_fits := fun w h => List.mem_append_right _ (List.mem_append_left _ h)
  have i_X8 : ∀ w ∈ u_ws RX8 TX8 14, w ∈ zw_x_fits := fun w h => List.mem_append_right _ (List.mem_append_right _ (List.mem_append_left _ h))
  have i_X2 : ∀ w ∈ u_ws RX2 TX2 8, w ∈ zw_x_fits := fun w h => List.mem_append_right _ (List.mem_append_right _ (List.mem_append_right _ (List.mem_append_left _ h)))
  have hl := lv_entry ([.ref x, .int a1]) (n := 4) (Nat.le_of_ble_eq_true rfl)
  rw [lg_entry_eq]
  generalize (lg_sl ([.ref x, .int a1]) ++ List.replicate (4 - (lg_sl ([.ref x, .int a1])).length) Slot.unset).toArray = ls at hl ⊢
  have hl : lv_has ls 4 [(0, .ref x), (1, .int a1)] := hl
  refine lv_iconst (v := 0) hx hb dX8_fits_0 (by decide) ?_
  refine lv_istore_n (lv' := [(2, .int 0), (0, .ref x), (1, .int a1)]) hx hb dX8_fits_1 rfl hl (by decide) rfl (fun ls hl => ?_)
  refine lv_iconst (v := 0) hx hb dX8_fits_2 (by decide) ?_
  refine lv_istore_n (lv' := [(3, .int 0), (2, .int 0), (0, .ref x), (1, .int a1)]) hx hb dX8_fits_3 rfl hl (by decide) rfl (fun ls hl => ?_)
  refine lv_iload_n hx hb dX8_fits_4 rfl (lv_at hl 0 rfl) ?_
  refine lv_bipush (v := 12) hx hb dX8_fits_5 (by decide) ?_
  refine lv_icmp_ge (tgt := 37) hx hb dX8_fits_7 (by decide) (fun c9 => absurd c9 (by decide)) (fun _ => ?_)
  refine lv_iload_n hx hb dX8_fits_10 rfl (lv_at hl 1 rfl) ?_
  refine lv_aload_n hx hb dX8_fits_11 rfl (lv_at hl 2 rfl) ?_
  refine va_get (D := (dC, dI)) (ci := 7) (v := .ref sh) (C := RX8) (T := TX8) (N := 14) hx hb hts i_X8 hown hK hP 0 rfl rfl 9 (by decide) k_0 (fun _ h9 => h9) f_xs_9 dX8_fits_12 ?_
  refine lv_iload_n hx hb dX8_fits_15 rfl (lv_at hl 0 rfl) ?_
  have hPc := hP.sub (ws' := [(sh, .inr (5, ss)), (sc, .inl (cS, 5, .inl (fun _ => 0)))]) [1, 2] rfl
  have hDc := hD.sub (ws' := [(sh, .inr (5, ss)), (sc, .inl (cS, 5, .inl (fun _ => 0)))]) [1, 2] (by decide) rfl
  have hKc := hK.sub (tys' := [(cS, .int)]) [0] rfl
  have hFc := va_free (wc := [(sh, .inr (5, ss)), (sc, .inl (cS, 5, .inl (fun _ => 0)))]) hD hS hA [1, 2] rfl
  refine va_calli (va_runV (As := [.int 0]) (rest := [.int 0]) ⟨hx, hb, hml, hown, hts⟩ (c_hasPair l dC dI s.heap.size sh ss sc cS 0 f_ss_0) (cwV 1 hts (p1_gV m_1 m_2 m_3 m_4 g_c_hasPair gz_c_hasPair) rfl rfl rfl (by decide +kernel) ⟨by decide, by decide⟩) ⟨fun a U g mk q => by obtain ⟨q0, q1, qP, qK, qD⟩ := q; exact ⟨q0, q1, qP, va_K.moved (u := U) (U := U.calling g mk a) (Vm.Alike.refl U.vm) qK, qD⟩, va_recv hKc hPc (ci := 5) (q0 := 0) rfl rfl, fun U hU hW => ⟨rfl, by rw [hU], by rw [hU]; exact hPc, va_K.moved hW.alike hKc, hDc.weaken (fun _ _ _ _ => trivial)⟩⟩ rfl rfl hl.1 rfl (lv_room (Nat.le_of_ble_eq_true rfl)) dX8_fits_16 ⟨by decide, by decide⟩) hS (fun q _ h => hFc q h) hFc (fun r_2 u t H1 locs ht hvm hw hB hz1 hk1 hS => ?_)
  obtain ⟨hP1, hK1, hD1⟩ := hB
  rw [ht] at hP1
  obtain ⟨hP, hD⟩ := va_join (wr := [(x, .inr (7, xs)), (fl, .inr (2, ff))]) (w1 := [(sh, .inr (5, ss)), (sc, .inl (cS, 5, .inl (fun _ => 0)))]) hP hD [1, 2] [0, 3] rfl rfl (by decide) (by decide) hk1 hFc hP1 hD1
  generalize H1 = H at hP hS ⊢
  have hP : va_P (dC, dI) vwCl [(x, .inr (7, xs)), (fl, .inr (2, ff)), (sh, .inr (5, ss)), (sc, .inl (cS, 5, .inl (fun _ => 0)))] H := hP
  have hD : va_D A [(x, .inr (7, xs)), (fl, .inr (2, ff)), (sh, .inr (5, ss)), (sc, .inl (cS, 5, .inl (fun _ => 0)))] := hD
  try dsimp only at hw
  obtain rfl : r_2 = 0 := hw
  refine lv_if_eq (tgt := 28) hx hb dX8_fits_19 (by decide) (fun _ => ?_) (fun c9 => absurd c9 (by decide))
  refine lv_iconst (v := 0) hx hb dX8_fits_28 (by decide) ?_
  refine lv_ior hx hb dX8_fits_29 ?_
  refine lv_topi (fun v_4 ev_4 => ?_)
  obtain rfl : v_4 = 0 := ev_4.trans (by decide)
  refine lv_istore_n (lv' := [(2, .int 0), (3, .int 0), (0, .ref x), (1, .int a1)]) hx hb dX8_fits_30 rfl hl (by decide) rfl (fun ls hl => ?_)
  refine lv_iinc (v := 1) (lv' := [(3, .int 1), (2, .int 0), (0, .ref x), (1, .int a1)]) hx hb dX8_fits_31 hl (k := 1) rfl (by decide) (by decide) rfl (fun ls hl => ?_)
  refine lv_goto (tgt := 4) hx hb dX8_fits_34 (by decide) ?_
  refine lv_iload_n hx hb dX8_fits_4 rfl (lv_at hl 0 rfl) ?_
  refine lv_bipush (v := 12) hx hb dX8_fits_5 (by decide) ?_
  refine lv_icmp_ge (tgt := 37) hx hb dX8_fits_7 (by decide) (fun c9 => absurd c9 (by decide)) (fun _ => ?_)
  refine lv_iload_n hx hb dX8_fits_10 rfl (lv_at hl 1 rfl) ?_
  refine lv_aload_n hx hb dX8_fits_11 rfl (lv_at hl 2 rfl) ?_
  refine va_get (D := (dC, dI)) (ci := 7) (v := .ref sh) (C := RX8) (T := TX8) (N := 14) hx hb hts i_X8 hown hK hP 0 rfl rfl 9 (by decide) k_0 (fun _ h9 => h9) f_xs_9 dX8_fits_12 ?_
  refine lv_iload_n hx hb dX8_fits_15 rfl (lv_at hl 0 rfl) ?_
  have hPc := hP.sub (ws' := [(sh, .inr (5, ss)), (sc, .inl (cS, 5, .inl (fun _ => 0)))]) [2, 3] rfl
  have hDc := hD.sub (ws' := [(sh, .inr (5, ss)), (sc, .inl (cS, 5, .inl (fun _ => 0)))]) [2, 3] (by decide) rfl
  have hKc := hK.sub (tys' := [(cS, .int)]) [0] rfl
  have hFc := va_free (wc := [(sh, .inr (5, ss)), (sc, .inl (cS, 5, .inl (fun _ => 0)))]) hD hS hA [2, 3] rfl
  refine va_calli (va_runV (As := [.int 1]) (rest := [.int 0]) ⟨hx, hb, hml, hown, hts⟩ (c_hasPair l dC dI H.size sh ss sc cS 1 f_ss_0) (cwV 1 hts (p1_gV m_1 m_2 m_3 m_4 g_c_hasPair gz_c_hasPair) rfl rfl rfl (by decide +kernel) ⟨by decide, by decide⟩) ⟨fun a U g mk q => by obtain ⟨q0, q1, qP, qK, qD⟩ := q; exact ⟨q0, q1, qP, va_K.moved (u := U) (U := U.calling g mk a) (Vm.Alike.refl U.vm) qK, qD⟩, va_recv hKc hPc (ci := 5) (q0 := 0) rfl rfl, fun U hU hW => ⟨rfl, by rw [hU], by rw [hU]; exact hPc, va_K.moved hW.alike hKc, hDc.weaken (fun _ _ _ _ => trivial)⟩⟩ rfl rfl hl.1 rfl (lv_room (Nat.le_of_ble_eq_true rfl)) dX8_fits_16 ⟨by decide, by decide⟩) hS (fun q _ h => hFc q h) hFc (fun r_6 u t H1 locs ht hvm hw hB hz1 hk1 hS => ?_)
  obtain ⟨hP1, hK1, hD1⟩ := hB
  rw [ht] at hP1
  obtain ⟨hP, hD⟩ := va_join (wr := [(x, .inr (7, xs)), (fl, .inr (2, ff))]) (w1 := [(sh, .inr (5, ss)), (sc, .inl (cS, 5, .inl (fun _ => 0)))]) hP hD [2, 3] [0, 1] rfl rfl (by decide) (by decide) hk1 hFc hP1 hD1
  generalize H1 = H at hP hS ⊢
  have hP : va_P (dC, dI) vwCl [(x, .inr (7, xs)), (fl, .inr (2, ff)), (sh, .inr (5, ss)), (sc, .inl (cS, 5, .inl (fun _ => 0)))] H := hP
  have hD : va_D A [(x, .inr (7, xs)), (fl, .inr (2, ff)), (sh, .inr (5, ss)), (sc, .inl (cS, 5, .inl (fun _ => 0)))] := hD
  try dsimp only at hw
  obtain rfl : r_6 = 0 := hw
  refine lv_if_eq (tgt := 28) hx hb dX8_fits_19 (by decide) (fun _ => ?_) (fun c9 => absurd c9 (by decide))
  refine lv_iconst (v := 0) hx hb dX8_fits_28 (by decide) ?_
  refine lv_ior hx hb dX8_fits_29 ?_
  refine lv_topi (fun v_8 ev_8 => ?_)
  obtain rfl : v_8 = 0 := ev_8.trans (by decide)
  refine lv_istore_n (lv' := [(2, .int 0), (3, .int 1), (0, .ref x), (1, .int a1)]) hx hb dX8_fits_30 rfl hl (by decide) rfl (fun ls hl => ?_)
  refine lv_iinc (v := 2) (lv' := [(3, .int 2), (2, .int 0), (0, .ref x), (1, .int a1)]) hx hb dX8_fits_31 hl (k := 1) rfl (by decide) (by decide) rfl (fun ls hl => ?_)
  refine lv_goto (tgt := 4) hx hb dX8_fits_34 (by decide) ?_
  refine lv_iload_n hx hb dX8_fits_4 rfl (lv_at hl 0 rfl) ?_
  refine lv_bipush (v := 12) hx hb dX8_fits_5 (by decide) ?_
  refine lv_icmp_ge (tgt := 37) hx hb dX8_fits_7 (by decide) (fun c9 => absurd c9 (by decide)) (fun _ => ?_)
  refine lv_iload_n hx hb dX8_fits_10 rfl (lv_at hl 1 rfl) ?_
  refine lv_aload_n hx hb dX8_fits_11 rfl (lv_at hl 2 rfl) ?_
  refine va_get (D := (dC, dI)) (ci := 7) (v := .ref sh) (C := RX8) (T := TX8) (N := 14) hx hb hts i_X8 hown hK hP 0 rfl rfl 9 (by decide) k_0 (fun _ h9 => h9) f_xs_9 dX8_fits_12 ?_
  refine lv_iload_n hx hb dX8_fits_15 rfl (lv_at hl 0 rfl) ?_
  have hPc := hP.sub (ws' := [(sh, .inr (5, ss)), (sc, .inl (cS, 5, .inl (fun _ => 0)))]) [2, 3] rfl
  have hDc := hD.sub (ws' := [(sh, .inr (5, ss)), (sc, .inl (cS, 5, .inl (fun _ => 0)))]) [2, 3] (by decide) rfl
  have hKc := hK.sub (tys' := [(cS, .int)]) [0] rfl
  have hFc := va_free (wc := [(sh, .inr (5, ss)), (sc, .inl (cS, 5, .inl (fun _ => 0)))]) hD hS hA [2, 3] rfl
  refine va_calli (va_runV (As := [.int 2]) (rest := [.int 0]) ⟨hx, hb, hml, hown, hts⟩ (c_hasPair l dC dI H.size sh ss sc cS 2 f_ss_0) (cwV 1 hts (p1_gV m_1 m_2 m_3 m_4 g_c_hasPair gz_c_hasPair) rfl rfl rfl (by decide +kernel) ⟨by decide, by decide⟩) ⟨fun a U g mk q => by obtain ⟨q0, q1, qP, qK, qD⟩ := q; exact ⟨q0, q1, qP, va_K.moved (u := U) (U := U.calling g mk a) (Vm.Alike.refl U.vm) qK, qD⟩, va_recv hKc hPc (ci := 5) (q0 := 0) rfl rfl, fun U hU hW => ⟨rfl, by rw [hU], by rw [hU]; exact hPc, va_K.moved hW.alike hKc, hDc.weaken (fun _ _ _ _ => trivial)⟩⟩ rfl rfl hl.1 rfl (lv_room (Nat.le_of_ble_eq_true rfl)) dX8_fits_16 ⟨by decide, by decide⟩) hS (fun q _ h => hFc q h) hFc (fun r_10 u t H1 locs ht hvm hw hB hz1 hk1 hS => ?_)
  obtain ⟨hP1, hK1, hD1⟩ := hB
  rw [ht] at hP1
  obtain ⟨hP, hD⟩ := va_join (wr := [(x, .inr (7, xs)), (fl, .inr (2, ff))]) (w1 := [(sh, .inr (5, ss)), (sc, .inl (cS, 5, .inl (fun _ => 0)))]) hP hD [2, 3] [0, 1] rfl rfl (by decide) (by decide) hk1 hFc hP1 hD1
  generalize H1 = H at hP hS ⊢
  have hP : va_P (dC, dI) vwCl [(x, .inr (7, xs)), (fl, .inr (2, ff)), (sh, .inr (5, ss)), (sc, .inl (cS, 5, .inl (fun _ => 0)))] H := hP
  have hD : va_D A [(x, .inr (7, xs)), (fl, .inr (2, ff)), (sh, .inr (5, ss)), (sc, .inl (cS, 5, .inl (fun _ => 0)))] := hD
  try dsimp only at hw
  obtain rfl : r_10 = 0 := hw
  refine lv_if_eq (tgt := 28) hx hb dX8_fits_19 (by decide) (fun _ => ?_) (fun c9 => absurd c9 (by decide))
  refine lv_iconst (v := 0) hx hb dX8_fits_28 (by decide) ?_
  refine lv_ior hx hb dX8_fits_29 ?_
  refine lv_topi (fun v_12 ev_12 => ?_)
  obtain rfl : v_12 = 0 := ev_12.trans (by decide)
  refine lv_istore_n (lv' := [(2, .int 0), (3, .int 2), (0, .ref x), (1, .int a1)]) hx hb dX8_fits_30 rfl hl (by decide) rfl (fun ls hl => ?_)
  refine lv_iinc (v := 3) (lv' := [(3, .int 3), (2, .int 0), (0, .ref x), (1, .int a1)]) hx hb dX8_fits_31 hl (k := 1) rfl (by decide) (by decide) rfl (fun ls hl => ?_)
  refine lv_goto (tgt := 4) hx hb dX8_fits_34 (by decide) ?_
  refine lv_iload_n hx hb dX8_fits_4 rfl (lv_at hl 0 rfl) ?_
  refine lv_bipush (v := 12) hx hb dX8_fits_5 (by decide) ?_
  refine lv_icmp_ge (tgt := 37) hx hb dX8_fits_7 (by decide) (fun c9 => absurd c9 (by decide)) (fun _ => ?_)
  refine lv_iload_n hx hb dX8_fits_10 rfl (lv_at hl 1 rfl) ?_
  refine lv_aload_n hx hb dX8_fits_11 rfl (lv_at hl 2 rfl) ?_
  refine va_get (D := (dC, dI)) (ci := 7) (v := .ref sh) (C := RX8) (T := TX8) (N := 14) hx hb hts i_X8 hown hK hP 0 rfl rfl 9 (by decide) k_0 (fun _ h9 => h9) f_xs_9 dX8_fits_12 ?_
  refine lv_iload_n hx hb dX8_fits_15 rfl (lv_at hl 0 rfl) ?_
  have hPc := hP.sub (ws' := [(sh, .inr (5, ss)), (sc, .inl (cS, 5, .inl (fun _ => 0)))]) [2, 3] rfl
  have hDc := hD.sub (ws' := [(sh, .inr (5, ss)), (sc, .inl (cS, 5, .inl (fun _ => 0)))]) [2, 3] (by decide) rfl
  have hKc := hK.sub (tys' := [(cS, .int)]) [0] rfl
  have hFc := va_free (wc := [(sh, .inr (5, ss)), (sc, .inl (cS, 5, .inl (fun _ => 0)))]) hD hS hA [2, 3] rfl
  refine va_calli (va_runV (As := [.int 3]) (rest := [.int 0]) ⟨hx, hb, hml, hown, hts⟩ (c_hasPair l dC dI H.size sh ss sc cS 3 f_ss_0) (cwV 1 hts (p1_gV m_1 m_2 m_3 m_4 g_c_hasPair gz_c_hasPair) rfl rfl rfl (by decide +kernel) ⟨by decide, by decide⟩) ⟨fun a U g mk q => by obtain ⟨q0, q1, qP, qK, qD⟩ := q; exact ⟨q0, q1, qP, va_K.moved (u := U) (U := U.calling g mk a) (Vm.Alike.refl U.vm) qK, qD⟩, va_recv hKc hPc (ci := 5) (q0 := 0) rfl rfl, fun U hU hW => ⟨rfl, by rw [hU], by rw [hU]; exact hPc, va_K.moved hW.alike hKc, hDc.weaken (fun _ _ _ _ => trivial)⟩⟩ rfl rfl hl.1 rfl (lv_room (Nat.le_of_ble_eq_true rfl)) dX8_fits_16 ⟨by decide, by decide⟩) hS (fun q _ h => hFc q h) hFc (fun r_14 u t H1 locs ht hvm hw hB hz1 hk1 hS => ?_)
  obtain ⟨hP1, hK1, hD1⟩ := hB
  rw [ht] at hP1
  obtain ⟨hP, hD⟩ := va_join (wr := [(x, .inr (7, xs)), (fl, .inr (2, ff))]) (w1 := [(sh, .inr (5, ss)), (sc, .inl (cS, 5, .inl (fun _ => 0)))]) hP hD [2, 3] [0, 1] rfl rfl (by decide) (by decide) hk1 hFc hP1 hD1
  generalize H1 = H at hP hS ⊢
  have hP : va_P (dC, dI) vwCl [(x, .inr (7, xs)), (fl, .inr (2, ff)), (sh, .inr (5, ss)), (sc, .inl (cS, 5, .inl (fun _ => 0)))] H := hP
  have hD : va_D A [(x, .inr (7, xs)), (fl, .inr (2, ff)), (sh, .inr (5, ss)), (sc, .inl (cS, 5, .inl (fun _ => 0)))] := hD
  try dsimp only at hw
  obtain rfl : r_14 = 0 := hw
  refine lv_if_eq (tgt := 28) hx hb dX8_fits_19 (by decide) (fun _ => ?_) (fun c9 => absurd c9 (by decide))
  refine lv_iconst (v := 0) hx hb dX8_fits_28 (by decide) ?_
  refine lv_ior hx hb dX8_fits_29 ?_
  refine lv_topi (fun v_16 ev_16 => ?_)
  obtain rfl : v_16 = 0 := ev_16.trans (by decide)
  refine lv_istore_n (lv' := [(2, .int 0), (3, .int 3), (0, .ref x), (1, .int a1)]) hx hb dX8_fits_30 rfl hl (by decide) rfl (fun ls hl => ?_)
  refine lv_iinc (v := 4) (lv' := [(3, .int 4), (2, .int 0), (0, .ref x), (1, .int a1)]) hx hb dX8_fits_31 hl (k := 1) rfl (by decide) (by decide) rfl (fun ls hl => ?_)
  refine lv_goto (tgt := 4) hx hb dX8_fits_34 (by decide) ?_
  refine lv_iload_n hx hb dX8_fits_4 rfl (lv_at hl 0 rfl) ?_
  refine lv_bipush (v := 12) hx hb dX8_fits_5 (by decide) ?_
  refine lv_icmp_ge (tgt := 37) hx hb dX8_fits_7 (by decide) (fun c9 => absurd c9 (by decide)) (fun _ => ?_)
  refine lv_iload_n hx hb dX8_fits_10 rfl (lv_at hl 1 rfl) ?_
  refine lv_aload_n hx hb dX8_fits_11 rfl (lv_at hl 2 rfl) ?_
  refine va_get (D := (dC, dI)) (ci := 7) (v := .ref sh) (C := RX8) (T := TX8) (N := 14) hx hb hts i_X8 hown hK hP 0 rfl rfl 9 (by decide) k_0 (fun _ h9 => h9) f_xs_9 dX8_fits_12 ?_
  refine lv_iload_n hx hb dX8_fits_15 rfl (lv_at hl 0 rfl) ?_
  have hPc := hP.sub (ws' := [(sh, .inr (5, ss)), (sc, .inl (cS, 5, .inl (fun _ => 0)))]) [2, 3] rfl
  have hDc := hD.sub (ws' := [(sh, .inr (5, ss)), (sc, .inl (cS, 5, .inl (fun _ => 0)))]) [2, 3] (by decide) rfl
  have hKc := hK.sub (tys' := [(cS, .int)]) [0] rfl
  have hFc := va_free (wc := [(sh, .inr (5, ss)), (sc, .inl (cS, 5, .inl (fun _ => 0)))]) hD hS hA [2, 3] rfl
  refine va_calli (va_runV (As := [.int 4]) (rest := [.int 0]) ⟨hx, hb, hml, hown, hts⟩ (c_hasPair l dC dI H.size sh ss sc cS 4 f_ss_0) (cwV 1 hts (p1_gV m_1 m_2 m_3 m_4 g_c_hasPair gz_c_hasPair) rfl rfl rfl (by decide +kernel) ⟨by decide, by decide⟩) ⟨fun a U g mk q => by obtain ⟨q0, q1, qP, qK, qD⟩ := q; exact ⟨q0, q1, qP, va_K.moved (u := U) (U := U.calling g mk a) (Vm.Alike.refl U.vm) qK, qD⟩, va_recv hKc hPc (ci := 5) (q0 := 0) rfl rfl, fun U hU hW => ⟨rfl, by rw [hU], by rw [hU]; exact hPc, va_K.moved hW.alike hKc, hDc.weaken (fun _ _ _ _ => trivial)⟩⟩ rfl rfl hl.1 rfl (lv_room (Nat.le_of_ble_eq_true rfl)) dX8_fits_16 ⟨by decide, by decide⟩) hS (fun q _ h => hFc q h) hFc (fun r_18 u t H1 locs ht hvm hw hB hz1 hk1 hS => ?_)
  obtain ⟨hP1, hK1, hD1⟩ := hB
  rw [ht] at hP1
  obtain ⟨hP, hD⟩ := va_join (wr := [(x, .inr (7, xs)), (fl, .inr (2, ff))]) (w1 := [(sh, .inr (5, ss)), (sc, .inl (cS, 5, .inl (fun _ => 0)))]) hP hD [2, 3] [0, 1] rfl rfl (by decide) (by decide) hk1 hFc hP1 hD1
  generalize H1 = H at hP hS ⊢
  have hP : va_P (dC, dI) vwCl [(x, .inr (7, xs)), (fl, .inr (2, ff)), (sh, .inr (5, ss)), (sc, .inl (cS, 5, .inl (fun _ => 0)))] H := hP
  have hD : va_D A [(x, .inr (7, xs)), (fl, .inr (2, ff)), (sh, .inr (5, ss)), (sc, .inl (cS, 5, .inl (fun _ => 0)))] := hD
  try dsimp only at hw
  obtain rfl : r_18 = 0 := hw
  refine lv_if_eq (tgt := 28) hx hb dX8_fits_19 (by decide) (fun _ => ?_) (fun c9 => absurd c9 (by decide))
  refine lv_iconst (v := 0) hx hb dX8_fits_28 (by decide) ?_
  refine lv_ior hx hb dX8_fits_29 ?_
  refine lv_topi (fun v_20 ev_20 => ?_)
  obtain rfl : v_20 = 0 := ev_20.trans (by decide)
  refine lv_istore_n (lv' := [(2, .int 0), (3, .int 4), (0, .ref x), (1, .int a1)]) hx hb dX8_fits_30 rfl hl (by decide) rfl (fun ls hl => ?_)
  refine lv_iinc (v := 5) (lv' := [(3, .int 5), (2, .int 0), (0, .ref x), (1, .int a1)]) hx hb dX8_fits_31 hl (k := 1) rfl (by decide) (by decide) rfl (fun ls hl => ?_)
  refine lv_goto (tgt := 4) hx hb dX8_fits_34 (by decide) ?_
  refine lv_iload_n hx hb dX8_fits_4 rfl (lv_at hl 0 rfl) ?_
  refine lv_bipush (v := 12) hx hb dX8_fits_5 (by decide) ?_
  refine lv_icmp_ge (tgt := 37) hx hb dX8_fits_7 (by decide) (fun c9 => absurd c9 (by decide)) (fun _ => ?_)
  refine lv_iload_n hx hb dX8_fits_10 rfl (lv_at hl 1 rfl) ?_
  refine lv_aload_n hx hb dX8_fits_11 rfl (lv_at hl 2 rfl) ?_
  refine va_get (D := (dC, dI)) (ci := 7) (v := .ref sh) (C := RX8) (T := TX8) (N := 14) hx hb hts i_X8 hown hK hP 0 rfl rfl 9 (by decide) k_0 (fun _ h9 => h9) f_xs_9 dX8_fits_12 ?_
  refine lv_iload_n hx hb dX8_fits_15 rfl (lv_at hl 0 rfl) ?_
  have hPc := hP.sub (ws' := [(sh, .inr (5, ss)), (sc, .inl (cS, 5, .inl (fun _ => 0)))]) [2, 3] rfl
  have hDc := hD.sub (ws' := [(sh, .inr (5, ss)), (sc, .inl (cS, 5, .inl (fun _ => 0)))]) [2, 3] (by decide) rfl
  have hKc := hK.sub (tys' := [(cS, .int)]) [0] rfl
  have hFc := va_free (wc := [(sh, .inr (5, ss)), (sc, .inl (cS, 5, .inl (fun _ => 0)))]) hD hS hA [2, 3] rfl
  refine va_calli (va_runV (As := [.int 5]) (rest := [.int 0]) ⟨hx, hb, hml, hown, hts⟩ (c_hasPair l dC dI H.size sh ss sc cS 5 f_ss_0) (cwV 1 hts (p1_gV m_1 m_2 m_3 m_4 g_c_hasPair gz_c_hasPair) rfl rfl rfl (by decide +kernel) ⟨by decide, by decide⟩) ⟨fun a U g mk q => by obtain ⟨q0, q1, qP, qK, qD⟩ := q; exact ⟨q0, q1, qP, va_K.moved (u := U) (U := U.calling g mk a) (Vm.Alike.refl U.vm) qK, qD⟩, va_recv hKc hPc (ci := 5) (q0 := 0) rfl rfl, fun U hU hW => ⟨rfl, by rw [hU], by rw [hU]; exact hPc, va_K.moved hW.alike hKc, hDc.weaken (fun _ _ _ _ => trivial)⟩⟩ rfl rfl hl.1 rfl (lv_room (Nat.le_of_ble_eq_true rfl)) dX8_fits_16 ⟨by decide, by decide⟩) hS (fun q _ h => hFc q h) hFc (fun r_22 u t H1 locs ht hvm hw hB hz1 hk1 hS => ?_)
  obtain ⟨hP1, hK1, hD1⟩ := hB
  rw [ht] at hP1
  obtain ⟨hP, hD⟩ := va_join (wr := [(x, .inr (7, xs)), (fl, .inr (2, ff))]) (w1 := [(sh, .inr (5, ss)), (sc, .inl (cS, 5, .inl (fun _ => 0)))]) hP hD [2, 3] [0, 1] rfl rfl (by decide) (by decide) hk1 hFc hP1 hD1
  generalize H1 = H at hP hS ⊢
  have hP : va_P (dC, dI) vwCl [(x, .inr (7, xs)), (fl, .inr (2, ff)), (sh, .inr (5, ss)), (sc, .inl (cS, 5, .inl (fun _ => 0)))] H := hP
  have hD : va_D A [(x, .inr (7, xs)), (fl, .inr (2, ff)), (sh, .inr (5, ss)), (sc, .inl (cS, 5, .inl (fun _ => 0)))] := hD
  try dsimp only at hw
  obtain rfl : r_22 = 0 := hw
  refine lv_if_eq (tgt := 28) hx hb dX8_fits_19 (by decide) (fun _ => ?_) (fun c9 => absurd c9 (by decide))
  refine lv_iconst (v := 0) hx hb dX8_fits_28 (by decide) ?_
  refine lv_ior hx hb dX8_fits_29 ?_
  refine lv_topi (fun v_24 ev_24 => ?_)
  obtain rfl : v_24 = 0 := ev_24.trans (by decide)
  refine lv_istore_n (lv' := [(2, .int 0), (3, .int 5), (0, .ref x), (1, .int a1)]) hx hb dX8_fits_30 rfl hl (by decide) rfl (fun ls hl => ?_)
  refine lv_iinc (v := 6) (lv' := [(3, .int 6), (2, .int 0), (0, .ref x), (1, .int a1)]) hx hb dX8_fits_31 hl (k := 1) rfl (by decide) (by decide) rfl (fun ls hl => ?_)
  refine lv_goto (tgt := 4) hx hb dX8_fits_34 (by decide) ?_
  refine lv_iload_n hx hb dX8_fits_4 rfl (lv_at hl 0 rfl) ?_
  refine lv_bipush (v := 12) hx hb dX8_fits_5 (by decide) ?_
  refine lv_icmp_ge (tgt := 37) hx hb dX8_fits_7 (by decide) (fun c9 => absurd c9 (by decide)) (fun _ => ?_)
  refine lv_iload_n hx hb dX8_fits_10 rfl (lv_at hl 1 rfl) ?_
  refine lv_aload_n hx hb dX8_fits_11 rfl (lv_at hl 2 rfl) ?_
  refine va_get (D := (dC, dI)) (ci := 7) (v := .ref sh) (C := RX8) (T := TX8) (N := 14) hx hb hts i_X8 hown hK hP 0 rfl rfl 9 (by decide) k_0 (fun _ h9 => h9) f_xs_9 dX8_fits_12 ?_
  refine lv_iload_n hx hb dX8_fits_15 rfl (lv_at hl 0 rfl) ?_
  have hPc := hP.sub (ws' := [(sh, .inr (5, ss)), (sc, .inl (cS, 5, .inl (fun _ => 0)))]) [2, 3] rfl
  have hDc := hD.sub (ws' := [(sh, .inr (5, ss)), (sc, .inl (cS, 5, .inl (fun _ => 0)))]) [2, 3] (by decide) rfl
  have hKc := hK.sub (tys' := [(cS, .int)]) [0] rfl
  have hFc := va_free (wc := [(sh, .inr (5, ss)), (sc, .inl (cS, 5, .inl (fun _ => 0)))]) hD hS hA [2, 3] rfl
  refine va_calli (va_runV (As := [.int 6]) (rest := [.int 0]) ⟨hx, hb, hml, hown, hts⟩ (c_hasPair l dC dI H.size sh ss sc cS 6 f_ss_0) (cwV 1 hts (p1_gV m_1 m_2 m_3 m_4 g_c_hasPair gz_c_hasPair) rfl rfl rfl (by decide +kernel) ⟨by decide, by decide⟩) ⟨fun a U g mk q => by obtain ⟨q0, q1, qP, qK, qD⟩ := q; exact ⟨q0, q1, qP, va_K.moved (u := U) (U := U.calling g mk a) (Vm.Alike.refl U.vm) qK, qD⟩, va_recv hKc hPc (ci := 5) (q0 := 0) rfl rfl, fun U hU hW => ⟨rfl, by rw [hU], by rw [hU]; exact hPc, va_K.moved hW.alike hKc, hDc.weaken (fun _ _ _ _ => trivial)⟩⟩ rfl rfl hl.1 rfl (lv_room (Nat.le_of_ble_eq_true rfl)) dX8_fits_16 ⟨by decide, by decide⟩) hS (fun q _ h => hFc q h) hFc (fun r_26 u t H1 locs ht hvm hw hB hz1 hk1 hS => ?_)
  obtain ⟨hP1, hK1, hD1⟩ := hB
  rw [ht] at hP1
  obtain ⟨hP, hD⟩ := va_join (wr := [(x, .inr (7, xs)), (fl, .inr (2, ff))]) (w1 := [(sh, .inr (5, ss)), (sc, .inl (cS, 5, .inl (fun _ => 0)))]) hP hD [2, 3] [0, 1] rfl rfl (by decide) (by decide) hk1 hFc hP1 hD1
  generalize H1 = H at hP hS ⊢
  have hP : va_P (dC, dI) vwCl [(x, .inr (7, xs)), (fl, .inr (2, ff)), (sh, .inr (5, ss)), (sc, .inl (cS, 5, .inl (fun _ => 0)))] H := hP
  have hD : va_D A [(x, .inr (7, xs)), (fl, .inr (2, ff)), (sh, .inr (5, ss)), (sc, .inl (cS, 5, .inl (fun _ => 0)))] := hD
  try dsimp only at hw
  obtain rfl : r_26 = 0 := hw
  refine lv_if_eq (tgt := 28) hx hb dX8_fits_19 (by decide) (fun _ => ?_) (fun c9 => absurd c9 (by decide))
  refine lv_iconst (v := 0) hx hb dX8_fits_28 (by decide) ?_
  refine lv_ior hx hb dX8_fits_29 ?_
  refine lv_topi (fun v_28 ev_28 => ?_)
  obtain rfl : v_28 = 0 := ev_28.trans (by decide)
  refine lv_istore_n (lv' := [(2, .int 0), (3, .int 6), (0, .ref x), (1, .int a1)]) hx hb dX8_fits_30 rfl hl (by decide) rfl (fun ls hl => ?_)
  refine lv_iinc (v := 7) (lv' := [(3, .int 7), (2, .int 0), (0, .ref x), (1, .int a1)]) hx hb dX8_fits_31 hl (k := 1) rfl (by decide) (by decide) rfl (fun ls hl => ?_)
  refine lv_goto (tgt := 4) hx hb dX8_fits_34 (by decide) ?_
  refine lv_iload_n hx hb dX8_fits_4 rfl (lv_at hl 0 rfl) ?_
  refine lv_bipush (v := 12) hx hb dX8_fits_5 (by decide) ?_
  refine lv_icmp_ge (tgt := 37) hx hb dX8_fits_7 (by decide) (fun c9 => absurd c9 (by decide)) (fun _ => ?_)
  refine lv_iload_n hx hb dX8_fits_10 rfl (lv_at hl 1 rfl) ?_
  refine lv_aload_n hx hb dX8_fits_11 rfl (lv_at hl 2 rfl) ?_
  refine va_get (D := (dC, dI)) (ci := 7) (v := .ref sh) (C := RX8) (T := TX8) (N := 14) hx hb hts i_X8 hown hK hP 0 rfl rfl 9 (by decide) k_0 (fun _ h9 => h9) f_xs_9 dX8_fits_12 ?_
  refine lv_iload_n hx hb dX8_fits_15 rfl (lv_at hl 0 rfl) ?_
  have hPc := hP.sub (ws' := [(sh, .inr (5, ss)), (sc, .inl (cS, 5, .inl (fun _ => 0)))]) [2, 3] rfl
  have hDc := hD.sub (ws' := [(sh, .inr (5, ss)), (sc, .inl (cS, 5, .inl (fun _ => 0)))]) [2, 3] (by decide) rfl
  have hKc := hK.sub (tys' := [(cS, .int)]) [0] rfl
  have hFc := va_free (wc := [(sh, .inr (5, ss)), (sc, .inl (cS, 5, .inl (fun _ => 0)))]) hD hS hA [2, 3] rfl
  refine va_calli (va_runV (As := [.int 7]) (rest := [.int 0]) ⟨hx, hb, hml, hown, hts⟩ (c_hasPair l dC dI H.size sh ss sc cS 7 f_ss_0) (cwV 1 hts (p1_gV m_1 m_2 m_3 m_4 g_c_hasPair gz_c_hasPair) rfl rfl rfl (by decide +kernel) ⟨by decide, by decide⟩) ⟨fun a U g mk q => by obtain ⟨q0, q1, qP, qK, qD⟩ := q; exact ⟨q0, q1, qP, va_K.moved (u := U) (U := U.calling g mk a) (Vm.Alike.refl U.vm) qK, qD⟩, va_recv hKc hPc (ci := 5) (q0 := 0) rfl rfl, fun U hU hW => ⟨rfl, by rw [hU], by rw [hU]; exact hPc, va_K.moved hW.alike hKc, hDc.weaken (fun _ _ _ _ => trivial)⟩⟩ rfl rfl hl.1 rfl (lv_room (Nat.le_of_ble_eq_true rfl)) dX8_fits_16 ⟨by decide, by decide⟩) hS (fun q _ h => hFc q h) hFc (fun r_30 u t H1 locs ht hvm hw hB hz1 hk1 hS => ?_)
  obtain ⟨hP1, hK1, hD1⟩ := hB
  rw [ht] at hP1
  obtain ⟨hP, hD⟩ := va_join (wr := [(x, .inr (7, xs)), (fl, .inr (2, ff))]) (w1 := [(sh, .inr (5, ss)), (sc, .inl (cS, 5, .inl (fun _ => 0)))]) hP hD [2, 3] [0, 1] rfl rfl (by decide) (by decide) hk1 hFc hP1 hD1
  generalize H1 = H at hP hS ⊢
  have hP : va_P (dC, dI) vwCl [(x, .inr (7, xs)), (fl, .inr (2, ff)), (sh, .inr (5, ss)), (sc, .inl (cS, 5, .inl (fun _ => 0)))] H := hP
  have hD : va_D A [(x, .inr (7, xs)), (fl, .inr (2, ff)), (sh, .inr (5, ss)), (sc, .inl (cS, 5, .inl (fun _ => 0)))] := hD
  try dsimp only at hw
  obtain rfl : r_30 = 0 := hw
  refine lv_if_eq (tgt := 28) hx hb dX8_fits_19 (by decide) (fun _ => ?_) (fun c9 => absurd c9 (by decide))
  refine lv_iconst (v := 0) hx hb dX8_fits_28 (by decide) ?_
  refine lv_ior hx hb dX8_fits_29 ?_
  refine lv_topi (fun v_32 ev_32 => ?_)
  obtain rfl : v_32 = 0 := ev_32.trans (by decide)
  refine lv_istore_n (lv' := [(2, .int 0), (3, .int 7), (0, .ref x), (1, .int a1)]) hx hb dX8_fits_30 rfl hl (by decide) rfl (fun ls hl => ?_)
  refine lv_iinc (v := 8) (lv' := [(3, .int 8), (2, .int 0), (0, .ref x), (1, .int a1)]) hx hb dX8_fits_31 hl (k := 1) rfl (by decide) (by decide) rfl (fun ls hl => ?_)
  refine lv_goto (tgt := 4) hx hb dX8_fits_34 (by decide) ?_
  refine lv_iload_n hx hb dX8_fits_4 rfl (lv_at hl 0 rfl) ?_
  refine lv_bipush (v := 12) hx hb dX8_fits_5 (by decide) ?_
  refine lv_icmp_ge (tgt := 37) hx hb dX8_fits_7 (by decide) (fun c9 => absurd c9 (by decide)) (fun _ => ?_)
  refine lv_iload_n hx hb dX8_fits_10 rfl (lv_at hl 1 rfl) ?_
  refine lv_aload_n hx hb dX8_fits_11 rfl (lv_at hl 2 rfl) ?_
  refine va_get (D := (dC, dI)) (ci := 7) (v := .ref sh) (C := RX8) (T := TX8) (N := 14) hx hb hts i_X8 hown hK hP 0 rfl rfl 9 (by decide) k_0 (fun _ h9 => h9) f_xs_9 dX8_fits_12 ?_
  refine lv_iload_n hx hb dX8_fits_15 rfl (lv_at hl 0 rfl) ?_
  have hPc := hP.sub (ws' := [(sh, .inr (5, ss)), (sc, .inl (cS, 5, .inl (fun _ => 0)))]) [2, 3] rfl
  have hDc := hD.sub (ws' := [(sh, .inr (5, ss)), (sc, .inl (cS, 5, .inl (fun _ => 0)))]) [2, 3] (by decide) rfl
  have hKc := hK.sub (tys' := [(cS, .int)]) [0] rfl
  have hFc := va_free (wc := [(sh, .inr (5, ss)), (sc, .inl (cS, 5, .inl (fun _ => 0)))]) hD hS hA [2, 3] rfl
  refine va_calli (va_runV (As := [.int 8]) (rest := [.int 0]) ⟨hx, hb, hml, hown, hts⟩ (c_hasPair l dC dI H.size sh ss sc cS 8 f_ss_0) (cwV 1 hts (p1_gV m_1 m_2 m_3 m_4 g_c_hasPair gz_c_hasPair) rfl rfl rfl (by decide +kernel) ⟨by decide, by decide⟩) ⟨fun a U g mk q => by obtain ⟨q0, q1, qP, qK, qD⟩ := q; exact ⟨q0, q1, qP, va_K.moved (u := U) (U := U.calling g mk a) (Vm.Alike.refl U.vm) qK, qD⟩, va_recv hKc hPc (ci := 5) (q0 := 0) rfl rfl, fun U hU hW => ⟨rfl, by rw [hU], by rw [hU]; exact hPc, va_K.moved hW.alike hKc, hDc.weaken (fun _ _ _ _ => trivial)⟩⟩ rfl rfl hl.1 rfl (lv_room (Nat.le_of_ble_eq_true rfl)) dX8_fits_16 ⟨by decide, by decide⟩) hS (fun q _ h => hFc q h) hFc (fun r_34 u t H1 locs ht hvm hw hB hz1 hk1 hS => ?_)
  obtain ⟨hP1, hK1, hD1⟩ := hB
  rw [ht] at hP1
  obtain ⟨hP, hD⟩ := va_join (wr := [(x, .inr (7, xs)), (fl, .inr (2, ff))]) (w1 := [(sh, .inr (5, ss)), (sc, .inl (cS, 5, .inl (fun _ => 0)))]) hP hD [2, 3] [0, 1] rfl rfl (by decide) (by decide) hk1 hFc hP1 hD1
  generalize H1 = H at hP hS ⊢
  have hP : va_P (dC, dI) vwCl [(x, .inr (7, xs)), (fl, .inr (2, ff)), (sh, .inr (5, ss)), (sc, .inl (cS, 5, .inl (fun _ => 0)))] H := hP
  have hD : va_D A [(x, .inr (7, xs)), (fl, .inr (2, ff)), (sh, .inr (5, ss)), (sc, .inl (cS, 5, .inl (fun _ => 0)))] := hD
  try dsimp only at hw
  obtain rfl : r_34 = 0 := hw
  refine lv_if_eq (tgt := 28) hx hb dX8_fits_19 (by decide) (fun _ => ?_) (fun c9 => absurd c9 (by decide))
  refine lv_iconst (v := 0) hx hb dX8_fits_28 (by decide) ?_
  refine lv_ior hx hb dX8_fits_29 ?_
  refine lv_topi (fun v_36 ev_36 => ?_)
  obtain rfl : v_36 = 0 := ev_36.trans (by decide)
  refine lv_istore_n (lv' := [(2, .int 0), (3, .int 8), (0, .ref x), (1, .int a1)]) hx hb dX8_fits_30 rfl hl (by decide) rfl (fun ls hl => ?_)
  refine lv_iinc (v := 9) (lv' := [(3, .int 9), (2, .int 0), (0, .ref x), (1, .int a1)]) hx hb dX8_fits_31 hl (k := 1) rfl (by decide) (by decide) rfl (fun ls hl => ?_)
  refine lv_goto (tgt := 4) hx hb dX8_fits_34 (by decide) ?_
  refine lv_iload_n hx hb dX8_fits_4 rfl (lv_at hl 0 rfl) ?_
  refine lv_bipush (v := 12) hx hb dX8_fits_5 (by decide) ?_
  refine lv_icmp_ge (tgt := 37) hx hb dX8_fits_7 (by decide) (fun c9 => absurd c9 (by decide)) (fun _ => ?_)
  refine lv_iload_n hx hb dX8_fits_10 rfl (lv_at hl 1 rfl) ?_
  refine lv_aload_n hx hb dX8_fits_11 rfl (lv_at hl 2 rfl) ?_
  refine va_get (D := (dC, dI)) (ci := 7) (v := .ref sh) (C := RX8) (T := TX8) (N := 14) hx hb hts i_X8 hown hK hP 0 rfl rfl 9 (by decide) k_0 (fun _ h9 => h9) f_xs_9 dX8_fits_12 ?_
  refine lv_iload_n hx hb dX8_fits_15 rfl (lv_at hl 0 rfl) ?_
  have hPc := hP.sub (ws' := [(sh, .inr (5, ss)), (sc, .inl (cS, 5, .inl (fun _ => 0)))]) [2, 3] rfl
  have hDc := hD.sub (ws' := [(sh, .inr (5, ss)), (sc, .inl (cS, 5, .inl (fun _ => 0)))]) [2, 3] (by decide) rfl
  have hKc := hK.sub (tys' := [(cS, .int)]) [0] rfl
  have hFc := va_free (wc := [(sh, .inr (5, ss)), (sc, .inl (cS, 5, .inl (fun _ => 0)))]) hD hS hA [2, 3] rfl
  refine va_calli (va_runV (As := [.int 9]) (rest := [.int 0]) ⟨hx, hb, hml, hown, hts⟩ (c_hasPair l dC dI H.size sh ss sc cS 9 f_ss_0) (cwV 1 hts (p1_gV m_1 m_2 m_3 m_4 g_c_hasPair gz_c_hasPair) rfl rfl rfl (by decide +kernel) ⟨by decide, by decide⟩) ⟨fun a U g mk q => by obtain ⟨q0, q1, qP, qK, qD⟩ := q; exact ⟨q0, q1, qP, va_K.moved (u := U) (U := U.calling g mk a) (Vm.Alike.refl U.vm) qK, qD⟩, va_recv hKc hPc (ci := 5) (q0 := 0) rfl rfl, fun U hU hW => ⟨rfl, by rw [hU], by rw [hU]; exact hPc, va_K.moved hW.alike hKc, hDc.weaken (fun _ _ _ _ => trivial)⟩⟩ rfl rfl hl.1 rfl (lv_room (Nat.le_of_ble_eq_true rfl)) dX8_fits_16 ⟨by decide, by decide⟩) hS (fun q _ h => hFc q h) hFc (fun r_38 u t H1 locs ht hvm hw hB hz1 hk1 hS => ?_)
  obtain ⟨hP1, hK1, hD1⟩ := hB
  rw [ht] at hP1
  obtain ⟨hP, hD⟩ := va_join (wr := [(x, .inr (7, xs)), (fl, .inr (2, ff))]) (w1 := [(sh, .inr (5, ss)), (sc, .inl (cS, 5, .inl (fun _ => 0)))]) hP hD [2, 3] [0, 1] rfl rfl (by decide) (by decide) hk1 hFc hP1 hD1
  generalize H1 = H at hP hS ⊢
  have hP : va_P (dC, dI) vwCl [(x, .inr (7, xs)), (fl, .inr (2, ff)), (sh, .inr (5, ss)), (sc, .inl (cS, 5, .inl (fun _ => 0)))] H := hP
  have hD : va_D A [(x, .inr (7, xs)), (fl, .inr (2, ff)), (sh, .inr (5, ss)), (sc, .inl (cS, 5, .inl (fun _ => 0)))] := hD
  try dsimp only at hw
  obtain rfl : r_38 = 0 := hw
  refine lv_if_eq (tgt := 28) hx hb dX8_fits_19 (by decide) (fun _ => ?_) (fun c9 => absurd c9 (by decide))
  refine lv_iconst (v := 0) hx hb dX8_fits_28 (by decide) ?_
  refine lv_ior hx hb dX8_fits_29 ?_
  refine lv_topi (fun v_40 ev_40 => ?_)
  obtain rfl : v_40 = 0 := ev_40.trans (by decide)
  refine lv_istore_n (lv' := [(2, .int 0), (3, .int 9), (0, .ref x), (1, .int a1)]) hx hb dX8_fits_30 rfl hl (by decide) rfl (fun ls hl => ?_)
  refine lv_iinc (v := 10) (lv' := [(3, .int 10), (2, .int 0), (0, .ref x), (1, .int a1)]) hx hb dX8_fits_31 hl (k := 1) rfl (by decide) (by decide) rfl (fun ls hl => ?_)
  refine lv_goto (tgt := 4) hx hb dX8_fits_34 (by decide) ?_
  refine lv_iload_n hx hb dX8_fits_4 rfl (lv_at hl 0 rfl) ?_
  refine lv_bipush (v := 12) hx hb dX8_fits_5 (by decide) ?_
  refine lv_icmp_ge (tgt := 37) hx hb dX8_fits_7 (by decide) (fun c9 => absurd c9 (by decide)) (fun _ => ?_)
  refine lv_iload_n hx hb dX8_fits_10 rfl (lv_at hl 1 rfl) ?_
  refine lv_aload_n hx hb dX8_fits_11 rfl (lv_at hl 2 rfl) ?_
  refine va_get (D := (dC, dI)) (ci := 7) (v := .ref sh) (C := RX8) (T := TX8) (N := 14) hx hb hts i_X8 hown hK hP 0 rfl rfl 9 (by decide) k_0 (fun _ h9 => h9) f_xs_9 dX8_fits_12 ?_
  refine lv_iload_n hx hb dX8_fits_15 rfl (lv_at hl 0 rfl) ?_
  have hPc := hP.sub (ws' := [(sh, .inr (5, ss)), (sc, .inl (cS, 5, .inl (fun _ => 0)))]) [2, 3] rfl
  have hDc := hD.sub (ws' := [(sh, .inr (5, ss)), (sc, .inl (cS, 5, .inl (fun _ => 0)))]) [2, 3] (by decide) rfl
  have hKc := hK.sub (tys' := [(cS, .int)]) [0] rfl
  have hFc := va_free (wc := [(sh, .inr (5, ss)), (sc, .inl (cS, 5, .inl (fun _ => 0)))]) hD hS hA [2, 3] rfl
  refine va_calli (va_runV (As := [.int 10]) (rest := [.int 0]) ⟨hx, hb, hml, hown, hts⟩ (c_hasPair l dC dI H.size sh ss sc cS 10 f_ss_0) (cwV 1 hts (p1_gV m_1 m_2 m_3 m_4 g_c_hasPair gz_c_hasPair) rfl rfl rfl (by decide +kernel) ⟨by decide, by decide⟩) ⟨fun a U g mk q => by obtain ⟨q0, q1, qP, qK, qD⟩ := q; exact ⟨q0, q1, qP, va_K.moved (u := U) (U := U.calling g mk a) (Vm.Alike.refl U.vm) qK, qD⟩, va_recv hKc hPc (ci := 5) (q0 := 0) rfl rfl, fun U hU hW => ⟨rfl, by rw [hU], by rw [hU]; exact hPc, va_K.moved hW.alike hKc, hDc.weaken (fun _ _ _ _ => trivial)⟩⟩ rfl rfl hl.1 rfl (lv_room (Nat.le_of_ble_eq_true rfl)) dX8_fits_16 ⟨by decide, by decide⟩) hS (fun q _ h => hFc q h) hFc (fun r_42 u t H1 locs ht hvm hw hB hz1 hk1 hS => ?_)
  obtain ⟨hP1, hK1, hD1⟩ := hB
  rw [ht] at hP1
  obtain ⟨hP, hD⟩ := va_join (wr := [(x, .inr (7, xs)), (fl, .inr (2, ff))]) (w1 := [(sh, .inr (5, ss)), (sc, .inl (cS, 5, .inl (fun _ => 0)))]) hP hD [2, 3] [0, 1] rfl rfl (by decide) (by decide) hk1 hFc hP1 hD1
  generalize H1 = H at hP hS ⊢
  have hP : va_P (dC, dI) vwCl [(x, .inr (7, xs)), (fl, .inr (2, ff)), (sh, .inr (5, ss)), (sc, .inl (cS, 5, .inl (fun _ => 0)))] H := hP
  have hD : va_D A [(x, .inr (7, xs)), (fl, .inr (2, ff)), (sh, .inr (5, ss)), (sc, .inl (cS, 5, .inl (fun _ => 0)))] := hD
  try dsimp only at hw
  obtain rfl : r_42 = 0 := hw
  refine lv_if_eq (tgt := 28) hx hb dX8_fits_19 (by decide) (fun _ => ?_) (fun c9 => absurd c9 (by decide))
  refine lv_iconst (v := 0) hx hb dX8_fits_28 (by decide) ?_
  refine lv_ior hx hb dX8_fits_29 ?_
  refine lv_topi (fun v_44 ev_44 => ?_)
  obtain rfl : v_44 = 0 := ev_44.trans (by decide)
  refine lv_istore_n (lv' := [(2, .int 0), (3, .int 10), (0, .ref x), (1, .int a1)]) hx hb dX8_fits_30 rfl hl (by decide) rfl (fun ls hl => ?_)
  refine lv_iinc (v := 11) (lv' := [(3, .int 11), (2, .int 0), (0, .ref x), (1, .int a1)]) hx hb dX8_fits_31 hl (k := 1) rfl (by decide) (by decide) rfl (fun ls hl => ?_)
  refine lv_goto (tgt := 4) hx hb dX8_fits_34 (by decide) ?_
  refine lv_iload_n hx hb dX8_fits_4 rfl (lv_at hl 0 rfl) ?_
  refine lv_bipush (v := 12) hx hb dX8_fits_5 (by decide) ?_
  refine lv_icmp_ge (tgt := 37) hx hb dX8_fits_7 (by decide) (fun c9 => absurd c9 (by decide)) (fun _ => ?_)
  refine lv_iload_n hx hb dX8_fits_10 rfl (lv_at hl 1 rfl) ?_
  refine lv_aload_n hx hb dX8_fits_11 rfl (lv_at hl 2 rfl) ?_
  refine va_get (D := (dC, dI)) (ci := 7) (v := .ref sh) (C := RX8) (T := TX8) (N := 14) hx hb hts i_X8 hown hK hP 0 rfl rfl 9 (by decide) k_0 (fun _ h9 => h9) f_xs_9 dX8_fits_12 ?_
  refine lv_iload_n hx hb dX8_fits_15 rfl (lv_at hl 0 rfl) ?_
  have hPc := hP.sub (ws' := [(sh, .inr (5, ss)), (sc, .inl (cS, 5, .inl (fun _ => 0)))]) [2, 3] rfl
  have hDc := hD.sub (ws' := [(sh, .inr (5, ss)), (sc, .inl (cS, 5, .inl (fun _ => 0)))]) [2, 3] (by decide) rfl
  have hKc := hK.sub (tys' := [(cS, .int)]) [0] rfl
  have hFc := va_free (wc := [(sh, .inr (5, ss)), (sc, .inl (cS, 5, .inl (fun _ => 0)))]) hD hS hA [2, 3] rfl
  refine va_calli (va_runV (As := [.int 11]) (rest := [.int 0]) ⟨hx, hb, hml, hown, hts⟩ (c_hasPair l dC dI H.size sh ss sc cS 11 f_ss_0) (cwV 1 hts (p1_gV m_1 m_2 m_3 m_4 g_c_hasPair gz_c_hasPair) rfl rfl rfl (by decide +kernel) ⟨by decide, by decide⟩) ⟨fun a U g mk q => by obtain ⟨q0, q1, qP, qK, qD⟩ := q; exact ⟨q0, q1, qP, va_K.moved (u := U) (U := U.calling g mk a) (Vm.Alike.refl U.vm) qK, qD⟩, va_recv hKc hPc (ci := 5) (q0 := 0) rfl rfl, fun U hU hW => ⟨rfl, by rw [hU], by rw [hU]; exact hPc, va_K.moved hW.alike hKc, hDc.weaken (fun _ _ _ _ => trivial)⟩⟩ rfl rfl hl.1 rfl (lv_room (Nat.le_of_ble_eq_true rfl)) dX8_fits_16 ⟨by decide, by decide⟩) hS (fun q _ h => hFc q h) hFc (fun r_46 u t H1 locs ht hvm hw hB hz1 hk1 hS => ?_)
  obtain ⟨hP1, hK1, hD1⟩ := hB
  rw [ht] at hP1
  obtain ⟨hP, hD⟩ := va_join (wr := [(x, .inr (7, xs)), (fl, .inr (2, ff))]) (w1 := [(sh, .inr (5, ss)), (sc, .inl (cS, 5, .inl (fun _ => 0)))]) hP hD [2, 3] [0, 1] rfl rfl (by decide) (by decide) hk1 hFc hP1 hD1
  generalize H1 = H at hP hS ⊢
  have hP : va_P (dC, dI) vwCl [(x, .inr (7, xs)), (fl, .inr (2, ff)), (sh, .inr (5, ss)), (sc, .inl (cS, 5, .inl (fun _ => 0)))] H := hP
  have hD : va_D A [(x, .inr (7, xs)), (fl, .inr (2, ff)), (sh, .inr (5, ss)), (sc, .inl (cS, 5, .inl (fun _ => 0)))] := hD
  try dsimp only at hw
  obtain rfl : r_46 = 0 := hw
  refine lv_if_eq (tgt := 28) hx hb dX8_fits_19 (by decide) (fun _ => ?_) (fun c9 => absurd c9 (by decide))
  refine lv_iconst (v := 0) hx hb dX8_fits_28 (by decide) ?_
  refine lv_ior hx hb dX8_fits_29 ?_
  refine lv_topi (fun v_48 ev_48 => ?_)
  obtain rfl : v_48 = 0 := ev_48.trans (by decide)
  refine lv_istore_n (lv' := [(2, .int 0), (3, .int 11), (0, .ref x), (1, .int a1)]) hx hb dX8_fits_30 rfl hl (by decide) rfl (fun ls hl => ?_)
  refine lv_iinc (v := 12) (lv' := [(3, .int 12), (2, .int 0), (0, .ref x), (1, .int a1)]) hx hb dX8_fits_31 hl (k := 1) rfl (by decide) (by decide) rfl (fun ls hl => ?_)
  refine lv_goto (tgt := 4) hx hb dX8_fits_34 (by decide) ?_
  refine lv_iload_n hx hb dX8_fits_4 rfl (lv_at hl 0 rfl) ?_
  refine lv_bipush (v := 12) hx hb dX8_fits_5 (by decide) ?_
  refine lv_icmp_ge (tgt := 37) hx hb dX8_fits_7 (by decide) (fun _ => ?_) (fun c9 => absurd c9 (by decide))
  refine lv_iconst (v := 0) hx hb dX8_fits_37 (by decide) ?_
  refine lv_istore_n (lv' := [(3, .int 0), (2, .int 0), (0, .ref x), (1, .int a1)]) hx hb dX8_fits_38 rfl hl (by decide) rfl (fun ls hl => ?_)
  refine lv_iload_n hx hb dX8_fits_39 rfl (lv_at hl 0 rfl) ?_
  refine lv_aload_n hx hb dX8_fits_40 rfl (lv_at hl 2 rfl) ?_
  refine va_get (D := (dC, dI)) (ci := 7) (v := .ref fl) (C := RX8) (T := TX8) (N := 14) hx hb hts i_X8 hown hK hP 0 rfl rfl 4 (by decide) k_5 (fun _ h9 => h9) f_xs_4 dX8_fits_41 ?_
  refine va_get (D := (dC, dI)) (ci := 2) (v := .int 0) (C := RX2) (T := TX2) (N := 8) hx hb hts i_X2 hown hK hP 1 rfl rfl 7 (by decide) k_6 (fun _ h9 => h9) f_ff_7 dX8_fits_44 ?_
  refine lv_icmp_ge (tgt := 80) hx hb dX8_fits_47 (by decide) (fun _ => ?_) (fun c9 => absurd c9 (by decide))
  refine lv_iload_n hx hb dX8_fits_80 rfl (lv_at hl 1 rfl) ?_
  have hP9 := hP.sub (ws' := []) [] rfl
  have hD9 := hD.sub (ws' := []) [] (by decide) rfl
  have hK9 := hK.sub (tys' := []) [] rfl
  exact W.iret (v := 0) hx hb hr (fun t ht hW => ⟨⟨0, (), rfl, rfl, by rw [ht]; exact hP9, va_K.moved hW.alike hK9, hD9⟩, hS.F ht⟩) hS.2.2 dX8_fits_81
end
section
def zo_m_knot : List Cond := [.code yX9_knot cX9_knot 7 (some .int), .methodLink RX9 431 yX9_isKnot, .instanceMethod yX9_isKnot, .selects RX9 yX9_isKnot yX9_isKnot, .initialized RX9]
def zw_m_knot : List Cond := zo_m_knot ++ (zw_c_isKnot ++ [])
theorem gz_m_knot : zw_m_knot.all goodWord = true := p1_ga (by decide +kernel) (p1_ga gz_c_isKnot p1_g0)
theorem iz_m_knot : ∀ w ∈ zw_m_knot, w ∈ lw_tbl := p1_ia (p1_all [1513, 1435, 1437, 71, 116] (by decide +kernel)) (p1_ia iz_c_isKnot p1_i0)
set_option maxHeartbeats 4000000 in
set_option maxRecDepth 100000 in
theorem m_knot (l : Launch) (dC : Nat → ClassId) (dI : Nat → Nat → Nat) (sz : Nat) (mo : Nat) (ms : List Value) (kn : Nat) (cK : ClassId) (kf : Nat → Int32) (a1 : Int32) (a2 : Int32) (f_ms_11 : ms[11]? = some (.ref kn)) (f_ms_43 : ms[43]? = some (.int 0)) (h_kf_0 : kf 0 = 0) : Met l yX9_knot zw_m_knot ({ frames := 2, cells := 0, slots := 0, locals := 43 }) (va_Pc [.ref mo, .int a1, .int a2] (fun U => U.heap.size = sz ∧ va_P (dC, dI) vwCl [(mo, .inr (8, ms)), (kn, .inl (cK, 2, .inl kf))] U.heap ∧ va_K (dC, dI) vwCl [(cK, .int)] U ∧ va_D (fun _ => True) [(mo, .inr (8, ms)), (kn, .inl (cK, 2, .inl kf))])) (va_Qi (fun (r : Int32) (_ : Unit) => r = (-1)) (fun _ t => va_P (dC, dI) vwCl [] t.heap ∧ va_K (dC, dI) vwCl [] t ∧ va_D (va_A [(mo, .inr (8, ms)), (kn, .inl (cK, 2, .inl kf))] sz) []) (va_A [(mo, .inr (8, ms)), (kn, .inl (cK, 2, .inl kf))] sz)) 0 0 (va_A [(mo, .inr (8, ms)), (kn, .inl (cK, 2, .inl kf))] sz) := by
  refine Met.ofW (cc := cX9_knot) (maxL := 7) (ret := (some .int)) (by decide) rfl ?_
  intro p e s m args below meth c s₁ B hml hv
  obtain ⟨rfl, hsz, hP, hK, hD0⟩ := hv
  have hx := B.exec
  have hb := B.bytes
  have hr := B.returns
  have hts := atoms_spec (ws := zw_m_knot) B.pre
  have hown : s.vm.findClass RX9 = some m.cls := findClass_of_methodNamed B.named
  have hlocks := B.notSynchronized
  subst hsz
  have hD := hD0.self (sz := s.heap.size)
  generalize hAe : va_A [(mo, .inr (8, ms)), (kn, .inl (cK, 2, .inl kf))] s.heap.size = A at hD ⊢
  have hA : ∀ q : Nat, s.heap.size ≤ q → A q := fun q h => by rw [← hAe]; exact Or.inr h
  have hS : va_S A s.heap s.heap [] := va_S.rf
  have hP : va_P (dC, dI) vwCl [(mo, .inr (8, ms)), (kn, .inl (cK, 2, .inl kf))] s.heap := hP
  have m_0 : (.methodLink RX9 431 yX9_isKnot : Cond) ∈ zw_m_knot := List.mem_append_left _ (List.mem_of_getElem? (i := 1) rfl)
  have k_0 := hts _ m_0
  have m_1 : (.instanceMethod yX9_isKnot : Cond) ∈ zw_m_knot := List.mem_append_left _ (List.mem_of_getElem? (i := 2) rfl)
  have k_1 := hts _ m_1
  have m_2 : (.selects RX9 yX9_isKnot yX9_isKnot : Cond) ∈ zw_m_knot := List.mem_append_left _ (List.mem_of_getElem? (i := 3) rfl)
  have k_2 := hts _ m_2
  have m_3 : (.initialized RX9 : Cond) ∈ zw_m_knot := List.mem_append_left _ (List.mem_of_getElem? (i := 4) rfl)
  have k_3 := hts _ m_3
  have g_c_isKnot : ∀ w ∈ zw_c_isKnot, w ∈ zw_m_knot := fun w h => List.mem_append_right _ (List.mem_append_left _ h)
  have hl := lv_entry ([.ref mo, .int a1, .int a2]) (n := 7) (Nat.le_of_ble_eq_true rfl)
  rw [lg_entry_eq]
  generalize (lg_sl ([.ref mo, .int a1, .int a2]) ++ List.replicate (7 - (lg_sl ([.ref mo, .int a1, .int a2])).length) Slot.unset).toArray = ls at hl ⊢
  have hl : lv_has ls 7 [(0, .ref mo), (1, .int a1), (2, .int a2)] := hl
  refine lv_aload_n hx hb dX9_knot_0 rfl (lv_at hl 0 rfl) ?_
  refine lv_iload_n hx hb dX9_knot_1 rfl (lv_at hl 1 rfl) ?_
  have hPc := hP.sub (ws' := [(mo, .inr (8, ms)), (kn, .inl (cK, 2, .inl kf))]) [0, 1] rfl
  have hDc := hD.sub (ws' := [(mo, .inr (8, ms)), (kn, .inl (cK, 2, .inl kf))]) [0, 1] (by decide) rfl
  have hKc := hK.sub (tys' := [(cK, .int)]) [0] rfl
  have hFc := va_free (wc := [(mo, .inr (8, ms)), (kn, .inl (cK, 2, .inl kf))]) hD hS hA [0, 1] rfl
  refine va_calli (va_runV (As := [.int a1]) (rest := []) ⟨hx, hb, hml, hown, hts⟩ (c_isKnot l dC dI s.heap.size mo ms kn cK kf a1 f_ms_11 f_ms_43 h_kf_0) (cwV 1 hts (p1_gV m_0 m_1 m_2 m_3 g_c_isKnot gz_c_isKnot) rfl rfl rfl (by decide +kernel) ⟨by decide, by decide⟩) ⟨fun a U g mk q => by obtain ⟨q0, q1, qP, qK, qD⟩ := q; exact ⟨q0, q1, qP, va_K.moved (u := U) (U := U.calling g mk a) (Vm.Alike.refl U.vm) qK, qD⟩, va_recv hKc hPc (ci := 8) (q0 := 0) rfl rfl, fun U hU hW => ⟨rfl, by rw [hU], by rw [hU]; exact hPc, va_K.moved hW.alike hKc, hDc.weaken (fun _ _ _ _ => trivial)⟩⟩ rfl rfl hl.1 rfl (lv_room (Nat.le_of_ble_eq_true rfl)) dX9_knot_2 ⟨by decide, by decide⟩) hS (fun q _ h => hFc q h) hFc (fun r_1 u t H1 locs ht hvm hw hB hz1 hk1 hS => ?_)
  obtain ⟨hP1, hK1, hD1⟩ := hB
  rw [ht] at hP1
  obtain ⟨hP, hD⟩ := va_join (wr := []) (w1 := [(mo, .inr (8, ms)), (kn, .inl (cK, 2, .inl kf))]) hP hD [0, 1] [] rfl rfl (by decide) (by decide) hk1 hFc hP1 hD1
  generalize H1 = H at hP hS ⊢
  have hP : va_P (dC, dI) vwCl [(mo, .inr (8, ms)), (kn, .inl (cK, 2, .inl kf))] H := hP
  have hD : va_D A [(mo, .inr (8, ms)), (kn, .inl (cK, 2, .inl kf))] := hD
  try dsimp only at hw
  obtain rfl : r_1 = 0 := hw
  refine lv_if_ne (tgt := 10) hx hb dX9_knot_5 (by decide) (fun c9 => absurd c9 (by decide)) (fun _ => ?_)
  refine lv_iconst (v := (-1)) hx hb dX9_knot_8 (by decide) ?_
  have hP9 := hP.sub (ws' := []) [] rfl
  have hD9 := hD.sub (ws' := []) [] (by decide) rfl
  have hK9 := hK.sub (tys' := []) [] rfl
  exact W.iret (v := (-1)) hx hb hr (fun t ht hW => ⟨⟨(-1), (), rfl, rfl, by rw [ht]; exact hP9, va_K.moved hW.alike hK9, hD9⟩, hS.F ht⟩) hS.2.2 dX9_knot_9
def zo_m_tie : List Cond := [.code yX9_tie cX9_tie 3 (some .int), .methodLink RX9 431 yX9_isKnot, .instanceMethod yX9_isKnot, .selects RX9 yX9_isKnot yX9_isKnot, .initialized RX9]
def zw_m_tie : List Cond := zo_m_tie ++ (zw_c_isKnot ++ [])
theorem gz_m_tie : zw_m_tie.all goodWord = true := p1_ga (by decide +kernel) (p1_ga gz_c_isKnot p1_g0)
theorem iz_m_tie : ∀ w ∈ zw_m_tie, w ∈ lw_tbl := p1_ia (p1_all [1434, 1435, 1437, 71, 116] (by decide +kernel)) (p1_ia iz_c_isKnot p1_i0)
set_option maxHeartbeats 4000000 in
set_option maxRecDepth 100000 in
theorem m_tie (l : Launch) (dC : Nat → ClassId) (dI : Nat → Nat → Nat) (sz : Nat) (mo : Nat) (ms : List Value) (kn : Nat) (cK : ClassId) (kf : Nat → Int32) (a1 : Int32) (a2 : Int32) (f_ms_11 : ms[11]? = some (.ref kn)) (f_ms_43 : ms[43]? = some (.int 0)) (h_kf_0 : kf 0 = 0) : Met l yX9_tie zw_m_tie ({ frames := 2, cells := 0, slots := 0, locals := 43 }) (va_Pc [.ref mo, .int a1, .int a2] (fun U => U.heap.size = sz ∧ va_P (dC, dI) vwCl [(mo, .inr (8, ms)), (kn, .inl (cK, 2, .inl kf))] U.heap ∧ va_K (dC, dI) vwCl [(cK, .int)] U ∧ va_D (fun _ => True) [(mo, .inr (8, ms)), (kn, .inl (cK, 2, .inl kf))])) (va_Qi (fun (r : Int32) (_ : Unit) => r = (-1)) (fun _ t => va_P (dC, dI) vwCl [] t.heap ∧ va_K (dC, dI) vwCl [] t ∧ va_D (va_A [(mo, .inr (8, ms)), (kn, .inl (cK, 2, .inl kf))] sz) []) (va_A [(mo, .inr (8, ms)), (kn, .inl (cK, 2, .inl kf))] sz)) 0 0 (va_A [(mo, .inr (8, ms)), (kn, .inl (cK, 2, .inl kf))] sz) := by
  refine Met.ofW (cc := cX9_tie) (maxL := 3) (ret := (some .int)) (by decide) rfl ?_
  intro p e s m args below meth c s₁ B hml hv
  obtain ⟨rfl, hsz, hP, hK, hD0⟩ := hv
  have hx := B.exec
  have hb := B.bytes
  have hr := B.returns
  have hts := atoms_spec (ws := zw_m_tie) B.pre
  have hown : s.vm.findClass RX9 = some m.cls := findClass_of_methodNamed B.named
  have hlocks := B.notSynchronized
  subst hsz
  have hD := hD0.self (sz := s.heap.size)
  generalize hAe : va_A [(mo, .inr (8, ms)), (kn, .inl (cK, 2, .inl kf))] s.heap.size = A at hD ⊢
  have hA : ∀ q : Nat, s.heap.size ≤ q → A q := fun q h => by rw [← hAe]; exact Or.inr h
  have hS : va_S A s.heap s.heap [] := va_S.rf
  have hP : va_P (dC, dI) vwCl [(mo, .inr (8, ms)), (kn, .inl (cK, 2, .inl kf))] s.heap := hP
  have m_0 : (.methodLink RX9 431 yX9_isKnot : Cond) ∈ zw_m_tie := List.mem_append_left _ (List.mem_of_getElem? (i := 1) rfl)
  have k_0 := hts _ m_0
  have m_1 : (.instanceMethod yX9_isKnot : Cond) ∈ zw_m_tie := List.mem_append_left _ (List.mem_of_getElem? (i := 2) rfl)
  have k_1 := hts _ m_1
  have m_2 : (.selects RX9 yX9_isKnot yX9_isKnot : Cond) ∈ zw_m_tie := List.mem_append_left _ (List.mem_of_getElem? (i := 3) rfl)
  have k_2 := hts _ m_2
  have m_3 : (.initialized RX9 : Cond) ∈ zw_m_tie := List.mem_append_left _ (List.mem_of_getElem? (i := 4) rfl)
  have k_3 := hts _ m_3
  have g_c_isKnot : ∀ w ∈ zw_c_isKnot, w ∈ zw_m_tie := fun w h => List.mem_append_right _ (List.mem_append_left _ h)
  have hl := lv_entry ([.ref mo, .int a1, .int a2]) (n := 3) (Nat.le_of_ble_eq_true rfl)
  rw [lg_entry_eq]
  generalize (lg_sl ([.ref mo, .int a1, .int a2]) ++ List.replicate (3 - (lg_sl ([.ref mo, .int a1, .int a2])).length) Slot.unset).toArray = ls at hl ⊢
  have hl : lv_has ls 3 [(0, .ref mo), (1, .int a1), (2, .int a2)] := hl
  refine lv_aload_n hx hb dX9_tie_0 rfl (lv_at hl 0 rfl) ?_
  refine lv_iload_n hx hb dX9_tie_1 rfl (lv_at hl 1 rfl) ?_
  have hPc := hP.sub (ws' := [(mo, .inr (8, ms)), (kn, .inl (cK, 2, .inl kf))]) [0, 1] rfl
  have hDc := hD.sub (ws' := [(mo, .inr (8, ms)), (kn, .inl (cK, 2, .inl kf))]) [0, 1] (by decide) rfl
  have hKc := hK.sub (tys' := [(cK, .int)]) [0] rfl
  have hFc := va_free (wc := [(mo, .inr (8, ms)), (kn, .inl (cK, 2, .inl kf))]) hD hS hA [0, 1] rfl
  refine va_calli (va_runV (As := [.int a1]) (rest := []) ⟨hx, hb, hml, hown, hts⟩ (c_isKnot l dC dI s.heap.size mo ms kn cK kf a1 f_ms_11 f_ms_43 h_kf_0) (cwV 1 hts (p1_gV m_0 m_1 m_2 m_3 g_c_isKnot gz_c_isKnot) rfl rfl rfl (by decide +kernel) ⟨by decide, by decide⟩) ⟨fun a U g mk q => by obtain ⟨q0, q1, qP, qK, qD⟩ := q; exact ⟨q0, q1, qP, va_K.moved (u := U) (U := U.calling g mk a) (Vm.Alike.refl U.vm) qK, qD⟩, va_recv hKc hPc (ci := 8) (q0 := 0) rfl rfl, fun U hU hW => ⟨rfl, by rw [hU], by rw [hU]; exact hPc, va_K.moved hW.alike hKc, hDc.weaken (fun _ _ _ _ => trivial)⟩⟩ rfl rfl hl.1 rfl (lv_room (Nat.le_of_ble_eq_true rfl)) dX9_tie_2 ⟨by decide, by decide⟩) hS (fun q _ h => hFc q h) hFc (fun r_1 u t H1 locs ht hvm hw hB hz1 hk1 hS => ?_)
  obtain ⟨hP1, hK1, hD1⟩ := hB
  rw [ht] at hP1
  obtain ⟨hP, hD⟩ := va_join (wr := []) (w1 := [(mo, .inr (8, ms)), (kn, .inl (cK, 2, .inl kf))]) hP hD [0, 1] [] rfl rfl (by decide) (by decide) hk1 hFc hP1 hD1
  generalize H1 = H at hP hS ⊢
  have hP : va_P (dC, dI) vwCl [(mo, .inr (8, ms)), (kn, .inl (cK, 2, .inl kf))] H := hP
  have hD : va_D A [(mo, .inr (8, ms)), (kn, .inl (cK, 2, .inl kf))] := hD
  try dsimp only at hw
  obtain rfl : r_1 = 0 := hw
  refine lv_if_eq (tgt := 16) hx hb dX9_tie_5 (by decide) (fun _ => ?_) (fun c9 => absurd c9 (by decide))
  refine lv_iconst (v := (-1)) hx hb dX9_tie_16 (by decide) ?_
  have hP9 := hP.sub (ws' := []) [] rfl
  have hD9 := hD.sub (ws' := []) [] (by decide) rfl
  have hK9 := hK.sub (tys' := []) [] rfl
  exact W.iret (v := (-1)) hx hb hr (fun t ht hW => ⟨⟨(-1), (), rfl, rfl, by rw [ht]; exact hP9, va_K.moved hW.alike hK9, hD9⟩, hS.F ht⟩) hS.2.2 dX9_tie_17
def zo_m_walk : List Cond := [.code yX9_walk cX9_walk 5 (some .int), .fieldLink RX9 297 "BowWalkModel" "hasBow" "Z"]
def zw_m_walk : List Cond := zo_m_walk ++ (wsX90 ++ [])
theorem gz_m_walk : zw_m_walk.all goodWord = true := p1_ga (by decide +kernel) (p1_ga gk_X9 p1_g0)
theorem iz_m_walk : ∀ w ∈ zw_m_walk, w ∈ lw_tbl := p1_ia (p1_all [1457, 1097] (by decide +kernel)) (p1_ia ik_X9 p1_i0)
set_option maxHeartbeats 4000000 in
set_option maxRecDepth 100000 in
theorem m_walk (l : Launch) (dC : Nat → ClassId) (dI : Nat → Nat → Nat) (sz : Nat) (mo : Nat) (ms : List Value) (a1 : Int32) (a2 : Int32) (f_ms_60 : ms[60]? = some (.int 0)) : Met l yX9_walk zw_m_walk ({ frames := 0, cells := 0, slots := 0, locals := 0 }) (va_Pc [.ref mo, .int a1, .int a2] (fun U => U.heap.size = sz ∧ va_P (dC, dI) vwCl [(mo, .inr (8, ms))] U.heap ∧ va_K (dC, dI) vwCl [] U ∧ va_D (fun _ => True) [(mo, .inr (8, ms))])) (va_Qi (fun (r : Int32) (_ : Unit) => r = (-1)) (fun _ t => va_P (dC, dI) vwCl [] t.heap ∧ va_K (dC, dI) vwCl [] t ∧ va_D (va_A [(mo, .inr (8, ms))] sz) []) (va_A [(mo, .inr (8, ms))] sz)) 0 0 (va_A [(mo, .inr (8, ms))] sz) := by
  refine Met.ofW (cc := cX9_walk) (maxL := 5) (ret := (some .int)) (by decide) rfl ?_
  intro p e s m args below meth c s₁ B hml hv
  obtain ⟨rfl, hsz, hP, hK, hD0⟩ := hv
  have hx := B.exec
  have hb := B.bytes
  have hr := B.returns
  have hts := atoms_spec (ws := zw_m_walk) B.pre
  have hown : s.vm.findClass RX9 = some m.cls := findClass_of_methodNamed B.named
  have hlocks := B.notSynchronized
  subst hsz
  have hD := hD0.self (sz := s.heap.size)
  generalize hAe : va_A [(mo, .inr (8, ms))] s.heap.size = A at hD ⊢
  have hA : ∀ q : Nat, s.heap.size ≤ q → A q := fun q h => by rw [← hAe]; exact Or.inr h
  have hS : va_S A s.heap s.heap [] := va_S.rf
  have hP : va_P (dC, dI) vwCl [(mo, .inr (8, ms))] s.heap := hP
  have m_0 : (.fieldLink RX9 297 "BowWalkModel" "hasBow" "Z" : Cond) ∈ zw_m_walk := List.mem_append_left _ (List.mem_of_getElem? (i := 1) rfl)
  have k_0 := hts _ m_0
  have i_X9 : ∀ w ∈ u_ws RX9 TX9 81, w ∈ zw_m_walk := fun w h => List.mem_append_right _ (List.mem_append_left _ h)
  have hl := lv_entry ([.ref mo, .int a1, .int a2]) (n := 5) (Nat.le_of_ble_eq_true rfl)
  rw [lg_entry_eq]
  generalize (lg_sl ([.ref mo, .int a1, .int a2]) ++ List.replicate (5 - (lg_sl ([.ref mo, .int a1, .int a2])).length) Slot.unset).toArray = ls at hl ⊢
  have hl : lv_has ls 5 [(0, .ref mo), (1, .int a1), (2, .int a2)] := hl
  refine lv_aload_n hx hb dX9_walk_0 rfl (lv_at hl 0 rfl) ?_
  refine va_get (D := (dC, dI)) (ci := 8) (v := .int 0) (C := RX9) (T := TX9) (N := 81) hx hb hts i_X9 hown hK hP 0 rfl rfl 60 (by decide) k_0 (fun _ h9 => h9) f_ms_60 dX9_walk_1 ?_
  refine lv_if_eq (tgt := 38) hx hb dX9_walk_4 (by decide) (fun _ => ?_) (fun c9 => absurd c9 (by decide))
  refine lv_iconst (v := (-1)) hx hb dX9_walk_38 (by decide) ?_
  have hP9 := hP.sub (ws' := []) [] rfl
  have hD9 := hD.sub (ws' := []) [] (by decide) rfl
  have hK9 := hK.sub (tys' := []) [] rfl
  exact W.iret (v := (-1)) hx hb hr (fun t ht hW => ⟨⟨(-1), (), rfl, rfl, by rw [ht]; exact hP9, va_K.moved hW.alike hK9, hD9⟩, hS.F ht⟩) hS.2.2 dX9_walk_39
def zo_m_pull : List Cond := [.code yX9_pull cX9_pull 3 (some .int), .fieldLink RX9 297 "BowWalkModel" "hasBow" "Z"]
def zw_m_pull : List Cond := zo_m_pull ++ (wsX90 ++ [])
theorem gz_m_pull : zw_m_pull.all goodWord = true := p1_ga (by decide +kernel) (p1_ga gk_X9 p1_g0)
theorem iz_m_pull : ∀ w ∈ zw_m_pull, w ∈ lw_tbl := p1_ia (p1_all [1505, 1097] (by decide +kernel)) (p1_ia ik_X9 p1_i0)
set_option maxHeartbeats 4000000 in
set_option maxRecDepth 100000 in
theorem m_pull (l : Launch) (dC : Nat → ClassId) (dI : Nat → Nat → Nat) (sz : Nat) (mo : Nat) (ms : List Value) (a1 : Int32) (f_ms_60 : ms[60]? = some (.int 0)) : Met l yX9_pull zw_m_pull ({ frames := 0, cells := 0, slots := 0, locals := 0 }) (va_Pc [.ref mo, .int a1] (fun U => U.heap.size = sz ∧ va_P (dC, dI) vwCl [(mo, .inr (8, ms))] U.heap ∧ va_K (dC, dI) vwCl [] U ∧ va_D (fun _ => True) [(mo, .inr (8, ms))])) (va_Qi (fun (r : Int32) (_ : Unit) => r = (-1)) (fun _ t => va_P (dC, dI) vwCl [] t.heap ∧ va_K (dC, dI) vwCl [] t ∧ va_D (va_A [(mo, .inr (8, ms))] sz) []) (va_A [(mo, .inr (8, ms))] sz)) 0 0 (va_A [(mo, .inr (8, ms))] sz) := by
  refine Met.ofW (cc := cX9_pull) (maxL := 3) (ret := (some .int)) (by decide) rfl ?_
  intro p e s m args below meth c s₁ B hml hv
  obtain ⟨rfl, hsz, hP, hK, hD0⟩ := hv
  have hx := B.exec
  have hb := B.bytes
  have hr := B.returns
  have hts := atoms_spec (ws := zw_m_pull) B.pre
  have hown : s.vm.findClass RX9 = some m.cls := findClass_of_methodNamed B.named
  have hlocks := B.notSynchronized
  subst hsz
  have hD := hD0.self (sz := s.heap.size)
  generalize hAe : va_A [(mo, .inr (8, ms))] s.heap.size = A at hD ⊢
  have hA : ∀ q : Nat, s.heap.size ≤ q → A q := fun q h => by rw [← hAe]; exact Or.inr h
  have hS : va_S A s.heap s.heap [] := va_S.rf
  have hP : va_P (dC, dI) vwCl [(mo, .inr (8, ms))] s.heap := hP
  have m_0 : (.fieldLink RX9 297 "BowWalkModel" "hasBow" "Z" : Cond) ∈ zw_m_pull := List.mem_append_left _ (List.mem_of_getElem? (i := 1) rfl)
  have k_0 := hts _ m_0
  have i_X9 : ∀ w ∈ u_ws RX9 TX9 81, w ∈ zw_m_pull := fun w h => List.mem_append_right _ (List.mem_append_left _ h)
  have hl := lv_entry ([.ref mo, .int a1]) (n := 3) (Nat.le_of_ble_eq_true rfl)
  rw [lg_entry_eq]
  generalize (lg_sl ([.ref mo, .int a1]) ++ List.replicate (3 - (lg_sl ([.ref mo, .int a1])).length) Slot.unset).toArray = ls at hl ⊢
  have hl : lv_has ls 3 [(0, .ref mo), (1, .int a1)] := hl
  refine lv_aload_n hx hb dX9_pull_0 rfl (lv_at hl 0 rfl) ?_
  refine va_get (D := (dC, dI)) (ci := 8) (v := .int 0) (C := RX9) (T := TX9) (N := 81) hx hb hts i_X9 hown hK hP 0 rfl rfl 60 (by decide) k_0 (fun _ h9 => h9) f_ms_60 dX9_pull_1 ?_
  refine lv_if_eq (tgt := 25) hx hb dX9_pull_4 (by decide) (fun _ => ?_) (fun c9 => absurd c9 (by decide))
  refine lv_iconst (v := (-1)) hx hb dX9_pull_25 (by decide) ?_
  have hP9 := hP.sub (ws' := []) [] rfl
  have hD9 := hD.sub (ws' := []) [] (by decide) rfl
  have hK9 := hK.sub (tys' := []) [] rfl
  exact W.iret (v := (-1)) hx hb hr (fun t ht hW => ⟨⟨(-1), (), rfl, rfl, by rw [ht]; exact hP9, va_K.moved hW.alike hK9, hD9⟩, hS.F ht⟩) hS.2.2 dX9_pull_26
def zo_m_bow : List Cond := [.code yX9_bow cX9_bow 2 (some .int), .fieldLink RX9 297 "BowWalkModel" "hasBow" "Z"]
def zw_m_bow : List Cond := zo_m_bow ++ (wsX90 ++ [])
theorem gz_m_bow : zw_m_bow.all goodWord = true := p1_ga (by decide +kernel) (p1_ga gk_X9 p1_g0)
theorem iz_m_bow : ∀ w ∈ zw_m_bow, w ∈ lw_tbl := p1_ia (p1_all [1509, 1097] (by decide +kernel)) (p1_ia ik_X9 p1_i0)
set_option maxHeartbeats 4000000 in
set_option maxRecDepth 100000 in
theorem m_bow (l : Launch) (dC : Nat → ClassId) (dI : Nat → Nat → Nat) (sz : Nat) (mo : Nat) (ms : List Value) (a1 : Int32) (f_ms_60 : ms[60]? = some (.int 0)) : Met l yX9_bow zw_m_bow ({ frames := 0, cells := 0, slots := 0, locals := 0 }) (va_Pc [.ref mo, .int a1] (fun U => U.heap.size = sz ∧ va_P (dC, dI) vwCl [(mo, .inr (8, ms))] U.heap ∧ va_K (dC, dI) vwCl [] U ∧ va_D (fun _ => True) [(mo, .inr (8, ms))])) (va_Qi (fun (r : Int32) (_ : Unit) => r = (-1)) (fun _ t => va_P (dC, dI) vwCl [] t.heap ∧ va_K (dC, dI) vwCl [] t ∧ va_D (va_A [(mo, .inr (8, ms))] sz) []) (va_A [(mo, .inr (8, ms))] sz)) 0 0 (va_A [(mo, .inr (8, ms))] sz) := by
  refine Met.ofW (cc := cX9_bow) (maxL := 2) (ret := (some .int)) (by decide) rfl ?_
  intro p e s m args below meth c s₁ B hml hv
  obtain ⟨rfl, hsz, hP, hK, hD0⟩ := hv
  have hx := B.exec
  have hb := B.bytes
  have hr := B.returns
  have hts := atoms_spec (ws := zw_m_bow) B.pre
  have hown : s.vm.findClass RX9 = some m.cls := findClass_of_methodNamed B.named
  have hlocks := B.notSynchronized
  subst hsz
  have hD := hD0.self (sz := s.heap.size)
  generalize hAe : va_A [(mo, .inr (8, ms))] s.heap.size = A at hD ⊢
  have hA : ∀ q : Nat, s.heap.size ≤ q → A q := fun q h => by rw [← hAe]; exact Or.inr h
  have hS : va_S A s.heap s.heap [] := va_S.rf
  have hP : va_P (dC, dI) vwCl [(mo, .inr (8, ms))] s.heap := hP
  have m_0 : (.fieldLink RX9 297 "BowWalkModel" "hasBow" "Z" : Cond) ∈ zw_m_bow := List.mem_append_left _ (List.mem_of_getElem? (i := 1) rfl)
  have k_0 := hts _ m_0
  have i_X9 : ∀ w ∈ u_ws RX9 TX9 81, w ∈ zw_m_bow := fun w h => List.mem_append_right _ (List.mem_append_left _ h)
  have hl := lv_entry ([.ref mo, .int a1]) (n := 2) (Nat.le_of_ble_eq_true rfl)
  rw [lg_entry_eq]
  generalize (lg_sl ([.ref mo, .int a1]) ++ List.replicate (2 - (lg_sl ([.ref mo, .int a1])).length) Slot.unset).toArray = ls at hl ⊢
  have hl : lv_has ls 2 [(0, .ref mo), (1, .int a1)] := hl
  refine lv_aload_n hx hb dX9_bow_0 rfl (lv_at hl 0 rfl) ?_
  refine va_get (D := (dC, dI)) (ci := 8) (v := .int 0) (C := RX9) (T := TX9) (N := 81) hx hb hts i_X9 hown hK hP 0 rfl rfl 60 (by decide) k_0 (fun _ h9 => h9) f_ms_60 dX9_bow_1 ?_
  refine lv_if_ne (tgt := 9) hx hb dX9_bow_4 (by decide) (fun c9 => absurd c9 (by decide)) (fun _ => ?_)
  refine lv_iconst (v := (-1)) hx hb dX9_bow_7 (by decide) ?_
  have hP9 := hP.sub (ws' := []) [] rfl
  have hD9 := hD.sub (ws' := []) [] (by decide) rfl
  have hK9 := hK.sub (tys' := []) [] rfl
  exact W.iret (v := (-1)) hx hb hr (fun t ht hW => ⟨⟨(-1), (), rfl, rfl, by rw [ht]; exact hP9, va_K.moved hW.alike hK9, hD9⟩, hS.F ht⟩) hS.2.2 dX9_bow_8
def zo_m_image : List Cond := [.code yX9_image cX9_image 2 (some .int), .methodLink RX9 389 yX9_isIn, .static yX9_isIn, .initialized RX9, .fieldLink RX9 297 "BowWalkModel" "hasBow" "Z"]
def zw_m_image : List Cond := zo_m_image ++ (zw_c_isIn ++ (wsX90 ++ []))
theorem gz_m_image : zw_m_image.all goodWord = true := p1_ga (by decide +kernel) (p1_ga gz_c_isIn (p1_ga gk_X9 p1_g0))
theorem iz_m_image : ∀ w ∈ zw_m_image, w ∈ lw_tbl := p1_ia (p1_all [1680, 1439, 1440, 116, 1097] (by decide +kernel)) (p1_ia iz_c_isIn (p1_ia ik_X9 p1_i0))
set_option maxHeartbeats 4000000 in
set_option maxRecDepth 100000 in
theorem m_image (l : Launch) (dC : Nat → ClassId) (dI : Nat → Nat → Nat) (sz : Nat) (mo : Nat) (ms : List Value) (a1 : Int32) (f_ms_60 : ms[60]? = some (.int 0)) : Met l yX9_image zw_m_image ({ frames := 1, cells := 0, slots := 0, locals := 22 }) (va_Pc [.ref mo, .int a1] (fun U => U.heap.size = sz ∧ va_P (dC, dI) vwCl [(mo, .inr (8, ms))] U.heap ∧ va_K (dC, dI) vwCl [] U ∧ va_D (fun _ => True) [(mo, .inr (8, ms))])) (va_Qi (fun (r : Int32) (_ : Unit) => r = (-1)) (fun _ t => va_P (dC, dI) vwCl [] t.heap ∧ va_K (dC, dI) vwCl [] t ∧ va_D (va_A [(mo, .inr (8, ms))] sz) []) (va_A [(mo, .inr (8, ms))] sz)) 0 0 (va_A [(mo, .inr (8, ms))] sz) := by
  refine Met.ofW (cc := cX9_image) (maxL := 2) (ret := (some .int)) (by decide) rfl ?_
  intro p e s m args below meth c s₁ B hml hv
  obtain ⟨rfl, hsz, hP, hK, hD0⟩ := hv
  have hx := B.exec
  have hb := B.bytes
  have hr := B.returns
  have hts := atoms_spec (ws := zw_m_image) B.pre
  have hown : s.vm.findClass RX9 = some m.cls := findClass_of_methodNamed B.named
  have hlocks := B.notSynchronized
  subst hsz
  have hD := hD0.self (sz := s.heap.size)
  generalize hAe : va_A [(mo, .inr (8, ms))] s.heap.size = A at hD ⊢
  have hA : ∀ q : Nat, s.heap.size ≤ q → A q := fun q h => by rw [← hAe]; exact Or.inr h
  have hS : va_S A s.heap s.heap [] := va_S.rf
  have hP : va_P (dC, dI) vwCl [(mo, .inr (8, ms))] s.heap := hP
  have m_0 : (.methodLink RX9 389 yX9_isIn : Cond) ∈ zw_m_image := List.mem_append_left _ (List.mem_of_getElem? (i := 1) rfl)
  have k_0 := hts _ m_0
  have m_1 : (.static yX9_isIn : Cond) ∈ zw_m_image := List.mem_append_left _ (List.mem_of_getElem? (i := 2) rfl)
  have k_1 := hts _ m_1
  have m_2 : (.initialized RX9 : Cond) ∈ zw_m_image := List.mem_append_left _ (List.mem_of_getElem? (i := 3) rfl)
  have k_2 := hts _ m_2
  have m_3 : (.fieldLink RX9 297 "BowWalkModel" "hasBow" "Z" : Cond) ∈ zw_m_image := List.mem_append_left _ (List.mem_of_getElem? (i := 4) rfl)
  have k_3 := hts _ m_3
  have g_c_isIn : ∀ w ∈ zw_c_isIn, w ∈ zw_m_image := fun w h => List.mem_append_right _ (List.mem_append_left _ h)
  have i_X9 : ∀ w ∈ u_ws RX9 TX9 81, w ∈ zw_m_image := fun w h => List.mem_append_right _ (List.mem_append_right _ (List.mem_append_left _ h))
  have hl := lv_entry ([.ref mo, .int a1]) (n := 2) (Nat.le_of_ble_eq_true rfl)
  rw [lg_entry_eq]
  generalize (lg_sl ([.ref mo, .int a1]) ++ List.replicate (2 - (lg_sl ([.ref mo, .int a1])).length) Slot.unset).toArray = ls at hl ⊢
  have hl : lv_has ls 2 [(0, .ref mo), (1, .int a1)] := hl
  refine lv_iload_n hx hb dX9_image_0 rfl (lv_at hl 1 rfl) ?_
  refine lv_iconst (v := 0) hx hb dX9_image_1 (by decide) ?_
  refine lv_iconst (v := 2) hx hb dX9_image_2 (by decide) ?_
  have hPc := hP.sub (ws' := []) [] rfl
  have hDc := hD.sub (ws' := []) [] (by decide) rfl
  have hKc := hK.sub (tys' := []) [] rfl
  have hFc := va_free (wc := []) hD hS hA [] rfl
  refine va_calli (va_runS (As := [.int a1, .int 0, .int 2]) (rest := []) ⟨hx, hb, hml, hown, hts⟩ (c_isIn l dC dI s.heap.size a1 0 2) (va_cwS 3 hts (p1_gS m_0 m_1 m_2 g_c_isIn gz_c_isIn) rfl rfl rfl (by decide +kernel) ⟨by decide, by decide⟩) ⟨fun a U g mk q => by obtain ⟨q0, q1, qP, qK, qD⟩ := q; exact ⟨q0, q1, qP, va_K.moved (u := U) (U := U.calling g mk a) (Vm.Alike.refl U.vm) qK, qD⟩, fun U hU hW => ⟨rfl, by rw [hU], by rw [hU]; exact hPc, va_K.moved hW.alike hKc, hDc.weaken (fun _ _ _ _ => trivial)⟩⟩ rfl rfl hl.1 rfl (lv_room (Nat.le_of_ble_eq_true rfl)) dX9_image_3 ⟨by decide, by decide⟩) hS (fun q _ h => hFc q h) hFc (fun r_1 u t H1 locs ht hvm hw hB hz1 hk1 hS => ?_)
  obtain ⟨hP1, hK1, hD1⟩ := hB
  rw [ht] at hP1
  obtain ⟨hP, hD⟩ := va_join (wr := [(mo, .inr (8, ms))]) (w1 := []) hP hD [] [0] rfl rfl (by decide) (by decide) hk1 hFc hP1 hD1
  generalize H1 = H at hP hS ⊢
  have hP : va_P (dC, dI) vwCl [(mo, .inr (8, ms))] H := hP
  have hD : va_D A [(mo, .inr (8, ms))] := hD
  try dsimp only at hw
  rcases hw with ⟨rfl, hw_2⟩ | ⟨rfl, hw_2⟩
  · refine lv_if_eq (tgt := 16) hx hb dX9_image_6 (by decide) (fun c9 => absurd c9 (by decide)) (fun _ => ?_)
    refine lv_aload_n hx hb dX9_image_9 rfl (lv_at hl 0 rfl) ?_
    refine va_get (D := (dC, dI)) (ci := 8) (v := .int 0) (C := RX9) (T := TX9) (N := 81) hx hb hts i_X9 hown hK hP 0 rfl rfl 60 (by decide) k_3 (fun _ h9 => h9) f_ms_60 dX9_image_10 ?_
    refine lv_if_ne (tgt := 18) hx hb dX9_image_13 (by decide) (fun c9 => absurd c9 (by decide)) (fun _ => ?_)
    refine lv_iconst (v := (-1)) hx hb dX9_image_16 (by decide) ?_
    have hP9 := hP.sub (ws' := []) [] rfl
    have hD9 := hD.sub (ws' := []) [] (by decide) rfl
    have hK9 := hK.sub (tys' := []) [] rfl
    exact W.iret (v := (-1)) hx hb hr (fun t ht hW => ⟨⟨(-1), (), rfl, rfl, by rw [ht]; exact hP9, va_K.moved hW.alike hK9, hD9⟩, hS.F ht⟩) hS.2.2 dX9_image_17
  · refine lv_if_eq (tgt := 16) hx hb dX9_image_6 (by decide) (fun _ => ?_) (fun c9 => absurd c9 (by decide))
    refine lv_iconst (v := (-1)) hx hb dX9_image_16 (by decide) ?_
    have hP9 := hP.sub (ws' := []) [] rfl
    have hD9 := hD.sub (ws' := []) [] (by decide) rfl
    have hK9 := hK.sub (tys' := []) [] rfl
    exact W.iret (v := (-1)) hx hb hr (fun t ht hW => ⟨⟨(-1), (), rfl, rfl, by rw [ht]; exact hP9, va_K.moved hW.alike hK9, hD9⟩, hS.F ht⟩) hS.2.2 dX9_image_17
def zo_m_holds : List Cond := [.code yX9_holds cX9_holds 5 (some .int), .methodLink RX9 485 yX9_isAll, .instanceMethod yX9_isAll, .selects RX9 yX9_isAll yX9_isAll, .initialized RX9]
def zw_m_holds : List Cond := zo_m_holds ++ (zw_c_isAll ++ [])
theorem gz_m_holds : zw_m_holds.all goodWord = true := p1_ga (by decide +kernel) (p1_ga gz_c_isAll p1_g0)
theorem iz_m_holds : ∀ w ∈ zw_m_holds, w ∈ lw_tbl := p1_ia (p1_all [1517, 1518, 1520, 84, 116] (by decide +kernel)) (p1_ia iz_c_isAll p1_i0)
set_option maxHeartbeats 4000000 in
set_option maxRecDepth 100000 in
theorem m_holds (l : Launch) (dC : Nat → ClassId) (dI : Nat → Nat → Nat) (sz : Nat) (mo : Nat) (ms : List Value) (kn : Nat) (cK : ClassId) (kf : Nat → Int32) (a1 : Int32) (a2 : Int32) (a3 : Int32) (a4 : Int32) (f_ms_11 : ms[11]? = some (.ref kn)) (f_ms_43 : ms[43]? = some (.int 0)) (h_kf_0 : kf 0 = 0) : Met l yX9_holds zw_m_holds ({ frames := 3, cells := 0, slots := 0, locals := 66 }) (va_Pc [.ref mo, .int a1, .int a2, .int a3, .int a4] (fun U => U.heap.size = sz ∧ va_P (dC, dI) vwCl [(mo, .inr (8, ms)), (kn, .inl (cK, 2, .inl kf))] U.heap ∧ va_K (dC, dI) vwCl [(cK, .int)] U ∧ va_D (fun _ => True) [(mo, .inr (8, ms)), (kn, .inl (cK, 2, .inl kf))])) (va_Qi (fun (r : Int32) (_ : Unit) => r = (-1)) (fun _ t => va_P (dC, dI) vwCl [] t.heap ∧ va_K (dC, dI) vwCl [] t ∧ va_D (va_A [(mo, .inr (8, ms)), (kn, .inl (cK, 2, .inl kf))] sz) []) (va_A [(mo, .inr (8, ms)), (kn, .inl (cK, 2, .inl kf))] sz)) 0 0 (va_A [(mo, .inr (8, ms)), (kn, .inl (cK, 2, .inl kf))] sz) := by
  refine Met.ofW (cc := cX9_holds) (maxL := 5) (ret := (some .int)) (by decide) rfl ?_
  intro p e s m args below meth c s₁ B hml hv
  obtain ⟨rfl, hsz, hP, hK, hD0⟩ := hv
  have hx := B.exec
  have hb := B.bytes
  have hr := B.returns
  have hts := atoms_spec (ws := zw_m_holds) B.pre
  have hown : s.vm.findClass RX9 = some m.cls := findClass_of_methodNamed B.named
  have hlocks := B.notSynchronized
  subst hsz
  have hD := hD0.self (sz := s.heap.size)
  generalize hAe : va_A [(mo, .inr (8, ms)), (kn, .inl (cK, 2, .inl kf))] s.heap.size = A at hD ⊢
  have hA : ∀ q : Nat, s.heap.size ≤ q → A q := fun q h => by rw [← hAe]; exact Or.inr h
  have hS : va_S A s.heap s.heap [] := va_S.rf
  have hP : va_P (dC, dI) vwCl [(mo, .inr (8, ms)), (kn, .inl (cK, 2, .inl kf))] s.heap := hP
  have m_0 : (.methodLink RX9 485 yX9_isAll : Cond) ∈ zw_m_holds := List.mem_append_left _ (List.mem_of_getElem? (i := 1) rfl)
  have k_0 := hts _ m_0
  have m_1 : (.instanceMethod yX9_isAll : Cond) ∈ zw_m_holds := List.mem_append_left _ (List.mem_of_getElem? (i := 2) rfl)
  have k_1 := hts _ m_1
  have m_2 : (.selects RX9 yX9_isAll yX9_isAll : Cond) ∈ zw_m_holds := List.mem_append_left _ (List.mem_of_getElem? (i := 3) rfl)
  have k_2 := hts _ m_2
  have m_3 : (.initialized RX9 : Cond) ∈ zw_m_holds := List.mem_append_left _ (List.mem_of_getElem? (i := 4) rfl)
  have k_3 := hts _ m_3
  have g_c_isAll : ∀ w ∈ zw_c_isAll, w ∈ zw_m_holds := fun w h => List.mem_append_right _ (List.mem_append_left _ h)
  have hl := lv_entry ([.ref mo, .int a1, .int a2, .int a3, .int a4]) (n := 5) (Nat.le_of_ble_eq_true rfl)
  rw [lg_entry_eq]
  generalize (lg_sl ([.ref mo, .int a1, .int a2, .int a3, .int a4]) ++ List.replicate (5 - (lg_sl ([.ref mo, .int a1, .int a2, .int a3, .int a4])).length) Slot.unset).toArray = ls at hl ⊢
  have hl : lv_has ls 5 [(0, .ref mo), (1, .int a1), (2, .int a2), (3, .int a3), (4, .int a4)] := hl
  refine lv_aload_n hx hb dX9_holds_0 rfl (lv_at hl 0 rfl) ?_
  refine lv_iload_n hx hb dX9_holds_1 rfl (lv_at hl 1 rfl) ?_
  refine lv_iload_n hx hb dX9_holds_2 rfl (lv_at hl 2 rfl) ?_
  refine lv_iload_n hx hb dX9_holds_3 rfl (lv_at hl 3 rfl) ?_
  have hPc := hP.sub (ws' := [(mo, .inr (8, ms)), (kn, .inl (cK, 2, .inl kf))]) [0, 1] rfl
  have hDc := hD.sub (ws' := [(mo, .inr (8, ms)), (kn, .inl (cK, 2, .inl kf))]) [0, 1] (by decide) rfl
  have hKc := hK.sub (tys' := [(cK, .int)]) [0] rfl
  have hFc := va_free (wc := [(mo, .inr (8, ms)), (kn, .inl (cK, 2, .inl kf))]) hD hS hA [0, 1] rfl
  refine va_calli (va_runV (As := [.int a1, .int a2, .int a3]) (rest := []) ⟨hx, hb, hml, hown, hts⟩ (c_isAll l dC dI s.heap.size mo ms kn cK kf a1 a2 a3 f_ms_11 f_ms_43 h_kf_0) (cwV 3 hts (p1_gV m_0 m_1 m_2 m_3 g_c_isAll gz_c_isAll) rfl rfl rfl (by decide +kernel) ⟨by decide, by decide⟩) ⟨fun a U g mk q => by obtain ⟨q0, q1, qP, qK, qD⟩ := q; exact ⟨q0, q1, qP, va_K.moved (u := U) (U := U.calling g mk a) (Vm.Alike.refl U.vm) qK, qD⟩, va_recv hKc hPc (ci := 8) (q0 := 0) rfl rfl, fun U hU hW => ⟨rfl, by rw [hU], by rw [hU]; exact hPc, va_K.moved hW.alike hKc, hDc.weaken (fun _ _ _ _ => trivial)⟩⟩ rfl rfl hl.1 rfl (lv_room (Nat.le_of_ble_eq_true rfl)) dX9_holds_4 ⟨by decide, by decide⟩) hS (fun q _ h => hFc q h) hFc (fun r_1 u t H1 locs ht hvm hw hB hz1 hk1 hS => ?_)
  obtain ⟨hP1, hK1, hD1⟩ := hB
  rw [ht] at hP1
  obtain ⟨hP, hD⟩ := va_join (wr := []) (w1 := [(mo, .inr (8, ms)), (kn, .inl (cK, 2, .inl kf))]) hP hD [0, 1] [] rfl rfl (by decide) (by decide) hk1 hFc hP1 hD1
  generalize H1 = H at hP hS ⊢
  have hP : va_P (dC, dI) vwCl [(mo, .inr (8, ms)), (kn, .inl (cK, 2, .inl kf))] H := hP
  have hD : va_D A [(mo, .inr (8, ms)), (kn, .inl (cK, 2, .inl kf))] := hD
  try dsimp only at hw
  obtain rfl : r_1 = 0 := hw
  refine lv_if_eq (tgt := 31) hx hb dX9_holds_7 (by decide) (fun _ => ?_) (fun c9 => absurd c9 (by decide))
  refine lv_iconst (v := (-1)) hx hb dX9_holds_31 (by decide) ?_
  have hP9 := hP.sub (ws' := []) [] rfl
  have hD9 := hD.sub (ws' := []) [] (by decide) rfl
  have hK9 := hK.sub (tys' := []) [] rfl
  exact W.iret (v := (-1)) hx hb hr (fun t ht hW => ⟨⟨(-1), (), rfl, rfl, by rw [ht]; exact hP9, va_K.moved hW.alike hK9, hD9⟩, hS.F ht⟩) hS.2.2 dX9_holds_32
def zo_m_begins : List Cond := [.code yX9_begins cX9_begins 8 (some .int), .methodLink RX9 485 yX9_isAll, .instanceMethod yX9_isAll, .selects RX9 yX9_isAll yX9_isAll, .initialized RX9]
def zw_m_begins : List Cond := zo_m_begins ++ (zw_c_isAll ++ [])
theorem gz_m_begins : zw_m_begins.all goodWord = true := p1_ga (by decide +kernel) (p1_ga gz_c_isAll p1_g0)
theorem iz_m_begins : ∀ w ∈ zw_m_begins, w ∈ lw_tbl := p1_ia (p1_all [1561, 1518, 1520, 84, 116] (by decide +kernel)) (p1_ia iz_c_isAll p1_i0)
set_option maxHeartbeats 4000000 in
set_option maxRecDepth 100000 in
theorem m_begins (l : Launch) (dC : Nat → ClassId) (dI : Nat → Nat → Nat) (sz : Nat) (mo : Nat) (ms : List Value) (kn : Nat) (cK : ClassId) (kf : Nat → Int32) (a1 : Int32) (a2 : Int32) (a3 : Int32) (f_ms_11 : ms[11]? = some (.ref kn)) (f_ms_43 : ms[43]? = some (.int 0)) (h_kf_0 : kf 0 = 0) : Met l yX9_begins zw_m_begins ({ frames := 3, cells := 0, slots := 0, locals := 66 }) (va_Pc [.ref mo, .int a1, .int a2, .int a3] (fun U => U.heap.size = sz ∧ va_P (dC, dI) vwCl [(mo, .inr (8, ms)), (kn, .inl (cK, 2, .inl kf))] U.heap ∧ va_K (dC, dI) vwCl [(cK, .int)] U ∧ va_D (fun _ => True) [(mo, .inr (8, ms)), (kn, .inl (cK, 2, .inl kf))])) (va_Qi (fun (r : Int32) (_ : Unit) => r = (-1)) (fun _ t => va_P (dC, dI) vwCl [] t.heap ∧ va_K (dC, dI) vwCl [] t ∧ va_D (va_A [(mo, .inr (8, ms)), (kn, .inl (cK, 2, .inl kf))] sz) []) (va_A [(mo, .inr (8, ms)), (kn, .inl (cK, 2, .inl kf))] sz)) 0 0 (va_A [(mo, .inr (8, ms)), (kn, .inl (cK, 2, .inl kf))] sz) := by
  refine Met.ofW (cc := cX9_begins) (maxL := 8) (ret := (some .int)) (by decide) rfl ?_
  intro p e s m args below meth c s₁ B hml hv
  obtain ⟨rfl, hsz, hP, hK, hD0⟩ := hv
  have hx := B.exec
  have hb := B.bytes
  have hr := B.returns
  have hts := atoms_spec (ws := zw_m_begins) B.pre
  have hown : s.vm.findClass RX9 = some m.cls := findClass_of_methodNamed B.named
  have hlocks := B.notSynchronized
  subst hsz
  have hD := hD0.self (sz := s.heap.size)
  generalize hAe : va_A [(mo, .inr (8, ms)), (kn, .inl (cK, 2, .inl kf))] s.heap.size = A at hD ⊢
  have hA : ∀ q : Nat, s.heap.size ≤ q → A q := fun q h => by rw [← hAe]; exact Or.inr h
  have hS : va_S A s.heap s.heap [] := va_S.rf
  have hP : va_P (dC, dI) vwCl [(mo, .inr (8, ms)), (kn, .inl (cK, 2, .inl kf))] s.heap := hP
  have m_0 : (.methodLink RX9 485 yX9_isAll : Cond) ∈ zw_m_begins := List.mem_append_left _ (List.mem_of_getElem? (i := 1) rfl)
  have k_0 := hts _ m_0
  have m_1 : (.instanceMethod yX9_isAll : Cond) ∈ zw_m_begins := List.mem_append_left _ (List.mem_of_getElem? (i := 2) rfl)
  have k_1 := hts _ m_1
  have m_2 : (.selects RX9 yX9_isAll yX9_isAll : Cond) ∈ zw_m_begins := List.mem_append_left _ (List.mem_of_getElem? (i := 3) rfl)
  have k_2 := hts _ m_2
  have m_3 : (.initialized RX9 : Cond) ∈ zw_m_begins := List.mem_append_left _ (List.mem_of_getElem? (i := 4) rfl)
  have k_3 := hts _ m_3
  have g_c_isAll : ∀ w ∈ zw_c_isAll, w ∈ zw_m_begins := fun w h => List.mem_append_right _ (List.mem_append_left _ h)
  have hl := lv_entry ([.ref mo, .int a1, .int a2, .int a3]) (n := 8) (Nat.le_of_ble_eq_true rfl)
  rw [lg_entry_eq]
  generalize (lg_sl ([.ref mo, .int a1, .int a2, .int a3]) ++ List.replicate (8 - (lg_sl ([.ref mo, .int a1, .int a2, .int a3])).length) Slot.unset).toArray = ls at hl ⊢
  have hl : lv_has ls 8 [(0, .ref mo), (1, .int a1), (2, .int a2), (3, .int a3)] := hl
  refine lv_aload_n hx hb dX9_begins_0 rfl (lv_at hl 0 rfl) ?_
  refine lv_iload_n hx hb dX9_begins_1 rfl (lv_at hl 1 rfl) ?_
  refine lv_iload_n hx hb dX9_begins_2 rfl (lv_at hl 2 rfl) ?_
  refine lv_iload_n hx hb dX9_begins_3 rfl (lv_at hl 3 rfl) ?_
  have hPc := hP.sub (ws' := [(mo, .inr (8, ms)), (kn, .inl (cK, 2, .inl kf))]) [0, 1] rfl
  have hDc := hD.sub (ws' := [(mo, .inr (8, ms)), (kn, .inl (cK, 2, .inl kf))]) [0, 1] (by decide) rfl
  have hKc := hK.sub (tys' := [(cK, .int)]) [0] rfl
  have hFc := va_free (wc := [(mo, .inr (8, ms)), (kn, .inl (cK, 2, .inl kf))]) hD hS hA [0, 1] rfl
  refine va_calli (va_runV (As := [.int a1, .int a2, .int a3]) (rest := []) ⟨hx, hb, hml, hown, hts⟩ (c_isAll l dC dI s.heap.size mo ms kn cK kf a1 a2 a3 f_ms_11 f_ms_43 h_kf_0) (cwV 3 hts (p1_gV m_0 m_1 m_2 m_3 g_c_isAll gz_c_isAll) rfl rfl rfl (by decide +kernel) ⟨by decide, by decide⟩) ⟨fun a U g mk q => by obtain ⟨q0, q1, qP, qK, qD⟩ := q; exact ⟨q0, q1, qP, va_K.moved (u := U) (U := U.calling g mk a) (Vm.Alike.refl U.vm) qK, qD⟩, va_recv hKc hPc (ci := 8) (q0 := 0) rfl rfl, fun U hU hW => ⟨rfl, by rw [hU], by rw [hU]; exact hPc, va_K.moved hW.alike hKc, hDc.weaken (fun _ _ _ _ => trivial)⟩⟩ rfl rfl hl.1 rfl (lv_room (Nat.le_of_ble_eq_true rfl)) dX9_begins_4 ⟨by decide, by decide⟩) hS (fun q _ h => hFc q h) hFc (fun r_1 u t H1 locs ht hvm hw hB hz1 hk1 hS => ?_)
  obtain ⟨hP1, hK1, hD1⟩ := hB
  rw [ht] at hP1
  obtain ⟨hP, hD⟩ := va_join (wr := []) (w1 := [(mo, .inr (8, ms)), (kn, .inl (cK, 2, .inl kf))]) hP hD [0, 1] [] rfl rfl (by decide) (by decide) hk1 hFc hP1 hD1
  generalize H1 = H at hP hS ⊢
  have hP : va_P (dC, dI) vwCl [(mo, .inr (8, ms)), (kn, .inl (cK, 2, .inl kf))] H := hP
  have hD : va_D A [(mo, .inr (8, ms)), (kn, .inl (cK, 2, .inl kf))] := hD
  try dsimp only at hw
  obtain rfl : r_1 = 0 := hw
  refine lv_if_ne (tgt := 12) hx hb dX9_begins_7 (by decide) (fun c9 => absurd c9 (by decide)) (fun _ => ?_)
  refine lv_iconst (v := (-1)) hx hb dX9_begins_10 (by decide) ?_
  have hP9 := hP.sub (ws' := []) [] rfl
  have hD9 := hD.sub (ws' := []) [] (by decide) rfl
  have hK9 := hK.sub (tys' := []) [] rfl
  exact W.iret (v := (-1)) hx hb hr (fun t ht hW => ⟨⟨(-1), (), rfl, rfl, by rw [ht]; exact hP9, va_K.moved hW.alike hK9, hD9⟩, hS.F ht⟩) hS.2.2 dX9_begins_11
def zo_m_alone : List Cond := [.code yX9_alone cX9_alone 6 (some .int), .methodLink RX9 485 yX9_isAll, .instanceMethod yX9_isAll, .selects RX9 yX9_isAll yX9_isAll, .initialized RX9]
def zw_m_alone : List Cond := zo_m_alone ++ (zw_c_isAll ++ [])
theorem gz_m_alone : zw_m_alone.all goodWord = true := p1_ga (by decide +kernel) (p1_ga gz_c_isAll p1_g0)
theorem iz_m_alone : ∀ w ∈ zw_m_alone, w ∈ lw_tbl := p1_ia (p1_all [1565, 1518, 1520, 84, 116] (by decide +kernel)) (p1_ia iz_c_isAll p1_i0)
set_option maxHeartbeats 4000000 in
set_option maxRecDepth 100000 in
theorem m_alone (l : Launch) (dC : Nat → ClassId) (dI : Nat → Nat → Nat) (sz : Nat) (mo : Nat) (ms : List Value) (kn : Nat) (cK : ClassId) (kf : Nat → Int32) (a1 : Int32) (a2 : Int32) (a3 : Int32) (a4 : Int32) (f_ms_11 : ms[11]? = some (.ref kn)) (f_ms_43 : ms[43]? = some (.int 0)) (h_kf_0 : kf 0 = 0) : Met l yX9_alone zw_m_alone ({ frames := 3, cells := 0, slots := 0, locals := 66 }) (va_Pc [.ref mo, .int a1, .int a2, .int a3, .int a4] (fun U => U.heap.size = sz ∧ va_P (dC, dI) vwCl [(mo, .inr (8, ms)), (kn, .inl (cK, 2, .inl kf))] U.heap ∧ va_K (dC, dI) vwCl [(cK, .int)] U ∧ va_D (fun _ => True) [(mo, .inr (8, ms)), (kn, .inl (cK, 2, .inl kf))])) (va_Qi (fun (r : Int32) (_ : Unit) => r = (-1)) (fun _ t => va_P (dC, dI) vwCl [] t.heap ∧ va_K (dC, dI) vwCl [] t ∧ va_D (va_A [(mo, .inr (8, ms)), (kn, .inl (cK, 2, .inl kf))] sz) []) (va_A [(mo, .inr (8, ms)), (kn, .inl (cK, 2, .inl kf))] sz)) 0 0 (va_A [(mo, .inr (8, ms)), (kn, .inl (cK, 2, .inl kf))] sz) := by
  refine Met.ofW (cc := cX9_alone) (maxL := 6) (ret := (some .int)) (by decide) rfl ?_
  intro p e s m args below meth c s₁ B hml hv
  obtain ⟨rfl, hsz, hP, hK, hD0⟩ := hv
  have hx := B.exec
  have hb := B.bytes
  have hr := B.returns
  have hts := atoms_spec (ws := zw_m_alone) B.pre
  have hown : s.vm.findClass RX9 = some m.cls := findClass_of_methodNamed B.named
  have hlocks := B.notSynchronized
  subst hsz
  have hD := hD0.self (sz := s.heap.size)
  generalize hAe : va_A [(mo, .inr (8, ms)), (kn, .inl (cK, 2, .inl kf))] s.heap.size = A at hD ⊢
  have hA : ∀ q : Nat, s.heap.size ≤ q → A q := fun q h => by rw [← hAe]; exact Or.inr h
  have hS : va_S A s.heap s.heap [] := va_S.rf
  have hP : va_P (dC, dI) vwCl [(mo, .inr (8, ms)), (kn, .inl (cK, 2, .inl kf))] s.heap := hP
  have m_0 : (.methodLink RX9 485 yX9_isAll : Cond) ∈ zw_m_alone := List.mem_append_left _ (List.mem_of_getElem? (i := 1) rfl)
  have k_0 := hts _ m_0
  have m_1 : (.instanceMethod yX9_isAll : Cond) ∈ zw_m_alone := List.mem_append_left _ (List.mem_of_getElem? (i := 2) rfl)
  have k_1 := hts _ m_1
  have m_2 : (.selects RX9 yX9_isAll yX9_isAll : Cond) ∈ zw_m_alone := List.mem_append_left _ (List.mem_of_getElem? (i := 3) rfl)
  have k_2 := hts _ m_2
  have m_3 : (.initialized RX9 : Cond) ∈ zw_m_alone := List.mem_append_left _ (List.mem_of_getElem? (i := 4) rfl)
  have k_3 := hts _ m_3
  have g_c_isAll : ∀ w ∈ zw_c_isAll, w ∈ zw_m_alone := fun w h => List.mem_append_right _ (List.mem_append_left _ h)
  have hl := lv_entry ([.ref mo, .int a1, .int a2, .int a3, .int a4]) (n := 6) (Nat.le_of_ble_eq_true rfl)
  rw [lg_entry_eq]
  generalize (lg_sl ([.ref mo, .int a1, .int a2, .int a3, .int a4]) ++ List.replicate (6 - (lg_sl ([.ref mo, .int a1, .int a2, .int a3, .int a4])).length) Slot.unset).toArray = ls at hl ⊢
  have hl : lv_has ls 6 [(0, .ref mo), (1, .int a1), (2, .int a2), (3, .int a3), (4, .int a4)] := hl
  refine lv_aload_n hx hb dX9_alone_0 rfl (lv_at hl 0 rfl) ?_
  refine lv_iload_n hx hb dX9_alone_1 rfl (lv_at hl 1 rfl) ?_
  refine lv_iload_n hx hb dX9_alone_2 rfl (lv_at hl 2 rfl) ?_
  refine lv_iload_n hx hb dX9_alone_3 rfl (lv_at hl 3 rfl) ?_
  have hPc := hP.sub (ws' := [(mo, .inr (8, ms)), (kn, .inl (cK, 2, .inl kf))]) [0, 1] rfl
  have hDc := hD.sub (ws' := [(mo, .inr (8, ms)), (kn, .inl (cK, 2, .inl kf))]) [0, 1] (by decide) rfl
  have hKc := hK.sub (tys' := [(cK, .int)]) [0] rfl
  have hFc := va_free (wc := [(mo, .inr (8, ms)), (kn, .inl (cK, 2, .inl kf))]) hD hS hA [0, 1] rfl
  refine va_calli (va_runV (As := [.int a1, .int a2, .int a3]) (rest := []) ⟨hx, hb, hml, hown, hts⟩ (c_isAll l dC dI s.heap.size mo ms kn cK kf a1 a2 a3 f_ms_11 f_ms_43 h_kf_0) (cwV 3 hts (p1_gV m_0 m_1 m_2 m_3 g_c_isAll gz_c_isAll) rfl rfl rfl (by decide +kernel) ⟨by decide, by decide⟩) ⟨fun a U g mk q => by obtain ⟨q0, q1, qP, qK, qD⟩ := q; exact ⟨q0, q1, qP, va_K.moved (u := U) (U := U.calling g mk a) (Vm.Alike.refl U.vm) qK, qD⟩, va_recv hKc hPc (ci := 8) (q0 := 0) rfl rfl, fun U hU hW => ⟨rfl, by rw [hU], by rw [hU]; exact hPc, va_K.moved hW.alike hKc, hDc.weaken (fun _ _ _ _ => trivial)⟩⟩ rfl rfl hl.1 rfl (lv_room (Nat.le_of_ble_eq_true rfl)) dX9_alone_4 ⟨by decide, by decide⟩) hS (fun q _ h => hFc q h) hFc (fun r_1 u t H1 locs ht hvm hw hB hz1 hk1 hS => ?_)
  obtain ⟨hP1, hK1, hD1⟩ := hB
  rw [ht] at hP1
  obtain ⟨hP, hD⟩ := va_join (wr := []) (w1 := [(mo, .inr (8, ms)), (kn, .inl (cK, 2, .inl kf))]) hP hD [0, 1] [] rfl rfl (by decide) (by decide) hk1 hFc hP1 hD1
  generalize H1 = H at hP hS ⊢
  have hP : va_P (dC, dI) vwCl [(mo, .inr (8, ms)), (kn, .inl (cK, 2, .inl kf))] H := hP
  have hD : va_D A [(mo, .inr (8, ms)), (kn, .inl (cK, 2, .inl kf))] := hD
  try dsimp only at hw
  obtain rfl : r_1 = 0 := hw
  refine lv_if_eq (tgt := 20) hx hb dX9_alone_7 (by decide) (fun _ => ?_) (fun c9 => absurd c9 (by decide))
  refine lv_iconst (v := (-1)) hx hb dX9_alone_20 (by decide) ?_
  have hP9 := hP.sub (ws' := []) [] rfl
  have hD9 := hD.sub (ws' := []) [] (by decide) rfl
  have hK9 := hK.sub (tys' := []) [] rfl
  exact W.iret (v := (-1)) hx hb hr (fun t ht hW => ⟨⟨(-1), (), rfl, rfl, by rw [ht]; exact hP9, va_K.moved hW.alike hK9, hD9⟩, hS.F ht⟩) hS.2.2 dX9_alone_21
def zo_m_undone : List Cond := [.code yX9_undone cX9_undone 3 (some .int), .methodLink RX9 431 yX9_isKnot, .instanceMethod yX9_isKnot, .selects RX9 yX9_isKnot yX9_isKnot, .initialized RX9]
def zw_m_undone : List Cond := zo_m_undone ++ (zw_c_isKnot ++ [])
theorem gz_m_undone : zw_m_undone.all goodWord = true := p1_ga (by decide +kernel) (p1_ga gz_c_isKnot p1_g0)
theorem iz_m_undone : ∀ w ∈ zw_m_undone, w ∈ lw_tbl := p1_ia (p1_all [1569, 1435, 1437, 71, 116] (by decide +kernel)) (p1_ia iz_c_isKnot p1_i0)
set_option maxHeartbeats 4000000 in
set_option maxRecDepth 100000 in
theorem m_undone (l : Launch) (dC : Nat → ClassId) (dI : Nat → Nat → Nat) (sz : Nat) (mo : Nat) (ms : List Value) (kn : Nat) (cK : ClassId) (kf : Nat → Int32) (a1 : Int32) (a2 : Int32) (f_ms_11 : ms[11]? = some (.ref kn)) (f_ms_43 : ms[43]? = some (.int 0)) (h_kf_0 : kf 0 = 0) : Met l yX9_undone zw_m_undone ({ frames := 2, cells := 0, slots := 0, locals := 43 }) (va_Pc [.ref mo, .int a1, .int a2] (fun U => U.heap.size = sz ∧ va_P (dC, dI) vwCl [(mo, .inr (8, ms)), (kn, .inl (cK, 2, .inl kf))] U.heap ∧ va_K (dC, dI) vwCl [(cK, .int)] U ∧ va_D (fun _ => True) [(mo, .inr (8, ms)), (kn, .inl (cK, 2, .inl kf))])) (va_Qi (fun (r : Int32) (_ : Unit) => r = (-1)) (fun _ t => va_P (dC, dI) vwCl [] t.heap ∧ va_K (dC, dI) vwCl [] t ∧ va_D (va_A [(mo, .inr (8, ms)), (kn, .inl (cK, 2, .inl kf))] sz) []) (va_A [(mo, .inr (8, ms)), (kn, .inl (cK, 2, .inl kf))] sz)) 0 0 (va_A [(mo, .inr (8, ms)), (kn, .inl (cK, 2, .inl kf))] sz) := by
  refine Met.ofW (cc := cX9_undone) (maxL := 3) (ret := (some .int)) (by decide) rfl ?_
  intro p e s m args below meth c s₁ B hml hv
  obtain ⟨rfl, hsz, hP, hK, hD0⟩ := hv
  have hx := B.exec
  have hb := B.bytes
  have hr := B.returns
  have hts := atoms_spec (ws := zw_m_undone) B.pre
  have hown : s.vm.findClass RX9 = some m.cls := findClass_of_methodNamed B.named
  have hlocks := B.notSynchronized
  subst hsz
  have hD := hD0.self (sz := s.heap.size)
  generalize hAe : va_A [(mo, .inr (8, ms)), (kn, .inl (cK, 2, .inl kf))] s.heap.size = A at hD ⊢
  have hA : ∀ q : Nat, s.heap.size ≤ q → A q := fun q h => by rw [← hAe]; exact Or.inr h
  have hS : va_S A s.heap s.heap [] := va_S.rf
  have hP : va_P (dC, dI) vwCl [(mo, .inr (8, ms)), (kn, .inl (cK, 2, .inl kf))] s.heap := hP
  have m_0 : (.methodLink RX9 431 yX9_isKnot : Cond) ∈ zw_m_undone := List.mem_append_left _ (List.mem_of_getElem? (i := 1) rfl)
  have k_0 := hts _ m_0
  have m_1 : (.instanceMethod yX9_isKnot : Cond) ∈ zw_m_undone := List.mem_append_left _ (List.mem_of_getElem? (i := 2) rfl)
  have k_1 := hts _ m_1
  have m_2 : (.selects RX9 yX9_isKnot yX9_isKnot : Cond) ∈ zw_m_undone := List.mem_append_left _ (List.mem_of_getElem? (i := 3) rfl)
  have k_2 := hts _ m_2
  have m_3 : (.initialized RX9 : Cond) ∈ zw_m_undone := List.mem_append_left _ (List.mem_of_getElem? (i := 4) rfl)
  have k_3 := hts _ m_3
  have g_c_isKnot : ∀ w ∈ zw_c_isKnot, w ∈ zw_m_undone := fun w h => List.mem_append_right _ (List.mem_append_left _ h)
  have hl := lv_entry ([.ref mo, .int a1, .int a2]) (n := 3) (Nat.le_of_ble_eq_true rfl)
  rw [lg_entry_eq]
  generalize (lg_sl ([.ref mo, .int a1, .int a2]) ++ List.replicate (3 - (lg_sl ([.ref mo, .int a1, .int a2])).length) Slot.unset).toArray = ls at hl ⊢
  have hl : lv_has ls 3 [(0, .ref mo), (1, .int a1), (2, .int a2)] := hl
  refine lv_aload_n hx hb dX9_undone_0 rfl (lv_at hl 0 rfl) ?_
  refine lv_iload_n hx hb dX9_undone_1 rfl (lv_at hl 1 rfl) ?_
  have hPc := hP.sub (ws' := [(mo, .inr (8, ms)), (kn, .inl (cK, 2, .inl kf))]) [0, 1] rfl
  have hDc := hD.sub (ws' := [(mo, .inr (8, ms)), (kn, .inl (cK, 2, .inl kf))]) [0, 1] (by decide) rfl
  have hKc := hK.sub (tys' := [(cK, .int)]) [0] rfl
  have hFc := va_free (wc := [(mo, .inr (8, ms)), (kn, .inl (cK, 2, .inl kf))]) hD hS hA [0, 1] rfl
  refine va_calli (va_runV (As := [.int a1]) (rest := []) ⟨hx, hb, hml, hown, hts⟩ (c_isKnot l dC dI s.heap.size mo ms kn cK kf a1 f_ms_11 f_ms_43 h_kf_0) (cwV 1 hts (p1_gV m_0 m_1 m_2 m_3 g_c_isKnot gz_c_isKnot) rfl rfl rfl (by decide +kernel) ⟨by decide, by decide⟩) ⟨fun a U g mk q => by obtain ⟨q0, q1, qP, qK, qD⟩ := q; exact ⟨q0, q1, qP, va_K.moved (u := U) (U := U.calling g mk a) (Vm.Alike.refl U.vm) qK, qD⟩, va_recv hKc hPc (ci := 8) (q0 := 0) rfl rfl, fun U hU hW => ⟨rfl, by rw [hU], by rw [hU]; exact hPc, va_K.moved hW.alike hKc, hDc.weaken (fun _ _ _ _ => trivial)⟩⟩ rfl rfl hl.1 rfl (lv_room (Nat.le_of_ble_eq_true rfl)) dX9_undone_2 ⟨by decide, by decide⟩) hS (fun q _ h => hFc q h) hFc (fun r_1 u t H1 locs ht hvm hw hB hz1 hk1 hS => ?_)
  obtain ⟨hP1, hK1, hD1⟩ := hB
  rw [ht] at hP1
  obtain ⟨hP, hD⟩ := va_join (wr := []) (w1 := [(mo, .inr (8, ms)), (kn, .inl (cK, 2, .inl kf))]) hP hD [0, 1] [] rfl rfl (by decide) (by decide) hk1 hFc hP1 hD1
  generalize H1 = H at hP hS ⊢
  have hP : va_P (dC, dI) vwCl [(mo, .inr (8, ms)), (kn, .inl (cK, 2, .inl kf))] H := hP
  have hD : va_D A [(mo, .inr (8, ms)), (kn, .inl (cK, 2, .inl kf))] := hD
  try dsimp only at hw
  obtain rfl : r_1 = 0 := hw
  refine lv_if_eq (tgt := 25) hx hb dX9_undone_5 (by decide) (fun _ => ?_) (fun c9 => absurd c9 (by decide))
  refine lv_iconst (v := (-1)) hx hb dX9_undone_25 (by decide) ?_
  have hP9 := hP.sub (ws' := []) [] rfl
  have hD9 := hD.sub (ws' := []) [] (by decide) rfl
  have hK9 := hK.sub (tys' := []) [] rfl
  exact W.iret (v := (-1)) hx hb hr (fun t ht hW => ⟨⟨(-1), (), rfl, rfl, by rw [ht]; exact hP9, va_K.moved hW.alike hK9, hD9⟩, hS.F ht⟩) hS.2.2 dX9_undone_26
def zo_m_met : List Cond := [.code yX9_met cX9_met 5 (some .int), .methodLink RX9 501 yX9_isWant, .instanceMethod yX9_isWant, .selects RX9 yX9_isWant yX9_isWant, .initialized RX9]
def zw_m_met : List Cond := zo_m_met ++ (zw_c_isWant ++ [])
theorem gz_m_met : zw_m_met.all goodWord = true := p1_ga (by decide +kernel) (p1_ga gz_c_isWant p1_g0)
theorem iz_m_met : ∀ w ∈ zw_m_met, w ∈ lw_tbl := p1_ia (p1_all [1581, 1582, 1584, 96, 116] (by decide +kernel)) (p1_ia iz_c_isWant p1_i0)
set_option maxHeartbeats 4000000 in
set_option maxRecDepth 100000 in
theorem m_met (l : Launch) (dC : Nat → ClassId) (dI : Nat → Nat → Nat) (sz : Nat) (mo : Nat) (ms : List Value) (wt : Nat) (cT : ClassId) (tf : Nat → Int32) (a1 : Int32) (a2 : Int32) (a3 : Int32) (a4 : Int32) (f_ms_15 : ms[15]? = some (.ref wt)) (f_ms_43 : ms[43]? = some (.int 0)) (h_tf_0 : tf 0 = 0) : Met l yX9_met zw_m_met ({ frames := 2, cells := 0, slots := 0, locals := 43 }) (va_Pc [.ref mo, .int a1, .int a2, .int a3, .int a4] (fun U => U.heap.size = sz ∧ va_P (dC, dI) vwCl [(mo, .inr (8, ms)), (wt, .inl (cT, 2, .inl tf))] U.heap ∧ va_K (dC, dI) vwCl [(cT, .int)] U ∧ va_D (fun _ => True) [(mo, .inr (8, ms)), (wt, .inl (cT, 2, .inl tf))])) (va_Qi (fun (r : Int32) (_ : Unit) => r = (-1)) (fun _ t => va_P (dC, dI) vwCl [] t.heap ∧ va_K (dC, dI) vwCl [] t ∧ va_D (va_A [(mo, .inr (8, ms)), (wt, .inl (cT, 2, .inl tf))] sz) []) (va_A [(mo, .inr (8, ms)), (wt, .inl (cT, 2, .inl tf))] sz)) 0 0 (va_A [(mo, .inr (8, ms)), (wt, .inl (cT, 2, .inl tf))] sz) := by
  refine Met.ofW (cc := cX9_met) (maxL := 5) (ret := (some .int)) (by decide) rfl ?_
  intro p e s m args below meth c s₁ B hml hv
  obtain ⟨rfl, hsz, hP, hK, hD0⟩ := hv
  have hx := B.exec
  have hb := B.bytes
  have hr := B.returns
  have hts := atoms_spec (ws := zw_m_met) B.pre
  have hown : s.vm.findClass RX9 = some m.cls := findClass_of_methodNamed B.named
  have hlocks := B.notSynchronized
  subst hsz
  have hD := hD0.self (sz := s.heap.size)
  generalize hAe : va_A [(mo, .inr (8, ms)), (wt, .inl (cT, 2, .inl tf))] s.heap.size = A at hD ⊢
  have hA : ∀ q : Nat, s.heap.size ≤ q → A q := fun q h => by rw [← hAe]; exact Or.inr h
  have hS : va_S A s.heap s.heap [] := va_S.rf
  have hP : va_P (dC, dI) vwCl [(mo, .inr (8, ms)), (wt, .inl (cT, 2, .inl tf))] s.heap := hP
  have m_0 : (.methodLink RX9 501 yX9_isWant : Cond) ∈ zw_m_met := List.mem_append_left _ (List.mem_of_getElem? (i := 1) rfl)
  have k_0 := hts _ m_0
  have m_1 : (.instanceMethod yX9_isWant : Cond) ∈ zw_m_met := List.mem_append_left _ (List.mem_of_getElem? (i := 2) rfl)
  have k_1 := hts _ m_1
  have m_2 : (.selects RX9 yX9_isWant yX9_isWant : Cond) ∈ zw_m_met := List.mem_append_left _ (List.mem_of_getElem? (i := 3) rfl)
  have k_2 := hts _ m_2
  have m_3 : (.initialized RX9 : Cond) ∈ zw_m_met := List.mem_append_left _ (List.mem_of_getElem? (i := 4) rfl)
  have k_3 := hts _ m_3
  have g_c_isWant : ∀ w ∈ zw_c_isWant, w ∈ zw_m_met := fun w h => List.mem_append_right _ (List.mem_append_left _ h)
  have hl := lv_entry ([.ref mo, .int a1, .int a2, .int a3, .int a4]) (n := 5) (Nat.le_of_ble_eq_true rfl)
  rw [lg_entry_eq]
  generalize (lg_sl ([.ref mo, .int a1, .int a2, .int a3, .int a4]) ++ List.replicate (5 - (lg_sl ([.ref mo, .int a1, .int a2, .int a3, .int a4])).length) Slot.unset).toArray = ls at hl ⊢
  have hl : lv_has ls 5 [(0, .ref mo), (1, .int a1), (2, .int a2), (3, .int a3), (4, .int a4)] := hl
  refine lv_aload_n hx hb dX9_met_0 rfl (lv_at hl 0 rfl) ?_
  refine lv_iload_n hx hb dX9_met_1 rfl (lv_at hl 1 rfl) ?_
  have hPc := hP.sub (ws' := [(mo, .inr (8, ms)), (wt, .inl (cT, 2, .inl tf))]) [0, 1] rfl
  have hDc := hD.sub (ws' := [(mo, .inr (8, ms)), (wt, .inl (cT, 2, .inl tf))]) [0, 1] (by decide) rfl
  have hKc := hK.sub (tys' := [(cT, .int)]) [0] rfl
  have hFc := va_free (wc := [(mo, .inr (8, ms)), (wt, .inl (cT, 2, .inl tf))]) hD hS hA [0, 1] rfl
  refine va_calli (va_runV (As := [.int a1]) (rest := []) ⟨hx, hb, hml, hown, hts⟩ (c_isWant l dC dI s.heap.size mo ms wt cT tf a1 f_ms_15 f_ms_43 h_tf_0) (cwV 1 hts (p1_gV m_0 m_1 m_2 m_3 g_c_isWant gz_c_isWant) rfl rfl rfl (by decide +kernel) ⟨by decide, by decide⟩) ⟨fun a U g mk q => by obtain ⟨q0, q1, qP, qK, qD⟩ := q; exact ⟨q0, q1, qP, va_K.moved (u := U) (U := U.calling g mk a) (Vm.Alike.refl U.vm) qK, qD⟩, va_recv hKc hPc (ci := 8) (q0 := 0) rfl rfl, fun U hU hW => ⟨rfl, by rw [hU], by rw [hU]; exact hPc, va_K.moved hW.alike hKc, hDc.weaken (fun _ _ _ _ => trivial)⟩⟩ rfl rfl hl.1 rfl (lv_room (Nat.le_of_ble_eq_true rfl)) dX9_met_2 ⟨by decide, by decide⟩) hS (fun q _ h => hFc q h) hFc (fun r_1 u t H1 locs ht hvm hw hB hz1 hk1 hS => ?_)
  obtain ⟨hP1, hK1, hD1⟩ := hB
  rw [ht] at hP1
  obtain ⟨hP, hD⟩ := va_join (wr := []) (w1 := [(mo, .inr (8, ms)), (wt, .inl (cT, 2, .inl tf))]) hP hD [0, 1] [] rfl rfl (by decide) (by decide) hk1 hFc hP1 hD1
  generalize H1 = H at hP hS ⊢
  have hP : va_P (dC, dI) vwCl [(mo, .inr (8, ms)), (wt, .inl (cT, 2, .inl tf))] H := hP
  have hD : va_D A [(mo, .inr (8, ms)), (wt, .inl (cT, 2, .inl tf))] := hD
  try dsimp only at hw
  obtain rfl : r_1 = 0 := hw
  refine lv_if_eq (tgt := 19) hx hb dX9_met_5 (by decide) (fun _ => ?_) (fun c9 => absurd c9 (by decide))
  refine lv_iconst (v := (-1)) hx hb dX9_met_19 (by decide) ?_
  refine lv_goto (tgt := 40) hx hb dX9_met_20 (by decide) ?_
  have hP9 := hP.sub (ws' := []) [] rfl
  have hD9 := hD.sub (ws' := []) [] (by decide) rfl
  have hK9 := hK.sub (tys' := []) [] rfl
  exact W.iret (v := (-1)) hx hb hr (fun t ht hW => ⟨⟨(-1), (), rfl, rfl, by rw [ht]; exact hP9, va_K.moved hW.alike hK9, hD9⟩, hS.F ht⟩) hS.2.2 dX9_met_40
def zo_m_meets : List Cond := [.code yX9_meets cX9_meets 6 (some .int), .methodLink RX9 501 yX9_isWant, .instanceMethod yX9_isWant, .selects RX9 yX9_isWant yX9_isWant, .initialized RX9]
def zw_m_meets : List Cond := zo_m_meets ++ (zw_c_isWant ++ [])
theorem gz_m_meets : zw_m_meets.all goodWord = true := p1_ga (by decide +kernel) (p1_ga gz_c_isWant p1_g0)
theorem iz_m_meets : ∀ w ∈ zw_m_meets, w ∈ lw_tbl := p1_ia (p1_all [1593, 1582, 1584, 96, 116] (by decide +kernel)) (p1_ia iz_c_isWant p1_i0)
set_option maxHeartbeats 4000000 in
set_option maxRecDepth 100000 in
theorem m_meets (l : Launch) (dC : Nat → ClassId) (dI : Nat → Nat → Nat) (sz : Nat) (mo : Nat) (ms : List Value) (wt : Nat) (cT : ClassId) (tf : Nat → Int32) (a1 : Int32) (a2 : Int32) (a3 : Int32) (f_ms_15 : ms[15]? = some (.ref wt)) (f_ms_43 : ms[43]? = some (.int 0)) (h_tf_0 : tf 0 = 0) : Met l yX9_meets zw_m_meets ({ frames := 2, cells := 0, slots := 0, locals := 43 }) (va_Pc [.ref mo, .int a1, .int a2, .int a3] (fun U => U.heap.size = sz ∧ va_P (dC, dI) vwCl [(mo, .inr (8, ms)), (wt, .inl (cT, 2, .inl tf))] U.heap ∧ va_K (dC, dI) vwCl [(cT, .int)] U ∧ va_D (fun _ => True) [(mo, .inr (8, ms)), (wt, .inl (cT, 2, .inl tf))])) (va_Qi (fun (r : Int32) (_ : Unit) => r = (-1)) (fun _ t => va_P (dC, dI) vwCl [] t.heap ∧ va_K (dC, dI) vwCl [] t ∧ va_D (va_A [(mo, .inr (8, ms)), (wt, .inl (cT, 2, .inl tf))] sz) []) (va_A [(mo, .inr (8, ms)), (wt, .inl (cT, 2, .inl tf))] sz)) 0 0 (va_A [(mo, .inr (8, ms)), (wt, .inl (cT, 2, .inl tf))] sz) := by
  refine Met.ofW (cc := cX9_meets) (maxL := 6) (ret := (some .int)) (by decide) rfl ?_
  intro p e s m args below meth c s₁ B hml hv
  obtain ⟨rfl, hsz, hP, hK, hD0⟩ := hv
  have hx := B.exec
  have hb := B.bytes
  have hr := B.returns
  have hts := atoms_spec (ws := zw_m_meets) B.pre
  have hown : s.vm.findClass RX9 = some m.cls := findClass_of_methodNamed B.named
  have hlocks := B.notSynchronized
  subst hsz
  have hD := hD0.self (sz := s.heap.size)
  generalize hAe : va_A [(mo, .inr (8, ms)), (wt, .inl (cT, 2, .inl tf))] s.heap.size = A at hD ⊢
  have hA : ∀ q : Nat, s.heap.size ≤ q → A q := fun q h => by rw [← hAe]; exact Or.inr h
  have hS : va_S A s.heap s.heap [] := va_S.rf
  have hP : va_P (dC, dI) vwCl [(mo, .inr (8, ms)), (wt, .inl (cT, 2, .inl tf))] s.heap := hP
  have m_0 : (.methodLink RX9 501 yX9_isWant : Cond) ∈ zw_m_meets := List.mem_append_left _ (List.mem_of_getElem? (i := 1) rfl)
  have k_0 := hts _ m_0
  have m_1 : (.instanceMethod yX9_isWant : Cond) ∈ zw_m_meets := List.mem_append_left _ (List.mem_of_getElem? (i := 2) rfl)
  have k_1 := hts _ m_1
  have m_2 : (.selects RX9 yX9_isWant yX9_isWant : Cond) ∈ zw_m_meets := List.mem_append_left _ (List.mem_of_getElem? (i := 3) rfl)
  have k_2 := hts _ m_2
  have m_3 : (.initialized RX9 : Cond) ∈ zw_m_meets := List.mem_append_left _ (List.mem_of_getElem? (i := 4) rfl)
  have k_3 := hts _ m_3
  have g_c_isWant : ∀ w ∈ zw_c_isWant, w ∈ zw_m_meets := fun w h => List.mem_append_right _ (List.mem_append_left _ h)
  have hl := lv_entry ([.ref mo, .int a1, .int a2, .int a3]) (n := 6) (Nat.le_of_ble_eq_true rfl)
  rw [lg_entry_eq]
  generalize (lg_sl ([.ref mo, .int a1, .int a2, .int a3]) ++ List.replicate (6 - (lg_sl ([.ref mo, .int a1, .int a2, .int a3])).length) Slot.unset).toArray = ls at hl ⊢
  have hl : lv_has ls 6 [(0, .ref mo), (1, .int a1), (2, .int a2), (3, .int a3)] := hl
  refine lv_aload_n hx hb dX9_meets_0 rfl (lv_at hl 0 rfl) ?_
  refine lv_iload_n hx hb dX9_meets_1 rfl (lv_at hl 1 rfl) ?_
  have hPc := hP.sub (ws' := [(mo, .inr (8, ms)), (wt, .inl (cT, 2, .inl tf))]) [0, 1] rfl
  have hDc := hD.sub (ws' := [(mo, .inr (8, ms)), (wt, .inl (cT, 2, .inl tf))]) [0, 1] (by decide) rfl
  have hKc := hK.sub (tys' := [(cT, .int)]) [0] rfl
  have hFc := va_free (wc := [(mo, .inr (8, ms)), (wt, .inl (cT, 2, .inl tf))]) hD hS hA [0, 1] rfl
  refine va_calli (va_runV (As := [.int a1]) (rest := []) ⟨hx, hb, hml, hown, hts⟩ (c_isWant l dC dI s.heap.size mo ms wt cT tf a1 f_ms_15 f_ms_43 h_tf_0) (cwV 1 hts (p1_gV m_0 m_1 m_2 m_3 g_c_isWant gz_c_isWant) rfl rfl rfl (by decide +kernel) ⟨by decide, by decide⟩) ⟨fun a U g mk q => by obtain ⟨q0, q1, qP, qK, qD⟩ := q; exact ⟨q0, q1, qP, va_K.moved (u := U) (U := U.calling g mk a) (Vm.Alike.refl U.vm) qK, qD⟩, va_recv hKc hPc (ci := 8) (q0 := 0) rfl rfl, fun U hU hW => ⟨rfl, by rw [hU], by rw [hU]; exact hPc, va_K.moved hW.alike hKc, hDc.weaken (fun _ _ _ _ => trivial)⟩⟩ rfl rfl hl.1 rfl (lv_room (Nat.le_of_ble_eq_true rfl)) dX9_meets_2 ⟨by decide, by decide⟩) hS (fun q _ h => hFc q h) hFc (fun r_1 u t H1 locs ht hvm hw hB hz1 hk1 hS => ?_)
  obtain ⟨hP1, hK1, hD1⟩ := hB
  rw [ht] at hP1
  obtain ⟨hP, hD⟩ := va_join (wr := []) (w1 := [(mo, .inr (8, ms)), (wt, .inl (cT, 2, .inl tf))]) hP hD [0, 1] [] rfl rfl (by decide) (by decide) hk1 hFc hP1 hD1
  generalize H1 = H at hP hS ⊢
  have hP : va_P (dC, dI) vwCl [(mo, .inr (8, ms)), (wt, .inl (cT, 2, .inl tf))] H := hP
  have hD : va_D A [(mo, .inr (8, ms)), (wt, .inl (cT, 2, .inl tf))] := hD
  try dsimp only at hw
  obtain rfl : r_1 = 0 := hw
  refine lv_if_eq (tgt := 24) hx hb dX9_meets_5 (by decide) (fun _ => ?_) (fun c9 => absurd c9 (by decide))
  refine lv_iconst (v := (-1)) hx hb dX9_meets_24 (by decide) ?_
  have hP9 := hP.sub (ws' := []) [] rfl
  have hD9 := hD.sub (ws' := []) [] (by decide) rfl
  have hK9 := hK.sub (tys' := []) [] rfl
  exact W.iret (v := (-1)) hx hb hr (fun t ht hW => ⟨⟨(-1), (), rfl, rfl, by rw [ht]; exact hP9, va_K.moved hW.alike hK9, hD9⟩, hS.F ht⟩) hS.2.2 dX9_meets_25
def zo_m_odds : List Cond := [.code yX9_odds cX9_odds 7 (some .int), .methodLink RX9 431 yX9_isKnot, .instanceMethod yX9_isKnot, .selects RX9 yX9_isKnot yX9_isKnot, .initialized RX9]
def zw_m_odds : List Cond := zo_m_odds ++ (zw_c_isKnot ++ [])
theorem gz_m_odds : zw_m_odds.all goodWord = true := p1_ga (by decide +kernel) (p1_ga gz_c_isKnot p1_g0)
theorem iz_m_odds : ∀ w ∈ zw_m_odds, w ∈ lw_tbl := p1_ia (p1_all [1597, 1435, 1437, 71, 116] (by decide +kernel)) (p1_ia iz_c_isKnot p1_i0)
set_option maxHeartbeats 4000000 in
set_option maxRecDepth 100000 in
theorem m_odds (l : Launch) (dC : Nat → ClassId) (dI : Nat → Nat → Nat) (sz : Nat) (mo : Nat) (ms : List Value) (kn : Nat) (cK : ClassId) (kf : Nat → Int32) (a1 : Int32) (a2 : Int32) (a3 : Int32) (f_ms_11 : ms[11]? = some (.ref kn)) (f_ms_43 : ms[43]? = some (.int 0)) (h_kf_0 : kf 0 = 0) : Met l yX9_odds zw_m_odds ({ frames := 2, cells := 0, slots := 0, locals := 43 }) (va_Pc [.ref mo, .int a1, .int a2, .int a3] (fun U => U.heap.size = sz ∧ va_P (dC, dI) vwCl [(mo, .inr (8, ms)), (kn, .inl (cK, 2, .inl kf))] U.heap ∧ va_K (dC, dI) vwCl [(cK, .int)] U ∧ va_D (fun _ => True) [(mo, .inr (8, ms)), (kn, .inl (cK, 2, .inl kf))])) (va_Qi (fun (r : Int32) (_ : Unit) => r = (-1)) (fun _ t => va_P (dC, dI) vwCl [] t.heap ∧ va_K (dC, dI) vwCl [] t ∧ va_D (va_A [(mo, .inr (8, ms)), (kn, .inl (cK, 2, .inl kf))] sz) []) (va_A [(mo, .inr (8, ms)), (kn, .inl (cK, 2, .inl kf))] sz)) 0 0 (va_A [(mo, .inr (8, ms)), (kn, .inl (cK, 2, .inl kf))] sz) := by
  refine Met.ofW (cc := cX9_odds) (maxL := 7) (ret := (some .int)) (by decide) rfl ?_
  intro p e s m args below meth c s₁ B hml hv
  obtain ⟨rfl, hsz, hP, hK, hD0⟩ := hv
  have hx := B.exec
  have hb := B.bytes
  have hr := B.returns
  have hts := atoms_spec (ws := zw_m_odds) B.pre
  have hown : s.vm.findClass RX9 = some m.cls := findClass_of_methodNamed B.named
  have hlocks := B.notSynchronized
  subst hsz
  have hD := hD0.self (sz := s.heap.size)
  generalize hAe : va_A [(mo, .inr (8, ms)), (kn, .inl (cK, 2, .inl kf))] s.heap.size = A at hD ⊢
  have hA : ∀ q : Nat, s.heap.size ≤ q → A q := fun q h => by rw [← hAe]; exact Or.inr h
  have hS : va_S A s.heap s.heap [] := va_S.rf
  have hP : va_P (dC, dI) vwCl [(mo, .inr (8, ms)), (kn, .inl (cK, 2, .inl kf))] s.heap := hP
  have m_0 : (.methodLink RX9 431 yX9_isKnot : Cond) ∈ zw_m_odds := List.mem_append_left _ (List.mem_of_getElem? (i := 1) rfl)
  have k_0 := hts _ m_0
  have m_1 : (.instanceMethod yX9_isKnot : Cond) ∈ zw_m_odds := List.mem_append_left _ (List.mem_of_getElem? (i := 2) rfl)
  have k_1 := hts _ m_1
  have m_2 : (.selects RX9 yX9_isKnot yX9_isKnot : Cond) ∈ zw_m_odds := List.mem_append_left _ (List.mem_of_getElem? (i := 3) rfl)
  have k_2 := hts _ m_2
  have m_3 : (.initialized RX9 : Cond) ∈ zw_m_odds := List.mem_append_left _ (List.mem_of_getElem? (i := 4) rfl)
  have k_3 := hts _ m_3
  have g_c_isKnot : ∀ w ∈ zw_c_isKnot, w ∈ zw_m_odds := fun w h => List.mem_append_right _ (List.mem_append_left _ h)
  have hl := lv_entry ([.ref mo, .int a1, .int a2, .int a3]) (n := 7) (Nat.le_of_ble_eq_true rfl)
  rw [lg_entry_eq]
  generalize (lg_sl ([.ref mo, .int a1, .int a2, .int a3]) ++ List.replicate (7 - (lg_sl ([.ref mo, .int a1, .int a2, .int a3])).length) Slot.unset).toArray = ls at hl ⊢
  have hl : lv_has ls 7 [(0, .ref mo), (1, .int a1), (2, .int a2), (3, .int a3)] := hl
  refine lv_aload_n hx hb dX9_odds_0 rfl (lv_at hl 0 rfl) ?_
  refine lv_iload_n hx hb dX9_odds_1 rfl (lv_at hl 1 rfl) ?_
  have hPc := hP.sub (ws' := [(mo, .inr (8, ms)), (kn, .inl (cK, 2, .inl kf))]) [0, 1] rfl
  have hDc := hD.sub (ws' := [(mo, .inr (8, ms)), (kn, .inl (cK, 2, .inl kf))]) [0, 1] (by decide) rfl
  have hKc := hK.sub (tys' := [(cK, .int)]) [0] rfl
  have hFc := va_free (wc := [(mo, .inr (8, ms)), (kn, .inl (cK, 2, .inl kf))]) hD hS hA [0, 1] rfl
  refine va_calli (va_runV (As := [.int a1]) (rest := []) ⟨hx, hb, hml, hown, hts⟩ (c_isKnot l dC dI s.heap.size mo ms kn cK kf a1 f_ms_11 f_ms_43 h_kf_0) (cwV 1 hts (p1_gV m_0 m_1 m_2 m_3 g_c_isKnot gz_c_isKnot) rfl rfl rfl (by decide +kernel) ⟨by decide, by decide⟩) ⟨fun a U g mk q => by obtain ⟨q0, q1, qP, qK, qD⟩ := q; exact ⟨q0, q1, qP, va_K.moved (u := U) (U := U.calling g mk a) (Vm.Alike.refl U.vm) qK, qD⟩, va_recv hKc hPc (ci := 8) (q0 := 0) rfl rfl, fun U hU hW => ⟨rfl, by rw [hU], by rw [hU]; exact hPc, va_K.moved hW.alike hKc, hDc.weaken (fun _ _ _ _ => trivial)⟩⟩ rfl rfl hl.1 rfl (lv_room (Nat.le_of_ble_eq_true rfl)) dX9_odds_2 ⟨by decide, by decide⟩) hS (fun q _ h => hFc q h) hFc (fun r_1 u t H1 locs ht hvm hw hB hz1 hk1 hS => ?_)
  obtain ⟨hP1, hK1, hD1⟩ := hB
  rw [ht] at hP1
  obtain ⟨hP, hD⟩ := va_join (wr := []) (w1 := [(mo, .inr (8, ms)), (kn, .inl (cK, 2, .inl kf))]) hP hD [0, 1] [] rfl rfl (by decide) (by decide) hk1 hFc hP1 hD1
  generalize H1 = H at hP hS ⊢
  have hP : va_P (dC, dI) vwCl [(mo, .inr (8, ms)), (kn, .inl (cK, 2, .inl kf))] H := hP
  have hD : va_D A [(mo, .inr (8, ms)), (kn, .inl (cK, 2, .inl kf))] := hD
  try dsimp only at hw
  obtain rfl : r_1 = 0 := hw
  refine lv_if_eq (tgt := 50) hx hb dX9_odds_5 (by decide) (fun _ => ?_) (fun c9 => absurd c9 (by decide))
  refine lv_iconst (v := (-1)) hx hb dX9_odds_50 (by decide) ?_
  have hP9 := hP.sub (ws' := []) [] rfl
  have hD9 := hD.sub (ws' := []) [] (by decide) rfl
  have hK9 := hK.sub (tys' := []) [] rfl
  exact W.iret (v := (-1)) hx hb hr (fun t ht hW => ⟨⟨(-1), (), rfl, rfl, by rw [ht]; exact hP9, va_K.moved hW.alike hK9, hD9⟩, hS.F ht⟩) hS.2.2 dX9_odds_51
def zo_m_worse : List Cond := [.code yX9_worse cX9_worse 5 (some .int), .methodLink RX9 485 yX9_isAll, .instanceMethod yX9_isAll, .selects RX9 yX9_isAll yX9_isAll, .initialized RX9]
def zw_m_worse : List Cond := zo_m_worse ++ (zw_c_isAll ++ [])
theorem gz_m_worse : zw_m_worse.all goodWord = true := p1_ga (by decide +kernel) (p1_ga gz_c_isAll p1_g0)
theorem iz_m_worse : ∀ w ∈ zw_m_worse, w ∈ lw_tbl := p1_ia (p1_all [1607, 1518, 1520, 84, 116] (by decide +kernel)) (p1_ia iz_c_isAll p1_i0)
set_option maxHeartbeats 4000000 in
set_option maxRecDepth 100000 in
theorem m_worse (l : Launch) (dC : Nat → ClassId) (dI : Nat → Nat → Nat) (sz : Nat) (mo : Nat) (ms : List Value) (kn : Nat) (cK : ClassId) (kf : Nat → Int32) (a1 : Int32) (a2 : Int32) (a3 : Int32) (a4 : Int32) (f_ms_11 : ms[11]? = some (.ref kn)) (f_ms_43 : ms[43]? = some (.int 0)) (h_kf_0 : kf 0 = 0) : Met l yX9_worse zw_m_worse ({ frames := 3, cells := 0, slots := 0, locals := 66 }) (va_Pc [.ref mo, .int a1, .int a2, .int a3, .int a4] (fun U => U.heap.size = sz ∧ va_P (dC, dI) vwCl [(mo, .inr (8, ms)), (kn, .inl (cK, 2, .inl kf))] U.heap ∧ va_K (dC, dI) vwCl [(cK, .int)] U ∧ va_D (fun _ => True) [(mo, .inr (8, ms)), (kn, .inl (cK, 2, .inl kf))])) (va_Qi (fun (r : Int32) (_ : Unit) => r = (-10000)) (fun _ t => va_P (dC, dI) vwCl [] t.heap ∧ va_K (dC, dI) vwCl [] t ∧ va_D (va_A [(mo, .inr (8, ms)), (kn, .inl (cK, 2, .inl kf))] sz) []) (va_A [(mo, .inr (8, ms)), (kn, .inl (cK, 2, .inl kf))] sz)) 0 0 (va_A [(mo, .inr (8, ms)), (kn, .inl (cK, 2, .inl kf))] sz) := by
  refine Met.ofW (cc := cX9_worse) (maxL := 5) (ret := (some .int)) (by decide) rfl ?_
  intro p e s m args below meth c s₁ B hml hv
  obtain ⟨rfl, hsz, hP, hK, hD0⟩ := hv
  have hx := B.exec
  have hb := B.bytes
  have hr := B.returns
  have hts := atoms_spec (ws := zw_m_worse) B.pre
  have hown : s.vm.findClass RX9 = some m.cls := findClass_of_methodNamed B.named
  have hlocks := B.notSynchronized
  subst hsz
  have hD := hD0.self (sz := s.heap.size)
  generalize hAe : va_A [(mo, .inr (8, ms)), (kn, .inl (cK, 2, .inl kf))] s.heap.size = A at hD ⊢
  have hA : ∀ q : Nat, s.heap.size ≤ q → A q := fun q h => by rw [← hAe]; exact Or.inr h
  have hS : va_S A s.heap s.heap [] := va_S.rf
  have hP : va_P (dC, dI) vwCl [(mo, .inr (8, ms)), (kn, .inl (cK, 2, .inl kf))] s.heap := hP
  have m_0 : (.methodLink RX9 485 yX9_isAll : Cond) ∈ zw_m_worse := List.mem_append_left _ (List.mem_of_getElem? (i := 1) rfl)
  have k_0 := hts _ m_0
  have m_1 : (.instanceMethod yX9_isAll : Cond) ∈ zw_m_worse := List.mem_append_left _ (List.mem_of_getElem? (i := 2) rfl)
  have k_1 := hts _ m_1
  have m_2 : (.selects RX9 yX9_isAll yX9_isAll : Cond) ∈ zw_m_worse := List.mem_append_left _ (List.mem_of_getElem? (i := 3) rfl)
  have k_2 := hts _ m_2
  have m_3 : (.initialized RX9 : Cond) ∈ zw_m_worse := List.mem_append_left _ (List.mem_of_getElem? (i := 4) rfl)
  have k_3 := hts _ m_3
  have g_c_isAll : ∀ w ∈ zw_c_isAll, w ∈ zw_m_worse := fun w h => List.mem_append_right _ (List.mem_append_left _ h)
  have hl := lv_entry ([.ref mo, .int a1, .int a2, .int a3, .int a4]) (n := 5) (Nat.le_of_ble_eq_true rfl)
  rw [lg_entry_eq]
  generalize (lg_sl ([.ref mo, .int a1, .int a2, .int a3, .int a4]) ++ List.replicate (5 - (lg_sl ([.ref mo, .int a1, .int a2, .int a3, .int a4])).length) Slot.unset).toArray = ls at hl ⊢
  have hl : lv_has ls 5 [(0, .ref mo), (1, .int a1), (2, .int a2), (3, .int a3), (4, .int a4)] := hl
  refine lv_aload_n hx hb dX9_worse_0 rfl (lv_at hl 0 rfl) ?_
  refine lv_iload_n hx hb dX9_worse_1 rfl (lv_at hl 1 rfl) ?_
  refine lv_iload_n hx hb dX9_worse_2 rfl (lv_at hl 2 rfl) ?_
  refine lv_iload_n hx hb dX9_worse_3 rfl (lv_at hl 3 rfl) ?_
  have hPc := hP.sub (ws' := [(mo, .inr (8, ms)), (kn, .inl (cK, 2, .inl kf))]) [0, 1] rfl
  have hDc := hD.sub (ws' := [(mo, .inr (8, ms)), (kn, .inl (cK, 2, .inl kf))]) [0, 1] (by decide) rfl
  have hKc := hK.sub (tys' := [(cK, .int)]) [0] rfl
  have hFc := va_free (wc := [(mo, .inr (8, ms)), (kn, .inl (cK, 2, .inl kf))]) hD hS hA [0, 1] rfl
  refine va_calli (va_runV (As := [.int a1, .int a2, .int a3]) (rest := []) ⟨hx, hb, hml, hown, hts⟩ (c_isAll l dC dI s.heap.size mo ms kn cK kf a1 a2 a3 f_ms_11 f_ms_43 h_kf_0) (cwV 3 hts (p1_gV m_0 m_1 m_2 m_3 g_c_isAll gz_c_isAll) rfl rfl rfl (by decide +kernel) ⟨by decide, by decide⟩) ⟨fun a U g mk q => by obtain ⟨q0, q1, qP, qK, qD⟩ := q; exact ⟨q0, q1, qP, va_K.moved (u := U) (U := U.calling g mk a) (Vm.Alike.refl U.vm) qK, qD⟩, va_recv hKc hPc (ci := 8) (q0 := 0) rfl rfl, fun U hU hW => ⟨rfl, by rw [hU], by rw [hU]; exact hPc, va_K.moved hW.alike hKc, hDc.weaken (fun _ _ _ _ => trivial)⟩⟩ rfl rfl hl.1 rfl (lv_room (Nat.le_of_ble_eq_true rfl)) dX9_worse_4 ⟨by decide, by decide⟩) hS (fun q _ h => hFc q h) hFc (fun r_1 u t H1 locs ht hvm hw hB hz1 hk1 hS => ?_)
  obtain ⟨hP1, hK1, hD1⟩ := hB
  rw [ht] at hP1
  obtain ⟨hP, hD⟩ := va_join (wr := []) (w1 := [(mo, .inr (8, ms)), (kn, .inl (cK, 2, .inl kf))]) hP hD [0, 1] [] rfl rfl (by decide) (by decide) hk1 hFc hP1 hD1
  generalize H1 = H at hP hS ⊢
  have hP : va_P (dC, dI) vwCl [(mo, .inr (8, ms)), (kn, .inl (cK, 2, .inl kf))] H := hP
  have hD : va_D A [(mo, .inr (8, ms)), (kn, .inl (cK, 2, .inl kf))] := hD
  try dsimp only at hw
  obtain rfl : r_1 = 0 := hw
  refine lv_if_eq (tgt := 47) hx hb dX9_worse_7 (by decide) (fun _ => ?_) (fun c9 => absurd c9 (by decide))
  refine lv_sipush (v := (-10000)) hx hb dX9_worse_47 (by decide) ?_
  have hP9 := hP.sub (ws' := []) [] rfl
  have hD9 := hD.sub (ws' := []) [] (by decide) rfl
  have hK9 := hK.sub (tys' := []) [] rfl
  exact W.iret (v := (-10000)) hx hb hr (fun t ht hW => ⟨⟨(-10000), (), rfl, rfl, by rw [ht]; exact hP9, va_K.moved hW.alike hK9, hD9⟩, hS.F ht⟩) hS.2.2 dX9_worse_50
def zo_m_which : List Cond := [.code yX9_which cX9_which 6 (some .int), .methodLink RX9 485 yX9_isAll, .instanceMethod yX9_isAll, .selects RX9 yX9_isAll yX9_isAll, .initialized RX9]
def zw_m_which : List Cond := zo_m_which ++ (zw_c_isAll ++ [])
theorem gz_m_which : zw_m_which.all goodWord = true := p1_ga (by decide +kernel) (p1_ga gz_c_isAll p1_g0)
theorem iz_m_which : ∀ w ∈ zw_m_which, w ∈ lw_tbl := p1_ia (p1_all [1615, 1518, 1520, 84, 116] (by decide +kernel)) (p1_ia iz_c_isAll p1_i0)
set_option maxHeartbeats 4000000 in
set_option maxRecDepth 100000 in
theorem m_which (l : Launch) (dC : Nat → ClassId) (dI : Nat → Nat → Nat) (sz : Nat) (mo : Nat) (ms : List Value) (kn : Nat) (cK : ClassId) (kf : Nat → Int32) (a1 : Int32) (a2 : Int32) (a3 : Int32) (f_ms_11 : ms[11]? = some (.ref kn)) (f_ms_43 : ms[43]? = some (.int 0)) (h_kf_0 : kf 0 = 0) : Met l yX9_which zw_m_which ({ frames := 3, cells := 0, slots := 0, locals := 66 }) (va_Pc [.ref mo, .int a1, .int a2, .int a3] (fun U => U.heap.size = sz ∧ va_P (dC, dI) vwCl [(mo, .inr (8, ms)), (kn, .inl (cK, 2, .inl kf))] U.heap ∧ va_K (dC, dI) vwCl [(cK, .int)] U ∧ va_D (fun _ => True) [(mo, .inr (8, ms)), (kn, .inl (cK, 2, .inl kf))])) (va_Qi (fun (r : Int32) (_ : Unit) => r = (-1)) (fun _ t => va_P (dC, dI) vwCl [] t.heap ∧ va_K (dC, dI) vwCl [] t ∧ va_D (va_A [(mo, .inr (8, ms)), (kn, .inl (cK, 2, .inl kf))] sz) []) (va_A [(mo, .inr (8, ms)), (kn, .inl (cK, 2, .inl kf))] sz)) 0 0 (va_A [(mo, .inr (8, ms)), (kn, .inl (cK, 2, .inl kf))] sz) := by
  refine Met.ofW (cc := cX9_which) (maxL := 6) (ret := (some .int)) (by decide) rfl ?_
  intro p e s m args below meth c s₁ B hml hv
  obtain ⟨rfl, hsz, hP, hK, hD0⟩ := hv
  have hx := B.exec
  have hb := B.bytes
  have hr := B.returns
  have hts := atoms_spec (ws := zw_m_which) B.pre
  have hown : s.vm.findClass RX9 = some m.cls := findClass_of_methodNamed B.named
  have hlocks := B.notSynchronized
  subst hsz
  have hD := hD0.self (sz := s.heap.size)
  generalize hAe : va_A [(mo, .inr (8, ms)), (kn, .inl (cK, 2, .inl kf))] s.heap.size = A at hD ⊢
  have hA : ∀ q : Nat, s.heap.size ≤ q → A q := fun q h => by rw [← hAe]; exact Or.inr h
  have hS : va_S A s.heap s.heap [] := va_S.rf
  have hP : va_P (dC, dI) vwCl [(mo, .inr (8, ms)), (kn, .inl (cK, 2, .inl kf))] s.heap := hP
  have m_0 : (.methodLink RX9 485 yX9_isAll : Cond) ∈ zw_m_which := List.mem_append_left _ (List.mem_of_getElem? (i := 1) rfl)
  have k_0 := hts _ m_0
  have m_1 : (.instanceMethod yX9_isAll : Cond) ∈ zw_m_which := List.mem_append_left _ (List.mem_of_getElem? (i := 2) rfl)
  have k_1 := hts _ m_1
  have m_2 : (.selects RX9 yX9_isAll yX9_isAll : Cond) ∈ zw_m_which := List.mem_append_left _ (List.mem_of_getElem? (i := 3) rfl)
  have k_2 := hts _ m_2
  have m_3 : (.initialized RX9 : Cond) ∈ zw_m_which := List.mem_append_left _ (List.mem_of_getElem? (i := 4) rfl)
  have k_3 := hts _ m_3
  have g_c_isAll : ∀ w ∈ zw_c_isAll, w ∈ zw_m_which := fun w h => List.mem_append_right _ (List.mem_append_left _ h)
  have hl := lv_entry ([.ref mo, .int a1, .int a2, .int a3]) (n := 6) (Nat.le_of_ble_eq_true rfl)
  rw [lg_entry_eq]
  generalize (lg_sl ([.ref mo, .int a1, .int a2, .int a3]) ++ List.replicate (6 - (lg_sl ([.ref mo, .int a1, .int a2, .int a3])).length) Slot.unset).toArray = ls at hl ⊢
  have hl : lv_has ls 6 [(0, .ref mo), (1, .int a1), (2, .int a2), (3, .int a3)] := hl
  refine lv_aload_n hx hb dX9_which_0 rfl (lv_at hl 0 rfl) ?_
  refine lv_iload_n hx hb dX9_which_1 rfl (lv_at hl 1 rfl) ?_
  refine lv_iload_n hx hb dX9_which_2 rfl (lv_at hl 2 rfl) ?_
  refine lv_iload_n hx hb dX9_which_3 rfl (lv_at hl 3 rfl) ?_
  have hPc := hP.sub (ws' := [(mo, .inr (8, ms)), (kn, .inl (cK, 2, .inl kf))]) [0, 1] rfl
  have hDc := hD.sub (ws' := [(mo, .inr (8, ms)), (kn, .inl (cK, 2, .inl kf))]) [0, 1] (by decide) rfl
  have hKc := hK.sub (tys' := [(cK, .int)]) [0] rfl
  have hFc := va_free (wc := [(mo, .inr (8, ms)), (kn, .inl (cK, 2, .inl kf))]) hD hS hA [0, 1] rfl
  refine va_calli (va_runV (As := [.int a1, .int a2, .int a3]) (rest := []) ⟨hx, hb, hml, hown, hts⟩ (c_isAll l dC dI s.heap.size mo ms kn cK kf a1 a2 a3 f_ms_11 f_ms_43 h_kf_0) (cwV 3 hts (p1_gV m_0 m_1 m_2 m_3 g_c_isAll gz_c_isAll) rfl rfl rfl (by decide +kernel) ⟨by decide, by decide⟩) ⟨fun a U g mk q => by obtain ⟨q0, q1, qP, qK, qD⟩ := q; exact ⟨q0, q1, qP, va_K.moved (u := U) (U := U.calling g mk a) (Vm.Alike.refl U.vm) qK, qD⟩, va_recv hKc hPc (ci := 8) (q0 := 0) rfl rfl, fun U hU hW => ⟨rfl, by rw [hU], by rw [hU]; exact hPc, va_K.moved hW.alike hKc, hDc.weaken (fun _ _ _ _ => trivial)⟩⟩ rfl rfl hl.1 rfl (lv_room (Nat.le_of_ble_eq_true rfl)) dX9_which_4 ⟨by decide, by decide⟩) hS (fun q _ h => hFc q h) hFc (fun r_1 u t H1 locs ht hvm hw hB hz1 hk1 hS => ?_)
  obtain ⟨hP1, hK1, hD1⟩ := hB
  rw [ht] at hP1
  obtain ⟨hP, hD⟩ := va_join (wr := []) (w1 := [(mo, .inr (8, ms)), (kn, .inl (cK, 2, .inl kf))]) hP hD [0, 1] [] rfl rfl (by decide) (by decide) hk1 hFc hP1 hD1
  generalize H1 = H at hP hS ⊢
  have hP : va_P (dC, dI) vwCl [(mo, .inr (8, ms)), (kn, .inl (cK, 2, .inl kf))] H := hP
  have hD : va_D A [(mo, .inr (8, ms)), (kn, .inl (cK, 2, .inl kf))] := hD
  try dsimp only at hw
  obtain rfl : r_1 = 0 := hw
  refine lv_if_ne (tgt := 12) hx hb dX9_which_7 (by decide) (fun c9 => absurd c9 (by decide)) (fun _ => ?_)
  refine lv_iconst (v := (-1)) hx hb dX9_which_10 (by decide) ?_
  have hP9 := hP.sub (ws' := []) [] rfl
  have hD9 := hD.sub (ws' := []) [] (by decide) rfl
  have hK9 := hK.sub (tys' := []) [] rfl
  exact W.iret (v := (-1)) hx hb hr (fun t ht hW => ⟨⟨(-1), (), rfl, rfl, by rw [ht]; exact hP9, va_K.moved hW.alike hK9, hD9⟩, hS.F ht⟩) hS.2.2 dX9_which_11
def zo_m_best : List Cond := [.code yX9_best cX9_best 11 (some .int), .methodLink RX9 389 yX9_isIn, .static yX9_isIn, .initialized RX9, .methodLink RX9 434 yX9_isCord, .instanceMethod yX9_isCord, .selects RX9 yX9_isCord yX9_isCord]
def zw_m_best : List Cond := zo_m_best ++ (zw_c_isIn ++ (zw_c_isCord ++ []))
theorem gz_m_best : zw_m_best.all goodWord = true := p1_ga (by decide +kernel) (p1_ga gz_c_isIn (p1_ga gz_c_isCord p1_g0))
theorem iz_m_best : ∀ w ∈ zw_m_best, w ∈ lw_tbl := p1_ia (p1_all [1619, 1439, 1440, 116, 1442, 1444, 72] (by decide +kernel)) (p1_ia iz_c_isIn (p1_ia iz_c_isCord p1_i0))
set_option maxHeartbeats 4000000 in
set_option maxRecDepth 100000 in
theorem m_best (l : Launch) (dC : Nat → ClassId) (dI : Nat → Nat → Nat) (sz : Nat) (mo : Nat) (ms : List Value) (co : Nat) (cC : ClassId) (cf : Nat → Int32) (a1 : Int32) (a2 : Int32) (a3 : Int32) (a4 : Int32) (a5 : Int32) (f_ms_12 : ms[12]? = some (.ref co)) (f_ms_43 : ms[43]? = some (.int 0)) (h_cf_0 : cf 0 = 0) : Met l yX9_best zw_m_best ({ frames := 2, cells := 0, slots := 0, locals := 43 }) (va_Pc [.ref mo, .int a1, .int a2, .int a3, .int a4, .int a5] (fun U => U.heap.size = sz ∧ va_P (dC, dI) vwCl [(mo, .inr (8, ms)), (co, .inl (cC, 2, .inl cf))] U.heap ∧ va_K (dC, dI) vwCl [(cC, .int)] U ∧ va_D (fun _ => True) [(mo, .inr (8, ms)), (co, .inl (cC, 2, .inl cf))])) (va_Qi (fun (r : Int32) (_ : Unit) => r = (-1)) (fun _ t => va_P (dC, dI) vwCl [] t.heap ∧ va_K (dC, dI) vwCl [] t ∧ va_D (va_A [(mo, .inr (8, ms)), (co, .inl (cC, 2, .inl cf))] sz) []) (va_A [(mo, .inr (8, ms)), (co, .inl (cC, 2, .inl cf))] sz)) 0 0 (va_A [(mo, .inr (8, ms)), (co, .inl (cC, 2, .inl cf))] sz) := by
  refine Met.ofW (cc := cX9_best) (maxL := 11) (ret := (some .int)) (by decide) rfl ?_
  intro p e s m args below meth c s₁ B hml hv
  obtain ⟨rfl, hsz, hP, hK, hD0⟩ := hv
  have hx := B.exec
  have hb := B.bytes
  have hr := B.returns
  have hts := atoms_spec (ws := zw_m_best) B.pre
  have hown : s.vm.findClass RX9 = some m.cls := findClass_of_methodNamed B.named
  have hlocks := B.notSynchronized
  subst hsz
  have hD := hD0.self (sz := s.heap.size)
  generalize hAe : va_A [(mo, .inr (8, ms)), (co, .inl (cC, 2, .inl cf))] s.heap.size = A at hD ⊢
  have hA : ∀ q : Nat, s.heap.size ≤ q → A q := fun q h => by rw [← hAe]; exact Or.inr h
  have hS : va_S A s.heap s.heap [] := va_S.rf
  have hP : va_P (dC, dI) vwCl [(mo, .inr (8, ms)), (co, .inl (cC, 2, .inl cf))] s.heap := hP
  have m_0 : (.methodLink RX9 389 yX9_isIn : Cond) ∈ zw_m_best := List.mem_append_left _ (List.mem_of_getElem? (i := 1) rfl)
  have k_0 := hts _ m_0
  have m_1 : (.static yX9_isIn : Cond) ∈ zw_m_best := List.mem_append_left _ (List.mem_of_getElem? (i := 2) rfl)
  have k_1 := hts _ m_1
  have m_2 : (.initialized RX9 : Cond) ∈ zw_m_best := List.mem_append_left _ (List.mem_of_getElem? (i := 3) rfl)
  have k_2 := hts _ m_2
  have m_3 : (.methodLink RX9 434 yX9_isCord : Cond) ∈ zw_m_best := List.mem_append_left _ (List.mem_of_getElem? (i := 4) rfl)
  have k_3 := hts _ m_3
  have m_4 : (.instanceMethod yX9_isCord : Cond) ∈ zw_m_best := List.mem_append_left _ (List.mem_of_getElem? (i := 5) rfl)
  have k_4 := hts _ m_4
  have m_5 : (.selects RX9 yX9_isCord yX9_isCord : Cond) ∈ zw_m_best := List.mem_append_left _ (List.mem_of_getElem? (i := 6) rfl)
  have k_5 := hts _ m_5
  have g_c_isIn : ∀ w ∈ zw_c_isIn, w ∈ zw_m_best := fun w h => List.mem_append_right _ (List.mem_append_left _ h)
  have g_c_isCord : ∀ w ∈ zw_c_isCord, w ∈ zw_m_best := fun w h => List.mem_append_right _ (List.mem_append_right _ (List.mem_append_left _ h))
  have hl := lv_entry ([.ref mo, .int a1, .int a2, .int a3, .int a4, .int a5]) (n := 11) (Nat.le_of_ble_eq_true rfl)
  rw [lg_entry_eq]
  generalize (lg_sl ([.ref mo, .int a1, .int a2, .int a3, .int a4, .int a5]) ++ List.replicate (11 - (lg_sl ([.ref mo, .int a1, .int a2, .int a3, .int a4, .int a5])).length) Slot.unset).toArray = ls at hl ⊢
  have hl : lv_has ls 11 [(0, .ref mo), (1, .int a1), (2, .int a2), (3, .int a3), (4, .int a4), (5, .int a5)] := hl
  refine lv_iload_n hx hb dX9_best_0 rfl (lv_at hl 1 rfl) ?_
  refine lv_iconst (v := 1) hx hb dX9_best_1 (by decide) ?_
  refine lv_bipush (v := 6) hx hb dX9_best_2 (by decide) ?_
  have hPc := hP.sub (ws' := []) [] rfl
  have hDc := hD.sub (ws' := []) [] (by decide) rfl
  have hKc := hK.sub (tys' := []) [] rfl
  have hFc := va_free (wc := []) hD hS hA [] rfl
  refine va_calli (va_runS (As := [.int a1, .int 1, .int 6]) (rest := []) ⟨hx, hb, hml, hown, hts⟩ (c_isIn l dC dI s.heap.size a1 1 6) (va_cwS 3 hts (p1_gS m_0 m_1 m_2 g_c_isIn gz_c_isIn) rfl rfl rfl (by decide +kernel) ⟨by decide, by decide⟩) ⟨fun a U g mk q => by obtain ⟨q0, q1, qP, qK, qD⟩ := q; exact ⟨q0, q1, qP, va_K.moved (u := U) (U := U.calling g mk a) (Vm.Alike.refl U.vm) qK, qD⟩, fun U hU hW => ⟨rfl, by rw [hU], by rw [hU]; exact hPc, va_K.moved hW.alike hKc, hDc.weaken (fun _ _ _ _ => trivial)⟩⟩ rfl rfl hl.1 rfl (lv_room (Nat.le_of_ble_eq_true rfl)) dX9_best_4 ⟨by decide, by decide⟩) hS (fun q _ h => hFc q h) hFc (fun r_1 u t H1 locs ht hvm hw hB hz1 hk1 hS => ?_)
  obtain ⟨hP1, hK1, hD1⟩ := hB
  rw [ht] at hP1
  obtain ⟨hP, hD⟩ := va_join (wr := [(mo, .inr (8, ms)), (co, .inl (cC, 2, .inl cf))]) (w1 := []) hP hD [] [0, 1] rfl rfl (by decide) (by decide) hk1 hFc hP1 hD1
  generalize H1 = H at hP hS ⊢
  have hP : va_P (dC, dI) vwCl [(mo, .inr (8, ms)), (co, .inl (cC, 2, .inl cf))] H := hP
  have hD : va_D A [(mo, .inr (8, ms)), (co, .inl (cC, 2, .inl cf))] := hD
  try dsimp only at hw
  rcases hw with ⟨rfl, hw_2⟩ | ⟨rfl, hw_2⟩
  · refine lv_if_eq (tgt := 48) hx hb dX9_best_7 (by decide) (fun c9 => absurd c9 (by decide)) (fun _ => ?_)
    refine lv_aload_n hx hb dX9_best_10 rfl (lv_at hl 0 rfl) ?_
    refine lv_iload_n hx hb dX9_best_11 rfl (lv_at hl 2 rfl) ?_
    have hPc := hP.sub (ws' := [(mo, .inr (8, ms)), (co, .inl (cC, 2, .inl cf))]) [0, 1] rfl
    have hDc := hD.sub (ws' := [(mo, .inr (8, ms)), (co, .inl (cC, 2, .inl cf))]) [0, 1] (by decide) rfl
    have hKc := hK.sub (tys' := [(cC, .int)]) [0] rfl
    have hFc := va_free (wc := [(mo, .inr (8, ms)), (co, .inl (cC, 2, .inl cf))]) hD hS hA [0, 1] rfl
    refine va_calli (va_runV (As := [.int a2]) (rest := []) ⟨hx, hb, hml, hown, hts⟩ (c_isCord l dC dI H.size mo ms co cC cf a2 f_ms_12 f_ms_43 h_cf_0) (cwV 1 hts (p1_gV m_3 m_4 m_5 m_2 g_c_isCord gz_c_isCord) rfl rfl rfl (by decide +kernel) ⟨by decide, by decide⟩) ⟨fun a U g mk q => by obtain ⟨q0, q1, qP, qK, qD⟩ := q; exact ⟨q0, q1, qP, va_K.moved (u := U) (U := U.calling g mk a) (Vm.Alike.refl U.vm) qK, qD⟩, va_recv hKc hPc (ci := 8) (q0 := 0) rfl rfl, fun U hU hW => ⟨rfl, by rw [hU], by rw [hU]; exact hPc, va_K.moved hW.alike hKc, hDc.weaken (fun _ _ _ _ => trivial)⟩⟩ rfl rfl hl.1 rfl (lv_room (Nat.le_of_ble_eq_true rfl)) dX9_best_12 ⟨by decide, by decide⟩) hS (fun q _ h => hFc q h) hFc (fun r_3 u t H1 locs ht hvm hw hB hz1 hk1 hS => ?_)
    obtain ⟨hP1, hK1, hD1⟩ := hB
    rw [ht] at hP1
    obtain ⟨hP, hD⟩ := va_join (wr := []) (w1 := [(mo, .inr (8, ms)), (co, .inl (cC, 2, .inl cf))]) hP hD [0, 1] [] rfl rfl (by decide) (by decide) hk1 hFc hP1 hD1
    generalize H1 = H at hP hS ⊢
    have hP : va_P (dC, dI) vwCl [(mo, .inr (8, ms)), (co, .inl (cC, 2, .inl cf))] H := hP
    have hD : va_D A [(mo, .inr (8, ms)), (co, .inl (cC, 2, .inl cf))] := hD
    try dsimp only at hw
    obtain rfl : r_3 = 0 := hw
    refine lv_if_eq (tgt := 48) hx hb dX9_best_15 (by decide) (fun _ => ?_) (fun c9 => absurd c9 (by decide))
    refine lv_iconst (v := (-1)) hx hb dX9_best_48 (by decide) ?_
    have hP9 := hP.sub (ws' := []) [] rfl
    have hD9 := hD.sub (ws' := []) [] (by decide) rfl
    have hK9 := hK.sub (tys' := []) [] rfl
    exact W.iret (v := (-1)) hx hb hr (fun t ht hW => ⟨⟨(-1), (), rfl, rfl, by rw [ht]; exact hP9, va_K.moved hW.alike hK9, hD9⟩, hS.F ht⟩) hS.2.2 dX9_best_49
  · refine lv_if_eq (tgt := 48) hx hb dX9_best_7 (by decide) (fun _ => ?_) (fun c9 => absurd c9 (by decide))
    refine lv_iconst (v := (-1)) hx hb dX9_best_48 (by decide) ?_
    have hP9 := hP.sub (ws' := []) [] rfl
    have hD9 := hD.sub (ws' := []) [] (by decide) rfl
    have hK9 := hK.sub (tys' := []) [] rfl
    exact W.iret (v := (-1)) hx hb hr (fun t ht hW => ⟨⟨(-1), (), rfl, rfl, by rw [ht]; exact hP9, va_K.moved hW.alike hK9, hD9⟩, hS.F ht⟩) hS.2.2 dX9_best_49
def zo_m_both : List Cond := [.code yX9_both cX9_both 7 (some .int), .methodLink RX9 434 yX9_isCord, .instanceMethod yX9_isCord, .selects RX9 yX9_isCord yX9_isCord, .initialized RX9]
def zw_m_both : List Cond := zo_m_both ++ (zw_c_isCord ++ [])
theorem gz_m_both : zw_m_both.all goodWord = true := p1_ga (by decide +kernel) (p1_ga gz_c_isCord p1_g0)
theorem iz_m_both : ∀ w ∈ zw_m_both, w ∈ lw_tbl := p1_ia (p1_all [1623, 1442, 1444, 72, 116] (by decide +kernel)) (p1_ia iz_c_isCord p1_i0)
set_option maxHeartbeats 4000000 in
set_option maxRecDepth 100000 in
theorem m_both (l : Launch) (dC : Nat → ClassId) (dI : Nat → Nat → Nat) (sz : Nat) (mo : Nat) (ms : List Value) (co : Nat) (cC : ClassId) (cf : Nat → Int32) (a1 : Int32) (a2 : Int32) (f_ms_12 : ms[12]? = some (.ref co)) (f_ms_43 : ms[43]? = some (.int 0)) (h_cf_0 : cf 0 = 0) : Met l yX9_both zw_m_both ({ frames := 2, cells := 0, slots := 0, locals := 43 }) (va_Pc [.ref mo, .int a1, .int a2] (fun U => U.heap.size = sz ∧ va_P (dC, dI) vwCl [(mo, .inr (8, ms)), (co, .inl (cC, 2, .inl cf))] U.heap ∧ va_K (dC, dI) vwCl [(cC, .int)] U ∧ va_D (fun _ => True) [(mo, .inr (8, ms)), (co, .inl (cC, 2, .inl cf))])) (va_Qi (fun (r : Int32) (_ : Unit) => r = (-1)) (fun _ t => va_P (dC, dI) vwCl [] t.heap ∧ va_K (dC, dI) vwCl [] t ∧ va_D (va_A [(mo, .inr (8, ms)), (co, .inl (cC, 2, .inl cf))] sz) []) (va_A [(mo, .inr (8, ms)), (co, .inl (cC, 2, .inl cf))] sz)) 0 0 (va_A [(mo, .inr (8, ms)), (co, .inl (cC, 2, .inl cf))] sz) := by
  refine Met.ofW (cc := cX9_both) (maxL := 7) (ret := (some .int)) (by decide) rfl ?_
  intro p e s m args below meth c s₁ B hml hv
  obtain ⟨rfl, hsz, hP, hK, hD0⟩ := hv
  have hx := B.exec
  have hb := B.bytes
  have hr := B.returns
  have hts := atoms_spec (ws := zw_m_both) B.pre
  have hown : s.vm.findClass RX9 = some m.cls := findClass_of_methodNamed B.named
  have hlocks := B.notSynchronized
  subst hsz
  have hD := hD0.self (sz := s.heap.size)
  generalize hAe : va_A [(mo, .inr (8, ms)), (co, .inl (cC, 2, .inl cf))] s.heap.size = A at hD ⊢
  have hA : ∀ q : Nat, s.heap.size ≤ q → A q := fun q h => by rw [← hAe]; exact Or.inr h
  have hS : va_S A s.heap s.heap [] := va_S.rf
  have hP : va_P (dC, dI) vwCl [(mo, .inr (8, ms)), (co, .inl (cC, 2, .inl cf))] s.heap := hP
  have m_0 : (.methodLink RX9 434 yX9_isCord : Cond) ∈ zw_m_both := List.mem_append_left _ (List.mem_of_getElem? (i := 1) rfl)
  have k_0 := hts _ m_0
  have m_1 : (.instanceMethod yX9_isCord : Cond) ∈ zw_m_both := List.mem_append_left _ (List.mem_of_getElem? (i := 2) rfl)
  have k_1 := hts _ m_1
  have m_2 : (.selects RX9 yX9_isCord yX9_isCord : Cond) ∈ zw_m_both := List.mem_append_left _ (List.mem_of_getElem? (i := 3) rfl)
  have k_2 := hts _ m_2
  have m_3 : (.initialized RX9 : Cond) ∈ zw_m_both := List.mem_append_left _ (List.mem_of_getElem? (i := 4) rfl)
  have k_3 := hts _ m_3
  have g_c_isCord : ∀ w ∈ zw_c_isCord, w ∈ zw_m_both := fun w h => List.mem_append_right _ (List.mem_append_left _ h)
  have hl := lv_entry ([.ref mo, .int a1, .int a2]) (n := 7) (Nat.le_of_ble_eq_true rfl)
  rw [lg_entry_eq]
  generalize (lg_sl ([.ref mo, .int a1, .int a2]) ++ List.replicate (7 - (lg_sl ([.ref mo, .int a1, .int a2])).length) Slot.unset).toArray = ls at hl ⊢
  have hl : lv_has ls 7 [(0, .ref mo), (1, .int a1), (2, .int a2)] := hl
  refine lv_aload_n hx hb dX9_both_0 rfl (lv_at hl 0 rfl) ?_
  refine lv_iload_n hx hb dX9_both_1 rfl (lv_at hl 1 rfl) ?_
  have hPc := hP.sub (ws' := [(mo, .inr (8, ms)), (co, .inl (cC, 2, .inl cf))]) [0, 1] rfl
  have hDc := hD.sub (ws' := [(mo, .inr (8, ms)), (co, .inl (cC, 2, .inl cf))]) [0, 1] (by decide) rfl
  have hKc := hK.sub (tys' := [(cC, .int)]) [0] rfl
  have hFc := va_free (wc := [(mo, .inr (8, ms)), (co, .inl (cC, 2, .inl cf))]) hD hS hA [0, 1] rfl
  refine va_calli (va_runV (As := [.int a1]) (rest := []) ⟨hx, hb, hml, hown, hts⟩ (c_isCord l dC dI s.heap.size mo ms co cC cf a1 f_ms_12 f_ms_43 h_cf_0) (cwV 1 hts (p1_gV m_0 m_1 m_2 m_3 g_c_isCord gz_c_isCord) rfl rfl rfl (by decide +kernel) ⟨by decide, by decide⟩) ⟨fun a U g mk q => by obtain ⟨q0, q1, qP, qK, qD⟩ := q; exact ⟨q0, q1, qP, va_K.moved (u := U) (U := U.calling g mk a) (Vm.Alike.refl U.vm) qK, qD⟩, va_recv hKc hPc (ci := 8) (q0 := 0) rfl rfl, fun U hU hW => ⟨rfl, by rw [hU], by rw [hU]; exact hPc, va_K.moved hW.alike hKc, hDc.weaken (fun _ _ _ _ => trivial)⟩⟩ rfl rfl hl.1 rfl (lv_room (Nat.le_of_ble_eq_true rfl)) dX9_both_2 ⟨by decide, by decide⟩) hS (fun q _ h => hFc q h) hFc (fun r_1 u t H1 locs ht hvm hw hB hz1 hk1 hS => ?_)
  obtain ⟨hP1, hK1, hD1⟩ := hB
  rw [ht] at hP1
  obtain ⟨hP, hD⟩ := va_join (wr := []) (w1 := [(mo, .inr (8, ms)), (co, .inl (cC, 2, .inl cf))]) hP hD [0, 1] [] rfl rfl (by decide) (by decide) hk1 hFc hP1 hD1
  generalize H1 = H at hP hS ⊢
  have hP : va_P (dC, dI) vwCl [(mo, .inr (8, ms)), (co, .inl (cC, 2, .inl cf))] H := hP
  have hD : va_D A [(mo, .inr (8, ms)), (co, .inl (cC, 2, .inl cf))] := hD
  try dsimp only at hw
  obtain rfl : r_1 = 0 := hw
  refine lv_if_eq (tgt := 16) hx hb dX9_both_5 (by decide) (fun _ => ?_) (fun c9 => absurd c9 (by decide))
  refine lv_iconst (v := (-1)) hx hb dX9_both_16 (by decide) ?_
  have hP9 := hP.sub (ws' := []) [] rfl
  have hD9 := hD.sub (ws' := []) [] (by decide) rfl
  have hK9 := hK.sub (tys' := []) [] rfl
  exact W.iret (v := (-1)) hx hb hr (fun t ht hW => ⟨⟨(-1), (), rfl, rfl, by rw [ht]; exact hP9, va_K.moved hW.alike hK9, hD9⟩, hS.F ht⟩) hS.2.2 dX9_both_17
def zo_m_ends : List Cond := [.code yX9_ends cX9_ends 6 (some .int), .methodLink RX9 485 yX9_isAll, .instanceMethod yX9_isAll, .selects RX9 yX9_isAll yX9_isAll, .initialized RX9]
def zw_m_ends : List Cond := zo_m_ends ++ (zw_c_isAll ++ [])
theorem gz_m_ends : zw_m_ends.all goodWord = true := p1_ga (by decide +kernel) (p1_ga gz_c_isAll p1_g0)
theorem iz_m_ends : ∀ w ∈ zw_m_ends, w ∈ lw_tbl := p1_ia (p1_all [1627, 1518, 1520, 84, 116] (by decide +kernel)) (p1_ia iz_c_isAll p1_i0)
set_option maxHeartbeats 4000000 in
set_option maxRecDepth 100000 in
theorem m_ends (l : Launch) (dC : Nat → ClassId) (dI : Nat → Nat → Nat) (sz : Nat) (mo : Nat) (ms : List Value) (kn : Nat) (cK : ClassId) (kf : Nat → Int32) (a1 : Int32) (a2 : Int32) (a3 : Int32) (a4 : Int32) (f_ms_11 : ms[11]? = some (.ref kn)) (f_ms_43 : ms[43]? = some (.int 0)) (h_kf_0 : kf 0 = 0) : Met l yX9_ends zw_m_ends ({ frames := 3, cells := 0, slots := 0, locals := 66 }) (va_Pc [.ref mo, .int a1, .int a2, .int a3, .int a4] (fun U => U.heap.size = sz ∧ va_P (dC, dI) vwCl [(mo, .inr (8, ms)), (kn, .inl (cK, 2, .inl kf))] U.heap ∧ va_K (dC, dI) vwCl [(cK, .int)] U ∧ va_D (fun _ => True) [(mo, .inr (8, ms)), (kn, .inl (cK, 2, .inl kf))])) (va_Qi (fun (r : Int32) (_ : Unit) => r = (-1)) (fun _ t => va_P (dC, dI) vwCl [] t.heap ∧ va_K (dC, dI) vwCl [] t ∧ va_D (va_A [(mo, .inr (8, ms)), (kn, .inl (cK, 2, .inl kf))] sz) []) (va_A [(mo, .inr (8, ms)), (kn, .inl (cK, 2, .inl kf))] sz)) 0 0 (va_A [(mo, .inr (8, ms)), (kn, .inl (cK, 2, .inl kf))] sz) := by
  refine Met.ofW (cc := cX9_ends) (maxL := 6) (ret := (some .int)) (by decide) rfl ?_
  intro p e s m args below meth c s₁ B hml hv
  obtain ⟨rfl, hsz, hP, hK, hD0⟩ := hv
  have hx := B.exec
  have hb := B.bytes
  have hr := B.returns
  have hts := atoms_spec (ws := zw_m_ends) B.pre
  have hown : s.vm.findClass RX9 = some m.cls := findClass_of_methodNamed B.named
  have hlocks := B.notSynchronized
  subst hsz
  have hD := hD0.self (sz := s.heap.size)
  generalize hAe : va_A [(mo, .inr (8, ms)), (kn, .inl (cK, 2, .inl kf))] s.heap.size = A at hD ⊢
  have hA : ∀ q : Nat, s.heap.size ≤ q → A q := fun q h => by rw [← hAe]; exact Or.inr h
  have hS : va_S A s.heap s.heap [] := va_S.rf
  have hP : va_P (dC, dI) vwCl [(mo, .inr (8, ms)), (kn, .inl (cK, 2, .inl kf))] s.heap := hP
  have m_0 : (.methodLink RX9 485 yX9_isAll : Cond) ∈ zw_m_ends := List.mem_append_left _ (List.mem_of_getElem? (i := 1) rfl)
  have k_0 := hts _ m_0
  have m_1 : (.instanceMethod yX9_isAll : Cond) ∈ zw_m_ends := List.mem_append_left _ (List.mem_of_getElem? (i := 2) rfl)
  have k_1 := hts _ m_1
  have m_2 : (.selects RX9 yX9_isAll yX9_isAll : Cond) ∈ zw_m_ends := List.mem_append_left _ (List.mem_of_getElem? (i := 3) rfl)
  have k_2 := hts _ m_2
  have m_3 : (.initialized RX9 : Cond) ∈ zw_m_ends := List.mem_append_left _ (List.mem_of_getElem? (i := 4) rfl)
  have k_3 := hts _ m_3
  have g_c_isAll : ∀ w ∈ zw_c_isAll, w ∈ zw_m_ends := fun w h => List.mem_append_right _ (List.mem_append_left _ h)
  have hl := lv_entry ([.ref mo, .int a1, .int a2, .int a3, .int a4]) (n := 6) (Nat.le_of_ble_eq_true rfl)
  rw [lg_entry_eq]
  generalize (lg_sl ([.ref mo, .int a1, .int a2, .int a3, .int a4]) ++ List.replicate (6 - (lg_sl ([.ref mo, .int a1, .int a2, .int a3, .int a4])).length) Slot.unset).toArray = ls at hl ⊢
  have hl : lv_has ls 6 [(0, .ref mo), (1, .int a1), (2, .int a2), (3, .int a3), (4, .int a4)] := hl
  refine lv_aload_n hx hb dX9_ends_0 rfl (lv_at hl 0 rfl) ?_
  refine lv_iload_n hx hb dX9_ends_1 rfl (lv_at hl 1 rfl) ?_
  refine lv_iload_n hx hb dX9_ends_2 rfl (lv_at hl 2 rfl) ?_
  refine lv_iload_n hx hb dX9_ends_3 rfl (lv_at hl 3 rfl) ?_
  have hPc := hP.sub (ws' := [(mo, .inr (8, ms)), (kn, .inl (cK, 2, .inl kf))]) [0, 1] rfl
  have hDc := hD.sub (ws' := [(mo, .inr (8, ms)), (kn, .inl (cK, 2, .inl kf))]) [0, 1] (by decide) rfl
  have hKc := hK.sub (tys' := [(cK, .int)]) [0] rfl
  have hFc := va_free (wc := [(mo, .inr (8, ms)), (kn, .inl (cK, 2, .inl kf))]) hD hS hA [0, 1] rfl
  refine va_calli (va_runV (As := [.int a1, .int a2, .int a3]) (rest := []) ⟨hx, hb, hml, hown, hts⟩ (c_isAll l dC dI s.heap.size mo ms kn cK kf a1 a2 a3 f_ms_11 f_ms_43 h_kf_0) (cwV 3 hts (p1_gV m_0 m_1 m_2 m_3 g_c_isAll gz_c_isAll) rfl rfl rfl (by decide +kernel) ⟨by decide, by decide⟩) ⟨fun a U g mk q => by obtain ⟨q0, q1, qP, qK, qD⟩ := q; exact ⟨q0, q1, qP, va_K.moved (u := U) (U := U.calling g mk a) (Vm.Alike.refl U.vm) qK, qD⟩, va_recv hKc hPc (ci := 8) (q0 := 0) rfl rfl, fun U hU hW => ⟨rfl, by rw [hU], by rw [hU]; exact hPc, va_K.moved hW.alike hKc, hDc.weaken (fun _ _ _ _ => trivial)⟩⟩ rfl rfl hl.1 rfl (lv_room (Nat.le_of_ble_eq_true rfl)) dX9_ends_4 ⟨by decide, by decide⟩) hS (fun q _ h => hFc q h) hFc (fun r_1 u t H1 locs ht hvm hw hB hz1 hk1 hS => ?_)
  obtain ⟨hP1, hK1, hD1⟩ := hB
  rw [ht] at hP1
  obtain ⟨hP, hD⟩ := va_join (wr := []) (w1 := [(mo, .inr (8, ms)), (kn, .inl (cK, 2, .inl kf))]) hP hD [0, 1] [] rfl rfl (by decide) (by decide) hk1 hFc hP1 hD1
  generalize H1 = H at hP hS ⊢
  have hP : va_P (dC, dI) vwCl [(mo, .inr (8, ms)), (kn, .inl (cK, 2, .inl kf))] H := hP
  have hD : va_D A [(mo, .inr (8, ms)), (kn, .inl (cK, 2, .inl kf))] := hD
  try dsimp only at hw
  obtain rfl : r_1 = 0 := hw
  refine lv_if_eq (tgt := 22) hx hb dX9_ends_7 (by decide) (fun _ => ?_) (fun c9 => absurd c9 (by decide))
  refine lv_iconst (v := (-1)) hx hb dX9_ends_22 (by decide) ?_
  have hP9 := hP.sub (ws' := []) [] rfl
  have hD9 := hD.sub (ws' := []) [] (by decide) rfl
  have hK9 := hK.sub (tys' := []) [] rfl
  exact W.iret (v := (-1)) hx hb hr (fun t ht hW => ⟨⟨(-1), (), rfl, rfl, by rw [ht]; exact hP9, va_K.moved hW.alike hK9, hD9⟩, hS.F ht⟩) hS.2.2 dX9_ends_23
def zo_m_change : List Cond := [.code yX9_change cX9_change 8 (some .int), .methodLink RX9 485 yX9_isAll, .instanceMethod yX9_isAll, .selects RX9 yX9_isAll yX9_isAll, .initialized RX9]
def zw_m_change : List Cond := zo_m_change ++ (zw_c_isAll ++ [])
theorem gz_m_change : zw_m_change.all goodWord = true := p1_ga (by decide +kernel) (p1_ga gz_c_isAll p1_g0)
theorem iz_m_change : ∀ w ∈ zw_m_change, w ∈ lw_tbl := p1_ia (p1_all [1631, 1518, 1520, 84, 116] (by decide +kernel)) (p1_ia iz_c_isAll p1_i0)
set_option maxHeartbeats 4000000 in
set_option maxRecDepth 100000 in
theorem m_change (l : Launch) (dC : Nat → ClassId) (dI : Nat → Nat → Nat) (sz : Nat) (mo : Nat) (ms : List Value) (kn : Nat) (cK : ClassId) (kf : Nat → Int32) (a1 : Int32) (a2 : Int32) (a3 : Int32) (a4 : Int32) (a5 : Int32) (f_ms_11 : ms[11]? = some (.ref kn)) (f_ms_43 : ms[43]? = some (.int 0)) (h_kf_0 : kf 0 = 0) : Met l yX9_change zw_m_change ({ frames := 3, cells := 0, slots := 0, locals := 66 }) (va_Pc [.ref mo, .int a1, .int a2, .int a3, .int a4, .int a5] (fun U => U.heap.size = sz ∧ va_P (dC, dI) vwCl [(mo, .inr (8, ms)), (kn, .inl (cK, 2, .inl kf))] U.heap ∧ va_K (dC, dI) vwCl [(cK, .int)] U ∧ va_D (fun _ => True) [(mo, .inr (8, ms)), (kn, .inl (cK, 2, .inl kf))])) (va_Qi (fun (r : Int32) (_ : Unit) => r = (-1)) (fun _ t => va_P (dC, dI) vwCl [] t.heap ∧ va_K (dC, dI) vwCl [] t ∧ va_D (va_A [(mo, .inr (8, ms)), (kn, .inl (cK, 2, .inl kf))] sz) []) (va_A [(mo, .inr (8, ms)), (kn, .inl (cK, 2, .inl kf))] sz)) 0 0 (va_A [(mo, .inr (8, ms)), (kn, .inl (cK, 2, .inl kf))] sz) := by
  refine Met.ofW (cc := cX9_change) (maxL := 8) (ret := (some .int)) (by decide) rfl ?_
  intro p e s m args below meth c s₁ B hml hv
  obtain ⟨rfl, hsz, hP, hK, hD0⟩ := hv
  have hx := B.exec
  have hb := B.bytes
  have hr := B.returns
  have hts := atoms_spec (ws := zw_m_change) B.pre
  have hown : s.vm.findClass RX9 = some m.cls := findClass_of_methodNamed B.named
  have hlocks := B.notSynchronized
  subst hsz
  have hD := hD0.self (sz := s.heap.size)
  generalize hAe : va_A [(mo, .inr (8, ms)), (kn, .inl (cK, 2, .inl kf))] s.heap.size = A at hD ⊢
  have hA : ∀ q : Nat, s.heap.size ≤ q → A q := fun q h => by rw [← hAe]; exact Or.inr h
  have hS : va_S A s.heap s.heap [] := va_S.rf
  have hP : va_P (dC, dI) vwCl [(mo, .inr (8, ms)), (kn, .inl (cK, 2, .inl kf))] s.heap := hP
  have m_0 : (.methodLink RX9 485 yX9_isAll : Cond) ∈ zw_m_change := List.mem_append_left _ (List.mem_of_getElem? (i := 1) rfl)
  have k_0 := hts _ m_0
  have m_1 : (.instanceMethod yX9_isAll : Cond) ∈ zw_m_change := List.mem_append_left _ (List.mem_of_getElem? (i := 2) rfl)
  have k_1 := hts _ m_1
  have m_2 : (.selects RX9 yX9_isAll yX9_isAll : Cond) ∈ zw_m_change := List.mem_append_left _ (List.mem_of_getElem? (i := 3) rfl)
  have k_2 := hts _ m_2
  have m_3 : (.initialized RX9 : Cond) ∈ zw_m_change := List.mem_append_left _ (List.mem_of_getElem? (i := 4) rfl)
  have k_3 := hts _ m_3
  have g_c_isAll : ∀ w ∈ zw_c_isAll, w ∈ zw_m_change := fun w h => List.mem_append_right _ (List.mem_append_left _ h)
  have hl := lv_entry ([.ref mo, .int a1, .int a2, .int a3, .int a4, .int a5]) (n := 8) (Nat.le_of_ble_eq_true rfl)
  rw [lg_entry_eq]
  generalize (lg_sl ([.ref mo, .int a1, .int a2, .int a3, .int a4, .int a5]) ++ List.replicate (8 - (lg_sl ([.ref mo, .int a1, .int a2, .int a3, .int a4, .int a5])).length) Slot.unset).toArray = ls at hl ⊢
  have hl : lv_has ls 8 [(0, .ref mo), (1, .int a1), (2, .int a2), (3, .int a3), (4, .int a4), (5, .int a5)] := hl
  refine lv_aload_n hx hb dX9_change_0 rfl (lv_at hl 0 rfl) ?_
  refine lv_iload_n hx hb dX9_change_1 rfl (lv_at hl 1 rfl) ?_
  refine lv_iload_n hx hb dX9_change_2 rfl (lv_at hl 2 rfl) ?_
  refine lv_iload_n hx hb dX9_change_3 rfl (lv_at hl 3 rfl) ?_
  have hPc := hP.sub (ws' := [(mo, .inr (8, ms)), (kn, .inl (cK, 2, .inl kf))]) [0, 1] rfl
  have hDc := hD.sub (ws' := [(mo, .inr (8, ms)), (kn, .inl (cK, 2, .inl kf))]) [0, 1] (by decide) rfl
  have hKc := hK.sub (tys' := [(cK, .int)]) [0] rfl
  have hFc := va_free (wc := [(mo, .inr (8, ms)), (kn, .inl (cK, 2, .inl kf))]) hD hS hA [0, 1] rfl
  refine va_calli (va_runV (As := [.int a1, .int a2, .int a3]) (rest := []) ⟨hx, hb, hml, hown, hts⟩ (c_isAll l dC dI s.heap.size mo ms kn cK kf a1 a2 a3 f_ms_11 f_ms_43 h_kf_0) (cwV 3 hts (p1_gV m_0 m_1 m_2 m_3 g_c_isAll gz_c_isAll) rfl rfl rfl (by decide +kernel) ⟨by decide, by decide⟩) ⟨fun a U g mk q => by obtain ⟨q0, q1, qP, qK, qD⟩ := q; exact ⟨q0, q1, qP, va_K.moved (u := U) (U := U.calling g mk a) (Vm.Alike.refl U.vm) qK, qD⟩, va_recv hKc hPc (ci := 8) (q0 := 0) rfl rfl, fun U hU hW => ⟨rfl, by rw [hU], by rw [hU]; exact hPc, va_K.moved hW.alike hKc, hDc.weaken (fun _ _ _ _ => trivial)⟩⟩ rfl rfl hl.1 rfl (lv_room (Nat.le_of_ble_eq_true rfl)) dX9_change_4 ⟨by decide, by decide⟩) hS (fun q _ h => hFc q h) hFc (fun r_1 u t H1 locs ht hvm hw hB hz1 hk1 hS => ?_)
  obtain ⟨hP1, hK1, hD1⟩ := hB
  rw [ht] at hP1
  obtain ⟨hP, hD⟩ := va_join (wr := []) (w1 := [(mo, .inr (8, ms)), (kn, .inl (cK, 2, .inl kf))]) hP hD [0, 1] [] rfl rfl (by decide) (by decide) hk1 hFc hP1 hD1
  generalize H1 = H at hP hS ⊢
  have hP : va_P (dC, dI) vwCl [(mo, .inr (8, ms)), (kn, .inl (cK, 2, .inl kf))] H := hP
  have hD : va_D A [(mo, .inr (8, ms)), (kn, .inl (cK, 2, .inl kf))] := hD
  try dsimp only at hw
  obtain rfl : r_1 = 0 := hw
  refine lv_if_eq (tgt := 32) hx hb dX9_change_7 (by decide) (fun _ => ?_) (fun c9 => absurd c9 (by decide))
  refine lv_iconst (v := (-1)) hx hb dX9_change_32 (by decide) ?_
  have hP9 := hP.sub (ws' := []) [] rfl
  have hD9 := hD.sub (ws' := []) [] (by decide) rfl
  have hK9 := hK.sub (tys' := []) [] rfl
  exact W.iret (v := (-1)) hx hb hr (fun t ht hW => ⟨⟨(-1), (), rfl, rfl, by rw [ht]; exact hP9, va_K.moved hW.alike hK9, hD9⟩, hS.F ht⟩) hS.2.2 dX9_change_33
def zo_m_film : List Cond := [.code yX9_film cX9_film 6 (some .int), .methodLink RX9 431 yX9_isKnot, .instanceMethod yX9_isKnot, .selects RX9 yX9_isKnot yX9_isKnot, .initialized RX9]
def zw_m_film : List Cond := zo_m_film ++ (zw_c_isKnot ++ [])
theorem gz_m_film : zw_m_film.all goodWord = true := p1_ga (by decide +kernel) (p1_ga gz_c_isKnot p1_g0)
theorem iz_m_film : ∀ w ∈ zw_m_film, w ∈ lw_tbl := p1_ia (p1_all [1635, 1435, 1437, 71, 116] (by decide +kernel)) (p1_ia iz_c_isKnot p1_i0)
set_option maxHeartbeats 4000000 in
set_option maxRecDepth 100000 in
theorem m_film (l : Launch) (dC : Nat → ClassId) (dI : Nat → Nat → Nat) (sz : Nat) (mo : Nat) (ms : List Value) (kn : Nat) (cK : ClassId) (kf : Nat → Int32) (a1 : Int32) (a2 : Int32) (a3 : Int32) (a4 : Int32) (a5 : Int32) (f_ms_11 : ms[11]? = some (.ref kn)) (f_ms_43 : ms[43]? = some (.int 0)) (h_kf_0 : kf 0 = 0) : Met l yX9_film zw_m_film ({ frames := 2, cells := 0, slots := 0, locals := 43 }) (va_Pc [.ref mo, .int a1, .int a2, .int a3, .int a4, .int a5] (fun U => U.heap.size = sz ∧ va_P (dC, dI) vwCl [(mo, .inr (8, ms)), (kn, .inl (cK, 2, .inl kf))] U.heap ∧ va_K (dC, dI) vwCl [(cK, .int)] U ∧ va_D (fun _ => True) [(mo, .inr (8, ms)), (kn, .inl (cK, 2, .inl kf))])) (va_Qi (fun (r : Int32) (_ : Unit) => r = (-1)) (fun _ t => va_P (dC, dI) vwCl [] t.heap ∧ va_K (dC, dI) vwCl [] t ∧ va_D (va_A [(mo, .inr (8, ms)), (kn, .inl (cK, 2, .inl kf))] sz) []) (va_A [(mo, .inr (8, ms)), (kn, .inl (cK, 2, .inl kf))] sz)) 0 0 (va_A [(mo, .inr (8, ms)), (kn, .inl (cK, 2, .inl kf))] sz) := by
  refine Met.ofW (cc := cX9_film) (maxL := 6) (ret := (some .int)) (by decide) rfl ?_
  intro p e s m args below meth c s₁ B hml hv
  obtain ⟨rfl, hsz, hP, hK, hD0⟩ := hv
  have hx := B.exec
  have hb := B.bytes
  have hr := B.returns
  have hts := atoms_spec (ws := zw_m_film) B.pre
  have hown : s.vm.findClass RX9 = some m.cls := findClass_of_methodNamed B.named
  have hlocks := B.notSynchronized
  subst hsz
  have hD := hD0.self (sz := s.heap.size)
  generalize hAe : va_A [(mo, .inr (8, ms)), (kn, .inl (cK, 2, .inl kf))] s.heap.size = A at hD ⊢
  have hA : ∀ q : Nat, s.heap.size ≤ q → A q := fun q h => by rw [← hAe]; exact Or.inr h
  have hS : va_S A s.heap s.heap [] := va_S.rf
  have hP : va_P (dC, dI) vwCl [(mo, .inr (8, ms)), (kn, .inl (cK, 2, .inl kf))] s.heap := hP
  have m_0 : (.methodLink RX9 431 yX9_isKnot : Cond) ∈ zw_m_film := List.mem_append_left _ (List.mem_of_getElem? (i := 1) rfl)
  have k_0 := hts _ m_0
  have m_1 : (.instanceMethod yX9_isKnot : Cond) ∈ zw_m_film := List.mem_append_left _ (List.mem_of_getElem? (i := 2) rfl)
  have k_1 := hts _ m_1
  have m_2 : (.selects RX9 yX9_isKnot yX9_isKnot : Cond) ∈ zw_m_film := List.mem_append_left _ (List.mem_of_getElem? (i := 3) rfl)
  have k_2 := hts _ m_2
  have m_3 : (.initialized RX9 : Cond) ∈ zw_m_film := List.mem_append_left _ (List.mem_of_getElem? (i := 4) rfl)
  have k_3 := hts _ m_3
  have g_c_isKnot : ∀ w ∈ zw_c_isKnot, w ∈ zw_m_film := fun w h => List.mem_append_right _ (List.mem_append_left _ h)
  have hl := lv_entry ([.ref mo, .int a1, .int a2, .int a3, .int a4, .int a5]) (n := 6) (Nat.le_of_ble_eq_true rfl)
  rw [lg_entry_eq]
  generalize (lg_sl ([.ref mo, .int a1, .int a2, .int a3, .int a4, .int a5]) ++ List.replicate (6 - (lg_sl ([.ref mo, .int a1, .int a2, .int a3, .int a4, .int a5])).length) Slot.unset).toArray = ls at hl ⊢
  have hl : lv_has ls 6 [(0, .ref mo), (1, .int a1), (2, .int a2), (3, .int a3), (4, .int a4), (5, .int a5)] := hl
  refine lv_aload_n hx hb dX9_film_0 rfl (lv_at hl 0 rfl) ?_
  refine lv_iload_n hx hb dX9_film_1 rfl (lv_at hl 1 rfl) ?_
  have hPc := hP.sub (ws' := [(mo, .inr (8, ms)), (kn, .inl (cK, 2, .inl kf))]) [0, 1] rfl
  have hDc := hD.sub (ws' := [(mo, .inr (8, ms)), (kn, .inl (cK, 2, .inl kf))]) [0, 1] (by decide) rfl
  have hKc := hK.sub (tys' := [(cK, .int)]) [0] rfl
  have hFc := va_free (wc := [(mo, .inr (8, ms)), (kn, .inl (cK, 2, .inl kf))]) hD hS hA [0, 1] rfl
  refine va_calli (va_runV (As := [.int a1]) (rest := []) ⟨hx, hb, hml, hown, hts⟩ (c_isKnot l dC dI s.heap.size mo ms kn cK kf a1 f_ms_11 f_ms_43 h_kf_0) (cwV 1 hts (p1_gV m_0 m_1 m_2 m_3 g_c_isKnot gz_c_isKnot) rfl rfl rfl (by decide +kernel) ⟨by decide, by decide⟩) ⟨fun a U g mk q => by obtain ⟨q0, q1, qP, qK, qD⟩ := q; exact ⟨q0, q1, qP, va_K.moved (u := U) (U := U.calling g mk a) (Vm.Alike.refl U.vm) qK, qD⟩, va_recv hKc hPc (ci := 8) (q0 := 0) rfl rfl, fun U hU hW => ⟨rfl, by rw [hU], by rw [hU]; exact hPc, va_K.moved hW.alike hKc, hDc.weaken (fun _ _ _ _ => trivial)⟩⟩ rfl rfl hl.1 rfl (lv_room (Nat.le_of_ble_eq_true rfl)) dX9_film_2 ⟨by decide, by decide⟩) hS (fun q _ h => hFc q h) hFc (fun r_1 u t H1 locs ht hvm hw hB hz1 hk1 hS => ?_)
  obtain ⟨hP1, hK1, hD1⟩ := hB
  rw [ht] at hP1
  obtain ⟨hP, hD⟩ := va_join (wr := []) (w1 := [(mo, .inr (8, ms)), (kn, .inl (cK, 2, .inl kf))]) hP hD [0, 1] [] rfl rfl (by decide) (by decide) hk1 hFc hP1 hD1
  generalize H1 = H at hP hS ⊢
  have hP : va_P (dC, dI) vwCl [(mo, .inr (8, ms)), (kn, .inl (cK, 2, .inl kf))] H := hP
  have hD : va_D A [(mo, .inr (8, ms)), (kn, .inl (cK, 2, .inl kf))] := hD
  try dsimp only at hw
  obtain rfl : r_1 = 0 := hw
  refine lv_if_eq (tgt := 60) hx hb dX9_film_5 (by decide) (fun _ => ?_) (fun c9 => absurd c9 (by decide))
  refine lv_iconst (v := (-1)) hx hb dX9_film_60 (by decide) ?_
  have hP9 := hP.sub (ws' := []) [] rfl
  have hD9 := hD.sub (ws' := []) [] (by decide) rfl
  have hK9 := hK.sub (tys' := []) [] rfl
  exact W.iret (v := (-1)) hx hb hr (fun t ht hW => ⟨⟨(-1), (), rfl, rfl, by rw [ht]; exact hP9, va_K.moved hW.alike hK9, hD9⟩, hS.F ht⟩) hS.2.2 dX9_film_61
def zo_m_untell : List Cond := [.code yX9_untell cX9_untell 2 (some .boolean), .fieldLink RX9 301 "BowWalkModel" "films" "I", .methodLink RX9 389 yX9_isIn, .static yX9_isIn, .initialized RX9]
def zw_m_untell : List Cond := zo_m_untell ++ (zw_c_isInNeg ++ (wsX90 ++ []))
theorem gz_m_untell : zw_m_untell.all goodWord = true := p1_ga (by decide +kernel) (p1_ga gz_c_isInNeg (p1_ga gk_X9 p1_g0))
theorem iz_m_untell : ∀ w ∈ zw_m_untell, w ∈ lw_tbl := p1_ia (p1_all [1639, 1112, 1439, 1440, 116] (by decide +kernel)) (p1_ia iz_c_isInNeg (p1_ia ik_X9 p1_i0))
set_option maxHeartbeats 4000000 in
set_option maxRecDepth 100000 in
theorem m_untell (l : Launch) (dC : Nat → ClassId) (dI : Nat → Nat → Nat) (sz : Nat) (mo : Nat) (ms : List Value) (a1 : Int32) (f_ms_75 : ms[75]? = some (.int 0)) : Met l yX9_untell zw_m_untell ({ frames := 1, cells := 0, slots := 0, locals := 22 }) (va_Pc [.ref mo, .int a1] (fun U => U.heap.size = sz ∧ va_P (dC, dI) vwCl [(mo, .inr (8, ms))] U.heap ∧ va_K (dC, dI) vwCl [] U ∧ va_D (fun _ => True) [(mo, .inr (8, ms))])) (va_Qi (fun (r : Int32) (_ : Unit) => r = 0) (fun _ t => va_P (dC, dI) vwCl [] t.heap ∧ va_K (dC, dI) vwCl [] t ∧ va_D (va_A [(mo, .inr (8, ms))] sz) []) (va_A [(mo, .inr (8, ms))] sz)) 0 0 (va_A [(mo, .inr (8, ms))] sz) := by
  refine Met.ofW (cc := cX9_untell) (maxL := 2) (ret := (some .boolean)) (by decide) rfl ?_
  intro p e s m args below meth c s₁ B hml hv
  obtain ⟨rfl, hsz, hP, hK, hD0⟩ := hv
  have hx := B.exec
  have hb := B.bytes
  have hr := B.returns
  have hts := atoms_spec (ws := zw_m_untell) B.pre
  have hown : s.vm.findClass RX9 = some m.cls := findClass_of_methodNamed B.named
  have hlocks := B.notSynchronized
  subst hsz
  have hD := hD0.self (sz := s.heap.size)
  generalize hAe : va_A [(mo, .inr (8, ms))] s.heap.size = A at hD ⊢
  have hA : ∀ q : Nat, s.heap.size ≤ q → A q := fun q h => by rw [← hAe]; exact Or.inr h
  have hS : va_S A s.heap s.heap [] := va_S.rf
  have hP : va_P (dC, dI) vwCl [(mo, .inr (8, ms))] s.heap := hP
  have m_0 : (.fieldLink RX9 301 "BowWalkModel" "films" "I" : Cond) ∈ zw_m_untell := List.mem_append_left _ (List.mem_of_getElem? (i := 1) rfl)
  have k_0 := hts _ m_0
  have m_1 : (.methodLink RX9 389 yX9_isIn : Cond) ∈ zw_m_untell := List.mem_append_left _ (List.mem_of_getElem? (i := 2) rfl)
  have k_1 := hts _ m_1
  have m_2 : (.static yX9_isIn : Cond) ∈ zw_m_untell := List.mem_append_left _ (List.mem_of_getElem? (i := 3) rfl)
  have k_2 := hts _ m_2
  have m_3 : (.initialized RX9 : Cond) ∈ zw_m_untell := List.mem_append_left _ (List.mem_of_getElem? (i := 4) rfl)
  have k_3 := hts _ m_3
  have g_c_isInNeg : ∀ w ∈ zw_c_isInNeg, w ∈ zw_m_untell := fun w h => List.mem_append_right _ (List.mem_append_left _ h)
  have i_X9 : ∀ w ∈ u_ws RX9 TX9 81, w ∈ zw_m_untell := fun w h => List.mem_append_right _ (List.mem_append_right _ (List.mem_append_left _ h))
  have hl := lv_entry ([.ref mo, .int a1]) (n := 2) (Nat.le_of_ble_eq_true rfl)
  rw [lg_entry_eq]
  generalize (lg_sl ([.ref mo, .int a1]) ++ List.replicate (2 - (lg_sl ([.ref mo, .int a1])).length) Slot.unset).toArray = ls at hl ⊢
  have hl : lv_has ls 2 [(0, .ref mo), (1, .int a1)] := hl
  refine lv_iload_n hx hb dX9_untell_0 rfl (lv_at hl 1 rfl) ?_
  refine lv_iconst (v := 0) hx hb dX9_untell_1 (by decide) ?_
  refine lv_aload_n hx hb dX9_untell_2 rfl (lv_at hl 0 rfl) ?_
  refine va_get (D := (dC, dI)) (ci := 8) (v := .int 0) (C := RX9) (T := TX9) (N := 81) hx hb hts i_X9 hown hK hP 0 rfl rfl 75 (by decide) k_0 (fun _ h9 => h9) f_ms_75 dX9_untell_3 ?_
  refine lv_iconst (v := 1) hx hb dX9_untell_6 (by decide) ?_
  refine lv_isub hx hb dX9_untell_7 ?_
  refine lv_topi (fun v_1 ev_1 => ?_)
  obtain rfl : v_1 = (-1) := ev_1.trans (by decide)
  have hPc := hP.sub (ws' := []) [] rfl
  have hDc := hD.sub (ws' := []) [] (by decide) rfl
  have hKc := hK.sub (tys' := []) [] rfl
  have hFc := va_free (wc := []) hD hS hA [] rfl
  refine va_calli (va_runS (As := [.int a1, .int 0, .int (-1)]) (rest := []) ⟨hx, hb, hml, hown, hts⟩ (c_isInNeg l dC dI s.heap.size a1) (va_cwS 3 hts (p1_gS m_1 m_2 m_3 g_c_isInNeg gz_c_isInNeg) rfl rfl rfl (by decide +kernel) ⟨by decide, by decide⟩) ⟨fun a U g mk q => by obtain ⟨q0, q1, qP, qK, qD⟩ := q; exact ⟨q0, q1, qP, va_K.moved (u := U) (U := U.calling g mk a) (Vm.Alike.refl U.vm) qK, qD⟩, fun U hU hW => ⟨rfl, by rw [hU], by rw [hU]; exact hPc, va_K.moved hW.alike hKc, hDc.weaken (fun _ _ _ _ => trivial)⟩⟩ rfl rfl hl.1 rfl (lv_room (Nat.le_of_ble_eq_true rfl)) dX9_untell_8 ⟨by decide, by decide⟩) hS (fun q _ h => hFc q h) hFc (fun r_2 u t H1 locs ht hvm hw hB hz1 hk1 hS => ?_)
  obtain ⟨hP1, hK1, hD1⟩ := hB
  rw [ht] at hP1
  obtain ⟨hP, hD⟩ := va_join (wr := [(mo, .inr (8, ms))]) (w1 := []) hP hD [] [0] rfl rfl (by decide) (by decide) hk1 hFc hP1 hD1
  generalize H1 = H at hP hS ⊢
  have hP : va_P (dC, dI) vwCl [(mo, .inr (8, ms))] H := hP
  have hD : va_D A [(mo, .inr (8, ms))] := hD
  try dsimp only at hw
  obtain rfl : r_2 = 0 := hw
  refine lv_if_eq (tgt := 23) hx hb dX9_untell_11 (by decide) (fun _ => ?_) (fun c9 => absurd c9 (by decide))
  refine lv_iconst (v := 0) hx hb dX9_untell_23 (by decide) ?_
  have hP9 := hP.sub (ws' := []) [] rfl
  have hD9 := hD.sub (ws' := []) [] (by decide) rfl
  have hK9 := hK.sub (tys' := []) [] rfl
  exact W.zret (v := 0) hx hb hr (by decide) (fun t ht hW => ⟨⟨0, (), rfl, rfl, by rw [ht]; exact hP9, va_K.moved hW.alike hK9, hD9⟩, hS.F ht⟩) hS.2.2 dX9_untell_24
def zo_m_began : List Cond := [.code yX9_began cX9_began 5 (some .int), .fieldLink RX9 301 "BowWalkModel" "films" "I", .methodLink RX9 389 yX9_isIn, .static yX9_isIn, .initialized RX9]
def zw_m_began : List Cond := zo_m_began ++ (zw_c_isInNeg ++ (wsX90 ++ []))
theorem gz_m_began : zw_m_began.all goodWord = true := p1_ga (by decide +kernel) (p1_ga gz_c_isInNeg (p1_ga gk_X9 p1_g0))
theorem iz_m_began : ∀ w ∈ zw_m_began, w ∈ lw_tbl := p1_ia (p1_all [1672, 1112, 1439, 1440, 116] (by decide +kernel)) (p1_ia iz_c_isInNeg (p1_ia ik_X9 p1_i0))
set_option maxHeartbeats 4000000 in
set_option maxRecDepth 100000 in
theorem m_began (l : Launch) (dC : Nat → ClassId) (dI : Nat → Nat → Nat) (sz : Nat) (mo : Nat) (ms : List Value) (a1 : Int32) (a2 : Int32) (f_ms_75 : ms[75]? = some (.int 0)) : Met l yX9_began zw_m_began ({ frames := 1, cells := 0, slots := 0, locals := 22 }) (va_Pc [.ref mo, .int a1, .int a2] (fun U => U.heap.size = sz ∧ va_P (dC, dI) vwCl [(mo, .inr (8, ms))] U.heap ∧ va_K (dC, dI) vwCl [] U ∧ va_D (fun _ => True) [(mo, .inr (8, ms))])) (va_Qi (fun (r : Int32) (_ : Unit) => r = (-1)) (fun _ t => va_P (dC, dI) vwCl [] t.heap ∧ va_K (dC, dI) vwCl [] t ∧ va_D (va_A [(mo, .inr (8, ms))] sz) []) (va_A [(mo, .inr (8, ms))] sz)) 0 0 (va_A [(mo, .inr (8, ms))] sz) := by
  refine Met.ofW (cc := cX9_began) (maxL := 5) (ret := (some .int)) (by decide) rfl ?_
  intro p e s m args below meth c s₁ B hml hv
  obtain ⟨rfl, hsz, hP, hK, hD0⟩ := hv
  have hx := B.exec
  have hb := B.bytes
  have hr := B.returns
  have hts := atoms_spec (ws := zw_m_began) B.pre
  have hown : s.vm.findClass RX9 = some m.cls := findClass_of_methodNamed B.named
  have hlocks := B.notSynchronized
  subst hsz
  have hD := hD0.self (sz := s.heap.size)
  generalize hAe : va_A [(mo, .inr (8, ms))] s.heap.size = A at hD ⊢
  have hA : ∀ q : Nat, s.heap.size ≤ q → A q := fun q h => by rw [← hAe]; exact Or.inr h
  have hS : va_S A s.heap s.heap [] := va_S.rf
  have hP : va_P (dC, dI) vwCl [(mo, .inr (8, ms))] s.heap := hP
  have m_0 : (.fieldLink RX9 301 "BowWalkModel" "films" "I" : Cond) ∈ zw_m_began := List.mem_append_left _ (List.mem_of_getElem? (i := 1) rfl)
  have k_0 := hts _ m_0
  have m_1 : (.methodLink RX9 389 yX9_isIn : Cond) ∈ zw_m_began := List.mem_append_left _ (List.mem_of_getElem? (i := 2) rfl)
  have k_1 := hts _ m_1
  have m_2 : (.static yX9_isIn : Cond) ∈ zw_m_began := List.mem_append_left _ (List.mem_of_getElem? (i := 3) rfl)
  have k_2 := hts _ m_2
  have m_3 : (.initialized RX9 : Cond) ∈ zw_m_began := List.mem_append_left _ (List.mem_of_getElem? (i := 4) rfl)
  have k_3 := hts _ m_3
  have g_c_isInNeg : ∀ w ∈ zw_c_isInNeg, w ∈ zw_m_began := fun w h => List.mem_append_right _ (List.mem_append_left _ h)
  have i_X9 : ∀ w ∈ u_ws RX9 TX9 81, w ∈ zw_m_began := fun w h => List.mem_append_right _ (List.mem_append_right _ (List.mem_append_left _ h))
  have hl := lv_entry ([.ref mo, .int a1, .int a2]) (n := 5) (Nat.le_of_ble_eq_true rfl)
  rw [lg_entry_eq]
  generalize (lg_sl ([.ref mo, .int a1, .int a2]) ++ List.replicate (5 - (lg_sl ([.ref mo, .int a1, .int a2])).length) Slot.unset).toArray = ls at hl ⊢
  have hl : lv_has ls 5 [(0, .ref mo), (1, .int a1), (2, .int a2)] := hl
  refine lv_iload_n hx hb dX9_began_0 rfl (lv_at hl 1 rfl) ?_
  refine lv_iconst (v := 0) hx hb dX9_began_1 (by decide) ?_
  refine lv_aload_n hx hb dX9_began_2 rfl (lv_at hl 0 rfl) ?_
  refine va_get (D := (dC, dI)) (ci := 8) (v := .int 0) (C := RX9) (T := TX9) (N := 81) hx hb hts i_X9 hown hK hP 0 rfl rfl 75 (by decide) k_0 (fun _ h9 => h9) f_ms_75 dX9_began_3 ?_
  refine lv_iconst (v := 1) hx hb dX9_began_6 (by decide) ?_
  refine lv_isub hx hb dX9_began_7 ?_
  refine lv_topi (fun v_1 ev_1 => ?_)
  obtain rfl : v_1 = (-1) := ev_1.trans (by decide)
  have hPc := hP.sub (ws' := []) [] rfl
  have hDc := hD.sub (ws' := []) [] (by decide) rfl
  have hKc := hK.sub (tys' := []) [] rfl
  have hFc := va_free (wc := []) hD hS hA [] rfl
  refine va_calli (va_runS (As := [.int a1, .int 0, .int (-1)]) (rest := []) ⟨hx, hb, hml, hown, hts⟩ (c_isInNeg l dC dI s.heap.size a1) (va_cwS 3 hts (p1_gS m_1 m_2 m_3 g_c_isInNeg gz_c_isInNeg) rfl rfl rfl (by decide +kernel) ⟨by decide, by decide⟩) ⟨fun a U g mk q => by obtain ⟨q0, q1, qP, qK, qD⟩ := q; exact ⟨q0, q1, qP, va_K.moved (u := U) (U := U.calling g mk a) (Vm.Alike.refl U.vm) qK, qD⟩, fun U hU hW => ⟨rfl, by rw [hU], by rw [hU]; exact hPc, va_K.moved hW.alike hKc, hDc.weaken (fun _ _ _ _ => trivial)⟩⟩ rfl rfl hl.1 rfl (lv_room (Nat.le_of_ble_eq_true rfl)) dX9_began_8 ⟨by decide, by decide⟩) hS (fun q _ h => hFc q h) hFc (fun r_2 u t H1 locs ht hvm hw hB hz1 hk1 hS => ?_)
  obtain ⟨hP1, hK1, hD1⟩ := hB
  rw [ht] at hP1
  obtain ⟨hP, hD⟩ := va_join (wr := [(mo, .inr (8, ms))]) (w1 := []) hP hD [] [0] rfl rfl (by decide) (by decide) hk1 hFc hP1 hD1
  generalize H1 = H at hP hS ⊢
  have hP : va_P (dC, dI) vwCl [(mo, .inr (8, ms))] H := hP
  have hD : va_D A [(mo, .inr (8, ms))] := hD
  try dsimp only at hw
  obtain rfl : r_2 = 0 := hw
  refine lv_if_eq (tgt := 40) hx hb dX9_began_11 (by decide) (fun _ => ?_) (fun c9 => absurd c9 (by decide))
  refine lv_iconst (v := (-1)) hx hb dX9_began_40 (by decide) ?_
  have hP9 := hP.sub (ws' := []) [] rfl
  have hD9 := hD.sub (ws' := []) [] (by decide) rfl
  have hK9 := hK.sub (tys' := []) [] rfl
  exact W.iret (v := (-1)) hx hb hr (fun t ht hW => ⟨⟨(-1), (), rfl, rfl, by rw [ht]; exact hP9, va_K.moved hW.alike hK9, hD9⟩, hS.F ht⟩) hS.2.2 dX9_began_41
def zo_m_parts : List Cond := [.code yX9_parts cX9_parts 10 (some .int), .methodLink RX9 431 yX9_isKnot, .instanceMethod yX9_isKnot, .selects RX9 yX9_isKnot yX9_isKnot, .initialized RX9]
def zw_m_parts : List Cond := zo_m_parts ++ (zw_c_isKnot ++ [])
theorem gz_m_parts : zw_m_parts.all goodWord = true := p1_ga (by decide +kernel) (p1_ga gz_c_isKnot p1_g0)
theorem iz_m_parts : ∀ w ∈ zw_m_parts, w ∈ lw_tbl := p1_ia (p1_all [1663, 1435, 1437, 71, 116] (by decide +kernel)) (p1_ia iz_c_isKnot p1_i0)
set_option maxHeartbeats 4000000 in
set_option maxRecDepth 100000 in
theorem m_parts (l : Launch) (dC : Nat → ClassId) (dI : Nat → Nat → Nat) (sz : Nat) (mo : Nat) (ms : List Value) (kn : Nat) (cK : ClassId) (kf : Nat → Int32) (a1 : Int32) (a2 : Int32) (a3 : Int32) (a4 : Int32) (f_ms_11 : ms[11]? = some (.ref kn)) (f_ms_43 : ms[43]? = some (.int 0)) (h_kf_0 : kf 0 = 0) : Met l yX9_parts zw_m_parts ({ frames := 2, cells := 0, slots := 0, locals := 43 }) (va_Pc [.ref mo, .int a1, .int a2, .int a3, .int a4] (fun U => U.heap.size = sz ∧ va_P (dC, dI) vwCl [(mo, .inr (8, ms)), (kn, .inl (cK, 2, .inl kf))] U.heap ∧ va_K (dC, dI) vwCl [(cK, .int)] U ∧ va_D (fun _ => True) [(mo, .inr (8, ms)), (kn, .inl (cK, 2, .inl kf))])) (va_Qi (fun (r : Int32) (_ : Unit) => r = (-1)) (fun _ t => va_P (dC, dI) vwCl [] t.heap ∧ va_K (dC, dI) vwCl [] t ∧ va_D (va_A [(mo, .inr (8, ms)), (kn, .inl (cK, 2, .inl kf))] sz) []) (va_A [(mo, .inr (8, ms)), (kn, .inl (cK, 2, .inl kf))] sz)) 0 0 (va_A [(mo, .inr (8, ms)), (kn, .inl (cK, 2, .inl kf))] sz) := by
  refine Met.ofW (cc := cX9_parts) (maxL := 10) (ret := (some .int)) (by decide) rfl ?_
  intro p e s m args below meth c s₁ B hml hv
  obtain ⟨rfl, hsz, hP, hK, hD0⟩ := hv
  have hx := B.exec
  have hb := B.bytes
  have hr := B.returns
  have hts := atoms_spec (ws := zw_m_parts) B.pre
  have hown : s.vm.findClass RX9 = some m.cls := findClass_of_methodNamed B.named
  have hlocks := B.notSynchronized
  subst hsz
  have hD := hD0.self (sz := s.heap.size)
  generalize hAe : va_A [(mo, .inr (8, ms)), (kn, .inl (cK, 2, .inl kf))] s.heap.size = A at hD ⊢
  have hA : ∀ q : Nat, s.heap.size ≤ q → A q := fun q h => by rw [← hAe]; exact Or.inr h
  have hS : va_S A s.heap s.heap [] := va_S.rf
  have hP : va_P (dC, dI) vwCl [(mo, .inr (8, ms)), (kn, .inl (cK, 2, .inl kf))] s.heap := hP
  have m_0 : (.methodLink RX9 431 yX9_isKnot : Cond) ∈ zw_m_parts := List.mem_append_left _ (List.mem_of_getElem? (i := 1) rfl)
  have k_0 := hts _ m_0
  have m_1 : (.instanceMethod yX9_isKnot : Cond) ∈ zw_m_parts := List.mem_append_left _ (List.mem_of_getElem? (i := 2) rfl)
  have k_1 := hts _ m_1
  have m_2 : (.selects RX9 yX9_isKnot yX9_isKnot : Cond) ∈ zw_m_parts := List.mem_append_left _ (List.mem_of_getElem? (i := 3) rfl)
  have k_2 := hts _ m_2
  have m_3 : (.initialized RX9 : Cond) ∈ zw_m_parts := List.mem_append_left _ (List.mem_of_getElem? (i := 4) rfl)
  have k_3 := hts _ m_3
  have g_c_isKnot : ∀ w ∈ zw_c_isKnot, w ∈ zw_m_parts := fun w h => List.mem_append_right _ (List.mem_append_left _ h)
  have hl := lv_entry ([.ref mo, .int a1, .int a2, .int a3, .int a4]) (n := 10) (Nat.le_of_ble_eq_true rfl)
  rw [lg_entry_eq]
  generalize (lg_sl ([.ref mo, .int a1, .int a2, .int a3, .int a4]) ++ List.replicate (10 - (lg_sl ([.ref mo, .int a1, .int a2, .int a3, .int a4])).length) Slot.unset).toArray = ls at hl ⊢
  have hl : lv_has ls 10 [(0, .ref mo), (1, .int a1), (2, .int a2), (3, .int a3), (4, .int a4)] := hl
  refine lv_aload_n hx hb dX9_parts_0 rfl (lv_at hl 0 rfl) ?_
  refine lv_iload_n hx hb dX9_parts_1 rfl (lv_at hl 1 rfl) ?_
  have hPc := hP.sub (ws' := [(mo, .inr (8, ms)), (kn, .inl (cK, 2, .inl kf))]) [0, 1] rfl
  have hDc := hD.sub (ws' := [(mo, .inr (8, ms)), (kn, .inl (cK, 2, .inl kf))]) [0, 1] (by decide) rfl
  have hKc := hK.sub (tys' := [(cK, .int)]) [0] rfl
  have hFc := va_free (wc := [(mo, .inr (8, ms)), (kn, .inl (cK, 2, .inl kf))]) hD hS hA [0, 1] rfl
  refine va_calli (va_runV (As := [.int a1]) (rest := []) ⟨hx, hb, hml, hown, hts⟩ (c_isKnot l dC dI s.heap.size mo ms kn cK kf a1 f_ms_11 f_ms_43 h_kf_0) (cwV 1 hts (p1_gV m_0 m_1 m_2 m_3 g_c_isKnot gz_c_isKnot) rfl rfl rfl (by decide +kernel) ⟨by decide, by decide⟩) ⟨fun a U g mk q => by obtain ⟨q0, q1, qP, qK, qD⟩ := q; exact ⟨q0, q1, qP, va_K.moved (u := U) (U := U.calling g mk a) (Vm.Alike.refl U.vm) qK, qD⟩, va_recv hKc hPc (ci := 8) (q0 := 0) rfl rfl, fun U hU hW => ⟨rfl, by rw [hU], by rw [hU]; exact hPc, va_K.moved hW.alike hKc, hDc.weaken (fun _ _ _ _ => trivial)⟩⟩ rfl rfl hl.1 rfl (lv_room (Nat.le_of_ble_eq_true rfl)) dX9_parts_2 ⟨by decide, by decide⟩) hS (fun q _ h => hFc q h) hFc (fun r_1 u t H1 locs ht hvm hw hB hz1 hk1 hS => ?_)
  obtain ⟨hP1, hK1, hD1⟩ := hB
  rw [ht] at hP1
  obtain ⟨hP, hD⟩ := va_join (wr := []) (w1 := [(mo, .inr (8, ms)), (kn, .inl (cK, 2, .inl kf))]) hP hD [0, 1] [] rfl rfl (by decide) (by decide) hk1 hFc hP1 hD1
  generalize H1 = H at hP hS ⊢
  have hP : va_P (dC, dI) vwCl [(mo, .inr (8, ms)), (kn, .inl (cK, 2, .inl kf))] H := hP
  have hD : va_D A [(mo, .inr (8, ms)), (kn, .inl (cK, 2, .inl kf))] := hD
  try dsimp only at hw
  obtain rfl : r_1 = 0 := hw
  refine lv_if_eq (tgt := 28) hx hb dX9_parts_5 (by decide) (fun _ => ?_) (fun c9 => absurd c9 (by decide))
  refine lv_iconst (v := (-1)) hx hb dX9_parts_28 (by decide) ?_
  have hP9 := hP.sub (ws' := []) [] rfl
  have hD9 := hD.sub (ws' := []) [] (by decide) rfl
  have hK9 := hK.sub (tys' := []) [] rfl
  exact W.iret (v := (-1)) hx hb hr (fun t ht hW => ⟨⟨(-1), (), rfl, rfl, by rw [ht]; exact hP9, va_K.moved hW.alike hK9, hD9⟩, hS.F ht⟩) hS.2.2 dX9_parts_29
def zo_m_seed : List Cond := [.code yX9_seed cX9_seed 3 (some .int), .fieldLink RX9 125 "BowWalkModel" "w" "I"]
def zw_m_seed : List Cond := zo_m_seed ++ (wsX90 ++ [])
theorem gz_m_seed : zw_m_seed.all goodWord = true := p1_ga (by decide +kernel) (p1_ga gk_X9 p1_g0)
theorem iz_m_seed : ∀ w ∈ zw_m_seed, w ∈ lw_tbl := p1_ia (p1_all [1676, 1102] (by decide +kernel)) (p1_ia ik_X9 p1_i0)
set_option maxHeartbeats 4000000 in
set_option maxRecDepth 100000 in
theorem m_seed (l : Launch) (dC : Nat → ClassId) (dI : Nat → Nat → Nat) (sz : Nat) (mo : Nat) (ms : List Value) (a1 : Int32) (f_ms_65 : ms[65]? = some (.int 1)) (l_ms : ms.length = 81) : Met l yX9_seed zw_m_seed ({ frames := 0, cells := 0, slots := 0, locals := 0 }) (va_Pc [.ref mo, .int a1] (fun U => U.heap.size = sz ∧ va_P (dC, dI) vwCl [(mo, .inr (8, ms))] U.heap ∧ va_K (dC, dI) vwCl [] U ∧ va_D (fun _ => True) [(mo, .inr (8, ms))])) (va_Qi (fun (r : Int32) (_ : Unit) => r = 1) (fun _ t => va_P (dC, dI) vwCl [] t.heap ∧ va_K (dC, dI) vwCl [] t ∧ va_D (va_A [(mo, .inr (8, ms))] sz) []) (va_A [(mo, .inr (8, ms))] sz)) 0 0 (va_A [(mo, .inr (8, ms))] sz) := by
  refine Met.ofW (cc := cX9_seed) (maxL := 3) (ret := (some .int)) (by decide) rfl ?_
  intro p e s m args below meth c s₁ B hml hv
  obtain ⟨rfl, hsz, hP, hK, hD0⟩ := hv
  have hx := B.exec
  have hb := B.bytes
  have hr := B.returns
  have hts := atoms_spec (ws := zw_m_seed) B.pre
  have hown : s.vm.findClass RX9 = some m.cls := findClass_of_methodNamed B.named
  have hlocks := B.notSynchronized
  subst hsz
  have hD := hD0.self (sz := s.heap.size)
  generalize hAe : va_A [(mo, .inr (8, ms))] s.heap.size = A at hD ⊢
  have hA : ∀ q : Nat, s.heap.size ≤ q → A q := fun q h => by rw [← hAe]; exact Or.inr h
  have hS : va_S A s.heap s.heap [] := va_S.rf
  have hP : va_P (dC, dI) vwCl [(mo, .inr (8, ms))] s.heap := hP
  have m_0 : (.fieldLink RX9 125 "BowWalkModel" "w" "I" : Cond) ∈ zw_m_seed := List.mem_append_left _ (List.mem_of_getElem? (i := 1) rfl)
  have k_0 := hts _ m_0
  have i_X9 : ∀ w ∈ u_ws RX9 TX9 81, w ∈ zw_m_seed := fun w h => List.mem_append_right _ (List.mem_append_left _ h)
  have hl := lv_entry ([.ref mo, .int a1]) (n := 3) (Nat.le_of_ble_eq_true rfl)
  rw [lg_entry_eq]
  generalize (lg_sl ([.ref mo, .int a1]) ++ List.replicate (3 - (lg_sl ([.ref mo, .int a1])).length) Slot.unset).toArray = ls at hl ⊢
  have hl : lv_has ls 3 [(0, .ref mo), (1, .int a1)] := hl
  refine lv_aload_n hx hb dX9_seed_0 rfl (lv_at hl 0 rfl) ?_
  refine va_get (D := (dC, dI)) (ci := 8) (v := .int 1) (C := RX9) (T := TX9) (N := 81) hx hb hts i_X9 hown hK hP 0 rfl rfl 65 (by decide) k_0 (fun _ h9 => h9) f_ms_65 dX9_seed_1 ?_
  refine lv_istore_n (lv' := [(2, .int 1), (0, .ref mo), (1, .int a1)]) hx hb dX9_seed_4 rfl hl (by decide) rfl (fun ls hl => ?_)
  refine lv_aload_n hx hb dX9_seed_5 rfl (lv_at hl 1 rfl) ?_
  refine lv_iload_n hx hb dX9_seed_6 rfl (lv_at hl 2 rfl) ?_
  refine va_put (D := (dC, dI)) (ci := 8) (v := .int a1) (ty := .int) (C := RX9) (T := TX9) (N := 81) hx hb hts i_X9 tyX9 tyX9_ok nmX9 hown hK hP hD hS 0 rfl rfl 65 (by decide) k_0 (fun _ h9 => h9) rfl (by decide +kernel) rfl rfl (by rw [l_ms]; decide) dX9_seed_7 (fun H locs hP hD hS => ?_)
  have hP : va_P (dC, dI) vwCl [(mo, .inr (8, (ms.set 65 (.int a1))))] H := hP
  have hD : va_D A [(mo, .inr (8, (ms.set 65 (.int a1))))] := hD
  generalize efs_1 : (ms.set 65 (.int a1)) = fs_1 at hP hD
  have lfs_1 : fs_1.length = 81 := by rw [← efs_1, List.length_set]; exact l_ms
  have ffs_1_65 : fs_1[65]? = some (.int a1) := by rw [← efs_1]; exact p1_sa l_ms (by decide)
  refine lv_iload_n hx hb dX9_seed_10 rfl (lv_at hl 0 rfl) ?_
  have hP9 := hP.sub (ws' := []) [] rfl
  have hD9 := hD.sub (ws' := []) [] (by decide) rfl
  have hK9 := hK.sub (tys' := []) [] rfl
  exact W.iret (v := 1) hx hb hr (fun t ht hW => ⟨⟨1, (), rfl, rfl, by rw [ht]; exact hP9, va_K.moved hW.alike hK9, hD9⟩, hS.F ht⟩) hS.2.2 dX9_seed_11
def zo_m_end : List Cond := [.code yX9_end cX9_end 2 (some .int), .fieldLink RX9 288 "BowWalkModel" "taped" "I"]
def zw_m_end : List Cond := zo_m_end ++ (wsX90 ++ [])
theorem gz_m_end : zw_m_end.all goodWord = true := p1_ga (by decide +kernel) (p1_ga gk_X9 p1_g0)
theorem iz_m_end : ∀ w ∈ zw_m_end, w ∈ lw_tbl := p1_ia (p1_all [1696, 1039] (by decide +kernel)) (p1_ia ik_X9 p1_i0)
set_option maxHeartbeats 4000000 in
set_option maxRecDepth 100000 in
theorem m_end (l : Launch) (dC : Nat → ClassId) (dI : Nat → Nat → Nat) (sz : Nat) (mo : Nat) (ms : List Value) (a1 : Int32) (f_ms_2 : ms[2]? = some (.int 0)) (l_ms : ms.length = 81) : Met l yX9_end zw_m_end ({ frames := 0, cells := 0, slots := 0, locals := 0 }) (va_Pc [.ref mo, .int a1] (fun U => U.heap.size = sz ∧ va_P (dC, dI) vwCl [(mo, .inr (8, ms))] U.heap ∧ va_K (dC, dI) vwCl [] U ∧ va_D (fun _ => True) [(mo, .inr (8, ms))])) (va_Qi (fun (r : Int32) (_ : Unit) => r = p1_end a1) (fun _ t => va_P (dC, dI) vwCl [] t.heap ∧ va_K (dC, dI) vwCl [] t ∧ va_D (va_A [(mo, .inr (8, ms))] sz) []) (va_A [(mo, .inr (8, ms))] sz)) 0 0 (va_A [(mo, .inr (8, ms))] sz) := by
  refine Met.ofW (cc := cX9_end) (maxL := 2) (ret := (some .int)) (by decide) rfl ?_
  intro p e s m args below meth c s₁ B hml hv
  obtain ⟨rfl, hsz, hP, hK, hD0⟩ := hv
  have hx := B.exec
  have hb := B.bytes
  have hr := B.returns
  have hts := atoms_spec (ws := zw_m_end) B.pre
  have hown : s.vm.findClass RX9 = some m.cls := findClass_of_methodNamed B.named
  have hlocks := B.notSynchronized
  subst hsz
  have hD := hD0.self (sz := s.heap.size)
  generalize hAe : va_A [(mo, .inr (8, ms))] s.heap.size = A at hD ⊢
  have hA : ∀ q : Nat, s.heap.size ≤ q → A q := fun q h => by rw [← hAe]; exact Or.inr h
  have hS : va_S A s.heap s.heap [] := va_S.rf
  have hP : va_P (dC, dI) vwCl [(mo, .inr (8, ms))] s.heap := hP
  have m_0 : (.fieldLink RX9 288 "BowWalkModel" "taped" "I" : Cond) ∈ zw_m_end := List.mem_append_left _ (List.mem_of_getElem? (i := 1) rfl)
  have k_0 := hts _ m_0
  have i_X9 : ∀ w ∈ u_ws RX9 TX9 81, w ∈ zw_m_end := fun w h => List.mem_append_right _ (List.mem_append_left _ h)
  have hl := lv_entry ([.ref mo, .int a1]) (n := 2) (Nat.le_of_ble_eq_true rfl)
  rw [lg_entry_eq]
  generalize (lg_sl ([.ref mo, .int a1]) ++ List.replicate (2 - (lg_sl ([.ref mo, .int a1])).length) Slot.unset).toArray = ls at hl ⊢
  have hl : lv_has ls 2 [(0, .ref mo), (1, .int a1)] := hl
  refine lv_iload_n hx hb dX9_end_0 rfl (lv_at hl 1 rfl) ?_
  refine lv_if_lt (tgt := 12) hx hb dX9_end_1 (by decide) (fun c1 => ?_) (fun c1 => ?_)
  · refine lv_iconst (v := (-1)) hx hb dX9_end_12 (by decide) ?_
    have hP9 := hP.sub (ws' := []) [] rfl
    have hD9 := hD.sub (ws' := []) [] (by decide) rfl
    have hK9 := hK.sub (tys' := []) [] rfl
    exact W.iret (v := (-1)) hx hb hr (fun t ht hW => ⟨⟨(-1), (), rfl, by first | exact p1_end_no (by assumption) (by assumption) | exact p1_end_lt (by assumption) | exact p1_end_gt (by assumption), by rw [ht]; exact hP9, va_K.moved hW.alike hK9, hD9⟩, hS.F ht⟩) hS.2.2 dX9_end_13
  · refine lv_iload_n hx hb dX9_end_4 rfl (lv_at hl 1 rfl) ?_
    refine lv_aload_n hx hb dX9_end_5 rfl (lv_at hl 0 rfl) ?_
    refine va_get (D := (dC, dI)) (ci := 8) (v := .int 0) (C := RX9) (T := TX9) (N := 81) hx hb hts i_X9 hown hK hP 0 rfl rfl 2 (by decide) k_0 (fun _ h9 => h9) f_ms_2 dX9_end_6 ?_
    refine lv_icmp_le (tgt := 14) hx hb dX9_end_9 (by decide) (fun c9 => ?_) (fun c9 => ?_)
    · refine lv_aload_n hx hb dX9_end_14 rfl (lv_at hl 0 rfl) ?_
      refine lv_iload_n hx hb dX9_end_15 rfl (lv_at hl 1 rfl) ?_
      refine va_put (D := (dC, dI)) (ci := 8) (v := .int a1) (ty := .int) (C := RX9) (T := TX9) (N := 81) hx hb hts i_X9 tyX9 tyX9_ok nmX9 hown hK hP hD hS 0 rfl rfl 2 (by decide) k_0 (fun _ h9 => h9) rfl (by decide +kernel) rfl rfl (by rw [l_ms]; decide) dX9_end_16 (fun H locs hP hD hS => ?_)
      have hP : va_P (dC, dI) vwCl [(mo, .inr (8, (ms.set 2 (.int a1))))] H := hP
      have hD : va_D A [(mo, .inr (8, (ms.set 2 (.int a1))))] := hD
      generalize efs_1 : (ms.set 2 (.int a1)) = fs_1 at hP hD
      have lfs_1 : fs_1.length = 81 := by rw [← efs_1, List.length_set]; exact l_ms
      have ffs_1_2 : fs_1[2]? = some (.int a1) := by rw [← efs_1]; exact p1_sa l_ms (by decide)
      refine lv_iload_n hx hb dX9_end_19 rfl (lv_at hl 1 rfl) ?_
      have hP9 := hP.sub (ws' := []) [] rfl
      have hD9 := hD.sub (ws' := []) [] (by decide) rfl
      have hK9 := hK.sub (tys' := []) [] rfl
      exact W.iret (v := a1) hx hb hr (fun t ht hW => ⟨⟨a1, (), rfl, by first | exact p1_end_no (by assumption) (by assumption) | exact p1_end_lt (by assumption) | exact p1_end_gt (by assumption), by rw [ht]; exact hP9, va_K.moved hW.alike hK9, hD9⟩, hS.F ht⟩) hS.2.2 dX9_end_20
    · refine lv_iconst (v := (-1)) hx hb dX9_end_12 (by decide) ?_
      have hP9 := hP.sub (ws' := []) [] rfl
      have hD9 := hD.sub (ws' := []) [] (by decide) rfl
      have hK9 := hK.sub (tys' := []) [] rfl
      exact W.iret (v := (-1)) hx hb hr (fun t ht hW => ⟨⟨(-1), (), rfl, by first | exact p1_end_no (by assumption) (by assumption) | exact p1_end_lt (by assumption) | exact p1_end_gt (by assumption), by rw [ht]; exact hP9, va_K.moved hW.alike hK9, hD9⟩, hS.F ht⟩) hS.2.2 dX9_end_13
def zo_m_later : List Cond := [.code yX9_later cX9_later 2 (some .int), .methodLink RX9 389 yX9_isIn, .static yX9_isIn, .initialized RX9, .fieldLink RX9 517 "BowWalkModel" "time" "I", .constant RX9 458 (100000)]
def zw_m_later : List Cond := zo_m_later ++ (zw_c_isIn ++ (wsX90 ++ []))
theorem gz_m_later : zw_m_later.all goodWord = true := p1_ga (by decide +kernel) (p1_ga gz_c_isIn (p1_ga gk_X9 p1_g0))
theorem iz_m_later : ∀ w ∈ zw_m_later, w ∈ lw_tbl := p1_ia (p1_all [1643, 1439, 1440, 116, 1113, 1462] (by decide +kernel)) (p1_ia iz_c_isIn (p1_ia ik_X9 p1_i0))
set_option maxHeartbeats 4000000 in
set_option maxRecDepth 100000 in
theorem m_later (l : Launch) (dC : Nat → ClassId) (dI : Nat → Nat → Nat) (sz : Nat) (mo : Nat) (ms : List Value) (a1 : Int32) (f_ms_76 : ms[76]? = some (.int 0)) (l_ms : ms.length = 81) : Met l yX9_later zw_m_later ({ frames := 1, cells := 0, slots := 0, locals := 22 }) (va_Pc [.ref mo, .int a1] (fun U => U.heap.size = sz ∧ va_P (dC, dI) vwCl [(mo, .inr (8, ms))] U.heap ∧ va_K (dC, dI) vwCl [] U ∧ va_D (fun _ => True) [(mo, .inr (8, ms))])) (va_Qi (fun (r : Int32) (_ : Unit) => r = p1_later a1) (fun _ t => va_P (dC, dI) vwCl [] t.heap ∧ va_K (dC, dI) vwCl [] t ∧ va_D (va_A [(mo, .inr (8, ms))] sz) []) (va_A [(mo, .inr (8, ms))] sz)) 0 0 (va_A [(mo, .inr (8, ms))] sz) := by
  refine Met.ofW (cc := cX9_later) (maxL := 2) (ret := (some .int)) (by decide) rfl ?_
  intro p e s m args below meth c s₁ B hml hv
  obtain ⟨rfl, hsz, hP, hK, hD0⟩ := hv
  have hx := B.exec
  have hb := B.bytes
  have hr := B.returns
  have hts := atoms_spec (ws := zw_m_later) B.pre
  have hown : s.vm.findClass RX9 = some m.cls := findClass_of_methodNamed B.named
  have hlocks := B.notSynchronized
  subst hsz
  have hD := hD0.self (sz := s.heap.size)
  generalize hAe : va_A [(mo, .inr (8, ms))] s.heap.size = A at hD ⊢
  have hA : ∀ q : Nat, s.heap.size ≤ q → A q := fun q h => by rw [← hAe]; exact Or.inr h
  have hS : va_S A s.heap s.heap [] := va_S.rf
  have hP : va_P (dC, dI) vwCl [(mo, .inr (8, ms))] s.heap := hP
  have m_0 : (.methodLink RX9 389 yX9_isIn : Cond) ∈ zw_m_later := List.mem_append_left _ (List.mem_of_getElem? (i := 1) rfl)
  have k_0 := hts _ m_0
  have m_1 : (.static yX9_isIn : Cond) ∈ zw_m_later := List.mem_append_left _ (List.mem_of_getElem? (i := 2) rfl)
  have k_1 := hts _ m_1
  have m_2 : (.initialized RX9 : Cond) ∈ zw_m_later := List.mem_append_left _ (List.mem_of_getElem? (i := 3) rfl)
  have k_2 := hts _ m_2
  have m_3 : (.fieldLink RX9 517 "BowWalkModel" "time" "I" : Cond) ∈ zw_m_later := List.mem_append_left _ (List.mem_of_getElem? (i := 4) rfl)
  have k_3 := hts _ m_3
  have m_4 : (.constant RX9 458 (100000) : Cond) ∈ zw_m_later := List.mem_append_left _ (List.mem_of_getElem? (i := 5) rfl)
  have k_4 := hts _ m_4
  have g_c_isIn : ∀ w ∈ zw_c_isIn, w ∈ zw_m_later := fun w h => List.mem_append_right _ (List.mem_append_left _ h)
  have i_X9 : ∀ w ∈ u_ws RX9 TX9 81, w ∈ zw_m_later := fun w h => List.mem_append_right _ (List.mem_append_right _ (List.mem_append_left _ h))
  have hl := lv_entry ([.ref mo, .int a1]) (n := 2) (Nat.le_of_ble_eq_true rfl)
  rw [lg_entry_eq]
  generalize (lg_sl ([.ref mo, .int a1]) ++ List.replicate (2 - (lg_sl ([.ref mo, .int a1])).length) Slot.unset).toArray = ls at hl ⊢
  have hl : lv_has ls 2 [(0, .ref mo), (1, .int a1)] := hl
  refine lv_iload_n hx hb dX9_later_0 rfl (lv_at hl 1 rfl) ?_
  refine lv_iconst (v := 0) hx hb dX9_later_1 (by decide) ?_
  refine lv_sipush (v := 1000) hx hb dX9_later_2 (by decide) ?_
  have hPc := hP.sub (ws' := []) [] rfl
  have hDc := hD.sub (ws' := []) [] (by decide) rfl
  have hKc := hK.sub (tys' := []) [] rfl
  have hFc := va_free (wc := []) hD hS hA [] rfl
  refine va_calli (va_runS (As := [.int a1, .int 0, .int 1000]) (rest := []) ⟨hx, hb, hml, hown, hts⟩ (c_isIn l dC dI s.heap.size a1 0 1000) (va_cwS 3 hts (p1_gS m_0 m_1 m_2 g_c_isIn gz_c_isIn) rfl rfl rfl (by decide +kernel) ⟨by decide, by decide⟩) ⟨fun a U g mk q => by obtain ⟨q0, q1, qP, qK, qD⟩ := q; exact ⟨q0, q1, qP, va_K.moved (u := U) (U := U.calling g mk a) (Vm.Alike.refl U.vm) qK, qD⟩, fun U hU hW => ⟨rfl, by rw [hU], by rw [hU]; exact hPc, va_K.moved hW.alike hKc, hDc.weaken (fun _ _ _ _ => trivial)⟩⟩ rfl rfl hl.1 rfl (lv_room (Nat.le_of_ble_eq_true rfl)) dX9_later_5 ⟨by decide, by decide⟩) hS (fun q _ h => hFc q h) hFc (fun r_1 u t H1 locs ht hvm hw hB hz1 hk1 hS => ?_)
  obtain ⟨hP1, hK1, hD1⟩ := hB
  rw [ht] at hP1
  obtain ⟨hP, hD⟩ := va_join (wr := [(mo, .inr (8, ms))]) (w1 := []) hP hD [] [0] rfl rfl (by decide) (by decide) hk1 hFc hP1 hD1
  generalize H1 = H at hP hS ⊢
  have hP : va_P (dC, dI) vwCl [(mo, .inr (8, ms))] H := hP
  have hD : va_D A [(mo, .inr (8, ms))] := hD
  try dsimp only at hw
  rcases hw with ⟨rfl, hw_2⟩ | ⟨rfl, hw_2⟩
  · refine lv_if_eq (tgt := 23) hx hb dX9_later_8 (by decide) (fun c9 => absurd c9 (by decide)) (fun _ => ?_)
    refine lv_aload_n hx hb dX9_later_11 rfl (lv_at hl 0 rfl) ?_
    refine va_get (D := (dC, dI)) (ci := 8) (v := .int 0) (C := RX9) (T := TX9) (N := 81) hx hb hts i_X9 hown hK hP 0 rfl rfl 76 (by decide) k_3 (fun _ h9 => h9) f_ms_76 dX9_later_12 ?_
    refine lv_iload_n hx hb dX9_later_15 rfl (lv_at hl 1 rfl) ?_
    refine lv_iadd hx hb dX9_later_16 ?_
    refine lv_topi (fun v_3 ev_3 => ?_)
    refine lv_ldcw (v := 100000) hx hb hown k_4 dX9_later_17 ?_
    refine lv_icmp_le (tgt := 25) hx hb dX9_later_20 (by decide) (fun c20 => ?_) (fun c20 => absurd c20 (fun z9 => z9 (p1_late hw_2 ev_3)))
    refine lv_aload_n hx hb dX9_later_25 rfl (lv_at hl 0 rfl) ?_
    refine lv_dup hx hb dX9_later_26 rfl ?_
    refine va_get (D := (dC, dI)) (ci := 8) (v := .int 0) (C := RX9) (T := TX9) (N := 81) hx hb hts i_X9 hown hK hP 0 rfl rfl 76 (by decide) k_3 (fun _ h9 => h9) f_ms_76 dX9_later_27 ?_
    refine lv_iload_n hx hb dX9_later_30 rfl (lv_at hl 1 rfl) ?_
    refine lv_iadd hx hb dX9_later_31 ?_
    refine lv_topi (fun v_4 ev_4 => ?_)
    refine va_put (D := (dC, dI)) (ci := 8) (v := .int v_4) (ty := .int) (C := RX9) (T := TX9) (N := 81) hx hb hts i_X9 tyX9 tyX9_ok nmX9 hown hK hP hD hS 0 rfl rfl 76 (by decide) k_3 (fun _ h9 => h9) rfl (by decide +kernel) rfl rfl (by rw [l_ms]; decide) dX9_later_32 (fun H locs hP hD hS => ?_)
    have hP : va_P (dC, dI) vwCl [(mo, .inr (8, (ms.set 76 (.int v_4))))] H := hP
    have hD : va_D A [(mo, .inr (8, (ms.set 76 (.int v_4))))] := hD
    generalize efs_5 : (ms.set 76 (.int v_4)) = fs_5 at hP hD
    have lfs_5 : fs_5.length = 81 := by rw [← efs_5, List.length_set]; exact l_ms
    have ffs_5_76 : fs_5[76]? = some (.int v_4) := by rw [← efs_5]; exact p1_sa l_ms (by decide)
    refine lv_aload_n hx hb dX9_later_35 rfl (lv_at hl 0 rfl) ?_
    refine va_get (D := (dC, dI)) (ci := 8) (v := .int v_4) (C := RX9) (T := TX9) (N := 81) hx hb hts i_X9 hown hK hP 0 rfl rfl 76 (by decide) k_3 (fun _ h9 => h9) ffs_5_76 dX9_later_36 ?_
    have hP9 := hP.sub (ws' := []) [] rfl
    have hD9 := hD.sub (ws' := []) [] (by decide) rfl
    have hK9 := hK.sub (tys' := []) [] rfl
    exact W.iret (v := v_4) hx hb hr (fun t ht hW => ⟨⟨v_4, (), rfl, by rw [p1_later, if_pos hw_2]; exact ev_4, by rw [ht]; exact hP9, va_K.moved hW.alike hK9, hD9⟩, hS.F ht⟩) hS.2.2 dX9_later_39
  · refine lv_if_eq (tgt := 23) hx hb dX9_later_8 (by decide) (fun _ => ?_) (fun c9 => absurd c9 (by decide))
    refine lv_iconst (v := (-1)) hx hb dX9_later_23 (by decide) ?_
    have hP9 := hP.sub (ws' := []) [] rfl
    have hD9 := hD.sub (ws' := []) [] (by decide) rfl
    have hK9 := hK.sub (tys' := []) [] rfl
    exact W.iret (v := (-1)) hx hb hr (fun t ht hW => ⟨⟨(-1), (), rfl, (if_neg hw_2).symm, by rw [ht]; exact hP9, va_K.moved hW.alike hK9, hD9⟩, hS.F ht⟩) hS.2.2 dX9_later_24
def zo_m_fault : List Cond := [.code yX9_fault cX9_fault 2 (some .int), .fieldLink RX9 16 "BowWalkModel" "faultPlace" "I", .fieldLink RX9 173 "BowWalkModel" "faultKind" "I"]
def zw_m_fault : List Cond := zo_m_fault ++ (wsX90 ++ [])
theorem gz_m_fault : zw_m_fault.all goodWord = true := p1_ga (by decide +kernel) (p1_ga gk_X9 p1_g0)
theorem iz_m_fault : ∀ w ∈ zw_m_fault, w ∈ lw_tbl := p1_ia (p1_all [1430, 1042, 1041] (by decide +kernel)) (p1_ia ik_X9 p1_i0)
set_option maxHeartbeats 4000000 in
set_option maxRecDepth 100000 in
theorem m_fault (l : Launch) (dC : Nat → ClassId) (dI : Nat → Nat → Nat) (sz : Nat) (mo : Nat) (ms : List Value) (a1 : Int32) (f_ms_4 : ms[4]? = some (.int 0)) (f_ms_5 : ms[5]? = some (.int (-1))) : Met l yX9_fault zw_m_fault ({ frames := 0, cells := 0, slots := 0, locals := 0 }) (va_Pc [.ref mo, .int a1] (fun U => U.heap.size = sz ∧ va_P (dC, dI) vwCl [(mo, .inr (8, ms))] U.heap ∧ va_K (dC, dI) vwCl [] U ∧ va_D (fun _ => True) [(mo, .inr (8, ms))])) (va_Qi (fun (r : Int32) (_ : Unit) => r = p1_fault a1) (fun _ t => va_P (dC, dI) vwCl [] t.heap ∧ va_K (dC, dI) vwCl [] t ∧ va_D (va_A [(mo, .inr (8, ms))] sz) []) (va_A [(mo, .inr (8, ms))] sz)) 0 0 (va_A [(mo, .inr (8, ms))] sz) := by
  refine Met.ofW (cc := cX9_fault) (maxL := 2) (ret := (some .int)) (by decide) rfl ?_
  intro p e s m args below meth c s₁ B hml hv
  obtain ⟨rfl, hsz, hP, hK, hD0⟩ := hv
  have hx := B.exec
  have hb := B.bytes
  have hr := B.returns
  have hts := atoms_spec (ws := zw_m_fault) B.pre
  have hown : s.vm.findClass RX9 = some m.cls := findClass_of_methodNamed B.named
  have hlocks := B.notSynchronized
  subst hsz
  have hD := hD0.self (sz := s.heap.size)
  generalize hAe : va_A [(mo, .inr (8, ms))] s.heap.size = A at hD ⊢
  have hA : ∀ q : Nat, s.heap.size ≤ q → A q := fun q h => by rw [← hAe]; exact Or.inr h
  have hS : va_S A s.heap s.heap [] := va_S.rf
  have hP : va_P (dC, dI) vwCl [(mo, .inr (8, ms))] s.heap := hP
  have m_0 : (.fieldLink RX9 16 "BowWalkModel" "faultPlace" "I" : Cond) ∈ zw_m_fault := List.mem_append_left _ (List.mem_of_getElem? (i := 1) rfl)
  have k_0 := hts _ m_0
  have m_1 : (.fieldLink RX9 173 "BowWalkModel" "faultKind" "I" : Cond) ∈ zw_m_fault := List.mem_append_left _ (List.mem_of_getElem? (i := 2) rfl)
  have k_1 := hts _ m_1
  have i_X9 : ∀ w ∈ u_ws RX9 TX9 81, w ∈ zw_m_fault := fun w h => List.mem_append_right _ (List.mem_append_left _ h)
  have hl := lv_entry ([.ref mo, .int a1]) (n := 2) (Nat.le_of_ble_eq_true rfl)
  rw [lg_entry_eq]
  generalize (lg_sl ([.ref mo, .int a1]) ++ List.replicate (2 - (lg_sl ([.ref mo, .int a1])).length) Slot.unset).toArray = ls at hl ⊢
  have hl : lv_has ls 2 [(0, .ref mo), (1, .int a1)] := hl
  refine lv_iload_n hx hb dX9_fault_0 rfl (lv_at hl 1 rfl) ?_
  refine lv_if_ne (tgt := 11) hx hb dX9_fault_1 (by decide) (fun c1 => ?_) (fun c1 => ?_)
  · refine lv_iload_n hx hb dX9_fault_11 rfl (lv_at hl 1 rfl) ?_
    refine lv_iconst (v := 1) hx hb dX9_fault_12 (by decide) ?_
    refine lv_icmp_ne (tgt := 23) hx hb dX9_fault_13 (by decide) (fun c13 => ?_) (fun c13 => ?_)
    · refine lv_iconst (v := (-1)) hx hb dX9_fault_23 (by decide) ?_
      have hP9 := hP.sub (ws' := []) [] rfl
      have hD9 := hD.sub (ws' := []) [] (by decide) rfl
      have hK9 := hK.sub (tys' := []) [] rfl
      exact W.iret (v := (-1)) hx hb hr (fun t ht hW => ⟨⟨(-1), (), rfl, by simp only [p1_fault]; first | exact (if_pos (by assumption)).symm | exact (if_neg (by assumption)).symm, by rw [ht]; exact hP9, va_K.moved hW.alike hK9, hD9⟩, hS.F ht⟩) hS.2.2 dX9_fault_24
    · refine lv_aload_n hx hb dX9_fault_16 rfl (lv_at hl 0 rfl) ?_
      refine va_get (D := (dC, dI)) (ci := 8) (v := .int (-1)) (C := RX9) (T := TX9) (N := 81) hx hb hts i_X9 hown hK hP 0 rfl rfl 5 (by decide) k_0 (fun _ h9 => h9) f_ms_5 dX9_fault_17 ?_
      refine lv_goto (tgt := 24) hx hb dX9_fault_20 (by decide) ?_
      have hP9 := hP.sub (ws' := []) [] rfl
      have hD9 := hD.sub (ws' := []) [] (by decide) rfl
      have hK9 := hK.sub (tys' := []) [] rfl
      exact W.iret (v := (-1)) hx hb hr (fun t ht hW => ⟨⟨(-1), (), rfl, by simp only [p1_fault]; first | exact (if_pos (by assumption)).symm | exact (if_neg (by assumption)).symm, by rw [ht]; exact hP9, va_K.moved hW.alike hK9, hD9⟩, hS.F ht⟩) hS.2.2 dX9_fault_24
  · refine lv_aload_n hx hb dX9_fault_4 rfl (lv_at hl 0 rfl) ?_
    refine va_get (D := (dC, dI)) (ci := 8) (v := .int 0) (C := RX9) (T := TX9) (N := 81) hx hb hts i_X9 hown hK hP 0 rfl rfl 4 (by decide) k_1 (fun _ h9 => h9) f_ms_4 dX9_fault_5 ?_
    refine lv_goto (tgt := 24) hx hb dX9_fault_8 (by decide) ?_
    have hP9 := hP.sub (ws' := []) [] rfl
    have hD9 := hD.sub (ws' := []) [] (by decide) rfl
    have hK9 := hK.sub (tys' := []) [] rfl
    exact W.iret (v := 0) hx hb hr (fun t ht hW => ⟨⟨0, (), rfl, by simp only [p1_fault]; first | exact (if_pos (by assumption)).symm | exact (if_neg (by assumption)).symm, by rw [ht]; exact hP9, va_K.moved hW.alike hK9, hD9⟩, hS.F ht⟩) hS.2.2 dX9_fault_24
def zo_m_about : List Cond := [.code yX9_about cX9_about 2 (some .int), .fieldLink RX9 20 "BowWalkModel" "knots" "[I", .fieldLink RX9 291 "BowWalkModel" "bank" "I", .fieldLink RX9 24 "BowWalkModel" "cords" "[I", .fieldLink RX9 27 "BowWalkModel" "walks" "[I", .fieldLink RX9 30 "BowWalkModel" "laws" "[I", .fieldLink RX9 33 "BowWalkModel" "wants" "[I", .fieldLink RX9 301 "BowWalkModel" "films" "I", .fieldLink RX9 517 "BowWalkModel" "time" "I", .fieldLink RX9 288 "BowWalkModel" "taped" "I", .fieldLink RX9 125 "BowWalkModel" "w" "I", .fieldLink RX9 42 "BowWalkModel" "unitsOf" "[I"]
def zw_m_about : List Cond := zo_m_about ++ (wsX90 ++ [])
theorem gz_m_about : zw_m_about.all goodWord = true := p1_ga (by decide +kernel) (p1_ga gk_X9 p1_g0)
theorem iz_m_about : ∀ w ∈ zw_m_about, w ∈ lw_tbl := p1_ia (p1_all [1688, 1048, 1080, 1049, 1050, 1051, 1052, 1112, 1113, 1039, 1102, 1055] (by decide +kernel)) (p1_ia ik_X9 p1_i0)
set_option maxHeartbeats 4000000 in
set_option maxRecDepth 100000 in
theorem m_about (l : Launch) (dC : Nat → ClassId) (dI : Nat → Nat → Nat) (sz : Nat) (mo : Nat) (ms : List Value) (kn : Nat) (co : Nat) (wa : Nat) (la : Nat) (wt : Nat) (un : Nat) (cK : ClassId) (kf : Nat → Int32) (cC : ClassId) (cf : Nat → Int32) (cW : ClassId) (wf : Nat → Int32) (cL : ClassId) (lf : Nat → Int32) (cT : ClassId) (tf : Nat → Int32) (cU : ClassId) (uf : Nat → Int32) (a1 : Int32) (f_ms_11 : ms[11]? = some (.ref kn)) (f_ms_12 : ms[12]? = some (.ref co)) (f_ms_13 : ms[13]? = some (.ref wa)) (f_ms_14 : ms[14]? = some (.ref la)) (f_ms_15 : ms[15]? = some (.ref wt)) (f_ms_18 : ms[18]? = some (.ref un)) (f_ms_43 : ms[43]? = some (.int 0)) (f_ms_75 : ms[75]? = some (.int 0)) (f_ms_76 : ms[76]? = some (.int 0)) (f_ms_2 : ms[2]? = some (.int 0)) (f_ms_65 : ms[65]? = some (.int 1)) (h_kf_0 : kf 0 = 0) (h_cf_0 : cf 0 = 0) (h_wf_0 : wf 0 = 0) (h_lf_0 : lf 0 = 0) (h_tf_0 : tf 0 = 0) (h_uf_0 : uf 0 = 0) : Met l yX9_about zw_m_about ({ frames := 0, cells := 0, slots := 0, locals := 0 }) (va_Pc [.ref mo, .int a1] (fun U => U.heap.size = sz ∧ va_P (dC, dI) vwCl [(mo, .inr (8, ms)), (kn, .inl (cK, 2, .inl kf)), (co, .inl (cC, 2, .inl cf)), (wa, .inl (cW, 2, .inl wf)), (la, .inl (cL, 2, .inl lf)), (wt, .inl (cT, 2, .inl tf)), (un, .inl (cU, 2, .inl uf))] U.heap ∧ va_K (dC, dI) vwCl [(cK, .int), (cC, .int), (cW, .int), (cL, .int), (cT, .int), (cU, .int)] U ∧ va_D (fun _ => True) [(mo, .inr (8, ms)), (kn, .inl (cK, 2, .inl kf)), (co, .inl (cC, 2, .inl cf)), (wa, .inl (cW, 2, .inl wf)), (la, .inl (cL, 2, .inl lf)), (wt, .inl (cT, 2, .inl tf)), (un, .inl (cU, 2, .inl uf))])) (va_Qi (fun (r : Int32) (_ : Unit) => r = p1_about a1) (fun _ t => va_P (dC, dI) vwCl [] t.heap ∧ va_K (dC, dI) vwCl [] t ∧ va_D (va_A [(mo, .inr (8, ms)), (kn, .inl (cK, 2, .inl kf)), (co, .inl (cC, 2, .inl cf)), (wa, .inl (cW, 2, .inl wf)), (la, .inl (cL, 2, .inl lf)), (wt, .inl (cT, 2, .inl tf)), (un, .inl (cU, 2, .inl uf))] sz) []) (va_A [(mo, .inr (8, ms)), (kn, .inl (cK, 2, .inl kf)), (co, .inl (cC, 2, .inl cf)), (wa, .inl (cW, 2, .inl wf)), (la, .inl (cL, 2, .inl lf)), (wt, .inl (cT, 2, .inl tf)), (un, .inl (cU, 2, .inl uf))] sz)) 0 0 (va_A [(mo, .inr (8, ms)), (kn, .inl (cK, 2, .inl kf)), (co, .inl (cC, 2, .inl cf)), (wa, .inl (cW, 2, .inl wf)), (la, .inl (cL, 2, .inl lf)), (wt, .inl (cT, 2, .inl tf)), (un, .inl (cU, 2, .inl uf))] sz) := by
  refine Met.ofW (cc := cX9_about) (maxL := 2) (ret := (some .int)) (by decide) rfl ?_
  intro p e s m args below meth c s₁ B hml hv
  obtain ⟨rfl, hsz, hP, hK, hD0⟩ := hv
  have hx := B.exec
  have hb := B.bytes
  have hr := B.returns
  have hts := atoms_spec (ws := zw_m_about) B.pre
  have hown : s.vm.findClass RX9 = some m.cls := findClass_of_methodNamed B.named
  have hlocks := B.notSynchronized
  subst hsz
  have hD := hD0.self (sz := s.heap.size)
  generalize hAe : va_A [(mo, .inr (8, ms)), (kn, .inl (cK, 2, .inl kf)), (co, .inl (cC, 2, .inl cf)), (wa, .inl (cW, 2, .inl wf)), (la, .inl (cL, 2, .inl lf)), (wt, .inl (cT, 2, .inl tf)), (un, .inl (cU, 2, .inl uf))] s.heap.size = A at hD ⊢
  have hA : ∀ q : Nat, s.heap.size ≤ q → A q := fun q h => by rw [← hAe]; exact Or.inr h
  have hS : va_S A s.heap s.heap [] := va_S.rf
  have hP : va_P (dC, dI) vwCl [(mo, .inr (8, ms)), (kn, .inl (cK, 2, .inl kf)), (co, .inl (cC, 2, .inl cf)), (wa, .inl (cW, 2, .inl wf)), (la, .inl (cL, 2, .inl lf)), (wt, .inl (cT, 2, .inl tf)), (un, .inl (cU, 2, .inl uf))] s.heap := hP
  have m_0 : (.fieldLink RX9 20 "BowWalkModel" "knots" "[I" : Cond) ∈ zw_m_about := List.mem_append_left _ (List.mem_of_getElem? (i := 1) rfl)
  have k_0 := hts _ m_0
  have m_1 : (.fieldLink RX9 291 "BowWalkModel" "bank" "I" : Cond) ∈ zw_m_about := List.mem_append_left _ (List.mem_of_getElem? (i := 2) rfl)
  have k_1 := hts _ m_1
  have m_2 : (.fieldLink RX9 24 "BowWalkModel" "cords" "[I" : Cond) ∈ zw_m_about := List.mem_append_left _ (List.mem_of_getElem? (i := 3) rfl)
  have k_2 := hts _ m_2
  have m_3 : (.fieldLink RX9 27 "BowWalkModel" "walks" "[I" : Cond) ∈ zw_m_about := List.mem_append_left _ (List.mem_of_getElem? (i := 4) rfl)
  have k_3 := hts _ m_3
  have m_4 : (.fieldLink RX9 30 "BowWalkModel" "laws" "[I" : Cond) ∈ zw_m_about := List.mem_append_left _ (List.mem_of_getElem? (i := 5) rfl)
  have k_4 := hts _ m_4
  have m_5 : (.fieldLink RX9 33 "BowWalkModel" "wants" "[I" : Cond) ∈ zw_m_about := List.mem_append_left _ (List.mem_of_getElem? (i := 6) rfl)
  have k_5 := hts _ m_5
  have m_6 : (.fieldLink RX9 301 "BowWalkModel" "films" "I" : Cond) ∈ zw_m_about := List.mem_append_left _ (List.mem_of_getElem? (i := 7) rfl)
  have k_6 := hts _ m_6
  have m_7 : (.fieldLink RX9 517 "BowWalkModel" "time" "I" : Cond) ∈ zw_m_about := List.mem_append_left _ (List.mem_of_getElem? (i := 8) rfl)
  have k_7 := hts _ m_7
  have m_8 : (.fieldLink RX9 288 "BowWalkModel" "taped" "I" : Cond) ∈ zw_m_about := List.mem_append_left _ (List.mem_of_getElem? (i := 9) rfl)
  have k_8 := hts _ m_8
  have m_9 : (.fieldLink RX9 125 "BowWalkModel" "w" "I" : Cond) ∈ zw_m_about := List.mem_append_left _ (List.mem_of_getElem? (i := 10) rfl)
  have k_9 := hts _ m_9
  have m_10 : (.fieldLink RX9 42 "BowWalkModel" "unitsOf" "[I" : Cond) ∈ zw_m_about := List.mem_append_left _ (List.mem_of_getElem? (i := 11) rfl)
  have k_10 := hts _ m_10
  have i_X9 : ∀ w ∈ u_ws RX9 TX9 81, w ∈ zw_m_about := fun w h => List.mem_append_right _ (List.mem_append_left _ h)
  have hl := lv_entry ([.ref mo, .int a1]) (n := 2) (Nat.le_of_ble_eq_true rfl)
  rw [lg_entry_eq]
  generalize (lg_sl ([.ref mo, .int a1]) ++ List.replicate (2 - (lg_sl ([.ref mo, .int a1])).length) Slot.unset).toArray = ls at hl ⊢
  have hl : lv_has ls 2 [(0, .ref mo), (1, .int a1)] := hl
  refine lv_iload_n hx hb dX9_about_0 rfl (lv_at hl 1 rfl) ?_
  rcases p1_sw9 a1 with rfl | rfl | rfl | rfl | rfl | rfl | rfl | rfl | rfl | rfl | hsw
  · refine lv_tableIn (tgt := 56) (off := 55) hx hb dX9_about_1 (by decide) (by decide) (by decide) (by decide) ?_
    refine lv_aload_n hx hb dX9_about_56 rfl (lv_at hl 0 rfl) ?_
    refine va_get (D := (dC, dI)) (ci := 8) (v := .ref kn) (C := RX9) (T := TX9) (N := 81) hx hb hts i_X9 hown hK hP 0 rfl rfl 11 (by decide) k_0 (fun _ h9 => h9) f_ms_11 dX9_about_57 ?_
    refine lv_aload_n hx hb dX9_about_60 rfl (lv_at hl 0 rfl) ?_
    refine va_get (D := (dC, dI)) (ci := 8) (v := .int 0) (C := RX9) (T := TX9) (N := 81) hx hb hts i_X9 hown hK hP 0 rfl rfl 43 (by decide) k_1 (fun _ h9 => h9) f_ms_43 dX9_about_61 ?_
    refine va_iald hx hb hK hP 1 0 rfl rfl (p1_in (i := 0) (n := 2) (by decide)) dX9_about_64 ?_
    refine lv_topi (fun v_1 ev_1 => ?_)
    obtain rfl : v_1 = 0 := ev_1.trans h_kf_0
    have hP9 := hP.sub (ws' := []) [] rfl
    have hD9 := hD.sub (ws' := []) [] (by decide) rfl
    have hK9 := hK.sub (tys' := []) [] rfl
    exact W.iret (v := 0) hx hb hr (fun t ht hW => ⟨⟨0, (), rfl, (by decide), by rw [ht]; exact hP9, va_K.moved hW.alike hK9, hD9⟩, hS.F ht⟩) hS.2.2 dX9_about_65
  · refine lv_tableIn (tgt := 66) (off := 65) hx hb dX9_about_1 (by decide) (by decide) (by decide) (by decide) ?_
    refine lv_aload_n hx hb dX9_about_66 rfl (lv_at hl 0 rfl) ?_
    refine va_get (D := (dC, dI)) (ci := 8) (v := .ref co) (C := RX9) (T := TX9) (N := 81) hx hb hts i_X9 hown hK hP 0 rfl rfl 12 (by decide) k_2 (fun _ h9 => h9) f_ms_12 dX9_about_67 ?_
    refine lv_aload_n hx hb dX9_about_70 rfl (lv_at hl 0 rfl) ?_
    refine va_get (D := (dC, dI)) (ci := 8) (v := .int 0) (C := RX9) (T := TX9) (N := 81) hx hb hts i_X9 hown hK hP 0 rfl rfl 43 (by decide) k_1 (fun _ h9 => h9) f_ms_43 dX9_about_71 ?_
    refine va_iald hx hb hK hP 2 1 rfl rfl (p1_in (i := 0) (n := 2) (by decide)) dX9_about_74 ?_
    refine lv_topi (fun v_2 ev_2 => ?_)
    obtain rfl : v_2 = 0 := ev_2.trans h_cf_0
    have hP9 := hP.sub (ws' := []) [] rfl
    have hD9 := hD.sub (ws' := []) [] (by decide) rfl
    have hK9 := hK.sub (tys' := []) [] rfl
    exact W.iret (v := 0) hx hb hr (fun t ht hW => ⟨⟨0, (), rfl, (by decide), by rw [ht]; exact hP9, va_K.moved hW.alike hK9, hD9⟩, hS.F ht⟩) hS.2.2 dX9_about_75
  · refine lv_tableIn (tgt := 76) (off := 75) hx hb dX9_about_1 (by decide) (by decide) (by decide) (by decide) ?_
    refine lv_aload_n hx hb dX9_about_76 rfl (lv_at hl 0 rfl) ?_
    refine va_get (D := (dC, dI)) (ci := 8) (v := .ref wa) (C := RX9) (T := TX9) (N := 81) hx hb hts i_X9 hown hK hP 0 rfl rfl 13 (by decide) k_3 (fun _ h9 => h9) f_ms_13 dX9_about_77 ?_
    refine lv_aload_n hx hb dX9_about_80 rfl (lv_at hl 0 rfl) ?_
    refine va_get (D := (dC, dI)) (ci := 8) (v := .int 0) (C := RX9) (T := TX9) (N := 81) hx hb hts i_X9 hown hK hP 0 rfl rfl 43 (by decide) k_1 (fun _ h9 => h9) f_ms_43 dX9_about_81 ?_
    refine va_iald hx hb hK hP 3 2 rfl rfl (p1_in (i := 0) (n := 2) (by decide)) dX9_about_84 ?_
    refine lv_topi (fun v_3 ev_3 => ?_)
    obtain rfl : v_3 = 0 := ev_3.trans h_wf_0
    have hP9 := hP.sub (ws' := []) [] rfl
    have hD9 := hD.sub (ws' := []) [] (by decide) rfl
    have hK9 := hK.sub (tys' := []) [] rfl
    exact W.iret (v := 0) hx hb hr (fun t ht hW => ⟨⟨0, (), rfl, (by decide), by rw [ht]; exact hP9, va_K.moved hW.alike hK9, hD9⟩, hS.F ht⟩) hS.2.2 dX9_about_85
  · refine lv_tableIn (tgt := 86) (off := 85) hx hb dX9_about_1 (by decide) (by decide) (by decide) (by decide) ?_
    refine lv_aload_n hx hb dX9_about_86 rfl (lv_at hl 0 rfl) ?_
    refine va_get (D := (dC, dI)) (ci := 8) (v := .ref la) (C := RX9) (T := TX9) (N := 81) hx hb hts i_X9 hown hK hP 0 rfl rfl 14 (by decide) k_4 (fun _ h9 => h9) f_ms_14 dX9_about_87 ?_
    refine lv_aload_n hx hb dX9_about_90 rfl (lv_at hl 0 rfl) ?_
    refine va_get (D := (dC, dI)) (ci := 8) (v := .int 0) (C := RX9) (T := TX9) (N := 81) hx hb hts i_X9 hown hK hP 0 rfl rfl 43 (by decide) k_1 (fun _ h9 => h9) f_ms_43 dX9_about_91 ?_
    refine va_iald hx hb hK hP 4 3 rfl rfl (p1_in (i := 0) (n := 2) (by decide)) dX9_about_94 ?_
    refine lv_topi (fun v_4 ev_4 => ?_)
    obtain rfl : v_4 = 0 := ev_4.trans h_lf_0
    have hP9 := hP.sub (ws' := []) [] rfl
    have hD9 := hD.sub (ws' := []) [] (by decide) rfl
    have hK9 := hK.sub (tys' := []) [] rfl
    exact W.iret (v := 0) hx hb hr (fun t ht hW => ⟨⟨0, (), rfl, (by decide), by rw [ht]; exact hP9, va_K.moved hW.alike hK9, hD9⟩, hS.F ht⟩) hS.2.2 dX9_about_95
  · refine lv_tableIn (tgt := 96) (off := 95) hx hb dX9_about_1 (by decide) (by decide) (by decide) (by decide) ?_
    refine lv_aload_n hx hb dX9_about_96 rfl (lv_at hl 0 rfl) ?_
    refine va_get (D := (dC, dI)) (ci := 8) (v := .ref wt) (C := RX9) (T := TX9) (N := 81) hx hb hts i_X9 hown hK hP 0 rfl rfl 15 (by decide) k_5 (fun _ h9 => h9) f_ms_15 dX9_about_97 ?_
    refine lv_aload_n hx hb dX9_about_100 rfl (lv_at hl 0 rfl) ?_
    refine va_get (D := (dC, dI)) (ci := 8) (v := .int 0) (C := RX9) (T := TX9) (N := 81) hx hb hts i_X9 hown hK hP 0 rfl rfl 43 (by decide) k_1 (fun _ h9 => h9) f_ms_43 dX9_about_101 ?_
    refine va_iald hx hb hK hP 5 4 rfl rfl (p1_in (i := 0) (n := 2) (by decide)) dX9_about_104 ?_
    refine lv_topi (fun v_5 ev_5 => ?_)
    obtain rfl : v_5 = 0 := ev_5.trans h_tf_0
    have hP9 := hP.sub (ws' := []) [] rfl
    have hD9 := hD.sub (ws' := []) [] (by decide) rfl
    have hK9 := hK.sub (tys' := []) [] rfl
    exact W.iret (v := 0) hx hb hr (fun t ht hW => ⟨⟨0, (), rfl, (by decide), by rw [ht]; exact hP9, va_K.moved hW.alike hK9, hD9⟩, hS.F ht⟩) hS.2.2 dX9_about_105
  · refine lv_tableIn (tgt := 106) (off := 105) hx hb dX9_about_1 (by decide) (by decide) (by decide) (by decide) ?_
    refine lv_aload_n hx hb dX9_about_106 rfl (lv_at hl 0 rfl) ?_
    refine va_get (D := (dC, dI)) (ci := 8) (v := .int 0) (C := RX9) (T := TX9) (N := 81) hx hb hts i_X9 hown hK hP 0 rfl rfl 75 (by decide) k_6 (fun _ h9 => h9) f_ms_75 dX9_about_107 ?_
    have hP9 := hP.sub (ws' := []) [] rfl
    have hD9 := hD.sub (ws' := []) [] (by decide) rfl
    have hK9 := hK.sub (tys' := []) [] rfl
    exact W.iret (v := 0) hx hb hr (fun t ht hW => ⟨⟨0, (), rfl, (by decide), by rw [ht]; exact hP9, va_K.moved hW.alike hK9, hD9⟩, hS.F ht⟩) hS.2.2 dX9_about_110
  · refine lv_tableIn (tgt := 111) (off := 110) hx hb dX9_about_1 (by decide) (by decide) (by decide) (by decide) ?_
    refine lv_aload_n hx hb dX9_about_111 rfl (lv_at hl 0 rfl) ?_
    refine va_get (D := (dC, dI)) (ci := 8) (v := .int 0) (C := RX9) (T := TX9) (N := 81) hx hb hts i_X9 hown hK hP 0 rfl rfl 76 (by decide) k_7 (fun _ h9 => h9) f_ms_76 dX9_about_112 ?_
    have hP9 := hP.sub (ws' := []) [] rfl
    have hD9 := hD.sub (ws' := []) [] (by decide) rfl
    have hK9 := hK.sub (tys' := []) [] rfl
    exact W.iret (v := 0) hx hb hr (fun t ht hW => ⟨⟨0, (), rfl, (by decide), by rw [ht]; exact hP9, va_K.moved hW.alike hK9, hD9⟩, hS.F ht⟩) hS.2.2 dX9_about_115
  · refine lv_tableIn (tgt := 116) (off := 115) hx hb dX9_about_1 (by decide) (by decide) (by decide) (by decide) ?_
    refine lv_aload_n hx hb dX9_about_116 rfl (lv_at hl 0 rfl) ?_
    refine va_get (D := (dC, dI)) (ci := 8) (v := .int 0) (C := RX9) (T := TX9) (N := 81) hx hb hts i_X9 hown hK hP 0 rfl rfl 2 (by decide) k_8 (fun _ h9 => h9) f_ms_2 dX9_about_117 ?_
    have hP9 := hP.sub (ws' := []) [] rfl
    have hD9 := hD.sub (ws' := []) [] (by decide) rfl
    have hK9 := hK.sub (tys' := []) [] rfl
    exact W.iret (v := 0) hx hb hr (fun t ht hW => ⟨⟨0, (), rfl, (by decide), by rw [ht]; exact hP9, va_K.moved hW.alike hK9, hD9⟩, hS.F ht⟩) hS.2.2 dX9_about_120
  · refine lv_tableIn (tgt := 121) (off := 120) hx hb dX9_about_1 (by decide) (by decide) (by decide) (by decide) ?_
    refine lv_aload_n hx hb dX9_about_121 rfl (lv_at hl 0 rfl) ?_
    refine va_get (D := (dC, dI)) (ci := 8) (v := .int 1) (C := RX9) (T := TX9) (N := 81) hx hb hts i_X9 hown hK hP 0 rfl rfl 65 (by decide) k_9 (fun _ h9 => h9) f_ms_65 dX9_about_122 ?_
    have hP9 := hP.sub (ws' := []) [] rfl
    have hD9 := hD.sub (ws' := []) [] (by decide) rfl
    have hK9 := hK.sub (tys' := []) [] rfl
    exact W.iret (v := 1) hx hb hr (fun t ht hW => ⟨⟨1, (), rfl, (by decide), by rw [ht]; exact hP9, va_K.moved hW.alike hK9, hD9⟩, hS.F ht⟩) hS.2.2 dX9_about_125
  · refine lv_tableIn (tgt := 126) (off := 125) hx hb dX9_about_1 (by decide) (by decide) (by decide) (by decide) ?_
    refine lv_aload_n hx hb dX9_about_126 rfl (lv_at hl 0 rfl) ?_
    refine va_get (D := (dC, dI)) (ci := 8) (v := .ref un) (C := RX9) (T := TX9) (N := 81) hx hb hts i_X9 hown hK hP 0 rfl rfl 18 (by decide) k_10 (fun _ h9 => h9) f_ms_18 dX9_about_127 ?_
    refine lv_aload_n hx hb dX9_about_130 rfl (lv_at hl 0 rfl) ?_
    refine va_get (D := (dC, dI)) (ci := 8) (v := .int 0) (C := RX9) (T := TX9) (N := 81) hx hb hts i_X9 hown hK hP 0 rfl rfl 43 (by decide) k_1 (fun _ h9 => h9) f_ms_43 dX9_about_131 ?_
    refine va_iald hx hb hK hP 6 5 rfl rfl (p1_in (i := 0) (n := 2) (by decide)) dX9_about_134 ?_
    refine lv_topi (fun v_6 ev_6 => ?_)
    obtain rfl : v_6 = 0 := ev_6.trans h_uf_0
    have hP9 := hP.sub (ws' := []) [] rfl
    have hD9 := hD.sub (ws' := []) [] (by decide) rfl
    have hK9 := hK.sub (tys' := []) [] rfl
    exact W.iret (v := 0) hx hb hr (fun t ht hW => ⟨⟨0, (), rfl, (by decide), by rw [ht]; exact hP9, va_K.moved hW.alike hK9, hD9⟩, hS.F ht⟩) hS.2.2 dX9_about_135
  · refine lv_tableOut (tgt := 136) hx hb dX9_about_1 hsw (by decide) ?_
    refine lv_iconst (v := (-1)) hx hb dX9_about_136 (by decide) ?_
    have hP9 := hP.sub (ws' := []) [] rfl
    have hD9 := hD.sub (ws' := []) [] (by decide) rfl
    have hK9 := hK.sub (tys' := []) [] rfl
    exact W.iret (v := (-1)) hx hb hr (fun t ht hW => ⟨⟨(-1), (), rfl, p1_about_out hsw, by rw [ht]; exact hP9, va_K.moved hW.alike hK9, hD9⟩, hS.F ht⟩) hS.2.2 dX9_about_137
def zo_m_back : List Cond := [.code yX9_back cX9_back 2 (some .int), .methodLink RX9 389 yX9_isIn, .static yX9_isIn, .initialized RX9, .fieldLink RX9 158 "BowWalkModel" "boxMany" "[I"]
def zw_m_back : List Cond := zo_m_back ++ (zw_c_isIn ++ (wsX90 ++ []))
theorem gz_m_back : zw_m_back.all goodWord = true := p1_ga (by decide +kernel) (p1_ga gz_c_isIn (p1_ga gk_X9 p1_g0))
theorem iz_m_back : ∀ w ∈ zw_m_back, w ∈ lw_tbl := p1_ia (p1_all [1684, 1439, 1440, 116, 1115] (by decide +kernel)) (p1_ia iz_c_isIn (p1_ia ik_X9 p1_i0))
set_option maxHeartbeats 4000000 in
set_option maxRecDepth 100000 in
theorem m_back (l : Launch) (dC : Nat → ClassId) (dI : Nat → Nat → Nat) (sz : Nat) (mo : Nat) (ms : List Value) (bm : Nat) (cB : ClassId) (bmf : Nat → Int32) (a1 : Int32) (f_ms_78 : ms[78]? = some (.ref bm)) (h_bmf_0 : bmf 0 = (-1)) (h_bmf_1 : bmf 1 = (-1)) (h_bmf_2 : bmf 2 = (-1)) (h_bmf_3 : bmf 3 = (-1)) : Met l yX9_back zw_m_back ({ frames := 1, cells := 0, slots := 0, locals := 22 }) (va_Pc [.ref mo, .int a1] (fun U => U.heap.size = sz ∧ va_P (dC, dI) vwCl [(mo, .inr (8, ms)), (bm, .inl (cB, 4, .inl bmf))] U.heap ∧ va_K (dC, dI) vwCl [(cB, .int)] U ∧ va_D (fun _ => True) [(mo, .inr (8, ms)), (bm, .inl (cB, 4, .inl bmf))])) (va_Qi (fun (r : Int32) (_ : Unit) => r = (-1)) (fun _ t => va_P (dC, dI) vwCl [] t.heap ∧ va_K (dC, dI) vwCl [] t ∧ va_D (va_A [(mo, .inr (8, ms)), (bm, .inl (cB, 4, .inl bmf))] sz) []) (va_A [(mo, .inr (8, ms)), (bm, .inl (cB, 4, .inl bmf))] sz)) 0 0 (va_A [(mo, .inr (8, ms)), (bm, .inl (cB, 4, .inl bmf))] sz) := by
  refine Met.ofW (cc := cX9_back) (maxL := 2) (ret := (some .int)) (by decide) rfl ?_
  intro p e s m args below meth c s₁ B hml hv
  obtain ⟨rfl, hsz, hP, hK, hD0⟩ := hv
  have hx := B.exec
  have hb := B.bytes
  have hr := B.returns
  have hts := atoms_spec (ws := zw_m_back) B.pre
  have hown : s.vm.findClass RX9 = some m.cls := findClass_of_methodNamed B.named
  have hlocks := B.notSynchronized
  subst hsz
  have hD := hD0.self (sz := s.heap.size)
  generalize hAe : va_A [(mo, .inr (8, ms)), (bm, .inl (cB, 4, .inl bmf))] s.heap.size = A at hD ⊢
  have hA : ∀ q : Nat, s.heap.size ≤ q → A q := fun q h => by rw [← hAe]; exact Or.inr h
  have hS : va_S A s.heap s.heap [] := va_S.rf
  have hP : va_P (dC, dI) vwCl [(mo, .inr (8, ms)), (bm, .inl (cB, 4, .inl bmf))] s.heap := hP
  have m_0 : (.methodLink RX9 389 yX9_isIn : Cond) ∈ zw_m_back := List.mem_append_left _ (List.mem_of_getElem? (i := 1) rfl)
  have k_0 := hts _ m_0
  have m_1 : (.static yX9_isIn : Cond) ∈ zw_m_back := List.mem_append_left _ (List.mem_of_getElem? (i := 2) rfl)
  have k_1 := hts _ m_1
  have m_2 : (.initialized RX9 : Cond) ∈ zw_m_back := List.mem_append_left _ (List.mem_of_getElem? (i := 3) rfl)
  have k_2 := hts _ m_2
  have m_3 : (.fieldLink RX9 158 "BowWalkModel" "boxMany" "[I" : Cond) ∈ zw_m_back := List.mem_append_left _ (List.mem_of_getElem? (i := 4) rfl)
  have k_3 := hts _ m_3
  have g_c_isIn : ∀ w ∈ zw_c_isIn, w ∈ zw_m_back := fun w h => List.mem_append_right _ (List.mem_append_left _ h)
  have i_X9 : ∀ w ∈ u_ws RX9 TX9 81, w ∈ zw_m_back := fun w h => List.mem_append_right _ (List.mem_append_right _ (List.mem_append_left _ h))
  have hl := lv_entry ([.ref mo, .int a1]) (n := 2) (Nat.le_of_ble_eq_true rfl)
  rw [lg_entry_eq]
  generalize (lg_sl ([.ref mo, .int a1]) ++ List.replicate (2 - (lg_sl ([.ref mo, .int a1])).length) Slot.unset).toArray = ls at hl ⊢
  have hl : lv_has ls 2 [(0, .ref mo), (1, .int a1)] := hl
  refine lv_iload_n hx hb dX9_back_0 rfl (lv_at hl 1 rfl) ?_
  refine lv_iconst (v := 0) hx hb dX9_back_1 (by decide) ?_
  refine lv_iconst (v := 2) hx hb dX9_back_2 (by decide) ?_
  have hPc := hP.sub (ws' := []) [] rfl
  have hDc := hD.sub (ws' := []) [] (by decide) rfl
  have hKc := hK.sub (tys' := []) [] rfl
  have hFc := va_free (wc := []) hD hS hA [] rfl
  refine va_calli (va_runS (As := [.int a1, .int 0, .int 2]) (rest := []) ⟨hx, hb, hml, hown, hts⟩ (c_isIn l dC dI s.heap.size a1 0 2) (va_cwS 3 hts (p1_gS m_0 m_1 m_2 g_c_isIn gz_c_isIn) rfl rfl rfl (by decide +kernel) ⟨by decide, by decide⟩) ⟨fun a U g mk q => by obtain ⟨q0, q1, qP, qK, qD⟩ := q; exact ⟨q0, q1, qP, va_K.moved (u := U) (U := U.calling g mk a) (Vm.Alike.refl U.vm) qK, qD⟩, fun U hU hW => ⟨rfl, by rw [hU], by rw [hU]; exact hPc, va_K.moved hW.alike hKc, hDc.weaken (fun _ _ _ _ => trivial)⟩⟩ rfl rfl hl.1 rfl (lv_room (Nat.le_of_ble_eq_true rfl)) dX9_back_3 ⟨by decide, by decide⟩) hS (fun q _ h => hFc q h) hFc (fun r_1 u t H1 locs ht hvm hw hB hz1 hk1 hS => ?_)
  obtain ⟨hP1, hK1, hD1⟩ := hB
  rw [ht] at hP1
  obtain ⟨hP, hD⟩ := va_join (wr := [(mo, .inr (8, ms)), (bm, .inl (cB, 4, .inl bmf))]) (w1 := []) hP hD [] [0, 1] rfl rfl (by decide) (by decide) hk1 hFc hP1 hD1
  generalize H1 = H at hP hS ⊢
  have hP : va_P (dC, dI) vwCl [(mo, .inr (8, ms)), (bm, .inl (cB, 4, .inl bmf))] H := hP
  have hD : va_D A [(mo, .inr (8, ms)), (bm, .inl (cB, 4, .inl bmf))] := hD
  try dsimp only at hw
  rcases hw with ⟨rfl, hw_2⟩ | ⟨rfl, hw_2⟩
  · refine lv_if_eq (tgt := 18) hx hb dX9_back_6 (by decide) (fun c9 => absurd c9 (by decide)) (fun _ => ?_)
    rcases p1_012 hw_2 with rfl | rfl | rfl
    · refine lv_aload_n hx hb dX9_back_9 rfl (lv_at hl 0 rfl) ?_
      refine va_get (D := (dC, dI)) (ci := 8) (v := .ref bm) (C := RX9) (T := TX9) (N := 81) hx hb hts i_X9 hown hK hP 0 rfl rfl 78 (by decide) k_3 (fun _ h9 => h9) f_ms_78 dX9_back_10 ?_
      refine lv_iload_n hx hb dX9_back_13 rfl (lv_at hl 1 rfl) ?_
      refine va_iald hx hb hK hP 1 0 rfl rfl (p1_in (i := 0) (n := 4) (by decide)) dX9_back_14 ?_
      refine lv_topi (fun v_3 ev_3 => ?_)
      obtain rfl : v_3 = (-1) := ev_3.trans h_bmf_0
      refine lv_if_ge (tgt := 20) hx hb dX9_back_15 (by decide) (fun c9 => absurd c9 (by decide)) (fun _ => ?_)
      refine lv_iconst (v := (-1)) hx hb dX9_back_18 (by decide) ?_
      have hP9 := hP.sub (ws' := []) [] rfl
      have hD9 := hD.sub (ws' := []) [] (by decide) rfl
      have hK9 := hK.sub (tys' := []) [] rfl
      exact W.iret (v := (-1)) hx hb hr (fun t ht hW => ⟨⟨(-1), (), rfl, rfl, by rw [ht]; exact hP9, va_K.moved hW.alike hK9, hD9⟩, hS.F ht⟩) hS.2.2 dX9_back_19
    · refine lv_aload_n hx hb dX9_back_9 rfl (lv_at hl 0 rfl) ?_
      refine va_get (D := (dC, dI)) (ci := 8) (v := .ref bm) (C := RX9) (T := TX9) (N := 81) hx hb hts i_X9 hown hK hP 0 rfl rfl 78 (by decide) k_3 (fun _ h9 => h9) f_ms_78 dX9_back_10 ?_
      refine lv_iload_n hx hb dX9_back_13 rfl (lv_at hl 1 rfl) ?_
      refine va_iald hx hb hK hP 1 0 rfl rfl (p1_in (i := 1) (n := 4) (by decide)) dX9_back_14 ?_
      refine lv_topi (fun v_4 ev_4 => ?_)
      obtain rfl : v_4 = (-1) := ev_4.trans h_bmf_1
      refine lv_if_ge (tgt := 20) hx hb dX9_back_15 (by decide) (fun c9 => absurd c9 (by decide)) (fun _ => ?_)
      refine lv_iconst (v := (-1)) hx hb dX9_back_18 (by decide) ?_
      have hP9 := hP.sub (ws' := []) [] rfl
      have hD9 := hD.sub (ws' := []) [] (by decide) rfl
      have hK9 := hK.sub (tys' := []) [] rfl
      exact W.iret (v := (-1)) hx hb hr (fun t ht hW => ⟨⟨(-1), (), rfl, rfl, by rw [ht]; exact hP9, va_K.moved hW.alike hK9, hD9⟩, hS.F ht⟩) hS.2.2 dX9_back_19
    · refine lv_aload_n hx hb dX9_back_9 rfl (lv_at hl 0 rfl) ?_
      refine va_get (D := (dC, dI)) (ci := 8) (v := .ref bm) (C := RX9) (T := TX9) (N := 81) hx hb hts i_X9 hown hK hP 0 rfl rfl 78 (by decide) k_3 (fun _ h9 => h9) f_ms_78 dX9_back_10 ?_
      refine lv_iload_n hx hb dX9_back_13 rfl (lv_at hl 1 rfl) ?_
      refine va_iald hx hb hK hP 1 0 rfl rfl (p1_in (i := 2) (n := 4) (by decide)) dX9_back_14 ?_
      refine lv_topi (fun v_5 ev_5 => ?_)
      obtain rfl : v_5 = (-1) := ev_5.trans h_bmf_2
      refine lv_if_ge (tgt := 20) hx hb dX9_back_15 (by decide) (fun c9 => absurd c9 (by decide)) (fun _ => ?_)
      refine lv_iconst (v := (-1)) hx hb dX9_back_18 (by decide) ?_
      have hP9 := hP.sub (ws' := []) [] rfl
      have hD9 := hD.sub (ws' := []) [] (by decide) rfl
      have hK9 := hK.sub (tys' := []) [] rfl
      exact W.iret (v := (-1)) hx hb hr (fun t ht hW => ⟨⟨(-1), (), rfl, rfl, by rw [ht]; exact hP9, va_K.moved hW.alike hK9, hD9⟩, hS.F ht⟩) hS.2.2 dX9_back_19
  · refine lv_if_eq (tgt := 18) hx hb dX9_back_6 (by decide) (fun _ => ?_) (fun c9 => absurd c9 (by decide))
    refine lv_iconst (v := (-1)) hx hb dX9_back_18 (by decide) ?_
    have hP9 := hP.sub (ws' := []) [] rfl
    have hD9 := hD.sub (ws' := []) [] (by decide) rfl
    have hK9 := hK.sub (tys' := []) [] rfl
    exact W.iret (v := (-1)) hx hb hr (fun t ht hW => ⟨⟨(-1), (), rfl, rfl, by rw [ht]; exact hP9, va_K.moved hW.alike hK9, hD9⟩, hS.F ht⟩) hS.2.2 dX9_back_19
def zo_m_fits : List Cond := [.code yX9_fits cX9_fits 5 (some .int), .methodLink RX9 524 yX9_lawMany, .instanceMethod yX9_lawMany, .selects RX9 yX9_lawMany yX9_lawMany, .initialized RX9, .fieldLink RX9 24 "BowWalkModel" "cords" "[I", .fieldLink RX9 291 "BowWalkModel" "bank" "I"]
def zw_m_fits : List Cond := zo_m_fits ++ (zw_c_lawMany ++ (wsX90 ++ []))
theorem gz_m_fits : zw_m_fits.all goodWord = true := p1_ga (by decide +kernel) (p1_ga gz_c_lawMany (p1_ga gk_X9 p1_g0))
theorem iz_m_fits : ∀ w ∈ zw_m_fits, w ∈ lw_tbl := p1_ia (p1_all [1647, 1648, 1650, 99, 116, 1049, 1080] (by decide +kernel)) (p1_ia iz_c_lawMany (p1_ia ik_X9 p1_i0))
set_option maxHeartbeats 4000000 in
set_option maxRecDepth 100000 in
theorem m_fits (l : Launch) (dC : Nat → ClassId) (dI : Nat → Nat → Nat) (sz : Nat) (mo : Nat) (ms : List Value) (la : Nat) (co : Nat) (cL : ClassId) (lf : Nat → Int32) (cC : ClassId) (cf : Nat → Int32) (a1 : Int32) (f_ms_14 : ms[14]? = some (.ref la)) (f_ms_12 : ms[12]? = some (.ref co)) (f_ms_43 : ms[43]? = some (.int 0)) (h_lf_0 : lf 0 = 0) (h_cf_0 : cf 0 = 0) : Met l yX9_fits zw_m_fits ({ frames := 1, cells := 0, slots := 0, locals := 20 }) (va_Pc [.ref mo, .int a1] (fun U => U.heap.size = sz ∧ va_P (dC, dI) vwCl [(mo, .inr (8, ms)), (la, .inl (cL, 2, .inl lf)), (co, .inl (cC, 2, .inl cf))] U.heap ∧ va_K (dC, dI) vwCl [(cL, .int), (cC, .int)] U ∧ va_D (fun _ => True) [(mo, .inr (8, ms)), (la, .inl (cL, 2, .inl lf)), (co, .inl (cC, 2, .inl cf))])) (va_Qi (fun (r : Int32) (_ : Unit) => r = 0) (fun _ t => va_P (dC, dI) vwCl [] t.heap ∧ va_K (dC, dI) vwCl [] t ∧ va_D (va_A [(mo, .inr (8, ms)), (la, .inl (cL, 2, .inl lf)), (co, .inl (cC, 2, .inl cf))] sz) []) (va_A [(mo, .inr (8, ms)), (la, .inl (cL, 2, .inl lf)), (co, .inl (cC, 2, .inl cf))] sz)) 0 0 (va_A [(mo, .inr (8, ms)), (la, .inl (cL, 2, .inl lf)), (co, .inl (cC, 2, .inl cf))] sz) := by
  refine Met.ofW (cc := cX9_fits) (maxL := 5) (ret := (some .int)) (by decide) rfl ?_
  intro p e s m args below meth c s₁ B hml hv
  obtain ⟨rfl, hsz, hP, hK, hD0⟩ := hv
  have hx := B.exec
  have hb := B.bytes
  have hr := B.returns
  have hts := atoms_spec (ws := zw_m_fits) B.pre
  have hown : s.vm.findClass RX9 = some m.cls := findClass_of_methodNamed B.named
  have hlocks := B.notSynchronized
  subst hsz
  have hD := hD0.self (sz := s.heap.size)
  generalize hAe : va_A [(mo, .inr (8, ms)), (la, .inl (cL, 2, .inl lf)), (co, .inl (cC, 2, .inl cf))] s.heap.size = A at hD ⊢
  have hA : ∀ q : Nat, s.heap.size ≤ q → A q := fun q h => by rw [← hAe]; exact Or.inr h
  have hS : va_S A s.heap s.heap [] := va_S.rf
  have hP : va_P (dC, dI) vwCl [(mo, .inr (8, ms)), (la, .inl (cL, 2, .inl lf)), (co, .inl (cC, 2, .inl cf))] s.heap := hP
  have m_0 : (.methodLink RX9 524 yX9_lawMany : Cond) ∈ zw_m_fits := List.mem_append_left _ (List.mem_of_getElem? (i := 1) rfl)
  have k_0 := hts _ m_0
  have m_1 : (.instanceMethod yX9_lawMany : Cond) ∈ zw_m_fits := List.mem_append_left _ (List.mem_of_getElem? (i := 2) rfl)
  have k_1 := hts _ m_1
  have m_2 : (.selects RX9 yX9_lawMany yX9_lawMany : Cond) ∈ zw_m_fits := List.mem_append_left _ (List.mem_of_getElem? (i := 3) rfl)
  have k_2 := hts _ m_2
  have m_3 : (.initialized RX9 : Cond) ∈ zw_m_fits := List.mem_append_left _ (List.mem_of_getElem? (i := 4) rfl)
  have k_3 := hts _ m_3
  have m_4 : (.fieldLink RX9 24 "BowWalkModel" "cords" "[I" : Cond) ∈ zw_m_fits := List.mem_append_left _ (List.mem_of_getElem? (i := 5) rfl)
  have k_4 := hts _ m_4
  have m_5 : (.fieldLink RX9 291 "BowWalkModel" "bank" "I" : Cond) ∈ zw_m_fits := List.mem_append_left _ (List.mem_of_getElem? (i := 6) rfl)
  have k_5 := hts _ m_5
  have g_c_lawMany : ∀ w ∈ zw_c_lawMany, w ∈ zw_m_fits := fun w h => List.mem_append_right _ (List.mem_append_left _ h)
  have i_X9 : ∀ w ∈ u_ws RX9 TX9 81, w ∈ zw_m_fits := fun w h => List.mem_append_right _ (List.mem_append_right _ (List.mem_append_left _ h))
  have hl := lv_entry ([.ref mo, .int a1]) (n := 5) (Nat.le_of_ble_eq_true rfl)
  rw [lg_entry_eq]
  generalize (lg_sl ([.ref mo, .int a1]) ++ List.replicate (5 - (lg_sl ([.ref mo, .int a1])).length) Slot.unset).toArray = ls at hl ⊢
  have hl : lv_has ls 5 [(0, .ref mo), (1, .int a1)] := hl
  refine lv_iconst (v := 0) hx hb dX9_fits_0 (by decide) ?_
  refine lv_istore_n (lv' := [(2, .int 0), (0, .ref mo), (1, .int a1)]) hx hb dX9_fits_1 rfl hl (by decide) rfl (fun ls hl => ?_)
  refine lv_iconst (v := 0) hx hb dX9_fits_2 (by decide) ?_
  refine lv_istore_n (lv' := [(3, .int 0), (2, .int 0), (0, .ref mo), (1, .int a1)]) hx hb dX9_fits_3 rfl hl (by decide) rfl (fun ls hl => ?_)
  refine lv_iload_n hx hb dX9_fits_4 rfl (lv_at hl 0 rfl) ?_
  refine lv_aload_n hx hb dX9_fits_5 rfl (lv_at hl 2 rfl) ?_
  have hPc := hP.sub (ws' := [(mo, .inr (8, ms)), (la, .inl (cL, 2, .inl lf))]) [0, 1] rfl
  have hDc := hD.sub (ws' := [(mo, .inr (8, ms)), (la, .inl (cL, 2, .inl lf))]) [0, 1] (by decide) rfl
  have hKc := hK.sub (tys' := [(cL, .int)]) [0] rfl
  have hFc := va_free (wc := [(mo, .inr (8, ms)), (la, .inl (cL, 2, .inl lf))]) hD hS hA [0, 1] rfl
  refine va_calli (va_runV (As := []) (rest := [.int 0]) ⟨hx, hb, hml, hown, hts⟩ (c_lawMany l dC dI s.heap.size mo ms la cL lf f_ms_14 f_ms_43 h_lf_0) (cwV 0 hts (p1_gV m_0 m_1 m_2 m_3 g_c_lawMany gz_c_lawMany) rfl rfl rfl (by decide +kernel) ⟨by decide, by decide⟩) ⟨fun a U g mk q => by obtain ⟨q0, q1, qP, qK, qD⟩ := q; exact ⟨q0, q1, qP, va_K.moved (u := U) (U := U.calling g mk a) (Vm.Alike.refl U.vm) qK, qD⟩, va_recv hKc hPc (ci := 8) (q0 := 0) rfl rfl, fun U hU hW => ⟨rfl, by rw [hU], by rw [hU]; exact hPc, va_K.moved hW.alike hKc, hDc.weaken (fun _ _ _ _ => trivial)⟩⟩ rfl rfl hl.1 rfl (lv_room (Nat.le_of_ble_eq_true rfl)) dX9_fits_6 ⟨by decide, by decide⟩) hS (fun q _ h => hFc q h) hFc (fun r_1 u t H1 locs ht hvm hw hB hz1 hk1 hS => ?_)
  obtain ⟨hP1, hK1, hD1⟩ := hB
  rw [ht] at hP1
  obtain ⟨hP, hD⟩ := va_join (wr := [(co, .inl (cC, 2, .inl cf))]) (w1 := [(mo, .inr (8, ms)), (la, .inl (cL, 2, .inl lf))]) hP hD [0, 1] [2] rfl rfl (by decide) (by decide) hk1 hFc hP1 hD1
  generalize H1 = H at hP hS ⊢
  have hP : va_P (dC, dI) vwCl [(co, .inl (cC, 2, .inl cf)), (mo, .inr (8, ms)), (la, .inl (cL, 2, .inl lf))] H := hP
  have hD : va_D A [(co, .inl (cC, 2, .inl cf)), (mo, .inr (8, ms)), (la, .inl (cL, 2, .inl lf))] := hD
  try dsimp only at hw
  obtain rfl : r_1 = 1 := hw
  refine lv_icmp_ge (tgt := 67) hx hb dX9_fits_9 (by decide) (fun c9 => absurd c9 (by decide)) (fun _ => ?_)
  refine lv_iconst (v := 0) hx hb dX9_fits_12 (by decide) ?_
  refine lv_istore (lv' := [(4, .int 0), (3, .int 0), (2, .int 0), (0, .ref mo), (1, .int a1)]) hx hb dX9_fits_13 hl (by decide) rfl (fun ls hl => ?_)
  refine lv_iload hx hb dX9_fits_15 (lv_at hl 0 rfl) ?_
  refine lv_aload_n hx hb dX9_fits_17 rfl (lv_at hl 3 rfl) ?_
  refine va_get (D := (dC, dI)) (ci := 8) (v := .ref co) (C := RX9) (T := TX9) (N := 81) hx hb hts i_X9 hown hK hP 1 rfl rfl 12 (by decide) k_4 (fun _ h9 => h9) f_ms_12 dX9_fits_18 ?_
  refine lv_aload_n hx hb dX9_fits_21 rfl (lv_at hl 3 rfl) ?_
  refine va_get (D := (dC, dI)) (ci := 8) (v := .int 0) (C := RX9) (T := TX9) (N := 81) hx hb hts i_X9 hown hK hP 1 rfl rfl 43 (by decide) k_5 (fun _ h9 => h9) f_ms_43 dX9_fits_22 ?_
  refine va_iald hx hb hK hP 0 1 rfl rfl (p1_in (i := 0) (n := 2) (by decide)) dX9_fits_25 ?_
  refine lv_topi (fun v_3 ev_3 => ?_)
  obtain rfl : v_3 = 0 := ev_3.trans h_cf_0
  refine lv_icmp_ge (tgt := 61) hx hb dX9_fits_26 (by decide) (fun _ => ?_) (fun c9 => absurd c9 (by decide))
  refine lv_iinc (v := 1) (lv' := [(3, .int 1), (4, .int 0), (2, .int 0), (0, .ref mo), (1, .int a1)]) hx hb dX9_fits_61 hl (k := 1) rfl (by decide) (by decide) rfl (fun ls hl => ?_)
  refine lv_goto (tgt := 4) hx hb dX9_fits_64 (by decide) ?_
  refine lv_iload_n hx hb dX9_fits_4 rfl (lv_at hl 0 rfl) ?_
  refine lv_aload_n hx hb dX9_fits_5 rfl (lv_at hl 3 rfl) ?_
  have hPc := hP.sub (ws' := [(mo, .inr (8, ms)), (la, .inl (cL, 2, .inl lf))]) [1, 2] rfl
  have hDc := hD.sub (ws' := [(mo, .inr (8, ms)), (la, .inl (cL, 2, .inl lf))]) [1, 2] (by decide) rfl
  have hKc := hK.sub (tys' := [(cL, .int)]) [0] rfl
  have hFc := va_free (wc := [(mo, .inr (8, ms)), (la, .inl (cL, 2, .inl lf))]) hD hS hA [1, 2] rfl
  refine va_calli (va_runV (As := []) (rest := [.int 1]) ⟨hx, hb, hml, hown, hts⟩ (c_lawMany l dC dI H.size mo ms la cL lf f_ms_14 f_ms_43 h_lf_0) (cwV 0 hts (p1_gV m_0 m_1 m_2 m_3 g_c_lawMany gz_c_lawMany) rfl rfl rfl (by decide +kernel) ⟨by decide, by decide⟩) ⟨fun a U g mk q => by obtain ⟨q0, q1, qP, qK, qD⟩ := q; exact ⟨q0, q1, qP, va_K.moved (u := U) (U := U.calling g mk a) (Vm.Alike.refl U.vm) qK, qD⟩, va_recv hKc hPc (ci := 8) (q0 := 0) rfl rfl, fun U hU hW => ⟨rfl, by rw [hU], by rw [hU]; exact hPc, va_K.moved hW.alike hKc, hDc.weaken (fun _ _ _ _ => trivial)⟩⟩ rfl rfl hl.1 rfl (lv_room (Nat.le_of_ble_eq_true rfl)) dX9_fits_6 ⟨by decide, by decide⟩) hS (fun q _ h => hFc q h) hFc (fun r_5 u t H1 locs ht hvm hw hB hz1 hk1 hS => ?_)
  obtain ⟨hP1, hK1, hD1⟩ := hB
  rw [ht] at hP1
  obtain ⟨hP, hD⟩ := va_join (wr := [(co, .inl (cC, 2, .inl cf))]) (w1 := [(mo, .inr (8, ms)), (la, .inl (cL, 2, .inl lf))]) hP hD [1, 2] [0] rfl rfl (by decide) (by decide) hk1 hFc hP1 hD1
  generalize H1 = H at hP hS ⊢
  have hP : va_P (dC, dI) vwCl [(co, .inl (cC, 2, .inl cf)), (mo, .inr (8, ms)), (la, .inl (cL, 2, .inl lf))] H := hP
  have hD : va_D A [(co, .inl (cC, 2, .inl cf)), (mo, .inr (8, ms)), (la, .inl (cL, 2, .inl lf))] := hD
  try dsimp only at hw
  obtain rfl : r_5 = 1 := hw
  refine lv_icmp_ge (tgt := 67) hx hb dX9_fits_9 (by decide) (fun _ => ?_) (fun c9 => absurd c9 (by decide))
  refine lv_iload_n hx hb dX9_fits_67 rfl (lv_at hl 2 rfl) ?_
  have hP9 := hP.sub (ws' := []) [] rfl
  have hD9 := hD.sub (ws' := []) [] (by decide) rfl
  have hK9 := hK.sub (tys' := []) [] rfl
  exact W.iret (v := 0) hx hb hr (fun t ht hW => ⟨⟨0, (), rfl, rfl, by rw [ht]; exact hP9, va_K.moved hW.alike hK9, hD9⟩, hS.F ht⟩) hS.2.2 dX9_fits_68
end
section
abbrev cX0_init : ByteArray := prog_2_method_1_code
def yX0_init : MethodName := ⟨RX0, "<init>", "()V"⟩
abbrev cX2_init : ByteArray := prog_4_method_1_code
def yX2_init : MethodName := ⟨RX2, "<init>", "()V"⟩
abbrev cX3_init : ByteArray := prog_5_method_1_code
def yX3_init : MethodName := ⟨RX3, "<init>", "()V"⟩
abbrev cX1_init : ByteArray := prog_3_method_1_code
def yX1_init : MethodName := ⟨RX1, "<init>", "()V"⟩
abbrev cX7_init : ByteArray := prog_9_method_1_code
def yX7_init : MethodName := ⟨RX7, "<init>", "()V"⟩
abbrev cX5_init : ByteArray := prog_7_method_1_code
def yX5_init : MethodName := ⟨RX5, "<init>", "()V"⟩
abbrev cJ0_coder_7d493 : ByteArray := prog_14_method_152_code
def yJ0_coder_7d493 : MethodName := ⟨RJ0, "coder", "()B"⟩
abbrev cJ0_length_8abf5 : ByteArray := prog_14_method_54_code
def yJ0_length_8abf5 : MethodName := ⟨RJ0, "length", "()I"⟩
abbrev cJ0_isLatin1_aae02 : ByteArray := prog_14_method_154_code
def yJ0_isLatin1_aae02 : MethodName := ⟨RJ0, "isLatin1", "()Z"⟩
abbrev cJ3_checkIndex_8e157 : ByteArray := prog_17_method_11_code
def yJ3_checkIndex_8e157 : MethodName := ⟨RJ3, "checkIndex", "(IILjava/util/function/BiFunction;)I"⟩
abbrev cJ0_checkIndex_df160 : ByteArray := prog_14_method_155_code
def yJ0_checkIndex_df160 : MethodName := ⟨RJ0, "checkIndex", "(II)V"⟩
abbrev cJ1_charAt_3b067 : ByteArray := prog_15_method_2_code
def yJ1_charAt_3b067 : MethodName := ⟨RJ1, "charAt", "([BI)C"⟩
abbrev cJ0_charAt_5068e : ByteArray := prog_14_method_56_code
def yJ0_charAt_5068e : MethodName := ⟨RJ0, "charAt", "(I)C"⟩
abbrev cX4_withLetter : ByteArray := prog_6_method_8_code
def yX4_withLetter : MethodName := ⟨RX4, "withLetter", "(JI)J"⟩
end
section
theorem dX0_init_0 : decode cX0_init 0 = .ok (.aload_n 0, 1) := by decide +kernel
theorem dX0_init_1 : decode cX0_init 1 = .ok (.invokespecial 3, 3) := by decide +kernel
theorem dX0_init_4 : decode cX0_init 4 = .ok (.aload_n 0, 1) := by decide +kernel
theorem dX0_init_5 : decode cX0_init 5 = .ok (.bipush 12, 2) := by decide +kernel
theorem dX0_init_7 : decode cX0_init 7 = .ok (.newarray .int, 2) := by decide +kernel
theorem dX0_init_9 : decode cX0_init 9 = .ok (.putfield 11, 3) := by decide +kernel
theorem dX0_init_12 : decode cX0_init 12 = .ok (.aload_n 0, 1) := by decide +kernel
theorem dX0_init_13 : decode cX0_init 13 = .ok (.iconst 2, 1) := by decide +kernel
theorem dX0_init_14 : decode cX0_init 14 = .ok (.newarray .int, 2) := by decide +kernel
theorem dX0_init_16 : decode cX0_init 16 = .ok (.putfield 17, 3) := by decide +kernel
theorem dX0_init_19 : decode cX0_init 19 = .ok (.aload_n 0, 1) := by decide +kernel
theorem dX0_init_20 : decode cX0_init 20 = .ok (.iconst 0, 1) := by decide +kernel
theorem dX0_init_21 : decode cX0_init 21 = .ok (.putfield 20, 3) := by decide +kernel
theorem dX0_init_24 : decode cX0_init 24 = .ok (.aload_n 0, 1) := by decide +kernel
theorem dX0_init_25 : decode cX0_init 25 = .ok (.iconst 0, 1) := by decide +kernel
theorem dX0_init_26 : decode cX0_init 26 = .ok (.putfield 24, 3) := by decide +kernel
theorem dX0_init_29 : decode cX0_init 29 = .ok (.aload_n 0, 1) := by decide +kernel
theorem dX0_init_30 : decode cX0_init 30 = .ok (.iconst 0, 1) := by decide +kernel
theorem dX0_init_31 : decode cX0_init 31 = .ok (.putfield 27, 3) := by decide +kernel
theorem dX0_init_34 : decode cX0_init 34 = .ok (.aload_n 0, 1) := by decide +kernel
theorem dX0_init_35 : decode cX0_init 35 = .ok (.iconst 0, 1) := by decide +kernel
theorem dX0_init_36 : decode cX0_init 36 = .ok (.putfield 30, 3) := by decide +kernel
theorem dX0_init_39 : decode cX0_init 39 = .ok (.aload_n 0, 1) := by decide +kernel
theorem dX0_init_40 : decode cX0_init 40 = .ok (.iconst (-1), 1) := by decide +kernel
theorem dX0_init_41 : decode cX0_init 41 = .ok (.putfield 33, 3) := by decide +kernel
theorem dX0_init_44 : decode cX0_init 44 = .ok (.aload_n 0, 1) := by decide +kernel
theorem dX0_init_45 : decode cX0_init 45 = .ok (.iconst 0, 1) := by decide +kernel
theorem dX0_init_46 : decode cX0_init 46 = .ok (.putfield 36, 3) := by decide +kernel
theorem dX0_init_49 : decode cX0_init 49 = .ok (.aload_n 0, 1) := by decide +kernel
theorem dX0_init_50 : decode cX0_init 50 = .ok (.iconst 0, 1) := by decide +kernel
theorem dX0_init_51 : decode cX0_init 51 = .ok (.putfield 39, 3) := by decide +kernel
theorem dX0_init_54 : decode cX0_init 54 = .ok (.aload_n 0, 1) := by decide +kernel
theorem dX0_init_55 : decode cX0_init 55 = .ok (.iconst 0, 1) := by decide +kernel
theorem dX0_init_56 : decode cX0_init 56 = .ok (.putfield 42, 3) := by decide +kernel
theorem dX0_init_59 : decode cX0_init 59 = .ok (.aload_n 0, 1) := by decide +kernel
theorem dX0_init_60 : decode cX0_init 60 = .ok (.iconst 0, 1) := by decide +kernel
theorem dX0_init_61 : decode cX0_init 61 = .ok (.putfield 45, 3) := by decide +kernel
theorem dX0_init_64 : decode cX0_init 64 = .ok (.aload_n 0, 1) := by decide +kernel
theorem dX0_init_65 : decode cX0_init 65 = .ok (.iconst 0, 1) := by decide +kernel
theorem dX0_init_66 : decode cX0_init 66 = .ok (.putfield 48, 3) := by decide +kernel
theorem dX0_init_69 : decode cX0_init 69 = .ok (.aload_n 0, 1) := by decide +kernel
theorem dX0_init_70 : decode cX0_init 70 = .ok (.iconst 0, 1) := by decide +kernel
theorem dX0_init_71 : decode cX0_init 71 = .ok (.putfield 51, 3) := by decide +kernel
theorem dX0_init_74 : decode cX0_init 74 = .ok (.aload_n 0, 1) := by decide +kernel
theorem dX0_init_75 : decode cX0_init 75 = .ok (.iconst 0, 1) := by decide +kernel
theorem dX0_init_76 : decode cX0_init 76 = .ok (.putfield 54, 3) := by decide +kernel
theorem dX0_init_79 : decode cX0_init 79 = .ok (.aload_n 0, 1) := by decide +kernel
theorem dX0_init_80 : decode cX0_init 80 = .ok (.iconst 0, 1) := by decide +kernel
theorem dX0_init_81 : decode cX0_init 81 = .ok (.putfield 57, 3) := by decide +kernel
theorem dX0_init_84 : decode cX0_init 84 = .ok (.return_, 1) := by decide +kernel
theorem dX2_init_0 : decode cX2_init 0 = .ok (.aload_n 0, 1) := by decide +kernel
theorem dX2_init_1 : decode cX2_init 1 = .ok (.invokespecial 1, 3) := by decide +kernel
theorem dX2_init_4 : decode cX2_init 4 = .ok (.aload_n 0, 1) := by decide +kernel
theorem dX2_init_5 : decode cX2_init 5 = .ok (.bipush 40, 2) := by decide +kernel
theorem dX2_init_7 : decode cX2_init 7 = .ok (.newarray .int, 2) := by decide +kernel
theorem dX2_init_9 : decode cX2_init 9 = .ok (.putfield 9, 3) := by decide +kernel
theorem dX2_init_12 : decode cX2_init 12 = .ok (.aload_n 0, 1) := by decide +kernel
theorem dX2_init_13 : decode cX2_init 13 = .ok (.bipush 40, 2) := by decide +kernel
theorem dX2_init_15 : decode cX2_init 15 = .ok (.newarray .int, 2) := by decide +kernel
theorem dX2_init_17 : decode cX2_init 17 = .ok (.putfield 13, 3) := by decide +kernel
theorem dX2_init_20 : decode cX2_init 20 = .ok (.aload_n 0, 1) := by decide +kernel
theorem dX2_init_21 : decode cX2_init 21 = .ok (.bipush 40, 2) := by decide +kernel
theorem dX2_init_23 : decode cX2_init 23 = .ok (.newarray .int, 2) := by decide +kernel
theorem dX2_init_25 : decode cX2_init 25 = .ok (.putfield 16, 3) := by decide +kernel
theorem dX2_init_28 : decode cX2_init 28 = .ok (.aload_n 0, 1) := by decide +kernel
theorem dX2_init_29 : decode cX2_init 29 = .ok (.bipush 40, 2) := by decide +kernel
theorem dX2_init_31 : decode cX2_init 31 = .ok (.newarray .int, 2) := by decide +kernel
theorem dX2_init_33 : decode cX2_init 33 = .ok (.putfield 19, 3) := by decide +kernel
theorem dX2_init_36 : decode cX2_init 36 = .ok (.aload_n 0, 1) := by decide +kernel
theorem dX2_init_37 : decode cX2_init 37 = .ok (.bipush 40, 2) := by decide +kernel
theorem dX2_init_39 : decode cX2_init 39 = .ok (.newarray .boolean, 2) := by decide +kernel
theorem dX2_init_41 : decode cX2_init 41 = .ok (.putfield 22, 3) := by decide +kernel
theorem dX2_init_44 : decode cX2_init 44 = .ok (.aload_n 0, 1) := by decide +kernel
theorem dX2_init_45 : decode cX2_init 45 = .ok (.bipush 40, 2) := by decide +kernel
theorem dX2_init_47 : decode cX2_init 47 = .ok (.newarray .int, 2) := by decide +kernel
theorem dX2_init_49 : decode cX2_init 49 = .ok (.putfield 26, 3) := by decide +kernel
theorem dX2_init_52 : decode cX2_init 52 = .ok (.aload_n 0, 1) := by decide +kernel
theorem dX2_init_53 : decode cX2_init 53 = .ok (.bipush 40, 2) := by decide +kernel
theorem dX2_init_55 : decode cX2_init 55 = .ok (.newarray .int, 2) := by decide +kernel
theorem dX2_init_57 : decode cX2_init 57 = .ok (.putfield 29, 3) := by decide +kernel
theorem dX2_init_60 : decode cX2_init 60 = .ok (.aload_n 0, 1) := by decide +kernel
theorem dX2_init_61 : decode cX2_init 61 = .ok (.iconst 0, 1) := by decide +kernel
theorem dX2_init_62 : decode cX2_init 62 = .ok (.putfield 32, 3) := by decide +kernel
theorem dX2_init_65 : decode cX2_init 65 = .ok (.return_, 1) := by decide +kernel
theorem dX3_init_0 : decode cX3_init 0 = .ok (.aload_n 0, 1) := by decide +kernel
theorem dX3_init_1 : decode cX3_init 1 = .ok (.invokespecial 1, 3) := by decide +kernel
theorem dX3_init_4 : decode cX3_init 4 = .ok (.aload_n 0, 1) := by decide +kernel
theorem dX3_init_5 : decode cX3_init 5 = .ok (.sipush 600, 3) := by decide +kernel
theorem dX3_init_8 : decode cX3_init 8 = .ok (.newarray .int, 2) := by decide +kernel
theorem dX3_init_10 : decode cX3_init 10 = .ok (.putfield 9, 3) := by decide +kernel
theorem dX3_init_13 : decode cX3_init 13 = .ok (.aload_n 0, 1) := by decide +kernel
theorem dX3_init_14 : decode cX3_init 14 = .ok (.bipush 6, 2) := by decide +kernel
theorem dX3_init_16 : decode cX3_init 16 = .ok (.newarray .int, 2) := by decide +kernel
theorem dX3_init_18 : decode cX3_init 18 = .ok (.putfield 15, 3) := by decide +kernel
theorem dX3_init_21 : decode cX3_init 21 = .ok (.aload_n 0, 1) := by decide +kernel
theorem dX3_init_22 : decode cX3_init 22 = .ok (.bipush 60, 2) := by decide +kernel
theorem dX3_init_24 : decode cX3_init 24 = .ok (.newarray .int, 2) := by decide +kernel
theorem dX3_init_26 : decode cX3_init 26 = .ok (.putfield 18, 3) := by decide +kernel
theorem dX3_init_29 : decode cX3_init 29 = .ok (.aload_n 0, 1) := by decide +kernel
theorem dX3_init_30 : decode cX3_init 30 = .ok (.iconst 0, 1) := by decide +kernel
theorem dX3_init_31 : decode cX3_init 31 = .ok (.putfield 21, 3) := by decide +kernel
theorem dX3_init_34 : decode cX3_init 34 = .ok (.aload_n 0, 1) := by decide +kernel
theorem dX3_init_35 : decode cX3_init 35 = .ok (.iconst 0, 1) := by decide +kernel
theorem dX3_init_36 : decode cX3_init 36 = .ok (.putfield 25, 3) := by decide +kernel
theorem dX3_init_39 : decode cX3_init 39 = .ok (.aload_n 0, 1) := by decide +kernel
theorem dX3_init_40 : decode cX3_init 40 = .ok (.iconst 0, 1) := by decide +kernel
theorem dX3_init_41 : decode cX3_init 41 = .ok (.putfield 28, 3) := by decide +kernel
theorem dX3_init_44 : decode cX3_init 44 = .ok (.return_, 1) := by decide +kernel
theorem dX1_init_0 : decode cX1_init 0 = .ok (.aload_n 0, 1) := by decide +kernel
theorem dX1_init_1 : decode cX1_init 1 = .ok (.invokespecial 1, 3) := by decide +kernel
theorem dX1_init_4 : decode cX1_init 4 = .ok (.aload_n 0, 1) := by decide +kernel
theorem dX1_init_5 : decode cX1_init 5 = .ok (.new 7, 3) := by decide +kernel
theorem dX1_init_8 : decode cX1_init 8 = .ok (.dup, 1) := by decide +kernel
theorem dX1_init_9 : decode cX1_init 9 = .ok (.invokespecial 9, 3) := by decide +kernel
theorem dX1_init_12 : decode cX1_init 12 = .ok (.putfield 10, 3) := by decide +kernel
theorem dX1_init_15 : decode cX1_init 15 = .ok (.aload_n 0, 1) := by decide +kernel
theorem dX1_init_16 : decode cX1_init 16 = .ok (.iconst 0, 1) := by decide +kernel
theorem dX1_init_17 : decode cX1_init 17 = .ok (.putfield 16, 3) := by decide +kernel
theorem dX1_init_20 : decode cX1_init 20 = .ok (.aload_n 0, 1) := by decide +kernel
theorem dX1_init_21 : decode cX1_init 21 = .ok (.iconst 0, 1) := by decide +kernel
theorem dX1_init_22 : decode cX1_init 22 = .ok (.putfield 20, 3) := by decide +kernel
theorem dX1_init_25 : decode cX1_init 25 = .ok (.return_, 1) := by decide +kernel
theorem dX7_init_0 : decode cX7_init 0 = .ok (.aload_n 0, 1) := by decide +kernel
theorem dX7_init_1 : decode cX7_init 1 = .ok (.invokespecial 3, 3) := by decide +kernel
theorem dX7_init_4 : decode cX7_init 4 = .ok (.aload_n 0, 1) := by decide +kernel
theorem dX7_init_5 : decode cX7_init 5 = .ok (.new 9, 3) := by decide +kernel
theorem dX7_init_8 : decode cX7_init 8 = .ok (.dup, 1) := by decide +kernel
theorem dX7_init_9 : decode cX7_init 9 = .ok (.invokespecial 11, 3) := by decide +kernel
theorem dX7_init_12 : decode cX7_init 12 = .ok (.putfield 12, 3) := by decide +kernel
theorem dX7_init_15 : decode cX7_init 15 = .ok (.aload_n 0, 1) := by decide +kernel
theorem dX7_init_16 : decode cX7_init 16 = .ok (.bipush 8, 2) := by decide +kernel
theorem dX7_init_18 : decode cX7_init 18 = .ok (.newarray .int, 2) := by decide +kernel
theorem dX7_init_20 : decode cX7_init 20 = .ok (.putfield 20, 3) := by decide +kernel
theorem dX7_init_23 : decode cX7_init 23 = .ok (.aload_n 0, 1) := by decide +kernel
theorem dX7_init_24 : decode cX7_init 24 = .ok (.bipush 8, 2) := by decide +kernel
theorem dX7_init_26 : decode cX7_init 26 = .ok (.newarray .int, 2) := by decide +kernel
theorem dX7_init_28 : decode cX7_init 28 = .ok (.putfield 24, 3) := by decide +kernel
theorem dX7_init_31 : decode cX7_init 31 = .ok (.aload_n 0, 1) := by decide +kernel
theorem dX7_init_32 : decode cX7_init 32 = .ok (.iconst 0, 1) := by decide +kernel
theorem dX7_init_33 : decode cX7_init 33 = .ok (.putfield 27, 3) := by decide +kernel
theorem dX7_init_36 : decode cX7_init 36 = .ok (.aload_n 0, 1) := by decide +kernel
theorem dX7_init_37 : decode cX7_init 37 = .ok (.iconst 0, 1) := by decide +kernel
theorem dX7_init_38 : decode cX7_init 38 = .ok (.putfield 31, 3) := by decide +kernel
theorem dX7_init_41 : decode cX7_init 41 = .ok (.aload_n 0, 1) := by decide +kernel
theorem dX7_init_42 : decode cX7_init 42 = .ok (.iconst 0, 1) := by decide +kernel
theorem dX7_init_43 : decode cX7_init 43 = .ok (.putfield 34, 3) := by decide +kernel
theorem dX7_init_46 : decode cX7_init 46 = .ok (.return_, 1) := by decide +kernel
theorem dX5_init_0 : decode cX5_init 0 = .ok (.aload_n 0, 1) := by decide +kernel
theorem dX5_init_1 : decode cX5_init 1 = .ok (.invokespecial 3, 3) := by decide +kernel
theorem dX5_init_4 : decode cX5_init 4 = .ok (.aload_n 0, 1) := by decide +kernel
theorem dX5_init_5 : decode cX5_init 5 = .ok (.iconst 5, 1) := by decide +kernel
theorem dX5_init_6 : decode cX5_init 6 = .ok (.newarray .int, 2) := by decide +kernel
theorem dX5_init_8 : decode cX5_init 8 = .ok (.putfield 9, 3) := by decide +kernel
theorem dX5_init_11 : decode cX5_init 11 = .ok (.aload_n 0, 1) := by decide +kernel
theorem dX5_init_12 : decode cX5_init 12 = .ok (.iconst 5, 1) := by decide +kernel
theorem dX5_init_13 : decode cX5_init 13 = .ok (.bipush 6, 2) := by decide +kernel
theorem dX5_init_15 : decode cX5_init 15 = .ok (.multianewarray 13 2, 4) := by decide +kernel
theorem dX5_init_19 : decode cX5_init 19 = .ok (.putfield 15, 3) := by decide +kernel
theorem dX5_init_22 : decode cX5_init 22 = .ok (.aload_n 0, 1) := by decide +kernel
theorem dX5_init_23 : decode cX5_init 23 = .ok (.bipush 6, 2) := by decide +kernel
theorem dX5_init_25 : decode cX5_init 25 = .ok (.newarray .int, 2) := by decide +kernel
theorem dX5_init_27 : decode cX5_init 27 = .ok (.putfield 18, 3) := by decide +kernel
theorem dX5_init_30 : decode cX5_init 30 = .ok (.aload_n 0, 1) := by decide +kernel
theorem dX5_init_31 : decode cX5_init 31 = .ok (.bipush 6, 2) := by decide +kernel
theorem dX5_init_33 : decode cX5_init 33 = .ok (.newarray .int, 2) := by decide +kernel
theorem dX5_init_35 : decode cX5_init 35 = .ok (.putfield 21, 3) := by decide +kernel
theorem dX5_init_38 : decode cX5_init 38 = .ok (.aload_n 0, 1) := by decide +kernel
theorem dX5_init_39 : decode cX5_init 39 = .ok (.iconst 4, 1) := by decide +kernel
theorem dX5_init_40 : decode cX5_init 40 = .ok (.newarray .int, 2) := by decide +kernel
theorem dX5_init_42 : decode cX5_init 42 = .ok (.putfield 24, 3) := by decide +kernel
theorem dX5_init_45 : decode cX5_init 45 = .ok (.aload_n 0, 1) := by decide +kernel
theorem dX5_init_46 : decode cX5_init 46 = .ok (.iconst 4, 1) := by decide +kernel
theorem dX5_init_47 : decode cX5_init 47 = .ok (.newarray .int, 2) := by decide +kernel
theorem dX5_init_49 : decode cX5_init 49 = .ok (.putfield 27, 3) := by decide +kernel
theorem dX5_init_52 : decode cX5_init 52 = .ok (.aload_n 0, 1) := by decide +kernel
theorem dX5_init_53 : decode cX5_init 53 = .ok (.iconst 4, 1) := by decide +kernel
theorem dX5_init_54 : decode cX5_init 54 = .ok (.newarray .int, 2) := by decide +kernel
theorem dX5_init_56 : decode cX5_init 56 = .ok (.putfield 30, 3) := by decide +kernel
theorem dX5_init_59 : decode cX5_init 59 = .ok (.aload_n 0, 1) := by decide +kernel
theorem dX5_init_60 : decode cX5_init 60 = .ok (.iconst 4, 1) := by decide +kernel
theorem dX5_init_61 : decode cX5_init 61 = .ok (.newarray .int, 2) := by decide +kernel
theorem dX5_init_63 : decode cX5_init 63 = .ok (.putfield 33, 3) := by decide +kernel
theorem dX5_init_66 : decode cX5_init 66 = .ok (.aload_n 0, 1) := by decide +kernel
theorem dX5_init_67 : decode cX5_init 67 = .ok (.iconst 4, 1) := by decide +kernel
theorem dX5_init_68 : decode cX5_init 68 = .ok (.bipush 8, 2) := by decide +kernel
theorem dX5_init_70 : decode cX5_init 70 = .ok (.multianewarray 36 2, 4) := by decide +kernel
theorem dX5_init_74 : decode cX5_init 74 = .ok (.putfield 38, 3) := by decide +kernel
theorem dX5_init_77 : decode cX5_init 77 = .ok (.aload_n 0, 1) := by decide +kernel
theorem dX5_init_78 : decode cX5_init 78 = .ok (.iconst 4, 1) := by decide +kernel
theorem dX5_init_79 : decode cX5_init 79 = .ok (.bipush 8, 2) := by decide +kernel
theorem dX5_init_81 : decode cX5_init 81 = .ok (.multianewarray 36 2, 4) := by decide +kernel
theorem dX5_init_85 : decode cX5_init 85 = .ok (.putfield 41, 3) := by decide +kernel
theorem dX5_init_88 : decode cX5_init 88 = .ok (.aload_n 0, 1) := by decide +kernel
theorem dX5_init_89 : decode cX5_init 89 = .ok (.iconst 4, 1) := by decide +kernel
theorem dX5_init_90 : decode cX5_init 90 = .ok (.newarray .int, 2) := by decide +kernel
theorem dX5_init_92 : decode cX5_init 92 = .ok (.putfield 44, 3) := by decide +kernel
theorem dX5_init_95 : decode cX5_init 95 = .ok (.aload_n 0, 1) := by decide +kernel
theorem dX5_init_96 : decode cX5_init 96 = .ok (.iconst 4, 1) := by decide +kernel
theorem dX5_init_97 : decode cX5_init 97 = .ok (.newarray .int, 2) := by decide +kernel
theorem dX5_init_99 : decode cX5_init 99 = .ok (.putfield 47, 3) := by decide +kernel
theorem dX5_init_102 : decode cX5_init 102 = .ok (.aload_n 0, 1) := by decide +kernel
theorem dX5_init_103 : decode cX5_init 103 = .ok (.new 50, 3) := by decide +kernel
theorem dX5_init_106 : decode cX5_init 106 = .ok (.dup, 1) := by decide +kernel
theorem dX5_init_107 : decode cX5_init 107 = .ok (.invokespecial 52, 3) := by decide +kernel
theorem dX5_init_110 : decode cX5_init 110 = .ok (.putfield 53, 3) := by decide +kernel
theorem dX5_init_113 : decode cX5_init 113 = .ok (.aload_n 0, 1) := by decide +kernel
theorem dX5_init_114 : decode cX5_init 114 = .ok (.iconst 2, 1) := by decide +kernel
theorem dX5_init_115 : decode cX5_init 115 = .ok (.newarray .int, 2) := by decide +kernel
theorem dX5_init_117 : decode cX5_init 117 = .ok (.dup, 1) := by decide +kernel
theorem dX5_init_118 : decode cX5_init 118 = .ok (.iconst 0, 1) := by decide +kernel
theorem dX5_init_119 : decode cX5_init 119 = .ok (.bipush 100, 2) := by decide +kernel
theorem dX5_init_121 : decode cX5_init 121 = .ok (.iastore, 1) := by decide +kernel
theorem dX5_init_122 : decode cX5_init 122 = .ok (.dup, 1) := by decide +kernel
theorem dX5_init_123 : decode cX5_init 123 = .ok (.iconst 1, 1) := by decide +kernel
theorem dX5_init_124 : decode cX5_init 124 = .ok (.iconst 0, 1) := by decide +kernel
theorem dX5_init_125 : decode cX5_init 125 = .ok (.iastore, 1) := by decide +kernel
theorem dX5_init_126 : decode cX5_init 126 = .ok (.putfield 57, 3) := by decide +kernel
theorem dX5_init_129 : decode cX5_init 129 = .ok (.aload_n 0, 1) := by decide +kernel
theorem dX5_init_130 : decode cX5_init 130 = .ok (.iconst 2, 1) := by decide +kernel
theorem dX5_init_131 : decode cX5_init 131 = .ok (.newarray .boolean, 2) := by decide +kernel
theorem dX5_init_133 : decode cX5_init 133 = .ok (.putfield 60, 3) := by decide +kernel
theorem dX5_init_136 : decode cX5_init 136 = .ok (.return_, 1) := by decide +kernel
theorem dJ0_coder_7d493_0 : decode cJ0_coder_7d493 0 = .ok (.getstatic 38, 3) := by decide +kernel
theorem dJ0_coder_7d493_3 : decode cJ0_coder_7d493 3 = .ok (.ifCond .eq 10, 3) := by decide +kernel
theorem dJ0_coder_7d493_6 : decode cJ0_coder_7d493 6 = .ok (.aload_n 0, 1) := by decide +kernel
theorem dJ0_coder_7d493_7 : decode cJ0_coder_7d493 7 = .ok (.getfield 15, 3) := by decide +kernel
theorem dJ0_coder_7d493_10 : decode cJ0_coder_7d493 10 = .ok (.goto 4, 3) := by decide +kernel
theorem dJ0_coder_7d493_14 : decode cJ0_coder_7d493 14 = .ok (.ireturn, 1) := by decide +kernel
theorem dJ0_length_8abf5_0 : decode cJ0_length_8abf5 0 = .ok (.aload_n 0, 1) := by decide +kernel
theorem dJ0_length_8abf5_1 : decode cJ0_length_8abf5 1 = .ok (.getfield 9, 3) := by decide +kernel
theorem dJ0_length_8abf5_4 : decode cJ0_length_8abf5 4 = .ok (.arraylength, 1) := by decide +kernel
theorem dJ0_length_8abf5_5 : decode cJ0_length_8abf5 5 = .ok (.aload_n 0, 1) := by decide +kernel
theorem dJ0_length_8abf5_6 : decode cJ0_length_8abf5 6 = .ok (.invokevirtual 335, 3) := by decide +kernel
theorem dJ0_length_8abf5_9 : decode cJ0_length_8abf5 9 = .ok (.ishr, 1) := by decide +kernel
theorem dJ0_length_8abf5_10 : decode cJ0_length_8abf5 10 = .ok (.ireturn, 1) := by decide +kernel
theorem dJ0_isLatin1_aae02_0 : decode cJ0_isLatin1_aae02 0 = .ok (.getstatic 38, 3) := by decide +kernel
theorem dJ0_isLatin1_aae02_3 : decode cJ0_isLatin1_aae02 3 = .ok (.ifCond .eq 14, 3) := by decide +kernel
theorem dJ0_isLatin1_aae02_6 : decode cJ0_isLatin1_aae02 6 = .ok (.aload_n 0, 1) := by decide +kernel
theorem dJ0_isLatin1_aae02_7 : decode cJ0_isLatin1_aae02 7 = .ok (.getfield 15, 3) := by decide +kernel
theorem dJ0_isLatin1_aae02_10 : decode cJ0_isLatin1_aae02 10 = .ok (.ifCond .ne 7, 3) := by decide +kernel
theorem dJ0_isLatin1_aae02_13 : decode cJ0_isLatin1_aae02 13 = .ok (.iconst 1, 1) := by decide +kernel
theorem dJ0_isLatin1_aae02_14 : decode cJ0_isLatin1_aae02 14 = .ok (.goto 4, 3) := by decide +kernel
theorem dJ0_isLatin1_aae02_18 : decode cJ0_isLatin1_aae02 18 = .ok (.ireturn, 1) := by decide +kernel
theorem dJ3_checkIndex_8e157_0 : decode cJ3_checkIndex_8e157 0 = .ok (.iload_n 0, 1) := by decide +kernel
theorem dJ3_checkIndex_8e157_1 : decode cJ3_checkIndex_8e157 1 = .ok (.ifCond .lt 8, 3) := by decide +kernel
theorem dJ3_checkIndex_8e157_4 : decode cJ3_checkIndex_8e157 4 = .ok (.iload_n 0, 1) := by decide +kernel
theorem dJ3_checkIndex_8e157_5 : decode cJ3_checkIndex_8e157 5 = .ok (.iload_n 1, 1) := by decide +kernel
theorem dJ3_checkIndex_8e157_6 : decode cJ3_checkIndex_8e157 6 = .ok (.if_icmp .lt 10, 3) := by decide +kernel
theorem dJ3_checkIndex_8e157_16 : decode cJ3_checkIndex_8e157 16 = .ok (.iload_n 0, 1) := by decide +kernel
theorem dJ3_checkIndex_8e157_17 : decode cJ3_checkIndex_8e157 17 = .ok (.ireturn, 1) := by decide +kernel
theorem dJ0_checkIndex_df160_0 : decode cJ0_checkIndex_df160 0 = .ok (.iload_n 0, 1) := by decide +kernel
theorem dJ0_checkIndex_df160_1 : decode cJ0_checkIndex_df160 1 = .ok (.iload_n 1, 1) := by decide +kernel
theorem dJ0_checkIndex_df160_2 : decode cJ0_checkIndex_df160 2 = .ok (.getstatic 1053, 3) := by decide +kernel
theorem dJ0_checkIndex_df160_5 : decode cJ0_checkIndex_df160 5 = .ok (.invokestatic 1059, 3) := by decide +kernel
theorem dJ0_checkIndex_df160_8 : decode cJ0_checkIndex_df160 8 = .ok (.pop, 1) := by decide +kernel
theorem dJ0_checkIndex_df160_9 : decode cJ0_checkIndex_df160 9 = .ok (.return_, 1) := by decide +kernel
theorem dJ1_charAt_3b067_0 : decode cJ1_charAt_3b067 0 = .ok (.iload_n 1, 1) := by decide +kernel
theorem dJ1_charAt_3b067_1 : decode cJ1_charAt_3b067 1 = .ok (.aload_n 0, 1) := by decide +kernel
theorem dJ1_charAt_3b067_2 : decode cJ1_charAt_3b067 2 = .ok (.arraylength, 1) := by decide +kernel
theorem dJ1_charAt_3b067_3 : decode cJ1_charAt_3b067 3 = .ok (.invokestatic 9, 3) := by decide +kernel
theorem dJ1_charAt_3b067_6 : decode cJ1_charAt_3b067 6 = .ok (.aload_n 0, 1) := by decide +kernel
theorem dJ1_charAt_3b067_7 : decode cJ1_charAt_3b067 7 = .ok (.iload_n 1, 1) := by decide +kernel
theorem dJ1_charAt_3b067_8 : decode cJ1_charAt_3b067 8 = .ok (.baload, 1) := by decide +kernel
theorem dJ1_charAt_3b067_9 : decode cJ1_charAt_3b067 9 = .ok (.sipush 255, 3) := by decide +kernel
theorem dJ1_charAt_3b067_12 : decode cJ1_charAt_3b067 12 = .ok (.iand, 1) := by decide +kernel
theorem dJ1_charAt_3b067_13 : decode cJ1_charAt_3b067 13 = .ok (.i2c, 1) := by decide +kernel
theorem dJ1_charAt_3b067_14 : decode cJ1_charAt_3b067 14 = .ok (.ireturn, 1) := by decide +kernel
theorem dJ0_charAt_5068e_0 : decode cJ0_charAt_5068e 0 = .ok (.aload_n 0, 1) := by decide +kernel
theorem dJ0_charAt_5068e_1 : decode cJ0_charAt_5068e 1 = .ok (.invokevirtual 492, 3) := by decide +kernel
theorem dJ0_charAt_5068e_4 : decode cJ0_charAt_5068e 4 = .ok (.ifCond .eq 12, 3) := by decide +kernel
theorem dJ0_charAt_5068e_7 : decode cJ0_charAt_5068e 7 = .ok (.aload_n 0, 1) := by decide +kernel
theorem dJ0_charAt_5068e_8 : decode cJ0_charAt_5068e 8 = .ok (.getfield 9, 3) := by decide +kernel
theorem dJ0_charAt_5068e_11 : decode cJ0_charAt_5068e 11 = .ok (.iload_n 1, 1) := by decide +kernel
theorem dJ0_charAt_5068e_12 : decode cJ0_charAt_5068e 12 = .ok (.invokestatic 495, 3) := by decide +kernel
theorem dJ0_charAt_5068e_15 : decode cJ0_charAt_5068e 15 = .ok (.ireturn, 1) := by decide +kernel
theorem dX4_withLetter_0 : decode cX4_withLetter 0 = .ok (.ldc2_w 120, 3) := by decide +kernel
theorem dX4_withLetter_3 : decode cX4_withLetter 3 = .ok (.lload_n 0, 1) := by decide +kernel
theorem dX4_withLetter_4 : decode cX4_withLetter 4 = .ok (.lmul, 1) := by decide +kernel
theorem dX4_withLetter_5 : decode cX4_withLetter 5 = .ok (.iload_n 2, 1) := by decide +kernel
theorem dX4_withLetter_6 : decode cX4_withLetter 6 = .ok (.bipush 97, 2) := by decide +kernel
theorem dX4_withLetter_8 : decode cX4_withLetter 8 = .ok (.isub, 1) := by decide +kernel
theorem dX4_withLetter_9 : decode cX4_withLetter 9 = .ok (.iconst 1, 1) := by decide +kernel
theorem dX4_withLetter_10 : decode cX4_withLetter 10 = .ok (.iadd, 1) := by decide +kernel
theorem dX4_withLetter_11 : decode cX4_withLetter 11 = .ok (.i2l, 1) := by decide +kernel
theorem dX4_withLetter_12 : decode cX4_withLetter 12 = .ok (.ladd, 1) := by decide +kernel
theorem dX4_withLetter_13 : decode cX4_withLetter 13 = .ok (.lreturn, 1) := by decide +kernel
end
section
/-- the words of the Statement that no list of words carries (nests, arrays over arrays), the String constant, the statics: what the constructors and shop() need of the start -/
def p1_tx : String := "knot cord walk law want tight like place smooth weight long strike swing luck over under rub pull holds or and not "
def p1_AO (ty : FieldType) (U : State) : Prop := (Cond.arrayOver ty).before #[] U = true
theorem p1_AO.use {ty : FieldType} {A : Array Value} {U : State} (h : p1_AO ty U) : (Cond.arrayOver ty).before A U = true := h
def p1_ex (A : Nat → Prop) (U : State) (H : Heap) : Prop := ∃ (sK sV ru pu : Nat) (sf rf pf : Nat → Int32),
  (va_Nw (.methodLinkNest RX4 43 yX5_init "BowWalk") U ∧ va_Nw (.methodLinkNest RX5 52 yX3_init "BowWalk") U ∧ va_Nw (.methodLinkNest RX8 22 yX0_init "BowWalk") U ∧ va_Nw (.methodLinkNest RX8 29 yX7_init "BowWalk") U ∧ va_Nw (.methodLinkNest RX7 11 yX0_init "BowWalk") U ∧ va_Nw (.methodLinkNest RX8 36 yX2_init "BowWalk") U ∧ va_Nw (.methodLinkNest RX8 59 yX5_init "BowWalk") U ∧ va_Nw (.methodLinkNest RX8 78 yX1_init "BowWalk") U ∧ va_Nw (.methodLinkNest RX1 9 yX0_init "BowWalk") U) ∧
  (p1_AO (.array .long) U ∧ p1_AO (.array .int) U ∧ va_AO RX1 U) ∧ vk_R RX4 54 p1_tx sK U ∧
  (va_O "java/lang/String" sK A U H ∧ va_OF "java/lang/String" "coder" "B" (.int 0) sK A U H ∧ va_OF "java/lang/String" "value" "[B" (.ref sV) sK A U H ∧ va_T .byte sV 115 (fun j => .int (sf j)) A U H) ∧
  va_Z "java/lang/String" "COMPACT_STRINGS" "Z" (.int 1) A U H ∧ va_Zq "jdk/internal/util/Preconditions" "SIOOBE_FORMATTER" "Ljava/util/function/BiFunction;" A U H ∧
  (va_Z RX3 "UNTOLD_RUB" "[I" (.ref ru) A U H ∧ va_T .int ru 5 (fun j => .int (rf j)) A U H) ∧
  (va_Z RX3 "UNTOLD_PULL" "[I" (.ref pu) A U H ∧ va_T .int pu 7 (fun j => .int (pf j)) A U H)
theorem p1_aow {ty : FieldType} {u U : State} (hvm : u.vm.Alike U.vm) (h : p1_AO ty u) : p1_AO ty U := by
  have h1 : (Cond.arrayOver ty).before #[] (u.setVm U.vm) = true := by rw [Cond.arrayOver_setVmC hvm]; exact h
  exact h1
theorem p1_ex.warm {A B : Nat → Prop} {s U : State} {H : Heap} {locs : List Loc} (h : p1_ex A s s.heap) (hW : s.WarmedH U.vm) (hS : va_S A s.heap H locs) (hAB : ∀ q, B q → A q) : p1_ex B U H := by
  obtain ⟨sK, sV, ru, pu, sf, rf, pf, ⟨n1, n2, n3, n4, n5, n6, n7, n8, n9⟩, ⟨o1, o2, o3⟩, r1, ⟨t1, t2, t3, t4⟩, z1, z2, ⟨y1, y2⟩, ⟨w1, w2⟩⟩ := h
  have hq : ∀ a : Nat, a < s.heap.size → ¬ A a → H[a]? = s.heap[a]? := hS.2.1
  exact ⟨sK, sV, ru, pu, sf, rf, pf, ⟨n1.warmM hW, n2.warmM hW, n3.warmM hW, n4.warmM hW, n5.warmM hW, n6.warmM hW, n7.warmM hW, n8.warmM hW, n9.warmM hW⟩, ⟨p1_aow hW.alike o1, p1_aow hW.alike o2, o3.moved hW.alike⟩, r1.warm hW,
    ⟨((t1.kept hq).moved hW.alike).narrow hAB, ((t2.kept hq).moved hW.alike).narrow hAB, ((t3.kept hq).moved hW.alike).narrow hAB, ((t4.kept hq).moved hW.alike).narrow hAB⟩, ((z1.kept hq).moved hW.alike).narrow hAB, ((z2.kept hq).moved hW.alike).narrow hAB, ⟨((y1.kept hq).moved hW.alike).narrow hAB, ((y2.kept hq).moved hW.alike).narrow hAB⟩, ⟨((w1.kept hq).moved hW.alike).narrow hAB, ((w2.kept hq).moved hW.alike).narrow hAB⟩⟩
section PMNA
variable {p : Program} {l : Launch} {e : Env} {R : Room} {s : State} {m : MethodId} {args : Array Value} {below : List Frame} {meth : Method} {c : Code} {H : Heap} {locs : List Loc} {cells slots : Nat} {Q : State → Prop}
variable {cc : ByteArray} {pc : Nat} {ls : Array Slot} {rest : List Value} {D : va_G} {cl : List vw_C} {A : Nat → Prop} {ws : va_W} {H0 : Heap}
/-- new T[n][m], of which nothing is kept but its address -/
theorem p1_mna (hexec : p.tables.exec = Jvm.exec) (hb : c.code = cc) {own nm : String} {index : Nat} {ty : FieldType} (hown : s.vm.findClass own = some m.cls) (hnm : "[" ++ (FieldType.array ty).toString = nm) (hclink : (Cond.classLink own index nm).before args s = true) (hover : p1_AO (.array ty) s) (harr : (Cond.arrayClass ty).before args s = true)
    (hP : va_P D cl ws H) (hS : va_S A H0 H locs) {n k : Int32} {N' K' : Nat} (hn : ¬ n < 0) (hk : ¬ k < 0) (hN : n.toNatClampNeg = N') (hM : k.toNatClampNeg = K')
    (hb1 : N' * 4 ≤ 536870912) (hb2 : K' * componentBytes ty ≤ 536870912) (hb3 : K' ≤ 536870912) (hdf : fits ty (defaultValue ty) = true) (hdd : (defaultValue ty).isDefault = true) (hcells : cells + (1 + N') ≤ R.cells) (hslots : slots + (N' + N' * K') ≤ R.slots) (hdg : decode cc pc = .ok (.multianewarray index 2, 4))
    (kk : ∀ (q : Nat) (H1 : Heap), va_P D cl ws H1 → va_S A H0 H1 locs → W p l e R s m args below meth c H1 locs (cells + 1 + N') (slots + N' + N' * K') Q (F0 m (pc + 4) ls (.ref q :: rest))) : W p l e R s m args below meth c H locs cells slots Q (F0 m pc ls (.int k :: .int n :: rest)) := by
  subst hN
  subst hM
  subst hnm
  intro T hT Xs
  obtain ⟨vm₁, cA, comp, -, fA, fC, hO, -, X', step⟩ := Xs.multianewarray2F hexec hown hclink (p1_AO.use hover) harr (g := F0 m pc ls (.int k :: .int n :: rest)) rfl (by rw [hb]; exact hdg) rfl hn hk hb1 hb2 hb3 hdf hdd hcells hslots
  generalize hF : Jvm.Free.Multi.fill (T.setVm vm₁) cA comp n.toNatClampNeg k.toNatClampNeg (defaultValue ty) n.toNatClampNeg = F at X' step
  have hTh : (T.setVm vm₁).heap = H := hT
  obtain ⟨f1, f2, -, -⟩ := Jvm.Free.Multi.fill_facts (T.setVm vm₁) cA comp n.toNatClampNeg k.toNatClampNeg (defaultValue ty) n.toNatClampNeg
  rw [hF, hTh] at f1
  have hold : ∀ x : Nat, x < H.size → F.heap[x]? = H[x]? := fun x hx => by
    have := Jvm.Free.Multi.fill_old (T.setVm vm₁) cA comp n.toNatClampNeg k.toNatClampNeg (defaultValue ty) (a := x) (by rw [hTh]; exact hx) n.toNatClampNeg
    rw [hF, hTh] at this
    exact this
  obtain ⟨t, a1, b1⟩ := kk H.size F.heap (hP.kept (fun k9 x hx => hold x.1 ((hP k9 x hx).lt))) ⟨by rw [f1]; have := hS.1; omega, fun x h1 h2 => (hold x (Nat.lt_of_lt_of_le h1 hS.1)).trans (hS.2.1 x h1 h2), hS.2.2⟩ F rfl X'
  refine ⟨t, step t ?_, b1⟩
  have e : T.heap.size = H.size := by rw [hT]
  rw [e]
  exact a1
end PMNA
/-- the String constant alone: of its own methods -/
def p1_st (sK sV : Nat) (sf : Nat → Int32) (A : Nat → Prop) (U : State) (H : Heap) : Prop := va_O "java/lang/String" sK A U H ∧ va_OF "java/lang/String" "coder" "B" (.int 0) sK A U H ∧ va_OF "java/lang/String" "value" "[B" (.ref sV) sK A U H ∧ va_T .byte sV 115 (fun j => .int (sf j)) A U H ∧
  va_Z "java/lang/String" "COMPACT_STRINGS" "Z" (.int 1) A U H ∧ va_Zq "jdk/internal/util/Preconditions" "SIOOBE_FORMATTER" "Ljava/util/function/BiFunction;" A U H
theorem p1_st.warm {sK sV : Nat} {sf : Nat → Int32} {A B : Nat → Prop} {s U : State} {H : Heap} {locs : List Loc} (h : p1_st sK sV sf A s s.heap) (hW : s.WarmedH U.vm) (hS : va_S A s.heap H locs) (hAB : ∀ q, B q → A q) : p1_st sK sV sf B U H := by
  obtain ⟨t1, t2, t3, t4, z1, z2⟩ := h
  have hq : ∀ a : Nat, a < s.heap.size → ¬ A a → H[a]? = s.heap[a]? := hS.2.1
  exact ⟨((t1.kept hq).moved hW.alike).narrow hAB, ((t2.kept hq).moved hW.alike).narrow hAB, ((t3.kept hq).moved hW.alike).narrow hAB, ((t4.kept hq).moved hW.alike).narrow hAB, ((z1.kept hq).moved hW.alike).narrow hAB, ((z2.kept hq).moved hW.alike).narrow hAB⟩
theorem p1_recv {E : String} {t : Nat} {A : Nat → Prop} {s : State} {H : Heap} {locs : List Loc} (h : va_O E t A s s.heap) (hS : va_S A s.heap H locs) : ∃ cell : Cell, H[t]? = some cell ∧ cell.vm.isStatics = false ∧ s.vm.findClass E = some cell.cls := by
  obtain ⟨cell, h1, h2, h3, -⟩ := h.kept hS.2.1
  exact ⟨cell, h1, h2, h3⟩
theorem p1_115 {i : Int32} (h1 : ¬ i < 0) (h2 : i < 115) : vp_in i 115 := by
  rw [vp_in_iff]
  rw [Int32.lt_iff_toInt_lt] at h1 h2
  have e0 : (0 : Int32).toInt = 0 := by decide
  have e1 : (115 : Int32).toInt = 115 := by decide
  omega
end
section
def zo_n_Bow : List Cond := [.code yX0_init cX0_init 1 none, .methodLink RX0 3 objectInit, .instanceMethod objectInit, .code objectInit ⟨#[0xb1]⟩ 1 none, .arrayClass .int, .fieldLink RX0 11 "BowWalk$Bow" "tight" "[I", .fieldLink RX0 17 "BowWalk$Bow" "ends" "[I", .fieldLink RX0 20 "BowWalk$Bow" "crossings" "I", .fieldLink RX0 24 "BowWalk$Bow" "left" "I", .fieldLink RX0 27 "BowWalk$Bow" "steps" "I", .fieldLink RX0 30 "BowWalk$Bow" "slipped" "I", .fieldLink RX0 33 "BowWalk$Bow" "walk" "I", .fieldLink RX0 36 "BowWalk$Bow" "nextStep" "I", .fieldLink RX0 39 "BowWalk$Bow" "sides" "I", .fieldLink RX0 42 "BowWalk$Bow" "likes" "I", .fieldLink RX0 45 "BowWalk$Bow" "smooth" "I", .fieldLink RX0 48 "BowWalk$Bow" "weight" "I", .fieldLink RX0 51 "BowWalk$Bow" "length" "I", .fieldLink RX0 54 "BowWalk$Bow" "strike" "I", .fieldLink RX0 57 "BowWalk$Bow" "swing" "I"]
def zw_n_Bow : List Cond := zo_n_Bow ++ (wsX00 ++ [])
theorem gz_n_Bow : zw_n_Bow.all goodWord = true := p1_ga (by decide +kernel) (p1_ga gk_X0 p1_g0)
theorem iz_n_Bow : ∀ w ∈ zw_n_Bow, w ∈ lw_tbl := p1_ia (p1_all [348, 349, 126, 127, 173, 350, 352, 355, 357, 360, 362, 364, 366, 368, 369, 370, 371, 372, 373, 374] (by decide +kernel)) (p1_ia ik_X0 p1_i0)
set_option maxHeartbeats 4000000 in
set_option maxRecDepth 100000 in
theorem n_Bow (l : Launch) (dC : Nat → ClassId) (dI : Nat → Nat → Nat) (sz : Nat) (h0 : Nat) (fs : List Value) (l_fs : fs.length = 15) : Met l yX0_init zw_n_Bow ({ frames := 1, cells := 2, slots := 14, locals := 20 }) (va_Pc [.ref h0] (fun U => U.heap.size = sz ∧ va_P (dC, dI) vwCl [(h0, .inr (0, fs))] U.heap ∧ va_K (dC, dI) vwCl [] U ∧ va_D (fun _ => True) [(h0, .inr (0, fs))])) (va_Qv (fun (_ : Unit) => True) (fun _ t => va_P (dC, dI) vwCl [] t.heap ∧ va_K (dC, dI) vwCl [] t ∧ va_D (va_A [(h0, .inr (0, fs))] sz) []) (va_A [(h0, .inr (0, fs))] sz)) 2 14 (va_A [(h0, .inr (0, fs))] sz) := by
  refine Met.ofW (cc := cX0_init) (maxL := 1) (ret := none) (by decide) rfl ?_
  intro p e s m args below meth c s₁ B hml hv
  obtain ⟨rfl, hsz, hP, hK, hD0⟩ := hv
  have hx := B.exec
  have hb := B.bytes
  have hr := B.returns
  have hts := atoms_spec (ws := zw_n_Bow) B.pre
  have hown : s.vm.findClass RX0 = some m.cls := findClass_of_methodNamed B.named
  have hlocks := B.notSynchronized
  have hin : meth.name = "<init>" := (name_of_methodNamed B.named B.method).1
  subst hsz
  have hD := hD0.self (sz := s.heap.size)
  generalize hAe : va_A [(h0, .inr (0, fs))] s.heap.size = A at hD ⊢
  have hA : ∀ q : Nat, s.heap.size ≤ q → A q := fun q h => by rw [← hAe]; exact Or.inr h
  have hS : va_S A s.heap s.heap [] := va_S.rf
  have hP : va_P (dC, dI) vwCl [(h0, .inr (0, fs))] s.heap := hP
  have m_0 : (.methodLink RX0 3 objectInit : Cond) ∈ zw_n_Bow := List.mem_append_left _ (List.mem_of_getElem? (i := 1) rfl)
  have k_0 := hts _ m_0
  have m_1 : (.instanceMethod objectInit : Cond) ∈ zw_n_Bow := List.mem_append_left _ (List.mem_of_getElem? (i := 2) rfl)
  have k_1 := hts _ m_1
  have m_2 : (.code objectInit ⟨#[0xb1]⟩ 1 none : Cond) ∈ zw_n_Bow := List.mem_append_left _ (List.mem_of_getElem? (i := 3) rfl)
  have k_2 := hts _ m_2
  have m_3 : (.arrayClass .int : Cond) ∈ zw_n_Bow := List.mem_append_left _ (List.mem_of_getElem? (i := 4) rfl)
  have k_3 := hts _ m_3
  have m_4 : (.fieldLink RX0 11 "BowWalk$Bow" "tight" "[I" : Cond) ∈ zw_n_Bow := List.mem_append_left _ (List.mem_of_getElem? (i := 5) rfl)
  have k_4 := hts _ m_4
  have m_5 : (.fieldLink RX0 17 "BowWalk$Bow" "ends" "[I" : Cond) ∈ zw_n_Bow := List.mem_append_left _ (List.mem_of_getElem? (i := 6) rfl)
  have k_5 := hts _ m_5
  have m_6 : (.fieldLink RX0 20 "BowWalk$Bow" "crossings" "I" : Cond) ∈ zw_n_Bow := List.mem_append_left _ (List.mem_of_getElem? (i := 7) rfl)
  have k_6 := hts _ m_6
  have m_7 : (.fieldLink RX0 24 "BowWalk$Bow" "left" "I" : Cond) ∈ zw_n_Bow := List.mem_append_left _ (List.mem_of_getElem? (i := 8) rfl)
  have k_7 := hts _ m_7
  have m_8 : (.fieldLink RX0 27 "BowWalk$Bow" "steps" "I" : Cond) ∈ zw_n_Bow := List.mem_append_left _ (List.mem_of_getElem? (i := 9) rfl)
  have k_8 := hts _ m_8
  have m_9 : (.fieldLink RX0 30 "BowWalk$Bow" "slipped" "I" : Cond) ∈ zw_n_Bow := List.mem_append_left _ (List.mem_of_getElem? (i := 10) rfl)
  have k_9 := hts _ m_9
  have m_10 : (.fieldLink RX0 33 "BowWalk$Bow" "walk" "I" : Cond) ∈ zw_n_Bow := List.mem_append_left _ (List.mem_of_getElem? (i := 11) rfl)
  have k_10 := hts _ m_10
  have m_11 : (.fieldLink RX0 36 "BowWalk$Bow" "nextStep" "I" : Cond) ∈ zw_n_Bow := List.mem_append_left _ (List.mem_of_getElem? (i := 12) rfl)
  have k_11 := hts _ m_11
  have m_12 : (.fieldLink RX0 39 "BowWalk$Bow" "sides" "I" : Cond) ∈ zw_n_Bow := List.mem_append_left _ (List.mem_of_getElem? (i := 13) rfl)
  have k_12 := hts _ m_12
  have m_13 : (.fieldLink RX0 42 "BowWalk$Bow" "likes" "I" : Cond) ∈ zw_n_Bow := List.mem_append_left _ (List.mem_of_getElem? (i := 14) rfl)
  have k_13 := hts _ m_13
  have m_14 : (.fieldLink RX0 45 "BowWalk$Bow" "smooth" "I" : Cond) ∈ zw_n_Bow := List.mem_append_left _ (List.mem_of_getElem? (i := 15) rfl)
  have k_14 := hts _ m_14
  have m_15 : (.fieldLink RX0 48 "BowWalk$Bow" "weight" "I" : Cond) ∈ zw_n_Bow := List.mem_append_left _ (List.mem_of_getElem? (i := 16) rfl)
  have k_15 := hts _ m_15
  have m_16 : (.fieldLink RX0 51 "BowWalk$Bow" "length" "I" : Cond) ∈ zw_n_Bow := List.mem_append_left _ (List.mem_of_getElem? (i := 17) rfl)
  have k_16 := hts _ m_16
  have m_17 : (.fieldLink RX0 54 "BowWalk$Bow" "strike" "I" : Cond) ∈ zw_n_Bow := List.mem_append_left _ (List.mem_of_getElem? (i := 18) rfl)
  have k_17 := hts _ m_17
  have m_18 : (.fieldLink RX0 57 "BowWalk$Bow" "swing" "I" : Cond) ∈ zw_n_Bow := List.mem_append_left _ (List.mem_of_getElem? (i := 19) rfl)
  have k_18 := hts _ m_18
  have i_X0 : ∀ w ∈ u_ws RX0 TX0 15, w ∈ zw_n_Bow := fun w h => List.mem_append_right _ (List.mem_append_left _ h)
  have hl := lv_entry ([.ref h0]) (n := 1) (Nat.le_of_ble_eq_true rfl)
  rw [lg_entry_eq]
  generalize (lg_sl ([.ref h0]) ++ List.replicate (1 - (lg_sl ([.ref h0])).length) Slot.unset).toArray = ls at hl ⊢
  have hl : lv_has ls 1 [(0, .ref h0)] := hl
  refine lv_aload_n hx hb dX0_init_0 rfl (lv_at hl 0 rfl) ?_
  refine W.objInit hx hb hown k_0 k_1 k_2 rfl (by rw [hml]; exact hl.1) rfl dX0_init_1 (Nat.le_of_ble_eq_true rfl) (Nat.le_of_ble_eq_true rfl) ?_
  refine W.eq (g2 := F0 m 4 ls []) rfl ?_
  refine lv_aload_n hx hb dX0_init_4 rfl (lv_at hl 0 rfl) ?_
  refine lv_bipush (v := 12) hx hb dX0_init_5 (by decide) ?_
  refine va_newa (atype := .int) (ty := .int) (N' := 12) (a0 := (12, .inl (fun _ => 0))) hx hb k_3 rfl hK hP hD hS hA (fun _ => rfl) (by decide) rfl (by decide) (by decide) (by decide) dX0_init_7 (fun q_1 cA_2 H hK hP hD hS => ?_)
  have hP : va_P (dC, dI) vwCl [(h0, .inr (0, fs)), (q_1, .inl (cA_2, 12, .inl (fun _ => 0)))] H := hP
  have hD : va_D A [(h0, .inr (0, fs)), (q_1, .inl (cA_2, 12, .inl (fun _ => 0)))] := hD
  have hK : va_K (dC, dI) vwCl [(cA_2, .int)] s := hK
  refine W.widen (k := 1) (n := 12) (by decide) (by decide) ?_
  refine va_putF (D := (dC, dI)) (ci := 0) (v := .ref q_1) (ty := .array .int) (C := RX0) (T := TX0) (N := 15) hx hb hts i_X0 tyX0 tyX0_ok nmX0 hown hK hP hD hS 0 rfl rfl 0 (by decide) k_4 (fun _ h9 => h9) rfl hin rfl (by decide +kernel) rfl rfl (by rw [l_fs]; decide) dX0_init_9 (fun H locs hP hD hS => ?_)
  have hP : va_P (dC, dI) vwCl [(h0, .inr (0, (fs.set 0 (.ref q_1)))), (q_1, .inl (cA_2, 12, .inl (fun _ => 0)))] H := hP
  have hD : va_D A [(h0, .inr (0, (fs.set 0 (.ref q_1)))), (q_1, .inl (cA_2, 12, .inl (fun _ => 0)))] := hD
  generalize efs_3 : (fs.set 0 (.ref q_1)) = fs_3 at hP hD
  have lfs_3 : fs_3.length = 15 := by rw [← efs_3, List.length_set]; exact l_fs
  have ffs_3_0 : fs_3[0]? = some (.ref q_1) := by rw [← efs_3]; exact p1_sa l_fs (by decide)
  have hP := hP.sub (ws' := [(h0, .inr (0, fs_3))]) [0] rfl
  have hD := hD.sub (ws' := [(h0, .inr (0, fs_3))]) [0] (by decide) rfl
  have hK := hK.sub (tys' := []) [] rfl
  refine lv_aload_n hx hb dX0_init_12 rfl (lv_at hl 0 rfl) ?_
  refine lv_iconst (v := 2) hx hb dX0_init_13 (by decide) ?_
  refine va_newa (atype := .int) (ty := .int) (N' := 2) (a0 := (2, .inl (fun _ => 0))) hx hb k_3 rfl hK hP hD hS hA (fun _ => rfl) (by decide) rfl (by decide) (by decide) (by decide) dX0_init_14 (fun q_4 cA_5 H hK hP hD hS => ?_)
  have hP : va_P (dC, dI) vwCl [(h0, .inr (0, fs_3)), (q_4, .inl (cA_5, 2, .inl (fun _ => 0)))] H := hP
  have hD : va_D A [(h0, .inr (0, fs_3)), (q_4, .inl (cA_5, 2, .inl (fun _ => 0)))] := hD
  have hK : va_K (dC, dI) vwCl [(cA_5, .int)] s := hK
  refine W.widen (k := 2) (n := 14) (by decide) (by decide) ?_
  refine va_putF (D := (dC, dI)) (ci := 0) (v := .ref q_4) (ty := .array .int) (C := RX0) (T := TX0) (N := 15) hx hb hts i_X0 tyX0 tyX0_ok nmX0 hown hK hP hD hS 0 rfl rfl 1 (by decide) k_5 (fun _ h9 => h9) rfl hin rfl (by decide +kernel) rfl rfl (by rw [lfs_3]; decide) dX0_init_16 (fun H locs hP hD hS => ?_)
  have hP : va_P (dC, dI) vwCl [(h0, .inr (0, (fs_3.set 1 (.ref q_4)))), (q_4, .inl (cA_5, 2, .inl (fun _ => 0)))] H := hP
  have hD : va_D A [(h0, .inr (0, (fs_3.set 1 (.ref q_4)))), (q_4, .inl (cA_5, 2, .inl (fun _ => 0)))] := hD
  generalize efs_6 : (fs_3.set 1 (.ref q_4)) = fs_6 at hP hD
  have lfs_6 : fs_6.length = 15 := by rw [← efs_6, List.length_set]; exact lfs_3
  have ffs_6_1 : fs_6[1]? = some (.ref q_4) := by rw [← efs_6]; exact p1_sa lfs_3 (by decide)
  have hP := hP.sub (ws' := [(h0, .inr (0, fs_6))]) [0] rfl
  have hD := hD.sub (ws' := [(h0, .inr (0, fs_6))]) [0] (by decide) rfl
  have hK := hK.sub (tys' := []) [] rfl
  refine lv_aload_n hx hb dX0_init_19 rfl (lv_at hl 0 rfl) ?_
  refine lv_iconst (v := 0) hx hb dX0_init_20 (by decide) ?_
  refine va_put (D := (dC, dI)) (ci := 0) (v := .int 0) (ty := .int) (C := RX0) (T := TX0) (N := 15) hx hb hts i_X0 tyX0 tyX0_ok nmX0 hown hK hP hD hS 0 rfl rfl 2 (by decide) k_6 (fun _ h9 => h9) rfl (by decide +kernel) rfl rfl (by rw [lfs_6]; decide) dX0_init_21 (fun H locs hP hD hS => ?_)
  have hP : va_P (dC, dI) vwCl [(h0, .inr (0, (fs_6.set 2 (.int 0))))] H := hP
  have hD : va_D A [(h0, .inr (0, (fs_6.set 2 (.int 0))))] := hD
  generalize efs_7 : (fs_6.set 2 (.int 0)) = fs_7 at hP hD
  have lfs_7 : fs_7.length = 15 := by rw [← efs_7, List.length_set]; exact lfs_6
  have ffs_7_2 : fs_7[2]? = some (.int 0) := by rw [← efs_7]; exact p1_sa lfs_6 (by decide)
  refine lv_aload_n hx hb dX0_init_24 rfl (lv_at hl 0 rfl) ?_
  refine lv_iconst (v := 0) hx hb dX0_init_25 (by decide) ?_
  refine va_put (D := (dC, dI)) (ci := 0) (v := .int 0) (ty := .int) (C := RX0) (T := TX0) (N := 15) hx hb hts i_X0 tyX0 tyX0_ok nmX0 hown hK hP hD hS 0 rfl rfl 3 (by decide) k_7 (fun _ h9 => h9) rfl (by decide +kernel) rfl rfl (by rw [lfs_7]; decide) dX0_init_26 (fun H locs hP hD hS => ?_)
  have hP : va_P (dC, dI) vwCl [(h0, .inr (0, (fs_7.set 3 (.int 0))))] H := hP
  have hD : va_D A [(h0, .inr (0, (fs_7.set 3 (.int 0))))] := hD
  generalize efs_8 : (fs_7.set 3 (.int 0)) = fs_8 at hP hD
  have lfs_8 : fs_8.length = 15 := by rw [← efs_8, List.length_set]; exact lfs_7
  have ffs_8_3 : fs_8[3]? = some (.int 0) := by rw [← efs_8]; exact p1_sa lfs_7 (by decide)
  refine lv_aload_n hx hb dX0_init_29 rfl (lv_at hl 0 rfl) ?_
  refine lv_iconst (v := 0) hx hb dX0_init_30 (by decide) ?_
  refine va_put (D := (dC, dI)) (ci := 0) (v := .int 0) (ty := .int) (C := RX0) (T := TX0) (N := 15) hx hb hts i_X0 tyX0 tyX0_ok nmX0 hown hK hP hD hS 0 rfl rfl 4 (by decide) k_8 (fun _ h9 => h9) rfl (by decide +kernel) rfl rfl (by rw [lfs_8]; decide) dX0_init_31 (fun H locs hP hD hS => ?_)
  have hP : va_P (dC, dI) vwCl [(h0, .inr (0, (fs_8.set 4 (.int 0))))] H := hP
  have hD : va_D A [(h0, .inr (0, (fs_8.set 4 (.int 0))))] := hD
  generalize efs_9 : (fs_8.set 4 (.int 0)) = fs_9 at hP hD
  have lfs_9 : fs_9.length = 15 := by rw [← efs_9, List.length_set]; exact lfs_8
  have ffs_9_4 : fs_9[4]? = some (.int 0) := by rw [← efs_9]; exact p1_sa lfs_8 (by decide)
  refine lv_aload_n hx hb dX0_init_34 rfl (lv_at hl 0 rfl) ?_
  refine lv_iconst (v := 0) hx hb dX0_init_35 (by decide) ?_
  refine va_put (D := (dC, dI)) (ci := 0) (v := .int 0) (ty := .int) (C := RX0) (T := TX0) (N := 15) hx hb hts i_X0 tyX0 tyX0_ok nmX0 hown hK hP hD hS 0 rfl rfl 5 (by decide) k_9 (fun _ h9 => h9) rfl (by decide +kernel) rfl rfl (by rw [lfs_9]; decide) dX0_init_36 (fun H locs hP hD hS => ?_)
  have hP : va_P (dC, dI) vwCl [(h0, .inr (0, (fs_9.set 5 (.int 0))))] H := hP
  have hD : va_D A [(h0, .inr (0, (fs_9.set 5 (.int 0))))] := hD
  generalize efs_10 : (fs_9.set 5 (.int 0)) = fs_10 at hP hD
  have lfs_10 : fs_10.length = 15 := by rw [← efs_10, List.length_set]; exact lfs_9
  have ffs_10_5 : fs_10[5]? = some (.int 0) := by rw [← efs_10]; exact p1_sa lfs_9 (by decide)
  refine lv_aload_n hx hb dX0_init_39 rfl (lv_at hl 0 rfl) ?_
  refine lv_iconst (v := (-1)) hx hb dX0_init_40 (by decide) ?_
  refine va_put (D := (dC, dI)) (ci := 0) (v := .int (-1)) (ty := .int) (C := RX0) (T := TX0) (N := 15) hx hb hts i_X0 tyX0 tyX0_ok nmX0 hown hK hP hD hS 0 rfl rfl 6 (by decide) k_10 (fun _ h9 => h9) rfl (by decide +kernel) rfl rfl (by rw [lfs_10]; decide) dX0_init_41 (fun H locs hP hD hS => ?_)
  have hP : va_P (dC, dI) vwCl [(h0, .inr (0, (fs_10.set 6 (.int (-1)))))] H := hP
  have hD : va_D A [(h0, .inr (0, (fs_10.set 6 (.int (-1)))))] := hD
  generalize efs_11 : (fs_10.set 6 (.int (-1))) = fs_11 at hP hD
  have lfs_11 : fs_11.length = 15 := by rw [← efs_11, List.length_set]; exact lfs_10
  have ffs_11_6 : fs_11[6]? = some (.int (-1)) := by rw [← efs_11]; exact p1_sa lfs_10 (by decide)
  refine lv_aload_n hx hb dX0_init_44 rfl (lv_at hl 0 rfl) ?_
  refine lv_iconst (v := 0) hx hb dX0_init_45 (by decide) ?_
  refine va_put (D := (dC, dI)) (ci := 0) (v := .int 0) (ty := .int) (C := RX0) (T := TX0) (N := 15) hx hb hts i_X0 tyX0 tyX0_ok nmX0 hown hK hP hD hS 0 rfl rfl 7 (by decide) k_11 (fun _ h9 => h9) rfl (by decide +kernel) rfl rfl (by rw [lfs_11]; decide) dX0_init_46 (fun H locs hP hD hS => ?_)
  have hP : va_P (dC, dI) vwCl [(h0, .inr (0, (fs_11.set 7 (.int 0))))] H := hP
  have hD : va_D A [(h0, .inr (0, (fs_11.set 7 (.int 0))))] := hD
  generalize efs_12 : (fs_11.set 7 (.int 0)) = fs_12 at hP hD
  have lfs_12 : fs_12.length = 15 := by rw [← efs_12, List.length_set]; exact lfs_11
  have ffs_12_7 : fs_12[7]? = some (.int 0) := by rw [← efs_12]; exact p1_sa lfs_11 (by decide)
  refine lv_aload_n hx hb dX0_init_49 rfl (lv_at hl 0 rfl) ?_
  refine lv_iconst (v := 0) hx hb dX0_init_50 (by decide) ?_
  refine va_put (D := (dC, dI)) (ci := 0) (v := .int 0) (ty := .int) (C := RX0) (T := TX0) (N := 15) hx hb hts i_X0 tyX0 tyX0_ok nmX0 hown hK hP hD hS 0 rfl rfl 8 (by decide) k_12 (fun _ h9 => h9) rfl (by decide +kernel) rfl rfl (by rw [lfs_12]; decide) dX0_init_51 (fun H locs hP hD hS => ?_)
  have hP : va_P (dC, dI) vwCl [(h0, .inr (0, (fs_12.set 8 (.int 0))))] H := hP
  have hD : va_D A [(h0, .inr (0, (fs_12.set 8 (.int 0))))] := hD
  generalize efs_13 : (fs_12.set 8 (.int 0)) = fs_13 at hP hD
  have lfs_13 : fs_13.length = 15 := by rw [← efs_13, List.length_set]; exact lfs_12
  have ffs_13_8 : fs_13[8]? = some (.int 0) := by rw [← efs_13]; exact p1_sa lfs_12 (by decide)
  refine lv_aload_n hx hb dX0_init_54 rfl (lv_at hl 0 rfl) ?_
  refine lv_iconst (v := 0) hx hb dX0_init_55 (by decide) ?_
  refine va_put (D := (dC, dI)) (ci := 0) (v := .int 0) (ty := .int) (C := RX0) (T := TX0) (N := 15) hx hb hts i_X0 tyX0 tyX0_ok nmX0 hown hK hP hD hS 0 rfl rfl 9 (by decide) k_13 (fun _ h9 => h9) rfl (by decide +kernel) rfl rfl (by rw [lfs_13]; decide) dX0_init_56 (fun H locs hP hD hS => ?_)
  have hP : va_P (dC, dI) vwCl [(h0, .inr (0, (fs_13.set 9 (.int 0))))] H := hP
  have hD : va_D A [(h0, .inr (0, (fs_13.set 9 (.int 0))))] := hD
  generalize efs_14 : (fs_13.set 9 (.int 0)) = fs_14 at hP hD
  have lfs_14 : fs_14.length = 15 := by rw [← efs_14, List.length_set]; exact lfs_13
  have ffs_14_9 : fs_14[9]? = some (.int 0) := by rw [← efs_14]; exact p1_sa lfs_13 (by decide)
  refine lv_aload_n hx hb dX0_init_59 rfl (lv_at hl 0 rfl) ?_
  refine lv_iconst (v := 0) hx hb dX0_init_60 (by decide) ?_
  refine va_put (D := (dC, dI)) (ci := 0) (v := .int 0) (ty := .int) (C := RX0) (T := TX0) (N := 15) hx hb hts i_X0 tyX0 tyX0_ok nmX0 hown hK hP hD hS 0 rfl rfl 10 (by decide) k_14 (fun _ h9 => h9) rfl (by decide +kernel) rfl rfl (by rw [lfs_14]; decide) dX0_init_61 (fun H locs hP hD hS => ?_)
  have hP : va_P (dC, dI) vwCl [(h0, .inr (0, (fs_14.set 10 (.int 0))))] H := hP
  have hD : va_D A [(h0, .inr (0, (fs_14.set 10 (.int 0))))] := hD
  generalize efs_15 : (fs_14.set 10 (.int 0)) = fs_15 at hP hD
  have lfs_15 : fs_15.length = 15 := by rw [← efs_15, List.length_set]; exact lfs_14
  have ffs_15_10 : fs_15[10]? = some (.int 0) := by rw [← efs_15]; exact p1_sa lfs_14 (by decide)
  refine lv_aload_n hx hb dX0_init_64 rfl (lv_at hl 0 rfl) ?_
  refine lv_iconst (v := 0) hx hb dX0_init_65 (by decide) ?_
  refine va_put (D := (dC, dI)) (ci := 0) (v := .int 0) (ty := .int) (C := RX0) (T := TX0) (N := 15) hx hb hts i_X0 tyX0 tyX0_ok nmX0 hown hK hP hD hS 0 rfl rfl 11 (by decide) k_15 (fun _ h9 => h9) rfl (by decide +kernel) rfl rfl (by rw [lfs_15]; decide) dX0_init_66 (fun H locs hP hD hS => ?_)
  have hP : va_P (dC, dI) vwCl [(h0, .inr (0, (fs_15.set 11 (.int 0))))] H := hP
  have hD : va_D A [(h0, .inr (0, (fs_15.set 11 (.int 0))))] := hD
  generalize efs_16 : (fs_15.set 11 (.int 0)) = fs_16 at hP hD
  have lfs_16 : fs_16.length = 15 := by rw [← efs_16, List.length_set]; exact lfs_15
  have ffs_16_11 : fs_16[11]? = some (.int 0) := by rw [← efs_16]; exact p1_sa lfs_15 (by decide)
  refine lv_aload_n hx hb dX0_init_69 rfl (lv_at hl 0 rfl) ?_
  refine lv_iconst (v := 0) hx hb dX0_init_70 (by decide) ?_
  refine va_put (D := (dC, dI)) (ci := 0) (v := .int 0) (ty := .int) (C := RX0) (T := TX0) (N := 15) hx hb hts i_X0 tyX0 tyX0_ok nmX0 hown hK hP hD hS 0 rfl rfl 12 (by decide) k_16 (fun _ h9 => h9) rfl (by decide +kernel) rfl rfl (by rw [lfs_16]; decide) dX0_init_71 (fun H locs hP hD hS => ?_)
  have hP : va_P (dC, dI) vwCl [(h0, .inr (0, (fs_16.set 12 (.int 0))))] H := hP
  have hD : va_D A [(h0, .inr (0, (fs_16.set 12 (.int 0))))] := hD
  generalize efs_17 : (fs_16.set 12 (.int 0)) = fs_17 at hP hD
  have lfs_17 : fs_17.length = 15 := by rw [← efs_17, List.length_set]; exact lfs_16
  have ffs_17_12 : fs_17[12]? = some (.int 0) := by rw [← efs_17]; exact p1_sa lfs_16 (by decide)
  refine lv_aload_n hx hb dX0_init_74 rfl (lv_at hl 0 rfl) ?_
  refine lv_iconst (v := 0) hx hb dX0_init_75 (by decide) ?_
  refine va_put (D := (dC, dI)) (ci := 0) (v := .int 0) (ty := .int) (C := RX0) (T := TX0) (N := 15) hx hb hts i_X0 tyX0 tyX0_ok nmX0 hown hK hP hD hS 0 rfl rfl 13 (by decide) k_17 (fun _ h9 => h9) rfl (by decide +kernel) rfl rfl (by rw [lfs_17]; decide) dX0_init_76 (fun H locs hP hD hS => ?_)
  have hP : va_P (dC, dI) vwCl [(h0, .inr (0, (fs_17.set 13 (.int 0))))] H := hP
  have hD : va_D A [(h0, .inr (0, (fs_17.set 13 (.int 0))))] := hD
  generalize efs_18 : (fs_17.set 13 (.int 0)) = fs_18 at hP hD
  have lfs_18 : fs_18.length = 15 := by rw [← efs_18, List.length_set]; exact lfs_17
  have ffs_18_13 : fs_18[13]? = some (.int 0) := by rw [← efs_18]; exact p1_sa lfs_17 (by decide)
  refine lv_aload_n hx hb dX0_init_79 rfl (lv_at hl 0 rfl) ?_
  refine lv_iconst (v := 0) hx hb dX0_init_80 (by decide) ?_
  refine va_put (D := (dC, dI)) (ci := 0) (v := .int 0) (ty := .int) (C := RX0) (T := TX0) (N := 15) hx hb hts i_X0 tyX0 tyX0_ok nmX0 hown hK hP hD hS 0 rfl rfl 14 (by decide) k_18 (fun _ h9 => h9) rfl (by decide +kernel) rfl rfl (by rw [lfs_18]; decide) dX0_init_81 (fun H locs hP hD hS => ?_)
  have hP : va_P (dC, dI) vwCl [(h0, .inr (0, (fs_18.set 14 (.int 0))))] H := hP
  have hD : va_D A [(h0, .inr (0, (fs_18.set 14 (.int 0))))] := hD
  generalize efs_19 : (fs_18.set 14 (.int 0)) = fs_19 at hP hD
  have lfs_19 : fs_19.length = 15 := by rw [← efs_19, List.length_set]; exact lfs_18
  have ffs_19_14 : fs_19[14]? = some (.int 0) := by rw [← efs_19]; exact p1_sa lfs_18 (by decide)
  have hP9 := hP.sub (ws' := []) [] rfl
  have hD9 := hD.sub (ws' := []) [] (by decide) rfl
  have hK9 := hK.sub (tys' := []) [] rfl
  exact W.vret hx hb hr (fun t ht hW => ⟨⟨(), rfl, trivial, by rw [ht]; exact hP9, va_K.moved hW.alike hK9, hD9⟩, hS.F ht⟩) hS.2.2 dX0_init_84
def zo_n_Films : List Cond := [.code yX2_init cX2_init 1 none, .methodLink RX2 1 objectInit, .instanceMethod objectInit, .code objectInit ⟨#[0xb1]⟩ 1 none, .arrayClass .int, .fieldLink RX2 9 "BowWalk$Films" "knot" "[I", .fieldLink RX2 13 "BowWalk$Films" "walk" "[I", .fieldLink RX2 16 "BowWalk$Films" "steps" "[I", .fieldLink RX2 19 "BowWalk$Films" "lets" "[I", .arrayClass .boolean, .fieldLink RX2 22 "BowWalk$Films" "untold" "[Z", .fieldLink RX2 26 "BowWalk$Films" "untoldAt" "[I", .fieldLink RX2 29 "BowWalk$Films" "toldAt" "[I", .fieldLink RX2 32 "BowWalk$Films" "count" "I"]
def zw_n_Films : List Cond := zo_n_Films ++ (wsX20 ++ [])
theorem gz_n_Films : zw_n_Films.all goodWord = true := p1_ga (by decide +kernel) (p1_ga gk_X2 p1_g0)
theorem iz_n_Films : ∀ w ∈ zw_n_Films, w ∈ lw_tbl := p1_ia (p1_all [441, 442, 126, 127, 173, 443, 445, 447, 449, 253, 451, 453, 455, 456] (by decide +kernel)) (p1_ia ik_X2 p1_i0)
set_option maxHeartbeats 4000000 in
set_option maxRecDepth 100000 in
theorem n_Films (l : Launch) (dC : Nat → ClassId) (dI : Nat → Nat → Nat) (sz : Nat) (h0 : Nat) (fs : List Value) (l_fs : fs.length = 8) : Met l yX2_init zw_n_Films ({ frames := 1, cells := 7, slots := 280, locals := 20 }) (va_Pc [.ref h0] (fun U => U.heap.size = sz ∧ va_P (dC, dI) vwCl [(h0, .inr (2, fs))] U.heap ∧ va_K (dC, dI) vwCl [] U ∧ va_D (fun _ => True) [(h0, .inr (2, fs))])) (va_Qv (fun (_ : Unit) => True) (fun _ t => ∃ (fo : List Value), fo[7]? = some (.int 0) ∧ va_P (dC, dI) vwCl [(h0, .inr (2, fo))] t.heap ∧ va_K (dC, dI) vwCl [] t ∧ va_D (va_A [(h0, .inr (2, fs))] sz) [(h0, .inr (2, fo))]) (va_A [(h0, .inr (2, fs))] sz)) 7 280 (va_A [(h0, .inr (2, fs))] sz) := by
  refine Met.ofW (cc := cX2_init) (maxL := 1) (ret := none) (by decide) rfl ?_
  intro p e s m args below meth c s₁ B hml hv
  obtain ⟨rfl, hsz, hP, hK, hD0⟩ := hv
  have hx := B.exec
  have hb := B.bytes
  have hr := B.returns
  have hts := atoms_spec (ws := zw_n_Films) B.pre
  have hown : s.vm.findClass RX2 = some m.cls := findClass_of_methodNamed B.named
  have hlocks := B.notSynchronized
  have hin : meth.name = "<init>" := (name_of_methodNamed B.named B.method).1
  subst hsz
  have hD := hD0.self (sz := s.heap.size)
  generalize hAe : va_A [(h0, .inr (2, fs))] s.heap.size = A at hD ⊢
  have hA : ∀ q : Nat, s.heap.size ≤ q → A q := fun q h => by rw [← hAe]; exact Or.inr h
  have hS : va_S A s.heap s.heap [] := va_S.rf
  have hP : va_P (dC, dI) vwCl [(h0, .inr (2, fs))] s.heap := hP
  have m_0 : (.methodLink RX2 1 objectInit : Cond) ∈ zw_n_Films := List.mem_append_left _ (List.mem_of_getElem? (i := 1) rfl)
  have k_0 := hts _ m_0
  have m_1 : (.instanceMethod objectInit : Cond) ∈ zw_n_Films := List.mem_append_left _ (List.mem_of_getElem? (i := 2) rfl)
  have k_1 := hts _ m_1
  have m_2 : (.code objectInit ⟨#[0xb1]⟩ 1 none : Cond) ∈ zw_n_Films := List.mem_append_left _ (List.mem_of_getElem? (i := 3) rfl)
  have k_2 := hts _ m_2
  have m_3 : (.arrayClass .int : Cond) ∈ zw_n_Films := List.mem_append_left _ (List.mem_of_getElem? (i := 4) rfl)
  have k_3 := hts _ m_3
  have m_4 : (.fieldLink RX2 9 "BowWalk$Films" "knot" "[I" : Cond) ∈ zw_n_Films := List.mem_append_left _ (List.mem_of_getElem? (i := 5) rfl)
  have k_4 := hts _ m_4
  have m_5 : (.fieldLink RX2 13 "BowWalk$Films" "walk" "[I" : Cond) ∈ zw_n_Films := List.mem_append_left _ (List.mem_of_getElem? (i := 6) rfl)
  have k_5 := hts _ m_5
  have m_6 : (.fieldLink RX2 16 "BowWalk$Films" "steps" "[I" : Cond) ∈ zw_n_Films := List.mem_append_left _ (List.mem_of_getElem? (i := 7) rfl)
  have k_6 := hts _ m_6
  have m_7 : (.fieldLink RX2 19 "BowWalk$Films" "lets" "[I" : Cond) ∈ zw_n_Films := List.mem_append_left _ (List.mem_of_getElem? (i := 8) rfl)
  have k_7 := hts _ m_7
  have m_8 : (.arrayClass .boolean : Cond) ∈ zw_n_Films := List.mem_append_left _ (List.mem_of_getElem? (i := 9) rfl)
  have k_8 := hts _ m_8
  have m_9 : (.fieldLink RX2 22 "BowWalk$Films" "untold" "[Z" : Cond) ∈ zw_n_Films := List.mem_append_left _ (List.mem_of_getElem? (i := 10) rfl)
  have k_9 := hts _ m_9
  have m_10 : (.fieldLink RX2 26 "BowWalk$Films" "untoldAt" "[I" : Cond) ∈ zw_n_Films := List.mem_append_left _ (List.mem_of_getElem? (i := 11) rfl)
  have k_10 := hts _ m_10
  have m_11 : (.fieldLink RX2 29 "BowWalk$Films" "toldAt" "[I" : Cond) ∈ zw_n_Films := List.mem_append_left _ (List.mem_of_getElem? (i := 12) rfl)
  have k_11 := hts _ m_11
  have m_12 : (.fieldLink RX2 32 "BowWalk$Films" "count" "I" : Cond) ∈ zw_n_Films := List.mem_append_left _ (List.mem_of_getElem? (i := 13) rfl)
  have k_12 := hts _ m_12
  have i_X2 : ∀ w ∈ u_ws RX2 TX2 8, w ∈ zw_n_Films := fun w h => List.mem_append_right _ (List.mem_append_left _ h)
  have hl := lv_entry ([.ref h0]) (n := 1) (Nat.le_of_ble_eq_true rfl)
  rw [lg_entry_eq]
  generalize (lg_sl ([.ref h0]) ++ List.replicate (1 - (lg_sl ([.ref h0])).length) Slot.unset).toArray = ls at hl ⊢
  have hl : lv_has ls 1 [(0, .ref h0)] := hl
  refine lv_aload_n hx hb dX2_init_0 rfl (lv_at hl 0 rfl) ?_
  refine W.objInit hx hb hown k_0 k_1 k_2 rfl (by rw [hml]; exact hl.1) rfl dX2_init_1 (Nat.le_of_ble_eq_true rfl) (Nat.le_of_ble_eq_true rfl) ?_
  refine W.eq (g2 := F0 m 4 ls []) rfl ?_
  refine lv_aload_n hx hb dX2_init_4 rfl (lv_at hl 0 rfl) ?_
  refine lv_bipush (v := 40) hx hb dX2_init_5 (by decide) ?_
  refine va_newa (atype := .int) (ty := .int) (N' := 40) (a0 := (40, .inl (fun _ => 0))) hx hb k_3 rfl hK hP hD hS hA (fun _ => rfl) (by decide) rfl (by decide) (by decide) (by decide) dX2_init_7 (fun q_1 cA_2 H hK hP hD hS => ?_)
  have hP : va_P (dC, dI) vwCl [(h0, .inr (2, fs)), (q_1, .inl (cA_2, 40, .inl (fun _ => 0)))] H := hP
  have hD : va_D A [(h0, .inr (2, fs)), (q_1, .inl (cA_2, 40, .inl (fun _ => 0)))] := hD
  have hK : va_K (dC, dI) vwCl [(cA_2, .int)] s := hK
  refine W.widen (k := 1) (n := 40) (by decide) (by decide) ?_
  refine va_putF (D := (dC, dI)) (ci := 2) (v := .ref q_1) (ty := .array .int) (C := RX2) (T := TX2) (N := 8) hx hb hts i_X2 tyX2 tyX2_ok nmX2 hown hK hP hD hS 0 rfl rfl 0 (by decide) k_4 (fun _ h9 => h9) rfl hin rfl (by decide +kernel) rfl rfl (by rw [l_fs]; decide) dX2_init_9 (fun H locs hP hD hS => ?_)
  have hP : va_P (dC, dI) vwCl [(h0, .inr (2, (fs.set 0 (.ref q_1)))), (q_1, .inl (cA_2, 40, .inl (fun _ => 0)))] H := hP
  have hD : va_D A [(h0, .inr (2, (fs.set 0 (.ref q_1)))), (q_1, .inl (cA_2, 40, .inl (fun _ => 0)))] := hD
  generalize efs_3 : (fs.set 0 (.ref q_1)) = fs_3 at hP hD
  have lfs_3 : fs_3.length = 8 := by rw [← efs_3, List.length_set]; exact l_fs
  have ffs_3_0 : fs_3[0]? = some (.ref q_1) := by rw [← efs_3]; exact p1_sa l_fs (by decide)
  have hP := hP.sub (ws' := [(h0, .inr (2, fs_3))]) [0] rfl
  have hD := hD.sub (ws' := [(h0, .inr (2, fs_3))]) [0] (by decide) rfl
  have hK := hK.sub (tys' := []) [] rfl
  refine lv_aload_n hx hb dX2_init_12 rfl (lv_at hl 0 rfl) ?_
  refine lv_bipush (v := 40) hx hb dX2_init_13 (by decide) ?_
  refine va_newa (atype := .int) (ty := .int) (N' := 40) (a0 := (40, .inl (fun _ => 0))) hx hb k_3 rfl hK hP hD hS hA (fun _ => rfl) (by decide) rfl (by decide) (by decide) (by decide) dX2_init_15 (fun q_4 cA_5 H hK hP hD hS => ?_)
  have hP : va_P (dC, dI) vwCl [(h0, .inr (2, fs_3)), (q_4, .inl (cA_5, 40, .inl (fun _ => 0)))] H := hP
  have hD : va_D A [(h0, .inr (2, fs_3)), (q_4, .inl (cA_5, 40, .inl (fun _ => 0)))] := hD
  have hK : va_K (dC, dI) vwCl [(cA_5, .int)] s := hK
  refine W.widen (k := 2) (n := 80) (by decide) (by decide) ?_
  refine va_putF (D := (dC, dI)) (ci := 2) (v := .ref q_4) (ty := .array .int) (C := RX2) (T := TX2) (N := 8) hx hb hts i_X2 tyX2 tyX2_ok nmX2 hown hK hP hD hS 0 rfl rfl 1 (by decide) k_5 (fun _ h9 => h9) rfl hin rfl (by decide +kernel) rfl rfl (by rw [lfs_3]; decide) dX2_init_17 (fun H locs hP hD hS => ?_)
  have hP : va_P (dC, dI) vwCl [(h0, .inr (2, (fs_3.set 1 (.ref q_4)))), (q_4, .inl (cA_5, 40, .inl (fun _ => 0)))] H := hP
  have hD : va_D A [(h0, .inr (2, (fs_3.set 1 (.ref q_4)))), (q_4, .inl (cA_5, 40, .inl (fun _ => 0)))] := hD
  generalize efs_6 : (fs_3.set 1 (.ref q_4)) = fs_6 at hP hD
  have lfs_6 : fs_6.length = 8 := by rw [← efs_6, List.length_set]; exact lfs_3
  have ffs_6_1 : fs_6[1]? = some (.ref q_4) := by rw [← efs_6]; exact p1_sa lfs_3 (by decide)
  have hP := hP.sub (ws' := [(h0, .inr (2, fs_6))]) [0] rfl
  have hD := hD.sub (ws' := [(h0, .inr (2, fs_6))]) [0] (by decide) rfl
  have hK := hK.sub (tys' := []) [] rfl
  refine lv_aload_n hx hb dX2_init_20 rfl (lv_at hl 0 rfl) ?_
  refine lv_bipush (v := 40) hx hb dX2_init_21 (by decide) ?_
  refine va_newa (atype := .int) (ty := .int) (N' := 40) (a0 := (40, .inl (fun _ => 0))) hx hb k_3 rfl hK hP hD hS hA (fun _ => rfl) (by decide) rfl (by decide) (by decide) (by decide) dX2_init_23 (fun q_7 cA_8 H hK hP hD hS => ?_)
  have hP : va_P (dC, dI) vwCl [(h0, .inr (2, fs_6)), (q_7, .inl (cA_8, 40, .inl (fun _ => 0)))] H := hP
  have hD : va_D A [(h0, .inr (2, fs_6)), (q_7, .inl (cA_8, 40, .inl (fun _ => 0)))] := hD
  have hK : va_K (dC, dI) vwCl [(cA_8, .int)] s := hK
  refine W.widen (k := 3) (n := 120) (by decide) (by decide) ?_
  refine va_putF (D := (dC, dI)) (ci := 2) (v := .ref q_7) (ty := .array .int) (C := RX2) (T := TX2) (N := 8) hx hb hts i_X2 tyX2 tyX2_ok nmX2 hown hK hP hD hS 0 rfl rfl 2 (by decide) k_6 (fun _ h9 => h9) rfl hin rfl (by decide +kernel) rfl rfl (by rw [lfs_6]; decide) dX2_init_25 (fun H locs hP hD hS => ?_)
  have hP : va_P (dC, dI) vwCl [(h0, .inr (2, (fs_6.set 2 (.ref q_7)))), (q_7, .inl (cA_8, 40, .inl (fun _ => 0)))] H := hP
  have hD : va_D A [(h0, .inr (2, (fs_6.set 2 (.ref q_7)))), (q_7, .inl (cA_8, 40, .inl (fun _ => 0)))] := hD
  generalize efs_9 : (fs_6.set 2 (.ref q_7)) = fs_9 at hP hD
  have lfs_9 : fs_9.length = 8 := by rw [← efs_9, List.length_set]; exact lfs_6
  have ffs_9_2 : fs_9[2]? = some (.ref q_7) := by rw [← efs_9]; exact p1_sa lfs_6 (by decide)
  have hP := hP.sub (ws' := [(h0, .inr (2, fs_9))]) [0] rfl
  have hD := hD.sub (ws' := [(h0, .inr (2, fs_9))]) [0] (by decide) rfl
  have hK := hK.sub (tys' := []) [] rfl
  refine lv_aload_n hx hb dX2_init_28 rfl (lv_at hl 0 rfl) ?_
  refine lv_bipush (v := 40) hx hb dX2_init_29 (by decide) ?_
  refine va_newa (atype := .int) (ty := .int) (N' := 40) (a0 := (40, .inl (fun _ => 0))) hx hb k_3 rfl hK hP hD hS hA (fun _ => rfl) (by decide) rfl (by decide) (by decide) (by decide) dX2_init_31 (fun q_10 cA_11 H hK hP hD hS => ?_)
  have hP : va_P (dC, dI) vwCl [(h0, .inr (2, fs_9)), (q_10, .inl (cA_11, 40, .inl (fun _ => 0)))] H := hP
  have hD : va_D A [(h0, .inr (2, fs_9)), (q_10, .inl (cA_11, 40, .inl (fun _ => 0)))] := hD
  have hK : va_K (dC, dI) vwCl [(cA_11, .int)] s := hK
  refine W.widen (k := 4) (n := 160) (by decide) (by decide) ?_
  refine va_putF (D := (dC, dI)) (ci := 2) (v := .ref q_10) (ty := .array .int) (C := RX2) (T := TX2) (N := 8) hx hb hts i_X2 tyX2 tyX2_ok nmX2 hown hK hP hD hS 0 rfl rfl 3 (by decide) k_7 (fun _ h9 => h9) rfl hin rfl (by decide +kernel) rfl rfl (by rw [lfs_9]; decide) dX2_init_33 (fun H locs hP hD hS => ?_)
  have hP : va_P (dC, dI) vwCl [(h0, .inr (2, (fs_9.set 3 (.ref q_10)))), (q_10, .inl (cA_11, 40, .inl (fun _ => 0)))] H := hP
  have hD : va_D A [(h0, .inr (2, (fs_9.set 3 (.ref q_10)))), (q_10, .inl (cA_11, 40, .inl (fun _ => 0)))] := hD
  generalize efs_12 : (fs_9.set 3 (.ref q_10)) = fs_12 at hP hD
  have lfs_12 : fs_12.length = 8 := by rw [← efs_12, List.length_set]; exact lfs_9
  have ffs_12_3 : fs_12[3]? = some (.ref q_10) := by rw [← efs_12]; exact p1_sa lfs_9 (by decide)
  have hP := hP.sub (ws' := [(h0, .inr (2, fs_12))]) [0] rfl
  have hD := hD.sub (ws' := [(h0, .inr (2, fs_12))]) [0] (by decide) rfl
  have hK := hK.sub (tys' := []) [] rfl
  refine lv_aload_n hx hb dX2_init_36 rfl (lv_at hl 0 rfl) ?_
  refine lv_bipush (v := 40) hx hb dX2_init_37 (by decide) ?_
  refine va_newa (atype := .boolean) (ty := .boolean) (N' := 40) (a0 := (40, .inl (fun _ => 0))) hx hb k_8 rfl hK hP hD hS hA (fun _ => rfl) (by decide) rfl (by decide) (by decide) (by decide) dX2_init_39 (fun q_13 cA_14 H hK hP hD hS => ?_)
  have hP : va_P (dC, dI) vwCl [(h0, .inr (2, fs_12)), (q_13, .inl (cA_14, 40, .inl (fun _ => 0)))] H := hP
  have hD : va_D A [(h0, .inr (2, fs_12)), (q_13, .inl (cA_14, 40, .inl (fun _ => 0)))] := hD
  have hK : va_K (dC, dI) vwCl [(cA_14, .boolean)] s := hK
  refine W.widen (k := 5) (n := 200) (by decide) (by decide) ?_
  refine va_putF (D := (dC, dI)) (ci := 2) (v := .ref q_13) (ty := .array .boolean) (C := RX2) (T := TX2) (N := 8) hx hb hts i_X2 tyX2 tyX2_ok nmX2 hown hK hP hD hS 0 rfl rfl 4 (by decide) k_9 (fun _ h9 => h9) rfl hin rfl (by decide +kernel) rfl rfl (by rw [lfs_12]; decide) dX2_init_41 (fun H locs hP hD hS => ?_)
  have hP : va_P (dC, dI) vwCl [(h0, .inr (2, (fs_12.set 4 (.ref q_13)))), (q_13, .inl (cA_14, 40, .inl (fun _ => 0)))] H := hP
  have hD : va_D A [(h0, .inr (2, (fs_12.set 4 (.ref q_13)))), (q_13, .inl (cA_14, 40, .inl (fun _ => 0)))] := hD
  generalize efs_15 : (fs_12.set 4 (.ref q_13)) = fs_15 at hP hD
  have lfs_15 : fs_15.length = 8 := by rw [← efs_15, List.length_set]; exact lfs_12
  have ffs_15_4 : fs_15[4]? = some (.ref q_13) := by rw [← efs_15]; exact p1_sa lfs_12 (by decide)
  have hP := hP.sub (ws' := [(h0, .inr (2, fs_15))]) [0] rfl
  have hD := hD.sub (ws' := [(h0, .inr (2, fs_15))]) [0] (by decide) rfl
  have hK := hK.sub (tys' := []) [] rfl
  refine lv_aload_n hx hb dX2_init_44 rfl (lv_at hl 0 rfl) ?_
  refine lv_bipush (v := 40) hx hb dX2_init_45 (by decide) ?_
  refine va_newa (atype := .int) (ty := .int) (N' := 40) (a0 := (40, .inl (fun _ => 0))) hx hb k_3 rfl hK hP hD hS hA (fun _ => rfl) (by decide) rfl (by decide) (by decide) (by decide) dX2_init_47 (fun q_16 cA_17 H hK hP hD hS => ?_)
  have hP : va_P (dC, dI) vwCl [(h0, .inr (2, fs_15)), (q_16, .inl (cA_17, 40, .inl (fun _ => 0)))] H := hP
  have hD : va_D A [(h0, .inr (2, fs_15)), (q_16, .inl (cA_17, 40, .inl (fun _ => 0)))] := hD
  have hK : va_K (dC, dI) vwCl [(cA_17, .int)] s := hK
  refine W.widen (k := 6) (n := 240) (by decide) (by decide) ?_
  refine va_putF (D := (dC, dI)) (ci := 2) (v := .ref q_16) (ty := .array .int) (C := RX2) (T := TX2) (N := 8) hx hb hts i_X2 tyX2 tyX2_ok nmX2 hown hK hP hD hS 0 rfl rfl 5 (by decide) k_10 (fun _ h9 => h9) rfl hin rfl (by decide +kernel) rfl rfl (by rw [lfs_15]; decide) dX2_init_49 (fun H locs hP hD hS => ?_)
  have hP : va_P (dC, dI) vwCl [(h0, .inr (2, (fs_15.set 5 (.ref q_16)))), (q_16, .inl (cA_17, 40, .inl (fun _ => 0)))] H := hP
  have hD : va_D A [(h0, .inr (2, (fs_15.set 5 (.ref q_16)))), (q_16, .inl (cA_17, 40, .inl (fun _ => 0)))] := hD
  generalize efs_18 : (fs_15.set 5 (.ref q_16)) = fs_18 at hP hD
  have lfs_18 : fs_18.length = 8 := by rw [← efs_18, List.length_set]; exact lfs_15
  have ffs_18_5 : fs_18[5]? = some (.ref q_16) := by rw [← efs_18]; exact p1_sa lfs_15 (by decide)
  have hP := hP.sub (ws' := [(h0, .inr (2, fs_18))]) [0] rfl
  have hD := hD.sub (ws' := [(h0, .inr (2, fs_18))]) [0] (by decide) rfl
  have hK := hK.sub (tys' := []) [] rfl
  refine lv_aload_n hx hb dX2_init_52 rfl (lv_at hl 0 rfl) ?_
  refine lv_bipush (v := 40) hx hb dX2_init_53 (by decide) ?_
  refine va_newa (atype := .int) (ty := .int) (N' := 40) (a0 := (40, .inl (fun _ => 0))) hx hb k_3 rfl hK hP hD hS hA (fun _ => rfl) (by decide) rfl (by decide) (by decide) (by decide) dX2_init_55 (fun q_19 cA_20 H hK hP hD hS => ?_)
  have hP : va_P (dC, dI) vwCl [(h0, .inr (2, fs_18)), (q_19, .inl (cA_20, 40, .inl (fun _ => 0)))] H := hP
  have hD : va_D A [(h0, .inr (2, fs_18)), (q_19, .inl (cA_20, 40, .inl (fun _ => 0)))] := hD
  have hK : va_K (dC, dI) vwCl [(cA_20, .int)] s := hK
  refine W.widen (k := 7) (n := 280) (by decide) (by decide) ?_
  refine va_putF (D := (dC, dI)) (ci := 2) (v := .ref q_19) (ty := .array .int) (C := RX2) (T := TX2) (N := 8) hx hb hts i_X2 tyX2 tyX2_ok nmX2 hown hK hP hD hS 0 rfl rfl 6 (by decide) k_11 (fun _ h9 => h9) rfl hin rfl (by decide +kernel) rfl rfl (by rw [lfs_18]; decide) dX2_init_57 (fun H locs hP hD hS => ?_)
  have hP : va_P (dC, dI) vwCl [(h0, .inr (2, (fs_18.set 6 (.ref q_19)))), (q_19, .inl (cA_20, 40, .inl (fun _ => 0)))] H := hP
  have hD : va_D A [(h0, .inr (2, (fs_18.set 6 (.ref q_19)))), (q_19, .inl (cA_20, 40, .inl (fun _ => 0)))] := hD
  generalize efs_21 : (fs_18.set 6 (.ref q_19)) = fs_21 at hP hD
  have lfs_21 : fs_21.length = 8 := by rw [← efs_21, List.length_set]; exact lfs_18
  have ffs_21_6 : fs_21[6]? = some (.ref q_19) := by rw [← efs_21]; exact p1_sa lfs_18 (by decide)
  have hP := hP.sub (ws' := [(h0, .inr (2, fs_21))]) [0] rfl
  have hD := hD.sub (ws' := [(h0, .inr (2, fs_21))]) [0] (by decide) rfl
  have hK := hK.sub (tys' := []) [] rfl
  refine lv_aload_n hx hb dX2_init_60 rfl (lv_at hl 0 rfl) ?_
  refine lv_iconst (v := 0) hx hb dX2_init_61 (by decide) ?_
  refine va_put (D := (dC, dI)) (ci := 2) (v := .int 0) (ty := .int) (C := RX2) (T := TX2) (N := 8) hx hb hts i_X2 tyX2 tyX2_ok nmX2 hown hK hP hD hS 0 rfl rfl 7 (by decide) k_12 (fun _ h9 => h9) rfl (by decide +kernel) rfl rfl (by rw [lfs_21]; decide) dX2_init_62 (fun H locs hP hD hS => ?_)
  have hP : va_P (dC, dI) vwCl [(h0, .inr (2, (fs_21.set 7 (.int 0))))] H := hP
  have hD : va_D A [(h0, .inr (2, (fs_21.set 7 (.int 0))))] := hD
  generalize efs_22 : (fs_21.set 7 (.int 0)) = fs_22 at hP hD
  have lfs_22 : fs_22.length = 8 := by rw [← efs_22, List.length_set]; exact lfs_21
  have ffs_22_7 : fs_22[7]? = some (.int 0) := by rw [← efs_22]; exact p1_sa lfs_21 (by decide)
  have hP9 := hP.sub (ws' := [(h0, .inr (2, fs_22))]) [0] rfl
  have hD9 := hD.sub (ws' := [(h0, .inr (2, fs_22))]) [0] (by decide) rfl
  have hK9 := hK.sub (tys' := []) [] rfl
  exact W.vret hx hb hr (fun t ht hW => ⟨⟨(), rfl, trivial, fs_22, ffs_22_7, by rw [ht]; exact hP9, va_K.moved hW.alike hK9, hD9⟩, hS.F ht⟩) hS.2.2 dX2_init_65
def zo_n_Laws : List Cond := [.code yX3_init cX3_init 1 none, .methodLink RX3 1 objectInit, .instanceMethod objectInit, .code objectInit ⟨#[0xb1]⟩ 1 none, .arrayClass .int, .fieldLink RX3 9 "BowWalk$Laws" "code" "[I", .fieldLink RX3 15 "BowWalk$Laws" "behind" "[I", .fieldLink RX3 18 "BowWalk$Laws" "stack" "[I", .fieldLink RX3 21 "BowWalk$Laws" "used" "I", .fieldLink RX3 25 "BowWalk$Laws" "rows" "I", .fieldLink RX3 28 "BowWalk$Laws" "units" "I"]
def zw_n_Laws : List Cond := zo_n_Laws ++ (wsX30 ++ [])
theorem gz_n_Laws : zw_n_Laws.all goodWord = true := p1_ga (by decide +kernel) (p1_ga gk_X3 p1_g0)
theorem iz_n_Laws : ∀ w ∈ zw_n_Laws, w ∈ lw_tbl := p1_ia (p1_all [148, 149, 126, 127, 173, 150, 151, 152, 153, 154, 155] (by decide +kernel)) (p1_ia ik_X3 p1_i0)
set_option maxHeartbeats 4000000 in
set_option maxRecDepth 100000 in
theorem n_Laws (l : Launch) (dC : Nat → ClassId) (dI : Nat → Nat → Nat) (sz : Nat) (h0 : Nat) (fs : List Value) (l_fs : fs.length = 6) : Met l yX3_init zw_n_Laws ({ frames := 1, cells := 3, slots := 666, locals := 20 }) (va_Pc [.ref h0] (fun U => U.heap.size = sz ∧ va_P (dC, dI) vwCl [(h0, .inr (3, fs))] U.heap ∧ va_K (dC, dI) vwCl [] U ∧ va_D (fun _ => True) [(h0, .inr (3, fs))])) (va_Qv (fun (_ : Unit) => True) (fun _ t => ∃ (fo : List Value) (lc : Nat) (lb : Nat) (cc1 : ClassId) (cb1 : ClassId), fo.length = 6 ∧ fo[0]? = some (.ref lc) ∧ fo[1]? = some (.ref lb) ∧ fo[3]? = some (.int 0) ∧ fo[4]? = some (.int 0) ∧ fo[5]? = some (.int 0) ∧ va_P (dC, dI) vwCl [(h0, .inr (3, fo)), (lc, .inl (cc1, 600, .inl (fun _ => 0))), (lb, .inl (cb1, 6, .inl (fun _ => 0)))] t.heap ∧ va_K (dC, dI) vwCl [(cc1, .int), (cb1, .int)] t ∧ va_D (va_A [(h0, .inr (3, fs))] sz) [(h0, .inr (3, fo)), (lc, .inl (cc1, 600, .inl (fun _ => 0))), (lb, .inl (cb1, 6, .inl (fun _ => 0)))]) (va_A [(h0, .inr (3, fs))] sz)) 3 666 (va_A [(h0, .inr (3, fs))] sz) := by
  refine Met.ofW (cc := cX3_init) (maxL := 1) (ret := none) (by decide) rfl ?_
  intro p e s m args below meth c s₁ B hml hv
  obtain ⟨rfl, hsz, hP, hK, hD0⟩ := hv
  have hx := B.exec
  have hb := B.bytes
  have hr := B.returns
  have hts := atoms_spec (ws := zw_n_Laws) B.pre
  have hown : s.vm.findClass RX3 = some m.cls := findClass_of_methodNamed B.named
  have hlocks := B.notSynchronized
  have hin : meth.name = "<init>" := (name_of_methodNamed B.named B.method).1
  subst hsz
  have hD := hD0.self (sz := s.heap.size)
  generalize hAe : va_A [(h0, .inr (3, fs))] s.heap.size = A at hD ⊢
  have hA : ∀ q : Nat, s.heap.size ≤ q → A q := fun q h => by rw [← hAe]; exact Or.inr h
  have hS : va_S A s.heap s.heap [] := va_S.rf
  have hP : va_P (dC, dI) vwCl [(h0, .inr (3, fs))] s.heap := hP
  have m_0 : (.methodLink RX3 1 objectInit : Cond) ∈ zw_n_Laws := List.mem_append_left _ (List.mem_of_getElem? (i := 1) rfl)
  have k_0 := hts _ m_0
  have m_1 : (.instanceMethod objectInit : Cond) ∈ zw_n_Laws := List.mem_append_left _ (List.mem_of_getElem? (i := 2) rfl)
  have k_1 := hts _ m_1
  have m_2 : (.code objectInit ⟨#[0xb1]⟩ 1 none : Cond) ∈ zw_n_Laws := List.mem_append_left _ (List.mem_of_getElem? (i := 3) rfl)
  have k_2 := hts _ m_2
  have m_3 : (.arrayClass .int : Cond) ∈ zw_n_Laws := List.mem_append_left _ (List.mem_of_getElem? (i := 4) rfl)
  have k_3 := hts _ m_3
  have m_4 : (.fieldLink RX3 9 "BowWalk$Laws" "code" "[I" : Cond) ∈ zw_n_Laws := List.mem_append_left _ (List.mem_of_getElem? (i := 5) rfl)
  have k_4 := hts _ m_4
  have m_5 : (.fieldLink RX3 15 "BowWalk$Laws" "behind" "[I" : Cond) ∈ zw_n_Laws := List.mem_append_left _ (List.mem_of_getElem? (i := 6) rfl)
  have k_5 := hts _ m_5
  have m_6 : (.fieldLink RX3 18 "BowWalk$Laws" "stack" "[I" : Cond) ∈ zw_n_Laws := List.mem_append_left _ (List.mem_of_getElem? (i := 7) rfl)
  have k_6 := hts _ m_6
  have m_7 : (.fieldLink RX3 21 "BowWalk$Laws" "used" "I" : Cond) ∈ zw_n_Laws := List.mem_append_left _ (List.mem_of_getElem? (i := 8) rfl)
  have k_7 := hts _ m_7
  have m_8 : (.fieldLink RX3 25 "BowWalk$Laws" "rows" "I" : Cond) ∈ zw_n_Laws := List.mem_append_left _ (List.mem_of_getElem? (i := 9) rfl)
  have k_8 := hts _ m_8
  have m_9 : (.fieldLink RX3 28 "BowWalk$Laws" "units" "I" : Cond) ∈ zw_n_Laws := List.mem_append_left _ (List.mem_of_getElem? (i := 10) rfl)
  have k_9 := hts _ m_9
  have i_X3 : ∀ w ∈ u_ws RX3 TX3 6, w ∈ zw_n_Laws := fun w h => List.mem_append_right _ (List.mem_append_left _ h)
  have hl := lv_entry ([.ref h0]) (n := 1) (Nat.le_of_ble_eq_true rfl)
  rw [lg_entry_eq]
  generalize (lg_sl ([.ref h0]) ++ List.replicate (1 - (lg_sl ([.ref h0])).length) Slot.unset).toArray = ls at hl ⊢
  have hl : lv_has ls 1 [(0, .ref h0)] := hl
  refine lv_aload_n hx hb dX3_init_0 rfl (lv_at hl 0 rfl) ?_
  refine W.objInit hx hb hown k_0 k_1 k_2 rfl (by rw [hml]; exact hl.1) rfl dX3_init_1 (Nat.le_of_ble_eq_true rfl) (Nat.le_of_ble_eq_true rfl) ?_
  refine W.eq (g2 := F0 m 4 ls []) rfl ?_
  refine lv_aload_n hx hb dX3_init_4 rfl (lv_at hl 0 rfl) ?_
  refine lv_sipush (v := 600) hx hb dX3_init_5 (by decide) ?_
  refine va_newa (atype := .int) (ty := .int) (N' := 600) (a0 := (600, .inl (fun _ => 0))) hx hb k_3 rfl hK hP hD hS hA (fun _ => rfl) (by decide) rfl (by decide) (by decide) (by decide) dX3_init_8 (fun q_1 cA_2 H hK hP hD hS => ?_)
  have hP : va_P (dC, dI) vwCl [(h0, .inr (3, fs)), (q_1, .inl (cA_2, 600, .inl (fun _ => 0)))] H := hP
  have hD : va_D A [(h0, .inr (3, fs)), (q_1, .inl (cA_2, 600, .inl (fun _ => 0)))] := hD
  have hK : va_K (dC, dI) vwCl [(cA_2, .int)] s := hK
  refine W.widen (k := 1) (n := 600) (by decide) (by decide) ?_
  refine va_putF (D := (dC, dI)) (ci := 3) (v := .ref q_1) (ty := .array .int) (C := RX3) (T := TX3) (N := 6) hx hb hts i_X3 tyX3 tyX3_ok nmX3 hown hK hP hD hS 0 rfl rfl 0 (by decide) k_4 (fun _ h9 => h9) rfl hin rfl (by decide +kernel) rfl rfl (by rw [l_fs]; decide) dX3_init_10 (fun H locs hP hD hS => ?_)
  have hP : va_P (dC, dI) vwCl [(h0, .inr (3, (fs.set 0 (.ref q_1)))), (q_1, .inl (cA_2, 600, .inl (fun _ => 0)))] H := hP
  have hD : va_D A [(h0, .inr (3, (fs.set 0 (.ref q_1)))), (q_1, .inl (cA_2, 600, .inl (fun _ => 0)))] := hD
  generalize efs_3 : (fs.set 0 (.ref q_1)) = fs_3 at hP hD
  have lfs_3 : fs_3.length = 6 := by rw [← efs_3, List.length_set]; exact l_fs
  have ffs_3_0 : fs_3[0]? = some (.ref q_1) := by rw [← efs_3]; exact p1_sa l_fs (by decide)
  refine lv_aload_n hx hb dX3_init_13 rfl (lv_at hl 0 rfl) ?_
  refine lv_bipush (v := 6) hx hb dX3_init_14 (by decide) ?_
  refine va_newa (atype := .int) (ty := .int) (N' := 6) (a0 := (6, .inl (fun _ => 0))) hx hb k_3 rfl hK hP hD hS hA (fun _ => rfl) (by decide) rfl (by decide) (by decide) (by decide) dX3_init_16 (fun q_4 cA_5 H hK hP hD hS => ?_)
  have hP : va_P (dC, dI) vwCl [(h0, .inr (3, fs_3)), (q_1, .inl (cA_2, 600, .inl (fun _ => 0))), (q_4, .inl (cA_5, 6, .inl (fun _ => 0)))] H := hP
  have hD : va_D A [(h0, .inr (3, fs_3)), (q_1, .inl (cA_2, 600, .inl (fun _ => 0))), (q_4, .inl (cA_5, 6, .inl (fun _ => 0)))] := hD
  have hK : va_K (dC, dI) vwCl [(cA_2, .int), (cA_5, .int)] s := hK
  refine W.widen (k := 2) (n := 606) (by decide) (by decide) ?_
  refine va_putF (D := (dC, dI)) (ci := 3) (v := .ref q_4) (ty := .array .int) (C := RX3) (T := TX3) (N := 6) hx hb hts i_X3 tyX3 tyX3_ok nmX3 hown hK hP hD hS 0 rfl rfl 1 (by decide) k_5 (fun _ h9 => h9) rfl hin rfl (by decide +kernel) rfl rfl (by rw [lfs_3]; decide) dX3_init_18 (fun H locs hP hD hS => ?_)
  have hP : va_P (dC, dI) vwCl [(h0, .inr (3, (fs_3.set 1 (.ref q_4)))), (q_1, .inl (cA_2, 600, .inl (fun _ => 0))), (q_4, .inl (cA_5, 6, .inl (fun _ => 0)))] H := hP
  have hD : va_D A [(h0, .inr (3, (fs_3.set 1 (.ref q_4)))), (q_1, .inl (cA_2, 600, .inl (fun _ => 0))), (q_4, .inl (cA_5, 6, .inl (fun _ => 0)))] := hD
  generalize efs_6 : (fs_3.set 1 (.ref q_4)) = fs_6 at hP hD
  have lfs_6 : fs_6.length = 6 := by rw [← efs_6, List.length_set]; exact lfs_3
  have ffs_6_0 : fs_6[0]? = some (.ref q_1) := by rw [← efs_6]; exact p1_sn (by decide) ffs_3_0
  have ffs_6_1 : fs_6[1]? = some (.ref q_4) := by rw [← efs_6]; exact p1_sa lfs_3 (by decide)
  refine lv_aload_n hx hb dX3_init_21 rfl (lv_at hl 0 rfl) ?_
  refine lv_bipush (v := 60) hx hb dX3_init_22 (by decide) ?_
  refine va_newa (atype := .int) (ty := .int) (N' := 60) (a0 := (60, .inl (fun _ => 0))) hx hb k_3 rfl hK hP hD hS hA (fun _ => rfl) (by decide) rfl (by decide) (by decide) (by decide) dX3_init_24 (fun q_7 cA_8 H hK hP hD hS => ?_)
  have hP : va_P (dC, dI) vwCl [(h0, .inr (3, fs_6)), (q_1, .inl (cA_2, 600, .inl (fun _ => 0))), (q_4, .inl (cA_5, 6, .inl (fun _ => 0))), (q_7, .inl (cA_8, 60, .inl (fun _ => 0)))] H := hP
  have hD : va_D A [(h0, .inr (3, fs_6)), (q_1, .inl (cA_2, 600, .inl (fun _ => 0))), (q_4, .inl (cA_5, 6, .inl (fun _ => 0))), (q_7, .inl (cA_8, 60, .inl (fun _ => 0)))] := hD
  have hK : va_K (dC, dI) vwCl [(cA_2, .int), (cA_5, .int), (cA_8, .int)] s := hK
  refine W.widen (k := 3) (n := 666) (by decide) (by decide) ?_
  refine va_putF (D := (dC, dI)) (ci := 3) (v := .ref q_7) (ty := .array .int) (C := RX3) (T := TX3) (N := 6) hx hb hts i_X3 tyX3 tyX3_ok nmX3 hown hK hP hD hS 0 rfl rfl 2 (by decide) k_6 (fun _ h9 => h9) rfl hin rfl (by decide +kernel) rfl rfl (by rw [lfs_6]; decide) dX3_init_26 (fun H locs hP hD hS => ?_)
  have hP : va_P (dC, dI) vwCl [(h0, .inr (3, (fs_6.set 2 (.ref q_7)))), (q_1, .inl (cA_2, 600, .inl (fun _ => 0))), (q_4, .inl (cA_5, 6, .inl (fun _ => 0))), (q_7, .inl (cA_8, 60, .inl (fun _ => 0)))] H := hP
  have hD : va_D A [(h0, .inr (3, (fs_6.set 2 (.ref q_7)))), (q_1, .inl (cA_2, 600, .inl (fun _ => 0))), (q_4, .inl (cA_5, 6, .inl (fun _ => 0))), (q_7, .inl (cA_8, 60, .inl (fun _ => 0)))] := hD
  generalize efs_9 : (fs_6.set 2 (.ref q_7)) = fs_9 at hP hD
  have lfs_9 : fs_9.length = 6 := by rw [← efs_9, List.length_set]; exact lfs_6
  have ffs_9_0 : fs_9[0]? = some (.ref q_1) := by rw [← efs_9]; exact p1_sn (by decide) ffs_6_0
  have ffs_9_1 : fs_9[1]? = some (.ref q_4) := by rw [← efs_9]; exact p1_sn (by decide) ffs_6_1
  have ffs_9_2 : fs_9[2]? = some (.ref q_7) := by rw [← efs_9]; exact p1_sa lfs_6 (by decide)
  have hP := hP.sub (ws' := [(h0, .inr (3, fs_9)), (q_1, .inl (cA_2, 600, .inl (fun _ => 0))), (q_4, .inl (cA_5, 6, .inl (fun _ => 0)))]) [0, 1, 2] rfl
  have hD := hD.sub (ws' := [(h0, .inr (3, fs_9)), (q_1, .inl (cA_2, 600, .inl (fun _ => 0))), (q_4, .inl (cA_5, 6, .inl (fun _ => 0)))]) [0, 1, 2] (by decide) rfl
  have hK := hK.sub (tys' := [(cA_2, .int), (cA_5, .int)]) [0, 1] rfl
  refine lv_aload_n hx hb dX3_init_29 rfl (lv_at hl 0 rfl) ?_
  refine lv_iconst (v := 0) hx hb dX3_init_30 (by decide) ?_
  refine va_put (D := (dC, dI)) (ci := 3) (v := .int 0) (ty := .int) (C := RX3) (T := TX3) (N := 6) hx hb hts i_X3 tyX3 tyX3_ok nmX3 hown hK hP hD hS 0 rfl rfl 3 (by decide) k_7 (fun _ h9 => h9) rfl (by decide +kernel) rfl rfl (by rw [lfs_9]; decide) dX3_init_31 (fun H locs hP hD hS => ?_)
  have hP : va_P (dC, dI) vwCl [(h0, .inr (3, (fs_9.set 3 (.int 0)))), (q_1, .inl (cA_2, 600, .inl (fun _ => 0))), (q_4, .inl (cA_5, 6, .inl (fun _ => 0)))] H := hP
  have hD : va_D A [(h0, .inr (3, (fs_9.set 3 (.int 0)))), (q_1, .inl (cA_2, 600, .inl (fun _ => 0))), (q_4, .inl (cA_5, 6, .inl (fun _ => 0)))] := hD
  generalize efs_10 : (fs_9.set 3 (.int 0)) = fs_10 at hP hD
  have lfs_10 : fs_10.length = 6 := by rw [← efs_10, List.length_set]; exact lfs_9
  have ffs_10_0 : fs_10[0]? = some (.ref q_1) := by rw [← efs_10]; exact p1_sn (by decide) ffs_9_0
  have ffs_10_1 : fs_10[1]? = some (.ref q_4) := by rw [← efs_10]; exact p1_sn (by decide) ffs_9_1
  have ffs_10_2 : fs_10[2]? = some (.ref q_7) := by rw [← efs_10]; exact p1_sn (by decide) ffs_9_2
  have ffs_10_3 : fs_10[3]? = some (.int 0) := by rw [← efs_10]; exact p1_sa lfs_9 (by decide)
  refine lv_aload_n hx hb dX3_init_34 rfl (lv_at hl 0 rfl) ?_
  refine lv_iconst (v := 0) hx hb dX3_init_35 (by decide) ?_
  refine va_put (D := (dC, dI)) (ci := 3) (v := .int 0) (ty := .int) (C := RX3) (T := TX3) (N := 6) hx hb hts i_X3 tyX3 tyX3_ok nmX3 hown hK hP hD hS 0 rfl rfl 4 (by decide) k_8 (fun _ h9 => h9) rfl (by decide +kernel) rfl rfl (by rw [lfs_10]; decide) dX3_init_36 (fun H locs hP hD hS => ?_)
  have hP : va_P (dC, dI) vwCl [(h0, .inr (3, (fs_10.set 4 (.int 0)))), (q_1, .inl (cA_2, 600, .inl (fun _ => 0))), (q_4, .inl (cA_5, 6, .inl (fun _ => 0)))] H := hP
  have hD : va_D A [(h0, .inr (3, (fs_10.set 4 (.int 0)))), (q_1, .inl (cA_2, 600, .inl (fun _ => 0))), (q_4, .inl (cA_5, 6, .inl (fun _ => 0)))] := hD
  generalize efs_11 : (fs_10.set 4 (.int 0)) = fs_11 at hP hD
  have lfs_11 : fs_11.length = 6 := by rw [← efs_11, List.length_set]; exact lfs_10
  have ffs_11_0 : fs_11[0]? = some (.ref q_1) := by rw [← efs_11]; exact p1_sn (by decide) ffs_10_0
  have ffs_11_1 : fs_11[1]? = some (.ref q_4) := by rw [← efs_11]; exact p1_sn (by decide) ffs_10_1
  have ffs_11_2 : fs_11[2]? = some (.ref q_7) := by rw [← efs_11]; exact p1_sn (by decide) ffs_10_2
  have ffs_11_3 : fs_11[3]? = some (.int 0) := by rw [← efs_11]; exact p1_sn (by decide) ffs_10_3
  have ffs_11_4 : fs_11[4]? = some (.int 0) := by rw [← efs_11]; exact p1_sa lfs_10 (by decide)
  refine lv_aload_n hx hb dX3_init_39 rfl (lv_at hl 0 rfl) ?_
  refine lv_iconst (v := 0) hx hb dX3_init_40 (by decide) ?_
  refine va_put (D := (dC, dI)) (ci := 3) (v := .int 0) (ty := .int) (C := RX3) (T := TX3) (N := 6) hx hb hts i_X3 tyX3 tyX3_ok nmX3 hown hK hP hD hS 0 rfl rfl 5 (by decide) k_9 (fun _ h9 => h9) rfl (by decide +kernel) rfl rfl (by rw [lfs_11]; decide) dX3_init_41 (fun H locs hP hD hS => ?_)
  have hP : va_P (dC, dI) vwCl [(h0, .inr (3, (fs_11.set 5 (.int 0)))), (q_1, .inl (cA_2, 600, .inl (fun _ => 0))), (q_4, .inl (cA_5, 6, .inl (fun _ => 0)))] H := hP
  have hD : va_D A [(h0, .inr (3, (fs_11.set 5 (.int 0)))), (q_1, .inl (cA_2, 600, .inl (fun _ => 0))), (q_4, .inl (cA_5, 6, .inl (fun _ => 0)))] := hD
  generalize efs_12 : (fs_11.set 5 (.int 0)) = fs_12 at hP hD
  have lfs_12 : fs_12.length = 6 := by rw [← efs_12, List.length_set]; exact lfs_11
  have ffs_12_0 : fs_12[0]? = some (.ref q_1) := by rw [← efs_12]; exact p1_sn (by decide) ffs_11_0
  have ffs_12_1 : fs_12[1]? = some (.ref q_4) := by rw [← efs_12]; exact p1_sn (by decide) ffs_11_1
  have ffs_12_2 : fs_12[2]? = some (.ref q_7) := by rw [← efs_12]; exact p1_sn (by decide) ffs_11_2
  have ffs_12_3 : fs_12[3]? = some (.int 0) := by rw [← efs_12]; exact p1_sn (by decide) ffs_11_3
  have ffs_12_4 : fs_12[4]? = some (.int 0) := by rw [← efs_12]; exact p1_sn (by decide) ffs_11_4
  have ffs_12_5 : fs_12[5]? = some (.int 0) := by rw [← efs_12]; exact p1_sa lfs_11 (by decide)
  have hP9 := hP.sub (ws' := [(h0, .inr (3, fs_12)), (q_1, .inl (cA_2, 600, .inl (fun _ => 0))), (q_4, .inl (cA_5, 6, .inl (fun _ => 0)))]) [0, 1, 2] rfl
  have hD9 := hD.sub (ws' := [(h0, .inr (3, fs_12)), (q_1, .inl (cA_2, 600, .inl (fun _ => 0))), (q_4, .inl (cA_5, 6, .inl (fun _ => 0)))]) [0, 1, 2] (by decide) rfl
  have hK9 := hK.sub (tys' := [(cA_2, .int), (cA_5, .int)]) [0, 1] rfl
  exact W.vret hx hb hr (fun t ht hW => ⟨⟨(), rfl, trivial, fs_12, q_1, q_4, cA_2, cA_5, lfs_12, ffs_12_0, ffs_12_1, ffs_12_3, ffs_12_4, ffs_12_5, by rw [ht]; exact hP9, va_K.moved hW.alike hK9, hD9⟩, hS.F ht⟩) hS.2.2 dX3_init_44
def zo_n_Box : List Cond := [.code yX1_init cX1_init 1 none, .methodLink RX1 1 objectInit, .instanceMethod objectInit, .code objectInit ⟨#[0xb1]⟩ 1 none, .classLink RX1 7 RX0, .instantiable RX0 15, .initialized RX0, .instanceMethod yX0_init, .fieldLink RX1 10 "BowWalk$Box" "bow" "LBowWalk$Bow;", .fieldLink RX1 16 "BowWalk$Box" "w" "I", .fieldLink RX1 20 "BowWalk$Box" "full" "Z"]
def zw_n_Box : List Cond := zo_n_Box ++ (zw_n_Bow ++ (wsX00 ++ (wsX10 ++ [])))
theorem gz_n_Box : zw_n_Box.all goodWord = true := p1_ga (by decide +kernel) (p1_ga gz_n_Bow (p1_ga gk_X0 (p1_ga gk_X1 p1_g0)))
theorem iz_n_Box : ∀ w ∈ zw_n_Box, w ∈ lw_tbl := p1_ia (p1_all [482, 483, 126, 127, 484, 345, 112, 347, 486, 488, 490] (by decide +kernel)) (p1_ia iz_n_Bow (p1_ia ik_X0 (p1_ia ik_X1 p1_i0)))
set_option maxHeartbeats 4000000 in
set_option maxRecDepth 100000 in
theorem n_Box (l : Launch) (dC : Nat → ClassId) (dI : Nat → Nat → Nat) (sz : Nat) (h0 : Nat) (fs : List Value) (l_fs : fs.length = 3) : Met l yX1_init zw_n_Box ({ frames := 2, cells := 3, slots := 29, locals := 40 }) (va_Pc [.ref h0] (fun U => U.heap.size = sz ∧ va_P (dC, dI) vwCl [(h0, .inr (1, fs))] U.heap ∧ va_K (dC, dI) vwCl [] U ∧ va_D (fun _ => True) [(h0, .inr (1, fs))] ∧ p1_ex (va_A [(h0, .inr (1, fs))] sz) U U.heap)) (va_Qv (fun (_ : Unit) => True) (fun _ t => ∃ (fo : List Value), fo.length = 3 ∧ fo[2]? = some (.int 0) ∧ va_P (dC, dI) vwCl [(h0, .inr (1, fo))] t.heap ∧ va_K (dC, dI) vwCl [] t ∧ va_D (va_A [(h0, .inr (1, fs))] sz) [(h0, .inr (1, fo))]) (va_A [(h0, .inr (1, fs))] sz)) 3 29 (va_A [(h0, .inr (1, fs))] sz) := by
  refine Met.ofW (cc := cX1_init) (maxL := 1) (ret := none) (by decide) rfl ?_
  intro p e s m args below meth c s₁ B hml hv
  obtain ⟨rfl, hsz, hP, hK, hD0, hE⟩ := hv
  have hx := B.exec
  have hb := B.bytes
  have hr := B.returns
  have hts := atoms_spec (ws := zw_n_Box) B.pre
  have hown : s.vm.findClass RX1 = some m.cls := findClass_of_methodNamed B.named
  have hlocks := B.notSynchronized
  have hin : meth.name = "<init>" := (name_of_methodNamed B.named B.method).1
  subst hsz
  have hD := hD0.self (sz := s.heap.size)
  generalize hAe : va_A [(h0, .inr (1, fs))] s.heap.size = A at hD hE ⊢
  have hA : ∀ q : Nat, s.heap.size ≤ q → A q := fun q h => by rw [← hAe]; exact Or.inr h
  have hS : va_S A s.heap s.heap [] := va_S.rf
  have hP : va_P (dC, dI) vwCl [(h0, .inr (1, fs))] s.heap := hP
  obtain ⟨sK, sV, ru, pu, sf, rf, pf, ⟨n1, n2, n3, n4, n5, n6, n7, n8, n9⟩, ⟨o1, o2, o3⟩, r1, ⟨t1, t2, t3, t4⟩, z1, z2, ⟨y1, y2⟩, ⟨w1, w2⟩⟩ := id hE
  have m_0 : (.methodLink RX1 1 objectInit : Cond) ∈ zw_n_Box := List.mem_append_left _ (List.mem_of_getElem? (i := 1) rfl)
  have k_0 := hts _ m_0
  have m_1 : (.instanceMethod objectInit : Cond) ∈ zw_n_Box := List.mem_append_left _ (List.mem_of_getElem? (i := 2) rfl)
  have k_1 := hts _ m_1
  have m_2 : (.code objectInit ⟨#[0xb1]⟩ 1 none : Cond) ∈ zw_n_Box := List.mem_append_left _ (List.mem_of_getElem? (i := 3) rfl)
  have k_2 := hts _ m_2
  have m_3 : (.classLink RX1 7 RX0 : Cond) ∈ zw_n_Box := List.mem_append_left _ (List.mem_of_getElem? (i := 4) rfl)
  have k_3 := hts _ m_3
  have m_4 : (.instantiable RX0 15 : Cond) ∈ zw_n_Box := List.mem_append_left _ (List.mem_of_getElem? (i := 5) rfl)
  have k_4 := hts _ m_4
  have m_5 : (.initialized RX0 : Cond) ∈ zw_n_Box := List.mem_append_left _ (List.mem_of_getElem? (i := 6) rfl)
  have k_5 := hts _ m_5
  have m_6 : (.instanceMethod yX0_init : Cond) ∈ zw_n_Box := List.mem_append_left _ (List.mem_of_getElem? (i := 7) rfl)
  have k_6 := hts _ m_6
  have m_7 : (.fieldLink RX1 10 "BowWalk$Box" "bow" "LBowWalk$Bow;" : Cond) ∈ zw_n_Box := List.mem_append_left _ (List.mem_of_getElem? (i := 8) rfl)
  have k_7 := hts _ m_7
  have m_8 : (.fieldLink RX1 16 "BowWalk$Box" "w" "I" : Cond) ∈ zw_n_Box := List.mem_append_left _ (List.mem_of_getElem? (i := 9) rfl)
  have k_8 := hts _ m_8
  have m_9 : (.fieldLink RX1 20 "BowWalk$Box" "full" "Z" : Cond) ∈ zw_n_Box := List.mem_append_left _ (List.mem_of_getElem? (i := 10) rfl)
  have k_9 := hts _ m_9
  have g_n_Bow : ∀ w ∈ zw_n_Bow, w ∈ zw_n_Box := fun w h => List.mem_append_right _ (List.mem_append_left _ h)
  have i_X0 : ∀ w ∈ u_ws RX0 TX0 15, w ∈ zw_n_Box := fun w h => List.mem_append_right _ (List.mem_append_right _ (List.mem_append_left _ h))
  have i_X1 : ∀ w ∈ u_ws RX1 TX1 3, w ∈ zw_n_Box := fun w h => List.mem_append_right _ (List.mem_append_right _ (List.mem_append_right _ (List.mem_append_left _ h)))
  have hl := lv_entry ([.ref h0]) (n := 1) (Nat.le_of_ble_eq_true rfl)
  rw [lg_entry_eq]
  generalize (lg_sl ([.ref h0]) ++ List.replicate (1 - (lg_sl ([.ref h0])).length) Slot.unset).toArray = ls at hl ⊢
  have hl : lv_has ls 1 [(0, .ref h0)] := hl
  refine lv_aload_n hx hb dX1_init_0 rfl (lv_at hl 0 rfl) ?_
  refine W.objInit hx hb hown k_0 k_1 k_2 rfl (by rw [hml]; exact hl.1) rfl dX1_init_1 (Nat.le_of_ble_eq_true rfl) (Nat.le_of_ble_eq_true rfl) ?_
  refine W.eq (g2 := F0 m 4 ls []) rfl ?_
  refine lv_aload_n hx hb dX1_init_4 rfl (lv_at hl 0 rfl) ?_
  refine va_new (ci := 0) (fs := [.null, .null, .int 0, .int 0, .int 0, .int 0, .int 0, .int 0, .int 0, .int 0, .int 0, .int 0, .int 0, .int 0, .int 0]) (C := RX0) (T := TX0) (N := 15) hx hb hts i_X0 tyX0 tyX0_ok hown k_3 k_4 k_5 hK hP hD hS hA rfl (by decide) (by decide) (by decide) dX1_init_5 (fun q_1 H hP hD hS => ?_)
  have hP : va_P (dC, dI) vwCl [(h0, .inr (1, fs)), (q_1, .inr (0, [.null, .null, .int 0, .int 0, .int 0, .int 0, .int 0, .int 0, .int 0, .int 0, .int 0, .int 0, .int 0, .int 0, .int 0]))] H := hP
  have hD : va_D A [(h0, .inr (1, fs)), (q_1, .inr (0, [.null, .null, .int 0, .int 0, .int 0, .int 0, .int 0, .int 0, .int 0, .int 0, .int 0, .int 0, .int 0, .int 0, .int 0]))] := hD
  refine W.widen (k := 1) (n := 15) (by decide) (by decide) ?_
  refine lv_dup hx hb dX1_init_8 rfl ?_
  have hPc := hP.sub (ws' := [(q_1, .inr (0, [.null, .null, .int 0, .int 0, .int 0, .int 0, .int 0, .int 0, .int 0, .int 0, .int 0, .int 0, .int 0, .int 0, .int 0]))]) [1] rfl
  have hDc := hD.sub (ws' := [(q_1, .inr (0, [.null, .null, .int 0, .int 0, .int 0, .int 0, .int 0, .int 0, .int 0, .int 0, .int 0, .int 0, .int 0, .int 0, .int 0]))]) [1] (by decide) rfl
  have hKc := hK.sub (tys' := []) [] rfl
  have hFc := va_free (wc := [(q_1, .inr (0, [.null, .null, .int 0, .int 0, .int 0, .int 0, .int 0, .int 0, .int 0, .int 0, .int 0, .int 0, .int 0, .int 0, .int 0]))]) hD hS hA [1] rfl
  refine va_callv (va_runIN (As := []) (rest := [.ref q_1, .ref h0]) ⟨hx, hb, hml, hown, hts⟩ (n_Bow l dC dI H.size q_1 ([.null, .null, .int 0, .int 0, .int 0, .int 0, .int 0, .int 0, .int 0, .int 0, .int 0, .int 0, .int 0, .int 0, .int 0]) ((show [.null, .null, .int 0, .int 0, .int 0, .int 0, .int 0, .int 0, .int 0, .int 0, .int 0, .int 0, .int 0, .int 0, .int 0].length = 15 from rfl))) ⟨va_cnB 0 hts (goodIn_sub g_n_Bow gz_n_Bow) rfl rfl rfl n9 k_5 (by decide +kernel) ⟨by decide, by decide⟩, rfl, k_6⟩ ⟨fun a U g mk q => by obtain ⟨q0, q1, qP, qK, qD⟩ := q; exact ⟨q0, q1, qP, va_K.moved (u := U) (U := U.calling g mk a) (Vm.Alike.refl U.vm) qK, qD⟩, fun U hU hW => ⟨rfl, by rw [hU], by rw [hU]; exact hPc, va_K.moved hW.alike hKc, hDc.weaken (fun _ _ _ _ => trivial)⟩⟩ rfl rfl hl.1 rfl (lv_room (Nat.le_of_ble_eq_true rfl)) dX1_init_9 ⟨by decide, by decide⟩) hS (fun q _ h => hFc q h) hFc (fun u t H1 locs ht hvm hw hB hz1 hk1 hS => ?_)
  obtain ⟨hP1, hK1, hD1⟩ := hB
  rw [ht] at hP1
  obtain ⟨hP, hD⟩ := va_join (wr := [(h0, .inr (1, fs))]) (w1 := []) hP hD [1] [0] rfl rfl (by decide) (by decide) hk1 hFc hP1 hD1
  generalize H1 = H at hP hS ⊢
  have hP : va_P (dC, dI) vwCl [(h0, .inr (1, fs))] H := hP
  have hD : va_D A [(h0, .inr (1, fs))] := hD
  refine W.widen (k := 3) (n := 29) (by decide) (by decide) ?_
  try dsimp only at hw
  refine va_putF (D := (dC, dI)) (ci := 1) (v := .ref q_1) (ty := .object "BowWalk$Bow") (C := RX1) (T := TX1) (N := 3) hx hb hts i_X1 tyX1 tyX1_ok nmX1 hown hK hP hD hS 0 rfl rfl 0 (by decide) k_7 (fun _ h9 => h9) rfl hin rfl (by decide +kernel) rfl rfl (by rw [l_fs]; decide) dX1_init_12 (fun H locs hP hD hS => ?_)
  have hP : va_P (dC, dI) vwCl [(h0, .inr (1, (fs.set 0 (.ref q_1))))] H := hP
  have hD : va_D A [(h0, .inr (1, (fs.set 0 (.ref q_1))))] := hD
  generalize efs_3 : (fs.set 0 (.ref q_1)) = fs_3 at hP hD
  have lfs_3 : fs_3.length = 3 := by rw [← efs_3, List.length_set]; exact l_fs
  have ffs_3_0 : fs_3[0]? = some (.ref q_1) := by rw [← efs_3]; exact p1_sa l_fs (by decide)
  refine lv_aload_n hx hb dX1_init_15 rfl (lv_at hl 0 rfl) ?_
  refine lv_iconst (v := 0) hx hb dX1_init_16 (by decide) ?_
  refine va_put (D := (dC, dI)) (ci := 1) (v := .int 0) (ty := .int) (C := RX1) (T := TX1) (N := 3) hx hb hts i_X1 tyX1 tyX1_ok nmX1 hown hK hP hD hS 0 rfl rfl 1 (by decide) k_8 (fun _ h9 => h9) rfl (by decide +kernel) rfl rfl (by rw [lfs_3]; decide) dX1_init_17 (fun H locs hP hD hS => ?_)
  have hP : va_P (dC, dI) vwCl [(h0, .inr (1, (fs_3.set 1 (.int 0))))] H := hP
  have hD : va_D A [(h0, .inr (1, (fs_3.set 1 (.int 0))))] := hD
  generalize efs_4 : (fs_3.set 1 (.int 0)) = fs_4 at hP hD
  have lfs_4 : fs_4.length = 3 := by rw [← efs_4, List.length_set]; exact lfs_3
  have ffs_4_1 : fs_4[1]? = some (.int 0) := by rw [← efs_4]; exact p1_sa lfs_3 (by decide)
  refine lv_aload_n hx hb dX1_init_20 rfl (lv_at hl 0 rfl) ?_
  refine lv_iconst (v := 0) hx hb dX1_init_21 (by decide) ?_
  refine va_put (D := (dC, dI)) (ci := 1) (v := .int 0) (ty := .boolean) (C := RX1) (T := TX1) (N := 3) hx hb hts i_X1 tyX1 tyX1_ok nmX1 hown hK hP hD hS 0 rfl rfl 2 (by decide) k_9 (fun _ h9 => h9) rfl (by decide +kernel) rfl rfl (by rw [lfs_4]; decide) dX1_init_22 (fun H locs hP hD hS => ?_)
  have hP : va_P (dC, dI) vwCl [(h0, .inr (1, (fs_4.set 2 (.int 0))))] H := hP
  have hD : va_D A [(h0, .inr (1, (fs_4.set 2 (.int 0))))] := hD
  generalize efs_5 : (fs_4.set 2 (.int 0)) = fs_5 at hP hD
  have lfs_5 : fs_5.length = 3 := by rw [← efs_5, List.length_set]; exact lfs_4
  have ffs_5_2 : fs_5[2]? = some (.int 0) := by rw [← efs_5]; exact p1_sa lfs_4 (by decide)
  have hP9 := hP.sub (ws' := [(h0, .inr (1, fs_5))]) [0] rfl
  have hD9 := hD.sub (ws' := [(h0, .inr (1, fs_5))]) [0] (by decide) rfl
  have hK9 := hK.sub (tys' := []) [] rfl
  exact W.vret hx hb hr (fun t ht hW => ⟨⟨(), rfl, trivial, fs_5, lfs_5, ffs_5_2, by rw [ht]; exact hP9, va_K.moved hW.alike hK9, hD9⟩, hS.F ht⟩) hS.2.2 dX1_init_25
def zo_n_Trial : List Cond := [.code yX7_init cX7_init 1 none, .methodLink RX7 3 objectInit, .instanceMethod objectInit, .code objectInit ⟨#[0xb1]⟩ 1 none, .classLink RX7 9 RX0, .instantiable RX0 15, .initialized RX0, .instanceMethod yX0_init, .fieldLink RX7 12 "BowWalk$Trial" "bow" "LBowWalk$Bow;", .arrayClass .int, .fieldLink RX7 20 "BowWalk$Trial" "strikes" "[I", .fieldLink RX7 24 "BowWalk$Trial" "swings" "[I", .fieldLink RX7 27 "BowWalk$Trial" "law" "I", .fieldLink RX7 31 "BowWalk$Trial" "walkSteps" "I", .fieldLink RX7 34 "BowWalk$Trial" "at" "I"]
def zw_n_Trial : List Cond := zo_n_Trial ++ (zw_n_Bow ++ (wsX00 ++ (wsX70 ++ [])))
theorem gz_n_Trial : zw_n_Trial.all goodWord = true := p1_ga (by decide +kernel) (p1_ga gz_n_Bow (p1_ga gk_X0 (p1_ga gk_X7 p1_g0)))
theorem iz_n_Trial : ∀ w ∈ zw_n_Trial, w ∈ lw_tbl := p1_ia (p1_all [410, 411, 126, 127, 412, 345, 112, 347, 414, 173, 416, 418, 420, 422, 423] (by decide +kernel)) (p1_ia iz_n_Bow (p1_ia ik_X0 (p1_ia ik_X7 p1_i0)))
set_option maxHeartbeats 4000000 in
set_option maxRecDepth 100000 in
theorem n_Trial (l : Launch) (dC : Nat → ClassId) (dI : Nat → Nat → Nat) (sz : Nat) (h0 : Nat) (fs : List Value) (l_fs : fs.length = 6) : Met l yX7_init zw_n_Trial ({ frames := 2, cells := 5, slots := 45, locals := 40 }) (va_Pc [.ref h0] (fun U => U.heap.size = sz ∧ va_P (dC, dI) vwCl [(h0, .inr (6, fs))] U.heap ∧ va_K (dC, dI) vwCl [] U ∧ va_D (fun _ => True) [(h0, .inr (6, fs))] ∧ p1_ex (va_A [(h0, .inr (6, fs))] sz) U U.heap)) (va_Qv (fun (_ : Unit) => True) (fun _ t => va_P (dC, dI) vwCl [] t.heap ∧ va_K (dC, dI) vwCl [] t ∧ va_D (va_A [(h0, .inr (6, fs))] sz) []) (va_A [(h0, .inr (6, fs))] sz)) 5 45 (va_A [(h0, .inr (6, fs))] sz) := by
  refine Met.ofW (cc := cX7_init) (maxL := 1) (ret := none) (by decide) rfl ?_
  intro p e s m args below meth c s₁ B hml hv
  obtain ⟨rfl, hsz, hP, hK, hD0, hE⟩ := hv
  have hx := B.exec
  have hb := B.bytes
  have hr := B.returns
  have hts := atoms_spec (ws := zw_n_Trial) B.pre
  have hown : s.vm.findClass RX7 = some m.cls := findClass_of_methodNamed B.named
  have hlocks := B.notSynchronized
  have hin : meth.name = "<init>" := (name_of_methodNamed B.named B.method).1
  subst hsz
  have hD := hD0.self (sz := s.heap.size)
  generalize hAe : va_A [(h0, .inr (6, fs))] s.heap.size = A at hD hE ⊢
  have hA : ∀ q : Nat, s.heap.size ≤ q → A q := fun q h => by rw [← hAe]; exact Or.inr h
  have hS : va_S A s.heap s.heap [] := va_S.rf
  have hP : va_P (dC, dI) vwCl [(h0, .inr (6, fs))] s.heap := hP
  obtain ⟨sK, sV, ru, pu, sf, rf, pf, ⟨n1, n2, n3, n4, n5, n6, n7, n8, n9⟩, ⟨o1, o2, o3⟩, r1, ⟨t1, t2, t3, t4⟩, z1, z2, ⟨y1, y2⟩, ⟨w1, w2⟩⟩ := id hE
  have m_0 : (.methodLink RX7 3 objectInit : Cond) ∈ zw_n_Trial := List.mem_append_left _ (List.mem_of_getElem? (i := 1) rfl)
  have k_0 := hts _ m_0
  have m_1 : (.instanceMethod objectInit : Cond) ∈ zw_n_Trial := List.mem_append_left _ (List.mem_of_getElem? (i := 2) rfl)
  have k_1 := hts _ m_1
  have m_2 : (.code objectInit ⟨#[0xb1]⟩ 1 none : Cond) ∈ zw_n_Trial := List.mem_append_left _ (List.mem_of_getElem? (i := 3) rfl)
  have k_2 := hts _ m_2
  have m_3 : (.classLink RX7 9 RX0 : Cond) ∈ zw_n_Trial := List.mem_append_left _ (List.mem_of_getElem? (i := 4) rfl)
  have k_3 := hts _ m_3
  have m_4 : (.instantiable RX0 15 : Cond) ∈ zw_n_Trial := List.mem_append_left _ (List.mem_of_getElem? (i := 5) rfl)
  have k_4 := hts _ m_4
  have m_5 : (.initialized RX0 : Cond) ∈ zw_n_Trial := List.mem_append_left _ (List.mem_of_getElem? (i := 6) rfl)
  have k_5 := hts _ m_5
  have m_6 : (.instanceMethod yX0_init : Cond) ∈ zw_n_Trial := List.mem_append_left _ (List.mem_of_getElem? (i := 7) rfl)
  have k_6 := hts _ m_6
  have m_7 : (.fieldLink RX7 12 "BowWalk$Trial" "bow" "LBowWalk$Bow;" : Cond) ∈ zw_n_Trial := List.mem_append_left _ (List.mem_of_getElem? (i := 8) rfl)
  have k_7 := hts _ m_7
  have m_8 : (.arrayClass .int : Cond) ∈ zw_n_Trial := List.mem_append_left _ (List.mem_of_getElem? (i := 9) rfl)
  have k_8 := hts _ m_8
  have m_9 : (.fieldLink RX7 20 "BowWalk$Trial" "strikes" "[I" : Cond) ∈ zw_n_Trial := List.mem_append_left _ (List.mem_of_getElem? (i := 10) rfl)
  have k_9 := hts _ m_9
  have m_10 : (.fieldLink RX7 24 "BowWalk$Trial" "swings" "[I" : Cond) ∈ zw_n_Trial := List.mem_append_left _ (List.mem_of_getElem? (i := 11) rfl)
  have k_10 := hts _ m_10
  have m_11 : (.fieldLink RX7 27 "BowWalk$Trial" "law" "I" : Cond) ∈ zw_n_Trial := List.mem_append_left _ (List.mem_of_getElem? (i := 12) rfl)
  have k_11 := hts _ m_11
  have m_12 : (.fieldLink RX7 31 "BowWalk$Trial" "walkSteps" "I" : Cond) ∈ zw_n_Trial := List.mem_append_left _ (List.mem_of_getElem? (i := 13) rfl)
  have k_12 := hts _ m_12
  have m_13 : (.fieldLink RX7 34 "BowWalk$Trial" "at" "I" : Cond) ∈ zw_n_Trial := List.mem_append_left _ (List.mem_of_getElem? (i := 14) rfl)
  have k_13 := hts _ m_13
  have g_n_Bow : ∀ w ∈ zw_n_Bow, w ∈ zw_n_Trial := fun w h => List.mem_append_right _ (List.mem_append_left _ h)
  have i_X0 : ∀ w ∈ u_ws RX0 TX0 15, w ∈ zw_n_Trial := fun w h => List.mem_append_right _ (List.mem_append_right _ (List.mem_append_left _ h))
  have i_X7 : ∀ w ∈ u_ws RX7 TX7 6, w ∈ zw_n_Trial := fun w h => List.mem_append_right _ (List.mem_append_right _ (List.mem_append_right _ (List.mem_append_left _ h)))
  have hl := lv_entry ([.ref h0]) (n := 1) (Nat.le_of_ble_eq_true rfl)
  rw [lg_entry_eq]
  generalize (lg_sl ([.ref h0]) ++ List.replicate (1 - (lg_sl ([.ref h0])).length) Slot.unset).toArray = ls at hl ⊢
  have hl : lv_has ls 1 [(0, .ref h0)] := hl
  refine lv_aload_n hx hb dX7_init_0 rfl (lv_at hl 0 rfl) ?_
  refine W.objInit hx hb hown k_0 k_1 k_2 rfl (by rw [hml]; exact hl.1) rfl dX7_init_1 (Nat.le_of_ble_eq_true rfl) (Nat.le_of_ble_eq_true rfl) ?_
  refine W.eq (g2 := F0 m 4 ls []) rfl ?_
  refine lv_aload_n hx hb dX7_init_4 rfl (lv_at hl 0 rfl) ?_
  refine va_new (ci := 0) (fs := [.null, .null, .int 0, .int 0, .int 0, .int 0, .int 0, .int 0, .int 0, .int 0, .int 0, .int 0, .int 0, .int 0, .int 0]) (C := RX0) (T := TX0) (N := 15) hx hb hts i_X0 tyX0 tyX0_ok hown k_3 k_4 k_5 hK hP hD hS hA rfl (by decide) (by decide) (by decide) dX7_init_5 (fun q_1 H hP hD hS => ?_)
  have hP : va_P (dC, dI) vwCl [(h0, .inr (6, fs)), (q_1, .inr (0, [.null, .null, .int 0, .int 0, .int 0, .int 0, .int 0, .int 0, .int 0, .int 0, .int 0, .int 0, .int 0, .int 0, .int 0]))] H := hP
  have hD : va_D A [(h0, .inr (6, fs)), (q_1, .inr (0, [.null, .null, .int 0, .int 0, .int 0, .int 0, .int 0, .int 0, .int 0, .int 0, .int 0, .int 0, .int 0, .int 0, .int 0]))] := hD
  refine W.widen (k := 1) (n := 15) (by decide) (by decide) ?_
  refine lv_dup hx hb dX7_init_8 rfl ?_
  have hPc := hP.sub (ws' := [(q_1, .inr (0, [.null, .null, .int 0, .int 0, .int 0, .int 0, .int 0, .int 0, .int 0, .int 0, .int 0, .int 0, .int 0, .int 0, .int 0]))]) [1] rfl
  have hDc := hD.sub (ws' := [(q_1, .inr (0, [.null, .null, .int 0, .int 0, .int 0, .int 0, .int 0, .int 0, .int 0, .int 0, .int 0, .int 0, .int 0, .int 0, .int 0]))]) [1] (by decide) rfl
  have hKc := hK.sub (tys' := []) [] rfl
  have hFc := va_free (wc := [(q_1, .inr (0, [.null, .null, .int 0, .int 0, .int 0, .int 0, .int 0, .int 0, .int 0, .int 0, .int 0, .int 0, .int 0, .int 0, .int 0]))]) hD hS hA [1] rfl
  refine va_callv (va_runIN (As := []) (rest := [.ref q_1, .ref h0]) ⟨hx, hb, hml, hown, hts⟩ (n_Bow l dC dI H.size q_1 ([.null, .null, .int 0, .int 0, .int 0, .int 0, .int 0, .int 0, .int 0, .int 0, .int 0, .int 0, .int 0, .int 0, .int 0]) ((show [.null, .null, .int 0, .int 0, .int 0, .int 0, .int 0, .int 0, .int 0, .int 0, .int 0, .int 0, .int 0, .int 0, .int 0].length = 15 from rfl))) ⟨va_cnB 0 hts (goodIn_sub g_n_Bow gz_n_Bow) rfl rfl rfl n5 k_5 (by decide +kernel) ⟨by decide, by decide⟩, rfl, k_6⟩ ⟨fun a U g mk q => by obtain ⟨q0, q1, qP, qK, qD⟩ := q; exact ⟨q0, q1, qP, va_K.moved (u := U) (U := U.calling g mk a) (Vm.Alike.refl U.vm) qK, qD⟩, fun U hU hW => ⟨rfl, by rw [hU], by rw [hU]; exact hPc, va_K.moved hW.alike hKc, hDc.weaken (fun _ _ _ _ => trivial)⟩⟩ rfl rfl hl.1 rfl (lv_room (Nat.le_of_ble_eq_true rfl)) dX7_init_9 ⟨by decide, by decide⟩) hS (fun q _ h => hFc q h) hFc (fun u t H1 locs ht hvm hw hB hz1 hk1 hS => ?_)
  obtain ⟨hP1, hK1, hD1⟩ := hB
  rw [ht] at hP1
  obtain ⟨hP, hD⟩ := va_join (wr := [(h0, .inr (6, fs))]) (w1 := []) hP hD [1] [0] rfl rfl (by decide) (by decide) hk1 hFc hP1 hD1
  generalize H1 = H at hP hS ⊢
  have hP : va_P (dC, dI) vwCl [(h0, .inr (6, fs))] H := hP
  have hD : va_D A [(h0, .inr (6, fs))] := hD
  refine W.widen (k := 3) (n := 29) (by decide) (by decide) ?_
  try dsimp only at hw
  refine va_putF (D := (dC, dI)) (ci := 6) (v := .ref q_1) (ty := .object "BowWalk$Bow") (C := RX7) (T := TX7) (N := 6) hx hb hts i_X7 tyX7 tyX7_ok nmX7 hown hK hP hD hS 0 rfl rfl 0 (by decide) k_7 (fun _ h9 => h9) rfl hin rfl (by decide +kernel) rfl rfl (by rw [l_fs]; decide) dX7_init_12 (fun H locs hP hD hS => ?_)
  have hP : va_P (dC, dI) vwCl [(h0, .inr (6, (fs.set 0 (.ref q_1))))] H := hP
  have hD : va_D A [(h0, .inr (6, (fs.set 0 (.ref q_1))))] := hD
  generalize efs_3 : (fs.set 0 (.ref q_1)) = fs_3 at hP hD
  have lfs_3 : fs_3.length = 6 := by rw [← efs_3, List.length_set]; exact l_fs
  have ffs_3_0 : fs_3[0]? = some (.ref q_1) := by rw [← efs_3]; exact p1_sa l_fs (by decide)
  refine lv_aload_n hx hb dX7_init_15 rfl (lv_at hl 0 rfl) ?_
  refine lv_bipush (v := 8) hx hb dX7_init_16 (by decide) ?_
  refine va_newa (atype := .int) (ty := .int) (N' := 8) (a0 := (8, .inl (fun _ => 0))) hx hb k_8 rfl hK hP hD hS hA (fun _ => rfl) (by decide) rfl (by decide) (by decide) (by decide) dX7_init_18 (fun q_4 cA_5 H hK hP hD hS => ?_)
  have hP : va_P (dC, dI) vwCl [(h0, .inr (6, fs_3)), (q_4, .inl (cA_5, 8, .inl (fun _ => 0)))] H := hP
  have hD : va_D A [(h0, .inr (6, fs_3)), (q_4, .inl (cA_5, 8, .inl (fun _ => 0)))] := hD
  have hK : va_K (dC, dI) vwCl [(cA_5, .int)] s := hK
  refine W.widen (k := 4) (n := 37) (by decide) (by decide) ?_
  refine va_putF (D := (dC, dI)) (ci := 6) (v := .ref q_4) (ty := .array .int) (C := RX7) (T := TX7) (N := 6) hx hb hts i_X7 tyX7 tyX7_ok nmX7 hown hK hP hD hS 0 rfl rfl 1 (by decide) k_9 (fun _ h9 => h9) rfl hin rfl (by decide +kernel) rfl rfl (by rw [lfs_3]; decide) dX7_init_20 (fun H locs hP hD hS => ?_)
  have hP : va_P (dC, dI) vwCl [(h0, .inr (6, (fs_3.set 1 (.ref q_4)))), (q_4, .inl (cA_5, 8, .inl (fun _ => 0)))] H := hP
  have hD : va_D A [(h0, .inr (6, (fs_3.set 1 (.ref q_4)))), (q_4, .inl (cA_5, 8, .inl (fun _ => 0)))] := hD
  generalize efs_6 : (fs_3.set 1 (.ref q_4)) = fs_6 at hP hD
  have lfs_6 : fs_6.length = 6 := by rw [← efs_6, List.length_set]; exact lfs_3
  have ffs_6_1 : fs_6[1]? = some (.ref q_4) := by rw [← efs_6]; exact p1_sa lfs_3 (by decide)
  have hP := hP.sub (ws' := [(h0, .inr (6, fs_6))]) [0] rfl
  have hD := hD.sub (ws' := [(h0, .inr (6, fs_6))]) [0] (by decide) rfl
  have hK := hK.sub (tys' := []) [] rfl
  refine lv_aload_n hx hb dX7_init_23 rfl (lv_at hl 0 rfl) ?_
  refine lv_bipush (v := 8) hx hb dX7_init_24 (by decide) ?_
  refine va_newa (atype := .int) (ty := .int) (N' := 8) (a0 := (8, .inl (fun _ => 0))) hx hb k_8 rfl hK hP hD hS hA (fun _ => rfl) (by decide) rfl (by decide) (by decide) (by decide) dX7_init_26 (fun q_7 cA_8 H hK hP hD hS => ?_)
  have hP : va_P (dC, dI) vwCl [(h0, .inr (6, fs_6)), (q_7, .inl (cA_8, 8, .inl (fun _ => 0)))] H := hP
  have hD : va_D A [(h0, .inr (6, fs_6)), (q_7, .inl (cA_8, 8, .inl (fun _ => 0)))] := hD
  have hK : va_K (dC, dI) vwCl [(cA_8, .int)] s := hK
  refine W.widen (k := 5) (n := 45) (by decide) (by decide) ?_
  refine va_putF (D := (dC, dI)) (ci := 6) (v := .ref q_7) (ty := .array .int) (C := RX7) (T := TX7) (N := 6) hx hb hts i_X7 tyX7 tyX7_ok nmX7 hown hK hP hD hS 0 rfl rfl 2 (by decide) k_10 (fun _ h9 => h9) rfl hin rfl (by decide +kernel) rfl rfl (by rw [lfs_6]; decide) dX7_init_28 (fun H locs hP hD hS => ?_)
  have hP : va_P (dC, dI) vwCl [(h0, .inr (6, (fs_6.set 2 (.ref q_7)))), (q_7, .inl (cA_8, 8, .inl (fun _ => 0)))] H := hP
  have hD : va_D A [(h0, .inr (6, (fs_6.set 2 (.ref q_7)))), (q_7, .inl (cA_8, 8, .inl (fun _ => 0)))] := hD
  generalize efs_9 : (fs_6.set 2 (.ref q_7)) = fs_9 at hP hD
  have lfs_9 : fs_9.length = 6 := by rw [← efs_9, List.length_set]; exact lfs_6
  have ffs_9_2 : fs_9[2]? = some (.ref q_7) := by rw [← efs_9]; exact p1_sa lfs_6 (by decide)
  have hP := hP.sub (ws' := [(h0, .inr (6, fs_9))]) [0] rfl
  have hD := hD.sub (ws' := [(h0, .inr (6, fs_9))]) [0] (by decide) rfl
  have hK := hK.sub (tys' := []) [] rfl
  refine lv_aload_n hx hb dX7_init_31 rfl (lv_at hl 0 rfl) ?_
  refine lv_iconst (v := 0) hx hb dX7_init_32 (by decide) ?_
  refine va_put (D := (dC, dI)) (ci := 6) (v := .int 0) (ty := .int) (C := RX7) (T := TX7) (N := 6) hx hb hts i_X7 tyX7 tyX7_ok nmX7 hown hK hP hD hS 0 rfl rfl 3 (by decide) k_11 (fun _ h9 => h9) rfl (by decide +kernel) rfl rfl (by rw [lfs_9]; decide) dX7_init_33 (fun H locs hP hD hS => ?_)
  have hP : va_P (dC, dI) vwCl [(h0, .inr (6, (fs_9.set 3 (.int 0))))] H := hP
  have hD : va_D A [(h0, .inr (6, (fs_9.set 3 (.int 0))))] := hD
  generalize efs_10 : (fs_9.set 3 (.int 0)) = fs_10 at hP hD
  have lfs_10 : fs_10.length = 6 := by rw [← efs_10, List.length_set]; exact lfs_9
  have ffs_10_3 : fs_10[3]? = some (.int 0) := by rw [← efs_10]; exact p1_sa lfs_9 (by decide)
  refine lv_aload_n hx hb dX7_init_36 rfl (lv_at hl 0 rfl) ?_
  refine lv_iconst (v := 0) hx hb dX7_init_37 (by decide) ?_
  refine va_put (D := (dC, dI)) (ci := 6) (v := .int 0) (ty := .int) (C := RX7) (T := TX7) (N := 6) hx hb hts i_X7 tyX7 tyX7_ok nmX7 hown hK hP hD hS 0 rfl rfl 4 (by decide) k_12 (fun _ h9 => h9) rfl (by decide +kernel) rfl rfl (by rw [lfs_10]; decide) dX7_init_38 (fun H locs hP hD hS => ?_)
  have hP : va_P (dC, dI) vwCl [(h0, .inr (6, (fs_10.set 4 (.int 0))))] H := hP
  have hD : va_D A [(h0, .inr (6, (fs_10.set 4 (.int 0))))] := hD
  generalize efs_11 : (fs_10.set 4 (.int 0)) = fs_11 at hP hD
  have lfs_11 : fs_11.length = 6 := by rw [← efs_11, List.length_set]; exact lfs_10
  have ffs_11_4 : fs_11[4]? = some (.int 0) := by rw [← efs_11]; exact p1_sa lfs_10 (by decide)
  refine lv_aload_n hx hb dX7_init_41 rfl (lv_at hl 0 rfl) ?_
  refine lv_iconst (v := 0) hx hb dX7_init_42 (by decide) ?_
  refine va_put (D := (dC, dI)) (ci := 6) (v := .int 0) (ty := .int) (C := RX7) (T := TX7) (N := 6) hx hb hts i_X7 tyX7 tyX7_ok nmX7 hown hK hP hD hS 0 rfl rfl 5 (by decide) k_13 (fun _ h9 => h9) rfl (by decide +kernel) rfl rfl (by rw [lfs_11]; decide) dX7_init_43 (fun H locs hP hD hS => ?_)
  have hP : va_P (dC, dI) vwCl [(h0, .inr (6, (fs_11.set 5 (.int 0))))] H := hP
  have hD : va_D A [(h0, .inr (6, (fs_11.set 5 (.int 0))))] := hD
  generalize efs_12 : (fs_11.set 5 (.int 0)) = fs_12 at hP hD
  have lfs_12 : fs_12.length = 6 := by rw [← efs_12, List.length_set]; exact lfs_11
  have ffs_12_5 : fs_12[5]? = some (.int 0) := by rw [← efs_12]; exact p1_sa lfs_11 (by decide)
  have hP9 := hP.sub (ws' := []) [] rfl
  have hD9 := hD.sub (ws' := []) [] (by decide) rfl
  have hK9 := hK.sub (tys' := []) [] rfl
  exact W.vret hx hb hr (fun t ht hW => ⟨⟨(), rfl, trivial, by rw [ht]; exact hP9, va_K.moved hW.alike hK9, hD9⟩, hS.F ht⟩) hS.2.2 dX7_init_46
def zo_n_Shop : List Cond := [.code yX5_init cX5_init 1 none, .methodLink RX5 3 objectInit, .instanceMethod objectInit, .code objectInit ⟨#[0xb1]⟩ 1 none, .arrayClass .int, .fieldLink RX5 9 "BowWalk$Shop" "count" "[I", .classLink RX5 13 "[[J", .arrayClass .long, .fieldLink RX5 15 "BowWalk$Shop" "names" "[[J", .fieldLink RX5 18 "BowWalk$Shop" "crossings" "[I", .fieldLink RX5 21 "BowWalk$Shop" "sides" "[I", .fieldLink RX5 24 "BowWalk$Shop" "smooth" "[I", .fieldLink RX5 27 "BowWalk$Shop" "weight" "[I", .fieldLink RX5 30 "BowWalk$Shop" "length" "[I", .fieldLink RX5 33 "BowWalk$Shop" "steps" "[I", .classLink RX5 36 "[[I", .fieldLink RX5 38 "BowWalk$Shop" "strikes" "[[I", .fieldLink RX5 41 "BowWalk$Shop" "swings" "[[I", .fieldLink RX5 44 "BowWalk$Shop" "wantHolds" "[I", .fieldLink RX5 47 "BowWalk$Shop" "wantPull" "[I", .classLink RX5 50 RX3, .instantiable RX3 6, .initialized RX3, .instanceMethod yX3_init, .fieldLink RX5 53 "BowWalk$Shop" "laws" "LBowWalk$Laws;", .fieldLink RX5 57 "BowWalk$Shop" "once" "[I", .arrayClass .boolean, .fieldLink RX5 60 "BowWalk$Shop" "onceTold" "[Z"]
def zw_n_Shop : List Cond := zo_n_Shop ++ (zw_n_Laws ++ (wsX50 ++ (wsX30 ++ [])))
theorem gz_n_Shop : zw_n_Shop.all goodWord = true := p1_ga (by decide +kernel) (p1_ga gz_n_Laws (p1_ga gk_X5 (p1_ga gk_X3 p1_g0)))
theorem iz_n_Shop : ∀ w ∈ zw_n_Shop, w ∈ lw_tbl := p1_ia (p1_all [138, 139, 126, 127, 173, 174, 140, 172, 177, 179, 182, 185, 188, 191, 194, 142, 198, 202, 206, 209, 144, 145, 107, 147, 212, 216, 253, 220] (by decide +kernel)) (p1_ia iz_n_Laws (p1_ia ik_X5 (p1_ia ik_X3 p1_i0)))
set_option maxHeartbeats 4000000 in
set_option maxRecDepth 100000 in
theorem n_Shop (l : Launch) (dC : Nat → ClassId) (dI : Nat → Nat → Nat) (sz : Nat) (h0 : Nat) (fs : List Value) (l_fs : fs.length = 15) : Met l yX5_init zw_n_Shop ({ frames := 2, cells := 31, slots := 824, locals := 40 }) (va_Pc [.ref h0] (fun U => U.heap.size = sz ∧ va_P (dC, dI) vwCl [(h0, .inr (5, fs))] U.heap ∧ va_K (dC, dI) vwCl [] U ∧ va_D (fun _ => True) [(h0, .inr (5, fs))] ∧ p1_ex (va_A [(h0, .inr (5, fs))] sz) U U.heap)) (va_Qv (fun (_ : Unit) => True) (fun _ t => ∃ (fo : List Value) (sc : Nat) (lw : Nat) (on : Nat) (ot : Nat) (cS : ClassId) (lf : List Value) (lc : Nat) (lb : Nat) (cc1 : ClassId) (cb1 : ClassId) (cN : ClassId) (nf : Nat → Int32) (cO : ClassId), fo.length = 15 ∧ fo[0]? = some (.ref sc) ∧ fo[12]? = some (.ref lw) ∧ fo[13]? = some (.ref on) ∧ fo[14]? = some (.ref ot) ∧ lf.length = 6 ∧ lf[0]? = some (.ref lc) ∧ lf[1]? = some (.ref lb) ∧ lf[3]? = some (.int 0) ∧ lf[4]? = some (.int 0) ∧ lf[5]? = some (.int 0) ∧ va_P (dC, dI) vwCl [(h0, .inr (5, fo)), (sc, .inl (cS, 5, .inl (fun _ => 0))), (lw, .inr (3, lf)), (lc, .inl (cc1, 600, .inl (fun _ => 0))), (lb, .inl (cb1, 6, .inl (fun _ => 0))), (on, .inl (cN, 2, .inl nf)), (ot, .inl (cO, 2, .inl (fun _ => 0)))] t.heap ∧ va_K (dC, dI) vwCl [(cS, .int), (cc1, .int), (cb1, .int), (cN, .int), (cO, .boolean)] t ∧ va_D (va_A [(h0, .inr (5, fs))] sz) [(h0, .inr (5, fo)), (sc, .inl (cS, 5, .inl (fun _ => 0))), (lw, .inr (3, lf)), (lc, .inl (cc1, 600, .inl (fun _ => 0))), (lb, .inl (cb1, 6, .inl (fun _ => 0))), (on, .inl (cN, 2, .inl nf)), (ot, .inl (cO, 2, .inl (fun _ => 0)))]) (va_A [(h0, .inr (5, fs))] sz)) 31 824 (va_A [(h0, .inr (5, fs))] sz) := by
  refine Met.ofW (cc := cX5_init) (maxL := 1) (ret := none) (by decide) rfl ?_
  intro p e s m args below meth c s₁ B hml hv
  obtain ⟨rfl, hsz, hP, hK, hD0, hE⟩ := hv
  have hx := B.exec
  have hb := B.bytes
  have hr := B.returns
  have hts := atoms_spec (ws := zw_n_Shop) B.pre
  have hown : s.vm.findClass RX5 = some m.cls := findClass_of_methodNamed B.named
  have hlocks := B.notSynchronized
  have hin : meth.name = "<init>" := (name_of_methodNamed B.named B.method).1
  subst hsz
  have hD := hD0.self (sz := s.heap.size)
  generalize hAe : va_A [(h0, .inr (5, fs))] s.heap.size = A at hD hE ⊢
  have hA : ∀ q : Nat, s.heap.size ≤ q → A q := fun q h => by rw [← hAe]; exact Or.inr h
  have hS : va_S A s.heap s.heap [] := va_S.rf
  have hP : va_P (dC, dI) vwCl [(h0, .inr (5, fs))] s.heap := hP
  obtain ⟨sK, sV, ru, pu, sf, rf, pf, ⟨n1, n2, n3, n4, n5, n6, n7, n8, n9⟩, ⟨o1, o2, o3⟩, r1, ⟨t1, t2, t3, t4⟩, z1, z2, ⟨y1, y2⟩, ⟨w1, w2⟩⟩ := id hE
  have m_0 : (.methodLink RX5 3 objectInit : Cond) ∈ zw_n_Shop := List.mem_append_left _ (List.mem_of_getElem? (i := 1) rfl)
  have k_0 := hts _ m_0
  have m_1 : (.instanceMethod objectInit : Cond) ∈ zw_n_Shop := List.mem_append_left _ (List.mem_of_getElem? (i := 2) rfl)
  have k_1 := hts _ m_1
  have m_2 : (.code objectInit ⟨#[0xb1]⟩ 1 none : Cond) ∈ zw_n_Shop := List.mem_append_left _ (List.mem_of_getElem? (i := 3) rfl)
  have k_2 := hts _ m_2
  have m_3 : (.arrayClass .int : Cond) ∈ zw_n_Shop := List.mem_append_left _ (List.mem_of_getElem? (i := 4) rfl)
  have k_3 := hts _ m_3
  have m_4 : (.fieldLink RX5 9 "BowWalk$Shop" "count" "[I" : Cond) ∈ zw_n_Shop := List.mem_append_left _ (List.mem_of_getElem? (i := 5) rfl)
  have k_4 := hts _ m_4
  have m_5 : (.classLink RX5 13 "[[J" : Cond) ∈ zw_n_Shop := List.mem_append_left _ (List.mem_of_getElem? (i := 6) rfl)
  have k_5 := hts _ m_5
  have m_6 : (.arrayClass .long : Cond) ∈ zw_n_Shop := List.mem_append_left _ (List.mem_of_getElem? (i := 7) rfl)
  have k_6 := hts _ m_6
  have m_7 : (.fieldLink RX5 15 "BowWalk$Shop" "names" "[[J" : Cond) ∈ zw_n_Shop := List.mem_append_left _ (List.mem_of_getElem? (i := 8) rfl)
  have k_7 := hts _ m_7
  have m_8 : (.fieldLink RX5 18 "BowWalk$Shop" "crossings" "[I" : Cond) ∈ zw_n_Shop := List.mem_append_left _ (List.mem_of_getElem? (i := 9) rfl)
  have k_8 := hts _ m_8
  have m_9 : (.fieldLink RX5 21 "BowWalk$Shop" "sides" "[I" : Cond) ∈ zw_n_Shop := List.mem_append_left _ (List.mem_of_getElem? (i := 10) rfl)
  have k_9 := hts _ m_9
  have m_10 : (.fieldLink RX5 24 "BowWalk$Shop" "smooth" "[I" : Cond) ∈ zw_n_Shop := List.mem_append_left _ (List.mem_of_getElem? (i := 11) rfl)
  have k_10 := hts _ m_10
  have m_11 : (.fieldLink RX5 27 "BowWalk$Shop" "weight" "[I" : Cond) ∈ zw_n_Shop := List.mem_append_left _ (List.mem_of_getElem? (i := 12) rfl)
  have k_11 := hts _ m_11
  have m_12 : (.fieldLink RX5 30 "BowWalk$Shop" "length" "[I" : Cond) ∈ zw_n_Shop := List.mem_append_left _ (List.mem_of_getElem? (i := 13) rfl)
  have k_12 := hts _ m_12
  have m_13 : (.fieldLink RX5 33 "BowWalk$Shop" "steps" "[I" : Cond) ∈ zw_n_Shop := List.mem_append_left _ (List.mem_of_getElem? (i := 14) rfl)
  have k_13 := hts _ m_13
  have m_14 : (.classLink RX5 36 "[[I" : Cond) ∈ zw_n_Shop := List.mem_append_left _ (List.mem_of_getElem? (i := 15) rfl)
  have k_14 := hts _ m_14
  have m_15 : (.fieldLink RX5 38 "BowWalk$Shop" "strikes" "[[I" : Cond) ∈ zw_n_Shop := List.mem_append_left _ (List.mem_of_getElem? (i := 16) rfl)
  have k_15 := hts _ m_15
  have m_16 : (.fieldLink RX5 41 "BowWalk$Shop" "swings" "[[I" : Cond) ∈ zw_n_Shop := List.mem_append_left _ (List.mem_of_getElem? (i := 17) rfl)
  have k_16 := hts _ m_16
  have m_17 : (.fieldLink RX5 44 "BowWalk$Shop" "wantHolds" "[I" : Cond) ∈ zw_n_Shop := List.mem_append_left _ (List.mem_of_getElem? (i := 18) rfl)
  have k_17 := hts _ m_17
  have m_18 : (.fieldLink RX5 47 "BowWalk$Shop" "wantPull" "[I" : Cond) ∈ zw_n_Shop := List.mem_append_left _ (List.mem_of_getElem? (i := 19) rfl)
  have k_18 := hts _ m_18
  have m_19 : (.classLink RX5 50 RX3 : Cond) ∈ zw_n_Shop := List.mem_append_left _ (List.mem_of_getElem? (i := 20) rfl)
  have k_19 := hts _ m_19
  have m_20 : (.instantiable RX3 6 : Cond) ∈ zw_n_Shop := List.mem_append_left _ (List.mem_of_getElem? (i := 21) rfl)
  have k_20 := hts _ m_20
  have m_21 : (.initialized RX3 : Cond) ∈ zw_n_Shop := List.mem_append_left _ (List.mem_of_getElem? (i := 22) rfl)
  have k_21 := hts _ m_21
  have m_22 : (.instanceMethod yX3_init : Cond) ∈ zw_n_Shop := List.mem_append_left _ (List.mem_of_getElem? (i := 23) rfl)
  have k_22 := hts _ m_22
  have m_23 : (.fieldLink RX5 53 "BowWalk$Shop" "laws" "LBowWalk$Laws;" : Cond) ∈ zw_n_Shop := List.mem_append_left _ (List.mem_of_getElem? (i := 24) rfl)
  have k_23 := hts _ m_23
  have m_24 : (.fieldLink RX5 57 "BowWalk$Shop" "once" "[I" : Cond) ∈ zw_n_Shop := List.mem_append_left _ (List.mem_of_getElem? (i := 25) rfl)
  have k_24 := hts _ m_24
  have m_25 : (.arrayClass .boolean : Cond) ∈ zw_n_Shop := List.mem_append_left _ (List.mem_of_getElem? (i := 26) rfl)
  have k_25 := hts _ m_25
  have m_26 : (.fieldLink RX5 60 "BowWalk$Shop" "onceTold" "[Z" : Cond) ∈ zw_n_Shop := List.mem_append_left _ (List.mem_of_getElem? (i := 27) rfl)
  have k_26 := hts _ m_26
  have g_n_Laws : ∀ w ∈ zw_n_Laws, w ∈ zw_n_Shop := fun w h => List.mem_append_right _ (List.mem_append_left _ h)
  have i_X5 : ∀ w ∈ u_ws RX5 TX5 15, w ∈ zw_n_Shop := fun w h => List.mem_append_right _ (List.mem_append_right _ (List.mem_append_left _ h))
  have i_X3 : ∀ w ∈ u_ws RX3 TX3 6, w ∈ zw_n_Shop := fun w h => List.mem_append_right _ (List.mem_append_right _ (List.mem_append_right _ (List.mem_append_left _ h)))
  have hl := lv_entry ([.ref h0]) (n := 1) (Nat.le_of_ble_eq_true rfl)
  rw [lg_entry_eq]
  generalize (lg_sl ([.ref h0]) ++ List.replicate (1 - (lg_sl ([.ref h0])).length) Slot.unset).toArray = ls at hl ⊢
  have hl : lv_has ls 1 [(0, .ref h0)] := hl
  refine lv_aload_n hx hb dX5_init_0 rfl (lv_at hl 0 rfl) ?_
  refine W.objInit hx hb hown k_0 k_1 k_2 rfl (by rw [hml]; exact hl.1) rfl dX5_init_1 (Nat.le_of_ble_eq_true rfl) (Nat.le_of_ble_eq_true rfl) ?_
  refine W.eq (g2 := F0 m 4 ls []) rfl ?_
  refine lv_aload_n hx hb dX5_init_4 rfl (lv_at hl 0 rfl) ?_
  refine lv_iconst (v := 5) hx hb dX5_init_5 (by decide) ?_
  refine va_newa (atype := .int) (ty := .int) (N' := 5) (a0 := (5, .inl (fun _ => 0))) hx hb k_3 rfl hK hP hD hS hA (fun _ => rfl) (by decide) rfl (by decide) (by decide) (by decide) dX5_init_6 (fun q_1 cA_2 H hK hP hD hS => ?_)
  have hP : va_P (dC, dI) vwCl [(h0, .inr (5, fs)), (q_1, .inl (cA_2, 5, .inl (fun _ => 0)))] H := hP
  have hD : va_D A [(h0, .inr (5, fs)), (q_1, .inl (cA_2, 5, .inl (fun _ => 0)))] := hD
  have hK : va_K (dC, dI) vwCl [(cA_2, .int)] s := hK
  refine W.widen (k := 1) (n := 5) (by decide) (by decide) ?_
  refine va_putF (D := (dC, dI)) (ci := 5) (v := .ref q_1) (ty := .array .int) (C := RX5) (T := TX5) (N := 15) hx hb hts i_X5 tyX5 tyX5_ok nmX5 hown hK hP hD hS 0 rfl rfl 0 (by decide) k_4 (fun _ h9 => h9) rfl hin rfl (by decide +kernel) rfl rfl (by rw [l_fs]; decide) dX5_init_8 (fun H locs hP hD hS => ?_)
  have hP : va_P (dC, dI) vwCl [(h0, .inr (5, (fs.set 0 (.ref q_1)))), (q_1, .inl (cA_2, 5, .inl (fun _ => 0)))] H := hP
  have hD : va_D A [(h0, .inr (5, (fs.set 0 (.ref q_1)))), (q_1, .inl (cA_2, 5, .inl (fun _ => 0)))] := hD
  generalize efs_3 : (fs.set 0 (.ref q_1)) = fs_3 at hP hD
  have lfs_3 : fs_3.length = 15 := by rw [← efs_3, List.length_set]; exact l_fs
  have ffs_3_0 : fs_3[0]? = some (.ref q_1) := by rw [← efs_3]; exact p1_sa l_fs (by decide)
  refine lv_aload_n hx hb dX5_init_11 rfl (lv_at hl 0 rfl) ?_
  refine lv_iconst (v := 5) hx hb dX5_init_12 (by decide) ?_
  refine lv_bipush (v := 6) hx hb dX5_init_13 (by decide) ?_
  refine p1_mna (ty := .long) (N' := 5) (K' := 6) hx hb hown (by decide +kernel) k_5 o1 k_6 hP hS (by decide) (by decide) rfl rfl (by decide) (by decide) (by decide) (by decide) (by decide) (by decide) (by decide) dX5_init_15 (fun q_4 H hP hS => ?_)
  refine W.widen (k := 7) (n := 40) (by decide) (by decide) ?_
  refine va_putF (D := (dC, dI)) (ci := 5) (v := .ref q_4) (ty := .array (.array .long)) (C := RX5) (T := TX5) (N := 15) hx hb hts i_X5 tyX5 tyX5_ok nmX5 hown hK hP hD hS 0 rfl rfl 1 (by decide) k_7 (fun _ h9 => h9) rfl hin rfl (by decide +kernel) rfl rfl (by rw [lfs_3]; decide) dX5_init_19 (fun H locs hP hD hS => ?_)
  have hP : va_P (dC, dI) vwCl [(h0, .inr (5, (fs_3.set 1 (.ref q_4)))), (q_1, .inl (cA_2, 5, .inl (fun _ => 0)))] H := hP
  have hD : va_D A [(h0, .inr (5, (fs_3.set 1 (.ref q_4)))), (q_1, .inl (cA_2, 5, .inl (fun _ => 0)))] := hD
  generalize efs_5 : (fs_3.set 1 (.ref q_4)) = fs_5 at hP hD
  have lfs_5 : fs_5.length = 15 := by rw [← efs_5, List.length_set]; exact lfs_3
  have ffs_5_0 : fs_5[0]? = some (.ref q_1) := by rw [← efs_5]; exact p1_sn (by decide) ffs_3_0
  have ffs_5_1 : fs_5[1]? = some (.ref q_4) := by rw [← efs_5]; exact p1_sa lfs_3 (by decide)
  refine lv_aload_n hx hb dX5_init_22 rfl (lv_at hl 0 rfl) ?_
  refine lv_bipush (v := 6) hx hb dX5_init_23 (by decide) ?_
  refine va_newa (atype := .int) (ty := .int) (N' := 6) (a0 := (6, .inl (fun _ => 0))) hx hb k_3 rfl hK hP hD hS hA (fun _ => rfl) (by decide) rfl (by decide) (by decide) (by decide) dX5_init_25 (fun q_6 cA_7 H hK hP hD hS => ?_)
  have hP : va_P (dC, dI) vwCl [(h0, .inr (5, fs_5)), (q_1, .inl (cA_2, 5, .inl (fun _ => 0))), (q_6, .inl (cA_7, 6, .inl (fun _ => 0)))] H := hP
  have hD : va_D A [(h0, .inr (5, fs_5)), (q_1, .inl (cA_2, 5, .inl (fun _ => 0))), (q_6, .inl (cA_7, 6, .inl (fun _ => 0)))] := hD
  have hK : va_K (dC, dI) vwCl [(cA_2, .int), (cA_7, .int)] s := hK
  refine W.widen (k := 8) (n := 46) (by decide) (by decide) ?_
  refine va_putF (D := (dC, dI)) (ci := 5) (v := .ref q_6) (ty := .array .int) (C := RX5) (T := TX5) (N := 15) hx hb hts i_X5 tyX5 tyX5_ok nmX5 hown hK hP hD hS 0 rfl rfl 2 (by decide) k_8 (fun _ h9 => h9) rfl hin rfl (by decide +kernel) rfl rfl (by rw [lfs_5]; decide) dX5_init_27 (fun H locs hP hD hS => ?_)
  have hP : va_P (dC, dI) vwCl [(h0, .inr (5, (fs_5.set 2 (.ref q_6)))), (q_1, .inl (cA_2, 5, .inl (fun _ => 0))), (q_6, .inl (cA_7, 6, .inl (fun _ => 0)))] H := hP
  have hD : va_D A [(h0, .inr (5, (fs_5.set 2 (.ref q_6)))), (q_1, .inl (cA_2, 5, .inl (fun _ => 0))), (q_6, .inl (cA_7, 6, .inl (fun _ => 0)))] := hD
  generalize efs_8 : (fs_5.set 2 (.ref q_6)) = fs_8 at hP hD
  have lfs_8 : fs_8.length = 15 := by rw [← efs_8, List.length_set]; exact lfs_5
  have ffs_8_0 : fs_8[0]? = some (.ref q_1) := by rw [← efs_8]; exact p1_sn (by decide) ffs_5_0
  have ffs_8_2 : fs_8[2]? = some (.ref q_6) := by rw [← efs_8]; exact p1_sa lfs_5 (by decide)
  have hP := hP.sub (ws' := [(h0, .inr (5, fs_8)), (q_1, .inl (cA_2, 5, .inl (fun _ => 0)))]) [0, 1] rfl
  have hD := hD.sub (ws' := [(h0, .inr (5, fs_8)), (q_1, .inl (cA_2, 5, .inl (fun _ => 0)))]) [0, 1] (by decide) rfl
  have hK := hK.sub (tys' := [(cA_2, .int)]) [0] rfl
  refine lv_aload_n hx hb dX5_init_30 rfl (lv_at hl 0 rfl) ?_
  refine lv_bipush (v := 6) hx hb dX5_init_31 (by decide) ?_
  refine va_newa (atype := .int) (ty := .int) (N' := 6) (a0 := (6, .inl (fun _ => 0))) hx hb k_3 rfl hK hP hD hS hA (fun _ => rfl) (by decide) rfl (by decide) (by decide) (by decide) dX5_init_33 (fun q_9 cA_10 H hK hP hD hS => ?_)
  have hP : va_P (dC, dI) vwCl [(h0, .inr (5, fs_8)), (q_1, .inl (cA_2, 5, .inl (fun _ => 0))), (q_9, .inl (cA_10, 6, .inl (fun _ => 0)))] H := hP
  have hD : va_D A [(h0, .inr (5, fs_8)), (q_1, .inl (cA_2, 5, .inl (fun _ => 0))), (q_9, .inl (cA_10, 6, .inl (fun _ => 0)))] := hD
  have hK : va_K (dC, dI) vwCl [(cA_2, .int), (cA_10, .int)] s := hK
  refine W.widen (k := 9) (n := 52) (by decide) (by decide) ?_
  refine va_putF (D := (dC, dI)) (ci := 5) (v := .ref q_9) (ty := .array .int) (C := RX5) (T := TX5) (N := 15) hx hb hts i_X5 tyX5 tyX5_ok nmX5 hown hK hP hD hS 0 rfl rfl 3 (by decide) k_9 (fun _ h9 => h9) rfl hin rfl (by decide +kernel) rfl rfl (by rw [lfs_8]; decide) dX5_init_35 (fun H locs hP hD hS => ?_)
  have hP : va_P (dC, dI) vwCl [(h0, .inr (5, (fs_8.set 3 (.ref q_9)))), (q_1, .inl (cA_2, 5, .inl (fun _ => 0))), (q_9, .inl (cA_10, 6, .inl (fun _ => 0)))] H := hP
  have hD : va_D A [(h0, .inr (5, (fs_8.set 3 (.ref q_9)))), (q_1, .inl (cA_2, 5, .inl (fun _ => 0))), (q_9, .inl (cA_10, 6, .inl (fun _ => 0)))] := hD
  generalize efs_11 : (fs_8.set 3 (.ref q_9)) = fs_11 at hP hD
  have lfs_11 : fs_11.length = 15 := by rw [← efs_11, List.length_set]; exact lfs_8
  have ffs_11_0 : fs_11[0]? = some (.ref q_1) := by rw [← efs_11]; exact p1_sn (by decide) ffs_8_0
  have ffs_11_3 : fs_11[3]? = some (.ref q_9) := by rw [← efs_11]; exact p1_sa lfs_8 (by decide)
  have hP := hP.sub (ws' := [(h0, .inr (5, fs_11)), (q_1, .inl (cA_2, 5, .inl (fun _ => 0)))]) [0, 1] rfl
  have hD := hD.sub (ws' := [(h0, .inr (5, fs_11)), (q_1, .inl (cA_2, 5, .inl (fun _ => 0)))]) [0, 1] (by decide) rfl
  have hK := hK.sub (tys' := [(cA_2, .int)]) [0] rfl
  refine lv_aload_n hx hb dX5_init_38 rfl (lv_at hl 0 rfl) ?_
  refine lv_iconst (v := 4) hx hb dX5_init_39 (by decide) ?_
  refine va_newa (atype := .int) (ty := .int) (N' := 4) (a0 := (4, .inl (fun _ => 0))) hx hb k_3 rfl hK hP hD hS hA (fun _ => rfl) (by decide) rfl (by decide) (by decide) (by decide) dX5_init_40 (fun q_12 cA_13 H hK hP hD hS => ?_)
  have hP : va_P (dC, dI) vwCl [(h0, .inr (5, fs_11)), (q_1, .inl (cA_2, 5, .inl (fun _ => 0))), (q_12, .inl (cA_13, 4, .inl (fun _ => 0)))] H := hP
  have hD : va_D A [(h0, .inr (5, fs_11)), (q_1, .inl (cA_2, 5, .inl (fun _ => 0))), (q_12, .inl (cA_13, 4, .inl (fun _ => 0)))] := hD
  have hK : va_K (dC, dI) vwCl [(cA_2, .int), (cA_13, .int)] s := hK
  refine W.widen (k := 10) (n := 56) (by decide) (by decide) ?_
  refine va_putF (D := (dC, dI)) (ci := 5) (v := .ref q_12) (ty := .array .int) (C := RX5) (T := TX5) (N := 15) hx hb hts i_X5 tyX5 tyX5_ok nmX5 hown hK hP hD hS 0 rfl rfl 4 (by decide) k_10 (fun _ h9 => h9) rfl hin rfl (by decide +kernel) rfl rfl (by rw [lfs_11]; decide) dX5_init_42 (fun H locs hP hD hS => ?_)
  have hP : va_P (dC, dI) vwCl [(h0, .inr (5, (fs_11.set 4 (.ref q_12)))), (q_1, .inl (cA_2, 5, .inl (fun _ => 0))), (q_12, .inl (cA_13, 4, .inl (fun _ => 0)))] H := hP
  have hD : va_D A [(h0, .inr (5, (fs_11.set 4 (.ref q_12)))), (q_1, .inl (cA_2, 5, .inl (fun _ => 0))), (q_12, .inl (cA_13, 4, .inl (fun _ => 0)))] := hD
  generalize efs_14 : (fs_11.set 4 (.ref q_12)) = fs_14 at hP hD
  have lfs_14 : fs_14.length = 15 := by rw [← efs_14, List.length_set]; exact lfs_11
  have ffs_14_0 : fs_14[0]? = some (.ref q_1) := by rw [← efs_14]; exact p1_sn (by decide) ffs_11_0
  have ffs_14_4 : fs_14[4]? = some (.ref q_12) := by rw [← efs_14]; exact p1_sa lfs_11 (by decide)
  have hP := hP.sub (ws' := [(h0, .inr (5, fs_14)), (q_1, .inl (cA_2, 5, .inl (fun _ => 0)))]) [0, 1] rfl
  have hD := hD.sub (ws' := [(h0, .inr (5, fs_14)), (q_1, .inl (cA_2, 5, .inl (fun _ => 0)))]) [0, 1] (by decide) rfl
  have hK := hK.sub (tys' := [(cA_2, .int)]) [0] rfl
  refine lv_aload_n hx hb dX5_init_45 rfl (lv_at hl 0 rfl) ?_
  refine lv_iconst (v := 4) hx hb dX5_init_46 (by decide) ?_
  refine va_newa (atype := .int) (ty := .int) (N' := 4) (a0 := (4, .inl (fun _ => 0))) hx hb k_3 rfl hK hP hD hS hA (fun _ => rfl) (by decide) rfl (by decide) (by decide) (by decide) dX5_init_47 (fun q_15 cA_16 H hK hP hD hS => ?_)
  have hP : va_P (dC, dI) vwCl [(h0, .inr (5, fs_14)), (q_1, .inl (cA_2, 5, .inl (fun _ => 0))), (q_15, .inl (cA_16, 4, .inl (fun _ => 0)))] H := hP
  have hD : va_D A [(h0, .inr (5, fs_14)), (q_1, .inl (cA_2, 5, .inl (fun _ => 0))), (q_15, .inl (cA_16, 4, .inl (fun _ => 0)))] := hD
  have hK : va_K (dC, dI) vwCl [(cA_2, .int), (cA_16, .int)] s := hK
  refine W.widen (k := 11) (n := 60) (by decide) (by decide) ?_
  refine va_putF (D := (dC, dI)) (ci := 5) (v := .ref q_15) (ty := .array .int) (C := RX5) (T := TX5) (N := 15) hx hb hts i_X5 tyX5 tyX5_ok nmX5 hown hK hP hD hS 0 rfl rfl 5 (by decide) k_11 (fun _ h9 => h9) rfl hin rfl (by decide +kernel) rfl rfl (by rw [lfs_14]; decide) dX5_init_49 (fun H locs hP hD hS => ?_)
  have hP : va_P (dC, dI) vwCl [(h0, .inr (5, (fs_14.set 5 (.ref q_15)))), (q_1, .inl (cA_2, 5, .inl (fun _ => 0))), (q_15, .inl (cA_16, 4, .inl (fun _ => 0)))] H := hP
  have hD : va_D A [(h0, .inr (5, (fs_14.set 5 (.ref q_15)))), (q_1, .inl (cA_2, 5, .inl (fun _ => 0))), (q_15, .inl (cA_16, 4, .inl (fun _ => 0)))] := hD
  generalize efs_17 : (fs_14.set 5 (.ref q_15)) = fs_17 at hP hD
  have lfs_17 : fs_17.length = 15 := by rw [← efs_17, List.length_set]; exact lfs_14
  have ffs_17_0 : fs_17[0]? = some (.ref q_1) := by rw [← efs_17]; exact p1_sn (by decide) ffs_14_0
  have ffs_17_5 : fs_17[5]? = some (.ref q_15) := by rw [← efs_17]; exact p1_sa lfs_14 (by decide)
  have hP := hP.sub (ws' := [(h0, .inr (5, fs_17)), (q_1, .inl (cA_2, 5, .inl (fun _ => 0)))]) [0, 1] rfl
  have hD := hD.sub (ws' := [(h0, .inr (5, fs_17)), (q_1, .inl (cA_2, 5, .inl (fun _ => 0)))]) [0, 1] (by decide) rfl
  have hK := hK.sub (tys' := [(cA_2, .int)]) [0] rfl
  refine lv_aload_n hx hb dX5_init_52 rfl (lv_at hl 0 rfl) ?_
  refine lv_iconst (v := 4) hx hb dX5_init_53 (by decide) ?_
  refine va_newa (atype := .int) (ty := .int) (N' := 4) (a0 := (4, .inl (fun _ => 0))) hx hb k_3 rfl hK hP hD hS hA (fun _ => rfl) (by decide) rfl (by decide) (by decide) (by decide) dX5_init_54 (fun q_18 cA_19 H hK hP hD hS => ?_)
  have hP : va_P (dC, dI) vwCl [(h0, .inr (5, fs_17)), (q_1, .inl (cA_2, 5, .inl (fun _ => 0))), (q_18, .inl (cA_19, 4, .inl (fun _ => 0)))] H := hP
  have hD : va_D A [(h0, .inr (5, fs_17)), (q_1, .inl (cA_2, 5, .inl (fun _ => 0))), (q_18, .inl (cA_19, 4, .inl (fun _ => 0)))] := hD
  have hK : va_K (dC, dI) vwCl [(cA_2, .int), (cA_19, .int)] s := hK
  refine W.widen (k := 12) (n := 64) (by decide) (by decide) ?_
  refine va_putF (D := (dC, dI)) (ci := 5) (v := .ref q_18) (ty := .array .int) (C := RX5) (T := TX5) (N := 15) hx hb hts i_X5 tyX5 tyX5_ok nmX5 hown hK hP hD hS 0 rfl rfl 6 (by decide) k_12 (fun _ h9 => h9) rfl hin rfl (by decide +kernel) rfl rfl (by rw [lfs_17]; decide) dX5_init_56 (fun H locs hP hD hS => ?_)
  have hP : va_P (dC, dI) vwCl [(h0, .inr (5, (fs_17.set 6 (.ref q_18)))), (q_1, .inl (cA_2, 5, .inl (fun _ => 0))), (q_18, .inl (cA_19, 4, .inl (fun _ => 0)))] H := hP
  have hD : va_D A [(h0, .inr (5, (fs_17.set 6 (.ref q_18)))), (q_1, .inl (cA_2, 5, .inl (fun _ => 0))), (q_18, .inl (cA_19, 4, .inl (fun _ => 0)))] := hD
  generalize efs_20 : (fs_17.set 6 (.ref q_18)) = fs_20 at hP hD
  have lfs_20 : fs_20.length = 15 := by rw [← efs_20, List.length_set]; exact lfs_17
  have ffs_20_0 : fs_20[0]? = some (.ref q_1) := by rw [← efs_20]; exact p1_sn (by decide) ffs_17_0
  have ffs_20_6 : fs_20[6]? = some (.ref q_18) := by rw [← efs_20]; exact p1_sa lfs_17 (by decide)
  have hP := hP.sub (ws' := [(h0, .inr (5, fs_20)), (q_1, .inl (cA_2, 5, .inl (fun _ => 0)))]) [0, 1] rfl
  have hD := hD.sub (ws' := [(h0, .inr (5, fs_20)), (q_1, .inl (cA_2, 5, .inl (fun _ => 0)))]) [0, 1] (by decide) rfl
  have hK := hK.sub (tys' := [(cA_2, .int)]) [0] rfl
  refine lv_aload_n hx hb dX5_init_59 rfl (lv_at hl 0 rfl) ?_
  refine lv_iconst (v := 4) hx hb dX5_init_60 (by decide) ?_
  refine va_newa (atype := .int) (ty := .int) (N' := 4) (a0 := (4, .inl (fun _ => 0))) hx hb k_3 rfl hK hP hD hS hA (fun _ => rfl) (by decide) rfl (by decide) (by decide) (by decide) dX5_init_61 (fun q_21 cA_22 H hK hP hD hS => ?_)
  have hP : va_P (dC, dI) vwCl [(h0, .inr (5, fs_20)), (q_1, .inl (cA_2, 5, .inl (fun _ => 0))), (q_21, .inl (cA_22, 4, .inl (fun _ => 0)))] H := hP
  have hD : va_D A [(h0, .inr (5, fs_20)), (q_1, .inl (cA_2, 5, .inl (fun _ => 0))), (q_21, .inl (cA_22, 4, .inl (fun _ => 0)))] := hD
  have hK : va_K (dC, dI) vwCl [(cA_2, .int), (cA_22, .int)] s := hK
  refine W.widen (k := 13) (n := 68) (by decide) (by decide) ?_
  refine va_putF (D := (dC, dI)) (ci := 5) (v := .ref q_21) (ty := .array .int) (C := RX5) (T := TX5) (N := 15) hx hb hts i_X5 tyX5 tyX5_ok nmX5 hown hK hP hD hS 0 rfl rfl 7 (by decide) k_13 (fun _ h9 => h9) rfl hin rfl (by decide +kernel) rfl rfl (by rw [lfs_20]; decide) dX5_init_63 (fun H locs hP hD hS => ?_)
  have hP : va_P (dC, dI) vwCl [(h0, .inr (5, (fs_20.set 7 (.ref q_21)))), (q_1, .inl (cA_2, 5, .inl (fun _ => 0))), (q_21, .inl (cA_22, 4, .inl (fun _ => 0)))] H := hP
  have hD : va_D A [(h0, .inr (5, (fs_20.set 7 (.ref q_21)))), (q_1, .inl (cA_2, 5, .inl (fun _ => 0))), (q_21, .inl (cA_22, 4, .inl (fun _ => 0)))] := hD
  generalize efs_23 : (fs_20.set 7 (.ref q_21)) = fs_23 at hP hD
  have lfs_23 : fs_23.length = 15 := by rw [← efs_23, List.length_set]; exact lfs_20
  have ffs_23_0 : fs_23[0]? = some (.ref q_1) := by rw [← efs_23]; exact p1_sn (by decide) ffs_20_0
  have ffs_23_7 : fs_23[7]? = some (.ref q_21) := by rw [← efs_23]; exact p1_sa lfs_20 (by decide)
  have hP := hP.sub (ws' := [(h0, .inr (5, fs_23)), (q_1, .inl (cA_2, 5, .inl (fun _ => 0)))]) [0, 1] rfl
  have hD := hD.sub (ws' := [(h0, .inr (5, fs_23)), (q_1, .inl (cA_2, 5, .inl (fun _ => 0)))]) [0, 1] (by decide) rfl
  have hK := hK.sub (tys' := [(cA_2, .int)]) [0] rfl
  refine lv_aload_n hx hb dX5_init_66 rfl (lv_at hl 0 rfl) ?_
  refine lv_iconst (v := 4) hx hb dX5_init_67 (by decide) ?_
  refine lv_bipush (v := 8) hx hb dX5_init_68 (by decide) ?_
  refine p1_mna (ty := .int) (N' := 4) (K' := 8) hx hb hown (by decide +kernel) k_14 o2 k_3 hP hS (by decide) (by decide) rfl rfl (by decide) (by decide) (by decide) (by decide) (by decide) (by decide) (by decide) dX5_init_70 (fun q_24 H hP hS => ?_)
  refine W.widen (k := 18) (n := 104) (by decide) (by decide) ?_
  refine va_putF (D := (dC, dI)) (ci := 5) (v := .ref q_24) (ty := .array (.array .int)) (C := RX5) (T := TX5) (N := 15) hx hb hts i_X5 tyX5 tyX5_ok nmX5 hown hK hP hD hS 0 rfl rfl 8 (by decide) k_15 (fun _ h9 => h9) rfl hin rfl (by decide +kernel) rfl rfl (by rw [lfs_23]; decide) dX5_init_74 (fun H locs hP hD hS => ?_)
  have hP : va_P (dC, dI) vwCl [(h0, .inr (5, (fs_23.set 8 (.ref q_24)))), (q_1, .inl (cA_2, 5, .inl (fun _ => 0)))] H := hP
  have hD : va_D A [(h0, .inr (5, (fs_23.set 8 (.ref q_24)))), (q_1, .inl (cA_2, 5, .inl (fun _ => 0)))] := hD
  generalize efs_25 : (fs_23.set 8 (.ref q_24)) = fs_25 at hP hD
  have lfs_25 : fs_25.length = 15 := by rw [← efs_25, List.length_set]; exact lfs_23
  have ffs_25_0 : fs_25[0]? = some (.ref q_1) := by rw [← efs_25]; exact p1_sn (by decide) ffs_23_0
  have ffs_25_8 : fs_25[8]? = some (.ref q_24) := by rw [← efs_25]; exact p1_sa lfs_23 (by decide)
  refine lv_aload_n hx hb dX5_init_77 rfl (lv_at hl 0 rfl) ?_
  refine lv_iconst (v := 4) hx hb dX5_init_78 (by decide) ?_
  refine lv_bipush (v := 8) hx hb dX5_init_79 (by decide) ?_
  refine p1_mna (ty := .int) (N' := 4) (K' := 8) hx hb hown (by decide +kernel) k_14 o2 k_3 hP hS (by decide) (by decide) rfl rfl (by decide) (by decide) (by decide) (by decide) (by decide) (by decide) (by decide) dX5_init_81 (fun q_26 H hP hS => ?_)
  refine W.widen (k := 23) (n := 140) (by decide) (by decide) ?_
  refine va_putF (D := (dC, dI)) (ci := 5) (v := .ref q_26) (ty := .array (.array .int)) (C := RX5) (T := TX5) (N := 15) hx hb hts i_X5 tyX5 tyX5_ok nmX5 hown hK hP hD hS 0 rfl rfl 9 (by decide) k_16 (fun _ h9 => h9) rfl hin rfl (by decide +kernel) rfl rfl (by rw [lfs_25]; decide) dX5_init_85 (fun H locs hP hD hS => ?_)
  have hP : va_P (dC, dI) vwCl [(h0, .inr (5, (fs_25.set 9 (.ref q_26)))), (q_1, .inl (cA_2, 5, .inl (fun _ => 0)))] H := hP
  have hD : va_D A [(h0, .inr (5, (fs_25.set 9 (.ref q_26)))), (q_1, .inl (cA_2, 5, .inl (fun _ => 0)))] := hD
  generalize efs_27 : (fs_25.set 9 (.ref q_26)) = fs_27 at hP hD
  have lfs_27 : fs_27.length = 15 := by rw [← efs_27, List.length_set]; exact lfs_25
  have ffs_27_0 : fs_27[0]? = some (.ref q_1) := by rw [← efs_27]; exact p1_sn (by decide) ffs_25_0
  have ffs_27_9 : fs_27[9]? = some (.ref q_26) := by rw [← efs_27]; exact p1_sa lfs_25 (by decide)
  refine lv_aload_n hx hb dX5_init_88 rfl (lv_at hl 0 rfl) ?_
  refine lv_iconst (v := 4) hx hb dX5_init_89 (by decide) ?_
  refine va_newa (atype := .int) (ty := .int) (N' := 4) (a0 := (4, .inl (fun _ => 0))) hx hb k_3 rfl hK hP hD hS hA (fun _ => rfl) (by decide) rfl (by decide) (by decide) (by decide) dX5_init_90 (fun q_28 cA_29 H hK hP hD hS => ?_)
  have hP : va_P (dC, dI) vwCl [(h0, .inr (5, fs_27)), (q_1, .inl (cA_2, 5, .inl (fun _ => 0))), (q_28, .inl (cA_29, 4, .inl (fun _ => 0)))] H := hP
  have hD : va_D A [(h0, .inr (5, fs_27)), (q_1, .inl (cA_2, 5, .inl (fun _ => 0))), (q_28, .inl (cA_29, 4, .inl (fun _ => 0)))] := hD
  have hK : va_K (dC, dI) vwCl [(cA_2, .int), (cA_29, .int)] s := hK
  refine W.widen (k := 24) (n := 144) (by decide) (by decide) ?_
  refine va_putF (D := (dC, dI)) (ci := 5) (v := .ref q_28) (ty := .array .int) (C := RX5) (T := TX5) (N := 15) hx hb hts i_X5 tyX5 tyX5_ok nmX5 hown hK hP hD hS 0 rfl rfl 10 (by decide) k_17 (fun _ h9 => h9) rfl hin rfl (by decide +kernel) rfl rfl (by rw [lfs_27]; decide) dX5_init_92 (fun H locs hP hD hS => ?_)
  have hP : va_P (dC, dI) vwCl [(h0, .inr (5, (fs_27.set 10 (.ref q_28)))), (q_1, .inl (cA_2, 5, .inl (fun _ => 0))), (q_28, .inl (cA_29, 4, .inl (fun _ => 0)))] H := hP
  have hD : va_D A [(h0, .inr (5, (fs_27.set 10 (.ref q_28)))), (q_1, .inl (cA_2, 5, .inl (fun _ => 0))), (q_28, .inl (cA_29, 4, .inl (fun _ => 0)))] := hD
  generalize efs_30 : (fs_27.set 10 (.ref q_28)) = fs_30 at hP hD
  have lfs_30 : fs_30.length = 15 := by rw [← efs_30, List.length_set]; exact lfs_27
  have ffs_30_0 : fs_30[0]? = some (.ref q_1) := by rw [← efs_30]; exact p1_sn (by decide) ffs_27_0
  have ffs_30_10 : fs_30[10]? = some (.ref q_28) := by rw [← efs_30]; exact p1_sa lfs_27 (by decide)
  have hP := hP.sub (ws' := [(h0, .inr (5, fs_30)), (q_1, .inl (cA_2, 5, .inl (fun _ => 0)))]) [0, 1] rfl
  have hD := hD.sub (ws' := [(h0, .inr (5, fs_30)), (q_1, .inl (cA_2, 5, .inl (fun _ => 0)))]) [0, 1] (by decide) rfl
  have hK := hK.sub (tys' := [(cA_2, .int)]) [0] rfl
  refine lv_aload_n hx hb dX5_init_95 rfl (lv_at hl 0 rfl) ?_
  refine lv_iconst (v := 4) hx hb dX5_init_96 (by decide) ?_
  refine va_newa (atype := .int) (ty := .int) (N' := 4) (a0 := (4, .inl (fun _ => 0))) hx hb k_3 rfl hK hP hD hS hA (fun _ => rfl) (by decide) rfl (by decide) (by decide) (by decide) dX5_init_97 (fun q_31 cA_32 H hK hP hD hS => ?_)
  have hP : va_P (dC, dI) vwCl [(h0, .inr (5, fs_30)), (q_1, .inl (cA_2, 5, .inl (fun _ => 0))), (q_31, .inl (cA_32, 4, .inl (fun _ => 0)))] H := hP
  have hD : va_D A [(h0, .inr (5, fs_30)), (q_1, .inl (cA_2, 5, .inl (fun _ => 0))), (q_31, .inl (cA_32, 4, .inl (fun _ => 0)))] := hD
  have hK : va_K (dC, dI) vwCl [(cA_2, .int), (cA_32, .int)] s := hK
  refine W.widen (k := 25) (n := 148) (by decide) (by decide) ?_
  refine va_putF (D := (dC, dI)) (ci := 5) (v := .ref q_31) (ty := .array .int) (C := RX5) (T := TX5) (N := 15) hx hb hts i_X5 tyX5 tyX5_ok nmX5 hown hK hP hD hS 0 rfl rfl 11 (by decide) k_18 (fun _ h9 => h9) rfl hin rfl (by decide +kernel) rfl rfl (by rw [lfs_30]; decide) dX5_init_99 (fun H locs hP hD hS => ?_)
  have hP : va_P (dC, dI) vwCl [(h0, .inr (5, (fs_30.set 11 (.ref q_31)))), (q_1, .inl (cA_2, 5, .inl (fun _ => 0))), (q_31, .inl (cA_32, 4, .inl (fun _ => 0)))] H := hP
  have hD : va_D A [(h0, .inr (5, (fs_30.set 11 (.ref q_31)))), (q_1, .inl (cA_2, 5, .inl (fun _ => 0))), (q_31, .inl (cA_32, 4, .inl (fun _ => 0)))] := hD
  generalize efs_33 : (fs_30.set 11 (.ref q_31)) = fs_33 at hP hD
  have lfs_33 : fs_33.length = 15 := by rw [← efs_33, List.length_set]; exact lfs_30
  have ffs_33_0 : fs_33[0]? = some (.ref q_1) := by rw [← efs_33]; exact p1_sn (by decide) ffs_30_0
  have ffs_33_11 : fs_33[11]? = some (.ref q_31) := by rw [← efs_33]; exact p1_sa lfs_30 (by decide)
  have hP := hP.sub (ws' := [(h0, .inr (5, fs_33)), (q_1, .inl (cA_2, 5, .inl (fun _ => 0)))]) [0, 1] rfl
  have hD := hD.sub (ws' := [(h0, .inr (5, fs_33)), (q_1, .inl (cA_2, 5, .inl (fun _ => 0)))]) [0, 1] (by decide) rfl
  have hK := hK.sub (tys' := [(cA_2, .int)]) [0] rfl
  refine lv_aload_n hx hb dX5_init_102 rfl (lv_at hl 0 rfl) ?_
  refine va_new (ci := 3) (fs := [.null, .null, .null, .int 0, .int 0, .int 0]) (C := RX3) (T := TX3) (N := 6) hx hb hts i_X3 tyX3 tyX3_ok hown k_19 k_20 k_21 hK hP hD hS hA rfl (by decide) (by decide) (by decide) dX5_init_103 (fun q_34 H hP hD hS => ?_)
  have hP : va_P (dC, dI) vwCl [(h0, .inr (5, fs_33)), (q_1, .inl (cA_2, 5, .inl (fun _ => 0))), (q_34, .inr (3, [.null, .null, .null, .int 0, .int 0, .int 0]))] H := hP
  have hD : va_D A [(h0, .inr (5, fs_33)), (q_1, .inl (cA_2, 5, .inl (fun _ => 0))), (q_34, .inr (3, [.null, .null, .null, .int 0, .int 0, .int 0]))] := hD
  refine W.widen (k := 26) (n := 154) (by decide) (by decide) ?_
  refine lv_dup hx hb dX5_init_106 rfl ?_
  have hPc := hP.sub (ws' := [(q_34, .inr (3, [.null, .null, .null, .int 0, .int 0, .int 0]))]) [2] rfl
  have hDc := hD.sub (ws' := [(q_34, .inr (3, [.null, .null, .null, .int 0, .int 0, .int 0]))]) [2] (by decide) rfl
  have hKc := hK.sub (tys' := []) [] rfl
  have hFc := va_free (wc := [(q_34, .inr (3, [.null, .null, .null, .int 0, .int 0, .int 0]))]) hD hS hA [2] rfl
  refine va_callv (va_runIN (As := []) (rest := [.ref q_34, .ref h0]) ⟨hx, hb, hml, hown, hts⟩ (n_Laws l dC dI H.size q_34 ([.null, .null, .null, .int 0, .int 0, .int 0]) ((show [.null, .null, .null, .int 0, .int 0, .int 0].length = 6 from rfl))) ⟨va_cnB 0 hts (goodIn_sub g_n_Laws gz_n_Laws) rfl rfl rfl n2 k_21 (by decide +kernel) ⟨by decide, by decide⟩, rfl, k_22⟩ ⟨fun a U g mk q => by obtain ⟨q0, q1, qP, qK, qD⟩ := q; exact ⟨q0, q1, qP, va_K.moved (u := U) (U := U.calling g mk a) (Vm.Alike.refl U.vm) qK, qD⟩, fun U hU hW => ⟨rfl, by rw [hU], by rw [hU]; exact hPc, va_K.moved hW.alike hKc, hDc.weaken (fun _ _ _ _ => trivial)⟩⟩ rfl rfl hl.1 rfl (lv_room (Nat.le_of_ble_eq_true rfl)) dX5_init_107 ⟨by decide, by decide⟩) hS (fun q _ h => hFc q h) hFc (fun u t H1 locs ht hvm hw hB hz1 hk1 hS => ?_)
  obtain ⟨fo_36, lc_37, lb_38, cc1_39, cb1_40, z_41, z_42, z_43, z_44, z_45, z_46, hP1, hK1, hD1⟩ := hB
  rw [ht] at hP1
  obtain ⟨hP, hD⟩ := va_join (wr := [(h0, .inr (5, fs_33)), (q_1, .inl (cA_2, 5, .inl (fun _ => 0)))]) (w1 := [(q_34, .inr (3, fo_36)), (lc_37, .inl (cc1_39, 600, .inl (fun _ => 0))), (lb_38, .inl (cb1_40, 6, .inl (fun _ => 0)))]) hP hD [2] [0, 1] rfl rfl (by decide) (by decide) hk1 hFc hP1 hD1
  have hK := hK.app (va_K.moved hvm.symm hK1)
  generalize H1 = H at hP hS ⊢
  have hP : va_P (dC, dI) vwCl [(h0, .inr (5, fs_33)), (q_1, .inl (cA_2, 5, .inl (fun _ => 0))), (q_34, .inr (3, fo_36)), (lc_37, .inl (cc1_39, 600, .inl (fun _ => 0))), (lb_38, .inl (cb1_40, 6, .inl (fun _ => 0)))] H := hP
  have hD : va_D A [(h0, .inr (5, fs_33)), (q_1, .inl (cA_2, 5, .inl (fun _ => 0))), (q_34, .inr (3, fo_36)), (lc_37, .inl (cc1_39, 600, .inl (fun _ => 0))), (lb_38, .inl (cb1_40, 6, .inl (fun _ => 0)))] := hD
  have hK : va_K (dC, dI) vwCl [(cA_2, .int), (cc1_39, .int), (cb1_40, .int)] s := hK
  refine W.widen (k := 29) (n := 820) (by decide) (by decide) ?_
  try dsimp only at hw
  refine va_putF (D := (dC, dI)) (ci := 5) (v := .ref q_34) (ty := .object "BowWalk$Laws") (C := RX5) (T := TX5) (N := 15) hx hb hts i_X5 tyX5 tyX5_ok nmX5 hown hK hP hD hS 0 rfl rfl 12 (by decide) k_23 (fun _ h9 => h9) rfl hin rfl (by decide +kernel) rfl rfl (by rw [lfs_33]; decide) dX5_init_110 (fun H locs hP hD hS => ?_)
  have hP : va_P (dC, dI) vwCl [(h0, .inr (5, (fs_33.set 12 (.ref q_34)))), (q_1, .inl (cA_2, 5, .inl (fun _ => 0))), (q_34, .inr (3, fo_36)), (lc_37, .inl (cc1_39, 600, .inl (fun _ => 0))), (lb_38, .inl (cb1_40, 6, .inl (fun _ => 0)))] H := hP
  have hD : va_D A [(h0, .inr (5, (fs_33.set 12 (.ref q_34)))), (q_1, .inl (cA_2, 5, .inl (fun _ => 0))), (q_34, .inr (3, fo_36)), (lc_37, .inl (cc1_39, 600, .inl (fun _ => 0))), (lb_38, .inl (cb1_40, 6, .inl (fun _ => 0)))] := hD
  generalize efs_47 : (fs_33.set 12 (.ref q_34)) = fs_47 at hP hD
  have lfs_47 : fs_47.length = 15 := by rw [← efs_47, List.length_set]; exact lfs_33
  have ffs_47_0 : fs_47[0]? = some (.ref q_1) := by rw [← efs_47]; exact p1_sn (by decide) ffs_33_0
  have ffs_47_12 : fs_47[12]? = some (.ref q_34) := by rw [← efs_47]; exact p1_sa lfs_33 (by decide)
  refine lv_aload_n hx hb dX5_init_113 rfl (lv_at hl 0 rfl) ?_
  refine lv_iconst (v := 2) hx hb dX5_init_114 (by decide) ?_
  refine va_newa (atype := .int) (ty := .int) (N' := 2) (a0 := (2, .inl (fun _ => 0))) hx hb k_3 rfl hK hP hD hS hA (fun _ => rfl) (by decide) rfl (by decide) (by decide) (by decide) dX5_init_115 (fun q_48 cA_49 H hK hP hD hS => ?_)
  have hP : va_P (dC, dI) vwCl [(h0, .inr (5, fs_47)), (q_1, .inl (cA_2, 5, .inl (fun _ => 0))), (q_34, .inr (3, fo_36)), (lc_37, .inl (cc1_39, 600, .inl (fun _ => 0))), (lb_38, .inl (cb1_40, 6, .inl (fun _ => 0))), (q_48, .inl (cA_49, 2, .inl (fun _ => 0)))] H := hP
  have hD : va_D A [(h0, .inr (5, fs_47)), (q_1, .inl (cA_2, 5, .inl (fun _ => 0))), (q_34, .inr (3, fo_36)), (lc_37, .inl (cc1_39, 600, .inl (fun _ => 0))), (lb_38, .inl (cb1_40, 6, .inl (fun _ => 0))), (q_48, .inl (cA_49, 2, .inl (fun _ => 0)))] := hD
  have hK : va_K (dC, dI) vwCl [(cA_2, .int), (cc1_39, .int), (cb1_40, .int), (cA_49, .int)] s := hK
  refine W.widen (k := 30) (n := 822) (by decide) (by decide) ?_
  refine lv_dup hx hb dX5_init_117 rfl ?_
  refine lv_iconst (v := 0) hx hb dX5_init_118 (by decide) ?_
  refine lv_bipush (v := 100) hx hb dX5_init_119 (by decide) ?_
  refine va_iast hx hb hK hP hD hS 5 3 rfl rfl (p1_in (i := 0) (n := 2) (by decide)) dX5_init_121 (fun H locs hP hD hS => ?_)
  have hP : va_P (dC, dI) vwCl [(h0, .inr (5, fs_47)), (q_1, .inl (cA_2, 5, .inl (fun _ => 0))), (q_34, .inr (3, fo_36)), (lc_37, .inl (cc1_39, 600, .inl (fun _ => 0))), (lb_38, .inl (cb1_40, 6, .inl (fun _ => 0))), (q_48, .inl (cA_49, 2, .inl (upd (fun _ => 0) (0 : Int32).toNatClampNeg 100)))] H := hP
  have hD : va_D A [(h0, .inr (5, fs_47)), (q_1, .inl (cA_2, 5, .inl (fun _ => 0))), (q_34, .inr (3, fo_36)), (lc_37, .inl (cc1_39, 600, .inl (fun _ => 0))), (lb_38, .inl (cb1_40, 6, .inl (fun _ => 0))), (q_48, .inl (cA_49, 2, .inl (upd (fun _ => 0) (0 : Int32).toNatClampNeg 100)))] := hD
  generalize eg_50 : (upd (fun _ => 0) (0 : Int32).toNatClampNeg 100) = g_50 at hP hD
  refine lv_dup hx hb dX5_init_122 rfl ?_
  refine lv_iconst (v := 1) hx hb dX5_init_123 (by decide) ?_
  refine lv_iconst (v := 0) hx hb dX5_init_124 (by decide) ?_
  refine va_iast hx hb hK hP hD hS 5 3 rfl rfl (p1_in (i := 1) (n := 2) (by decide)) dX5_init_125 (fun H locs hP hD hS => ?_)
  have hP : va_P (dC, dI) vwCl [(h0, .inr (5, fs_47)), (q_1, .inl (cA_2, 5, .inl (fun _ => 0))), (q_34, .inr (3, fo_36)), (lc_37, .inl (cc1_39, 600, .inl (fun _ => 0))), (lb_38, .inl (cb1_40, 6, .inl (fun _ => 0))), (q_48, .inl (cA_49, 2, .inl (upd g_50 (1 : Int32).toNatClampNeg 0)))] H := hP
  have hD : va_D A [(h0, .inr (5, fs_47)), (q_1, .inl (cA_2, 5, .inl (fun _ => 0))), (q_34, .inr (3, fo_36)), (lc_37, .inl (cc1_39, 600, .inl (fun _ => 0))), (lb_38, .inl (cb1_40, 6, .inl (fun _ => 0))), (q_48, .inl (cA_49, 2, .inl (upd g_50 (1 : Int32).toNatClampNeg 0)))] := hD
  generalize eg_51 : (upd g_50 (1 : Int32).toNatClampNeg 0) = g_51 at hP hD
  refine va_putF (D := (dC, dI)) (ci := 5) (v := .ref q_48) (ty := .array .int) (C := RX5) (T := TX5) (N := 15) hx hb hts i_X5 tyX5 tyX5_ok nmX5 hown hK hP hD hS 0 rfl rfl 13 (by decide) k_24 (fun _ h9 => h9) rfl hin rfl (by decide +kernel) rfl rfl (by rw [lfs_47]; decide) dX5_init_126 (fun H locs hP hD hS => ?_)
  have hP : va_P (dC, dI) vwCl [(h0, .inr (5, (fs_47.set 13 (.ref q_48)))), (q_1, .inl (cA_2, 5, .inl (fun _ => 0))), (q_34, .inr (3, fo_36)), (lc_37, .inl (cc1_39, 600, .inl (fun _ => 0))), (lb_38, .inl (cb1_40, 6, .inl (fun _ => 0))), (q_48, .inl (cA_49, 2, .inl g_51))] H := hP
  have hD : va_D A [(h0, .inr (5, (fs_47.set 13 (.ref q_48)))), (q_1, .inl (cA_2, 5, .inl (fun _ => 0))), (q_34, .inr (3, fo_36)), (lc_37, .inl (cc1_39, 600, .inl (fun _ => 0))), (lb_38, .inl (cb1_40, 6, .inl (fun _ => 0))), (q_48, .inl (cA_49, 2, .inl g_51))] := hD
  generalize efs_52 : (fs_47.set 13 (.ref q_48)) = fs_52 at hP hD
  have lfs_52 : fs_52.length = 15 := by rw [← efs_52, List.length_set]; exact lfs_47
  have ffs_52_0 : fs_52[0]? = some (.ref q_1) := by rw [← efs_52]; exact p1_sn (by decide) ffs_47_0
  have ffs_52_12 : fs_52[12]? = some (.ref q_34) := by rw [← efs_52]; exact p1_sn (by decide) ffs_47_12
  have ffs_52_13 : fs_52[13]? = some (.ref q_48) := by rw [← efs_52]; exact p1_sa lfs_47 (by decide)
  refine lv_aload_n hx hb dX5_init_129 rfl (lv_at hl 0 rfl) ?_
  refine lv_iconst (v := 2) hx hb dX5_init_130 (by decide) ?_
  refine va_newa (atype := .boolean) (ty := .boolean) (N' := 2) (a0 := (2, .inl (fun _ => 0))) hx hb k_25 rfl hK hP hD hS hA (fun _ => rfl) (by decide) rfl (by decide) (by decide) (by decide) dX5_init_131 (fun q_53 cA_54 H hK hP hD hS => ?_)
  have hP : va_P (dC, dI) vwCl [(h0, .inr (5, fs_52)), (q_1, .inl (cA_2, 5, .inl (fun _ => 0))), (q_34, .inr (3, fo_36)), (lc_37, .inl (cc1_39, 600, .inl (fun _ => 0))), (lb_38, .inl (cb1_40, 6, .inl (fun _ => 0))), (q_48, .inl (cA_49, 2, .inl g_51)), (q_53, .inl (cA_54, 2, .inl (fun _ => 0)))] H := hP
  have hD : va_D A [(h0, .inr (5, fs_52)), (q_1, .inl (cA_2, 5, .inl (fun _ => 0))), (q_34, .inr (3, fo_36)), (lc_37, .inl (cc1_39, 600, .inl (fun _ => 0))), (lb_38, .inl (cb1_40, 6, .inl (fun _ => 0))), (q_48, .inl (cA_49, 2, .inl g_51)), (q_53, .inl (cA_54, 2, .inl (fun _ => 0)))] := hD
  have hK : va_K (dC, dI) vwCl [(cA_2, .int), (cc1_39, .int), (cb1_40, .int), (cA_49, .int), (cA_54, .boolean)] s := hK
  refine W.widen (k := 31) (n := 824) (by decide) (by decide) ?_
  refine va_putF (D := (dC, dI)) (ci := 5) (v := .ref q_53) (ty := .array .boolean) (C := RX5) (T := TX5) (N := 15) hx hb hts i_X5 tyX5 tyX5_ok nmX5 hown hK hP hD hS 0 rfl rfl 14 (by decide) k_26 (fun _ h9 => h9) rfl hin rfl (by decide +kernel) rfl rfl (by rw [lfs_52]; decide) dX5_init_133 (fun H locs hP hD hS => ?_)
  have hP : va_P (dC, dI) vwCl [(h0, .inr (5, (fs_52.set 14 (.ref q_53)))), (q_1, .inl (cA_2, 5, .inl (fun _ => 0))), (q_34, .inr (3, fo_36)), (lc_37, .inl (cc1_39, 600, .inl (fun _ => 0))), (lb_38, .inl (cb1_40, 6, .inl (fun _ => 0))), (q_48, .inl (cA_49, 2, .inl g_51)), (q_53, .inl (cA_54, 2, .inl (fun _ => 0)))] H := hP
  have hD : va_D A [(h0, .inr (5, (fs_52.set 14 (.ref q_53)))), (q_1, .inl (cA_2, 5, .inl (fun _ => 0))), (q_34, .inr (3, fo_36)), (lc_37, .inl (cc1_39, 600, .inl (fun _ => 0))), (lb_38, .inl (cb1_40, 6, .inl (fun _ => 0))), (q_48, .inl (cA_49, 2, .inl g_51)), (q_53, .inl (cA_54, 2, .inl (fun _ => 0)))] := hD
  generalize efs_55 : (fs_52.set 14 (.ref q_53)) = fs_55 at hP hD
  have lfs_55 : fs_55.length = 15 := by rw [← efs_55, List.length_set]; exact lfs_52
  have ffs_55_0 : fs_55[0]? = some (.ref q_1) := by rw [← efs_55]; exact p1_sn (by decide) ffs_52_0
  have ffs_55_12 : fs_55[12]? = some (.ref q_34) := by rw [← efs_55]; exact p1_sn (by decide) ffs_52_12
  have ffs_55_13 : fs_55[13]? = some (.ref q_48) := by rw [← efs_55]; exact p1_sn (by decide) ffs_52_13
  have ffs_55_14 : fs_55[14]? = some (.ref q_53) := by rw [← efs_55]; exact p1_sa lfs_52 (by decide)
  have hP9 := hP.sub (ws' := [(h0, .inr (5, fs_55)), (q_1, .inl (cA_2, 5, .inl (fun _ => 0))), (q_34, .inr (3, fo_36)), (lc_37, .inl (cc1_39, 600, .inl (fun _ => 0))), (lb_38, .inl (cb1_40, 6, .inl (fun _ => 0))), (q_48, .inl (cA_49, 2, .inl g_51)), (q_53, .inl (cA_54, 2, .inl (fun _ => 0)))]) [0, 1, 2, 3, 4, 5, 6] rfl
  have hD9 := hD.sub (ws' := [(h0, .inr (5, fs_55)), (q_1, .inl (cA_2, 5, .inl (fun _ => 0))), (q_34, .inr (3, fo_36)), (lc_37, .inl (cc1_39, 600, .inl (fun _ => 0))), (lb_38, .inl (cb1_40, 6, .inl (fun _ => 0))), (q_48, .inl (cA_49, 2, .inl g_51)), (q_53, .inl (cA_54, 2, .inl (fun _ => 0)))]) [0, 1, 2, 3, 4, 5, 6] (by decide) rfl
  have hK9 := hK.sub (tys' := [(cA_2, .int), (cc1_39, .int), (cb1_40, .int), (cA_49, .int), (cA_54, .boolean)]) [0, 1, 2, 3, 4] rfl
  exact W.vret hx hb hr (fun t ht hW => ⟨⟨(), rfl, trivial, fs_55, q_1, q_34, q_48, q_53, cA_2, fo_36, lc_37, lb_38, cc1_39, cb1_40, cA_49, g_51, cA_54, lfs_55, ffs_55_0, ffs_55_12, ffs_55_13, ffs_55_14, z_41, z_42, z_43, z_44, z_45, z_46, by rw [ht]; exact hP9, va_K.moved hW.alike hK9, hD9⟩, hS.F ht⟩) hS.2.2 dX5_init_136
def zo_s_coder : List Cond := [.code yJ0_coder_7d493 cJ0_coder_7d493 1 (some .byte), .fieldLink RJ0 38 "java/lang/String" "COMPACT_STRINGS" "Z", .fieldLink RJ0 15 "java/lang/String" "coder" "B"]
def zw_s_coder : List Cond := zo_s_coder ++ []
theorem gz_s_coder : zw_s_coder.all goodWord = true := p1_ga (by decide +kernel) p1_g0
theorem iz_s_coder : ∀ w ∈ zw_s_coder, w ∈ lw_tbl := p1_ia (p1_all [262, 263, 1698] (by decide +kernel)) p1_i0
set_option maxHeartbeats 4000000 in
set_option maxRecDepth 100000 in
theorem s_coder (l : Launch) (dC : Nat → ClassId) (dI : Nat → Nat → Nat) (sz : Nat) (sK : Nat) (sV : Nat) (sf : Nat → Int32) : Met l yJ0_coder_7d493 zw_s_coder ({ frames := 0, cells := 0, slots := 0, locals := 0 }) (va_Pc [.ref sK] (fun U => U.heap.size = sz ∧ va_P (dC, dI) vwCl [] U.heap ∧ va_K (dC, dI) vwCl [] U ∧ va_D (fun _ => True) [] ∧ p1_st sK sV sf (va_A [] sz) U U.heap)) (va_Qi (fun (r : Int32) (_ : Unit) => r = 0) (fun _ t => va_P (dC, dI) vwCl [] t.heap ∧ va_K (dC, dI) vwCl [] t ∧ va_D (va_A [] sz) []) (va_A [] sz)) 0 0 (va_A [] sz) := by
  refine Met.ofW (cc := cJ0_coder_7d493) (maxL := 1) (ret := (some .byte)) (by decide) rfl ?_
  intro p e s m args below meth c s₁ B hml hv
  obtain ⟨rfl, hsz, hP, hK, hD0, hE⟩ := hv
  have hx := B.exec
  have hb := B.bytes
  have hr := B.returns
  have hts := atoms_spec (ws := zw_s_coder) B.pre
  have hown : s.vm.findClass RJ0 = some m.cls := findClass_of_methodNamed B.named
  have hlocks := B.notSynchronized
  subst hsz
  have hD := hD0.self (sz := s.heap.size)
  generalize hAe : va_A [] s.heap.size = A at hD hE ⊢
  have hA : ∀ q : Nat, s.heap.size ≤ q → A q := fun q h => by rw [← hAe]; exact Or.inr h
  have hS : va_S A s.heap s.heap [] := va_S.rf
  have hP : va_P (dC, dI) vwCl [] s.heap := hP
  obtain ⟨t1, t2, t3, t4, z1, z2⟩ := id hE
  have m_0 : (.fieldLink RJ0 38 "java/lang/String" "COMPACT_STRINGS" "Z" : Cond) ∈ zw_s_coder := List.mem_append_left _ (List.mem_of_getElem? (i := 1) rfl)
  have k_0 := hts _ m_0
  have m_1 : (.fieldLink RJ0 15 "java/lang/String" "coder" "B" : Cond) ∈ zw_s_coder := List.mem_append_left _ (List.mem_of_getElem? (i := 2) rfl)
  have k_1 := hts _ m_1
  have hl := lv_entry ([.ref sK]) (n := 1) (Nat.le_of_ble_eq_true rfl)
  rw [lg_entry_eq]
  generalize (lg_sl ([.ref sK]) ++ List.replicate (1 - (lg_sl ([.ref sK])).length) Slot.unset).toArray = ls at hl ⊢
  have hl : lv_has ls 1 [(0, .ref sK)] := hl
  refine va_gets (v := .int 1) hx hb z1 hS hown k_0 (fun _ h9 => h9) dJ0_coder_7d493_0 ?_
  refine lv_if_eq (tgt := 13) hx hb dJ0_coder_7d493_3 (by decide) (fun c9 => absurd c9 (by decide)) (fun _ => ?_)
  refine lv_aload_n hx hb dJ0_coder_7d493_6 rfl (lv_at hl 0 rfl) ?_
  refine vk_getf (v := .int 0) hx hb t2 hS hown k_1 (fun _ h9 => h9) dJ0_coder_7d493_7 ?_
  refine lv_goto (tgt := 14) hx hb dJ0_coder_7d493_10 (by decide) ?_
  have hP9 := hP.sub (ws' := []) [] rfl
  have hD9 := hD.sub (ws' := []) [] (by decide) rfl
  have hK9 := hK.sub (tys' := []) [] rfl
  exact W.zret (v := 0) hx hb hr (by decide) (fun t ht hW => ⟨⟨0, (), rfl, rfl, by rw [ht]; exact hP9, va_K.moved hW.alike hK9, hD9⟩, hS.F ht⟩) hS.2.2 dJ0_coder_7d493_14
def zo_s_length : List Cond := [.code yJ0_length_8abf5 cJ0_length_8abf5 1 (some .int), .fieldLink RJ0 9 "java/lang/String" "value" "[B", .methodLink RJ0 335 yJ0_coder_7d493, .instanceMethod yJ0_coder_7d493, .selects RJ0 yJ0_coder_7d493 yJ0_coder_7d493, .initialized RJ0]
def zw_s_length : List Cond := zo_s_length ++ (zw_s_coder ++ [])
theorem gz_s_length : zw_s_length.all goodWord = true := p1_ga (by decide +kernel) (p1_ga gz_s_coder p1_g0)
theorem iz_s_length : ∀ w ∈ zw_s_length, w ∈ lw_tbl := p1_ia (p1_all [258, 1697, 259, 260, 261, 108] (by decide +kernel)) (p1_ia iz_s_coder p1_i0)
set_option maxHeartbeats 4000000 in
set_option maxRecDepth 100000 in
theorem s_length (l : Launch) (dC : Nat → ClassId) (dI : Nat → Nat → Nat) (sz : Nat) (sK : Nat) (sV : Nat) (sf : Nat → Int32) : Met l yJ0_length_8abf5 zw_s_length ({ frames := 1, cells := 0, slots := 0, locals := 20 }) (va_Pc [.ref sK] (fun U => U.heap.size = sz ∧ va_P (dC, dI) vwCl [] U.heap ∧ va_K (dC, dI) vwCl [] U ∧ va_D (fun _ => True) [] ∧ p1_st sK sV sf (va_A [] sz) U U.heap)) (va_Qi (fun (r : Int32) (_ : Unit) => r = 115) (fun _ t => va_P (dC, dI) vwCl [] t.heap ∧ va_K (dC, dI) vwCl [] t ∧ va_D (va_A [] sz) []) (va_A [] sz)) 0 0 (va_A [] sz) := by
  refine Met.ofW (cc := cJ0_length_8abf5) (maxL := 1) (ret := (some .int)) (by decide) rfl ?_
  intro p e s m args below meth c s₁ B hml hv
  obtain ⟨rfl, hsz, hP, hK, hD0, hE⟩ := hv
  have hx := B.exec
  have hb := B.bytes
  have hr := B.returns
  have hts := atoms_spec (ws := zw_s_length) B.pre
  have hown : s.vm.findClass RJ0 = some m.cls := findClass_of_methodNamed B.named
  have hlocks := B.notSynchronized
  subst hsz
  have hD := hD0.self (sz := s.heap.size)
  generalize hAe : va_A [] s.heap.size = A at hD hE ⊢
  have hA : ∀ q : Nat, s.heap.size ≤ q → A q := fun q h => by rw [← hAe]; exact Or.inr h
  have hS : va_S A s.heap s.heap [] := va_S.rf
  have hP : va_P (dC, dI) vwCl [] s.heap := hP
  obtain ⟨t1, t2, t3, t4, z1, z2⟩ := id hE
  have m_0 : (.fieldLink RJ0 9 "java/lang/String" "value" "[B" : Cond) ∈ zw_s_length := List.mem_append_left _ (List.mem_of_getElem? (i := 1) rfl)
  have k_0 := hts _ m_0
  have m_1 : (.methodLink RJ0 335 yJ0_coder_7d493 : Cond) ∈ zw_s_length := List.mem_append_left _ (List.mem_of_getElem? (i := 2) rfl)
  have k_1 := hts _ m_1
  have m_2 : (.instanceMethod yJ0_coder_7d493 : Cond) ∈ zw_s_length := List.mem_append_left _ (List.mem_of_getElem? (i := 3) rfl)
  have k_2 := hts _ m_2
  have m_3 : (.selects RJ0 yJ0_coder_7d493 yJ0_coder_7d493 : Cond) ∈ zw_s_length := List.mem_append_left _ (List.mem_of_getElem? (i := 4) rfl)
  have k_3 := hts _ m_3
  have m_4 : (.initialized RJ0 : Cond) ∈ zw_s_length := List.mem_append_left _ (List.mem_of_getElem? (i := 5) rfl)
  have k_4 := hts _ m_4
  have g_s_coder : ∀ w ∈ zw_s_coder, w ∈ zw_s_length := fun w h => List.mem_append_right _ (List.mem_append_left _ h)
  have hl := lv_entry ([.ref sK]) (n := 1) (Nat.le_of_ble_eq_true rfl)
  rw [lg_entry_eq]
  generalize (lg_sl ([.ref sK]) ++ List.replicate (1 - (lg_sl ([.ref sK])).length) Slot.unset).toArray = ls at hl ⊢
  have hl : lv_has ls 1 [(0, .ref sK)] := hl
  refine lv_aload_n hx hb dJ0_length_8abf5_0 rfl (lv_at hl 0 rfl) ?_
  refine vk_getf (v := .ref sV) hx hb t3 hS hown k_0 (fun _ h9 => h9) dJ0_length_8abf5_1 ?_
  refine va_tlen (v := 115) hx hb t4 hS rfl dJ0_length_8abf5_4 ?_
  refine lv_aload_n hx hb dJ0_length_8abf5_5 rfl (lv_at hl 0 rfl) ?_
  have hPc := hP.sub (ws' := []) [] rfl
  have hDc := hD.sub (ws' := []) [] (by decide) rfl
  have hKc := hK.sub (tys' := []) [] rfl
  have hFc := va_free (wc := []) hD hS hA [] rfl
  refine va_calli (va_runV (As := []) (rest := [.int 115]) ⟨hx, hb, hml, hown, hts⟩ (s_coder l dC dI s.heap.size sK sV sf) (cwV 0 hts (p1_gV m_1 m_2 m_3 m_4 g_s_coder gz_s_coder) rfl rfl rfl (by decide +kernel) ⟨by decide, by decide⟩) ⟨fun a U g mk q => by obtain ⟨q0, q1, qP, qK, qD, qE⟩ := q; exact ⟨q0, q1, qP, va_K.moved (u := U) (U := U.calling g mk a) (Vm.Alike.refl U.vm) qK, qD, qE⟩, p1_recv t1 hS, fun U hU hW => ⟨rfl, by rw [hU], by rw [hU]; exact hPc, va_K.moved hW.alike hKc, hDc.weaken (fun _ _ _ _ => trivial), by rw [hU]; exact p1_st.warm hE hW hS (fun q h => hFc q h)⟩⟩ rfl rfl hl.1 rfl (lv_room (Nat.le_of_ble_eq_true rfl)) dJ0_length_8abf5_6 ⟨by decide, by decide⟩) hS (fun q _ h => hFc q h) hFc (fun r_1 u t H1 locs ht hvm hw hB hz1 hk1 hS => ?_)
  obtain ⟨hP1, hK1, hD1⟩ := hB
  rw [ht] at hP1
  obtain ⟨hP, hD⟩ := va_join (wr := []) (w1 := []) hP hD [] [] rfl rfl (by decide) (by decide) hk1 hFc hP1 hD1
  generalize H1 = H at hP hS ⊢
  have hP : va_P (dC, dI) vwCl [] H := hP
  have hD : va_D A [] := hD
  try dsimp only at hw
  obtain rfl : r_1 = 0 := hw
  refine lv_ishr hx hb dJ0_length_8abf5_9 ?_
  refine lv_topi (fun v_2 ev_2 => ?_)
  obtain rfl : v_2 = 115 := ev_2.trans (by decide)
  have hP9 := hP.sub (ws' := []) [] rfl
  have hD9 := hD.sub (ws' := []) [] (by decide) rfl
  have hK9 := hK.sub (tys' := []) [] rfl
  exact W.iret (v := 115) hx hb hr (fun t ht hW => ⟨⟨115, (), rfl, rfl, by rw [ht]; exact hP9, va_K.moved hW.alike hK9, hD9⟩, hS.F ht⟩) hS.2.2 dJ0_length_8abf5_10
def zo_s_isLatin1 : List Cond := [.code yJ0_isLatin1_aae02 cJ0_isLatin1_aae02 1 (some .boolean), .fieldLink RJ0 38 "java/lang/String" "COMPACT_STRINGS" "Z", .fieldLink RJ0 15 "java/lang/String" "coder" "B"]
def zw_s_isLatin1 : List Cond := zo_s_isLatin1 ++ []
theorem gz_s_isLatin1 : zw_s_isLatin1.all goodWord = true := p1_ga (by decide +kernel) p1_g0
theorem iz_s_isLatin1 : ∀ w ∈ zw_s_isLatin1, w ∈ lw_tbl := p1_ia (p1_all [272, 263, 1698] (by decide +kernel)) p1_i0
set_option maxHeartbeats 4000000 in
set_option maxRecDepth 100000 in
theorem s_isLatin1 (l : Launch) (dC : Nat → ClassId) (dI : Nat → Nat → Nat) (sz : Nat) (sK : Nat) (sV : Nat) (sf : Nat → Int32) : Met l yJ0_isLatin1_aae02 zw_s_isLatin1 ({ frames := 0, cells := 0, slots := 0, locals := 0 }) (va_Pc [.ref sK] (fun U => U.heap.size = sz ∧ va_P (dC, dI) vwCl [] U.heap ∧ va_K (dC, dI) vwCl [] U ∧ va_D (fun _ => True) [] ∧ p1_st sK sV sf (va_A [] sz) U U.heap)) (va_Qi (fun (r : Int32) (_ : Unit) => r = 1) (fun _ t => va_P (dC, dI) vwCl [] t.heap ∧ va_K (dC, dI) vwCl [] t ∧ va_D (va_A [] sz) []) (va_A [] sz)) 0 0 (va_A [] sz) := by
  refine Met.ofW (cc := cJ0_isLatin1_aae02) (maxL := 1) (ret := (some .boolean)) (by decide) rfl ?_
  intro p e s m args below meth c s₁ B hml hv
  obtain ⟨rfl, hsz, hP, hK, hD0, hE⟩ := hv
  have hx := B.exec
  have hb := B.bytes
  have hr := B.returns
  have hts := atoms_spec (ws := zw_s_isLatin1) B.pre
  have hown : s.vm.findClass RJ0 = some m.cls := findClass_of_methodNamed B.named
  have hlocks := B.notSynchronized
  subst hsz
  have hD := hD0.self (sz := s.heap.size)
  generalize hAe : va_A [] s.heap.size = A at hD hE ⊢
  have hA : ∀ q : Nat, s.heap.size ≤ q → A q := fun q h => by rw [← hAe]; exact Or.inr h
  have hS : va_S A s.heap s.heap [] := va_S.rf
  have hP : va_P (dC, dI) vwCl [] s.heap := hP
  obtain ⟨t1, t2, t3, t4, z1, z2⟩ := id hE
  have m_0 : (.fieldLink RJ0 38 "java/lang/String" "COMPACT_STRINGS" "Z" : Cond) ∈ zw_s_isLatin1 := List.mem_append_left _ (List.mem_of_getElem? (i := 1) rfl)
  have k_0 := hts _ m_0
  have m_1 : (.fieldLink RJ0 15 "java/lang/String" "coder" "B" : Cond) ∈ zw_s_isLatin1 := List.mem_append_left _ (List.mem_of_getElem? (i := 2) rfl)
  have k_1 := hts _ m_1
  have hl := lv_entry ([.ref sK]) (n := 1) (Nat.le_of_ble_eq_true rfl)
  rw [lg_entry_eq]
  generalize (lg_sl ([.ref sK]) ++ List.replicate (1 - (lg_sl ([.ref sK])).length) Slot.unset).toArray = ls at hl ⊢
  have hl : lv_has ls 1 [(0, .ref sK)] := hl
  refine va_gets (v := .int 1) hx hb z1 hS hown k_0 (fun _ h9 => h9) dJ0_isLatin1_aae02_0 ?_
  refine lv_if_eq (tgt := 17) hx hb dJ0_isLatin1_aae02_3 (by decide) (fun c9 => absurd c9 (by decide)) (fun _ => ?_)
  refine lv_aload_n hx hb dJ0_isLatin1_aae02_6 rfl (lv_at hl 0 rfl) ?_
  refine vk_getf (v := .int 0) hx hb t2 hS hown k_1 (fun _ h9 => h9) dJ0_isLatin1_aae02_7 ?_
  refine lv_if_ne (tgt := 17) hx hb dJ0_isLatin1_aae02_10 (by decide) (fun c9 => absurd c9 (by decide)) (fun _ => ?_)
  refine lv_iconst (v := 1) hx hb dJ0_isLatin1_aae02_13 (by decide) ?_
  refine lv_goto (tgt := 18) hx hb dJ0_isLatin1_aae02_14 (by decide) ?_
  have hP9 := hP.sub (ws' := []) [] rfl
  have hD9 := hD.sub (ws' := []) [] (by decide) rfl
  have hK9 := hK.sub (tys' := []) [] rfl
  exact W.zret (v := 1) hx hb hr (by decide) (fun t ht hW => ⟨⟨1, (), rfl, rfl, by rw [ht]; exact hP9, va_K.moved hW.alike hK9, hD9⟩, hS.F ht⟩) hS.2.2 dJ0_isLatin1_aae02_18
def zo_s_pciN : List Cond := [.code yJ3_checkIndex_8e157 cJ3_checkIndex_8e157 3 (some .int)]
def zw_s_pciN : List Cond := zo_s_pciN ++ []
theorem gz_s_pciN : zw_s_pciN.all goodWord = true := p1_ga (by decide +kernel) p1_g0
theorem iz_s_pciN : ∀ w ∈ zw_s_pciN, w ∈ lw_tbl := p1_ia (p1_all [283] (by decide +kernel)) p1_i0
set_option maxHeartbeats 4000000 in
set_option maxRecDepth 100000 in
theorem s_pciN (l : Launch) (dC : Nat → ClassId) (dI : Nat → Nat → Nat) (sz : Nat) (a1 : Int32) (h1 : ¬ a1 < 0) (h2 : a1 < 115) : Met l yJ3_checkIndex_8e157 zw_s_pciN ({ frames := 0, cells := 0, slots := 0, locals := 0 }) (va_Pc [.int a1, .int 115, .null] (fun U => U.heap.size = sz ∧ va_P (dC, dI) vwCl [] U.heap ∧ va_K (dC, dI) vwCl [] U ∧ va_D (fun _ => True) [])) (va_Qi (fun (r : Int32) (_ : Unit) => True) (fun _ t => va_P (dC, dI) vwCl [] t.heap ∧ va_K (dC, dI) vwCl [] t ∧ va_D (va_A [] sz) []) (va_A [] sz)) 0 0 (va_A [] sz) := by
  refine Met.ofW (cc := cJ3_checkIndex_8e157) (maxL := 3) (ret := (some .int)) (by decide) rfl ?_
  intro p e s m args below meth c s₁ B hml hv
  obtain ⟨rfl, hsz, hP, hK, hD0⟩ := hv
  have hx := B.exec
  have hb := B.bytes
  have hr := B.returns
  have hts := atoms_spec (ws := zw_s_pciN) B.pre
  have hown : s.vm.findClass RJ3 = some m.cls := findClass_of_methodNamed B.named
  have hlocks := B.notSynchronized
  subst hsz
  have hD := hD0.self (sz := s.heap.size)
  generalize hAe : va_A [] s.heap.size = A at hD ⊢
  have hA : ∀ q : Nat, s.heap.size ≤ q → A q := fun q h => by rw [← hAe]; exact Or.inr h
  have hS : va_S A s.heap s.heap [] := va_S.rf
  have hP : va_P (dC, dI) vwCl [] s.heap := hP
  have hl := lv_entry ([.int a1, .int 115, .null]) (n := 3) (Nat.le_of_ble_eq_true rfl)
  rw [lg_entry_eq]
  generalize (lg_sl ([.int a1, .int 115, .null]) ++ List.replicate (3 - (lg_sl ([.int a1, .int 115, .null])).length) Slot.unset).toArray = ls at hl ⊢
  have hl : lv_has ls 3 [(0, .int a1), (1, .int 115), (2, .null)] := hl
  refine lv_iload_n hx hb dJ3_checkIndex_8e157_0 rfl (lv_at hl 0 rfl) ?_
  refine lv_if_lt (tgt := 9) hx hb dJ3_checkIndex_8e157_1 (by decide) (fun c1 => absurd c1 h1) (fun c1 => ?_)
  refine lv_iload_n hx hb dJ3_checkIndex_8e157_4 rfl (lv_at hl 0 rfl) ?_
  refine lv_iload_n hx hb dJ3_checkIndex_8e157_5 rfl (lv_at hl 1 rfl) ?_
  refine lv_icmp_lt (tgt := 16) hx hb dJ3_checkIndex_8e157_6 (by decide) (fun c6 => ?_) (fun c6 => absurd c6 (fun z9 => z9 h2))
  refine lv_iload_n hx hb dJ3_checkIndex_8e157_16 rfl (lv_at hl 0 rfl) ?_
  have hP9 := hP.sub (ws' := []) [] rfl
  have hD9 := hD.sub (ws' := []) [] (by decide) rfl
  have hK9 := hK.sub (tys' := []) [] rfl
  exact W.iret (v := a1) hx hb hr (fun t ht hW => ⟨⟨a1, (), rfl, trivial, by rw [ht]; exact hP9, va_K.moved hW.alike hK9, hD9⟩, hS.F ht⟩) hS.2.2 dJ3_checkIndex_8e157_17
def zo_s_pciR : List Cond := [.code yJ3_checkIndex_8e157 cJ3_checkIndex_8e157 3 (some .int)]
def zw_s_pciR : List Cond := zo_s_pciR ++ []
theorem gz_s_pciR : zw_s_pciR.all goodWord = true := p1_ga (by decide +kernel) p1_g0
theorem iz_s_pciR : ∀ w ∈ zw_s_pciR, w ∈ lw_tbl := p1_ia (p1_all [283] (by decide +kernel)) p1_i0
set_option maxHeartbeats 4000000 in
set_option maxRecDepth 100000 in
theorem s_pciR (l : Launch) (dC : Nat → ClassId) (dI : Nat → Nat → Nat) (sz : Nat) (a1 : Int32) (tq : Nat) (h1 : ¬ a1 < 0) (h2 : a1 < 115) : Met l yJ3_checkIndex_8e157 zw_s_pciR ({ frames := 0, cells := 0, slots := 0, locals := 0 }) (va_Pc [.int a1, .int 115, .ref tq] (fun U => U.heap.size = sz ∧ va_P (dC, dI) vwCl [] U.heap ∧ va_K (dC, dI) vwCl [] U ∧ va_D (fun _ => True) [])) (va_Qi (fun (r : Int32) (_ : Unit) => True) (fun _ t => va_P (dC, dI) vwCl [] t.heap ∧ va_K (dC, dI) vwCl [] t ∧ va_D (va_A [] sz) []) (va_A [] sz)) 0 0 (va_A [] sz) := by
  refine Met.ofW (cc := cJ3_checkIndex_8e157) (maxL := 3) (ret := (some .int)) (by decide) rfl ?_
  intro p e s m args below meth c s₁ B hml hv
  obtain ⟨rfl, hsz, hP, hK, hD0⟩ := hv
  have hx := B.exec
  have hb := B.bytes
  have hr := B.returns
  have hts := atoms_spec (ws := zw_s_pciR) B.pre
  have hown : s.vm.findClass RJ3 = some m.cls := findClass_of_methodNamed B.named
  have hlocks := B.notSynchronized
  subst hsz
  have hD := hD0.self (sz := s.heap.size)
  generalize hAe : va_A [] s.heap.size = A at hD ⊢
  have hA : ∀ q : Nat, s.heap.size ≤ q → A q := fun q h => by rw [← hAe]; exact Or.inr h
  have hS : va_S A s.heap s.heap [] := va_S.rf
  have hP : va_P (dC, dI) vwCl [] s.heap := hP
  have hl := lv_entry ([.int a1, .int 115, .ref tq]) (n := 3) (Nat.le_of_ble_eq_true rfl)
  rw [lg_entry_eq]
  generalize (lg_sl ([.int a1, .int 115, .ref tq]) ++ List.replicate (3 - (lg_sl ([.int a1, .int 115, .ref tq])).length) Slot.unset).toArray = ls at hl ⊢
  have hl : lv_has ls 3 [(0, .int a1), (1, .int 115), (2, .ref tq)] := hl
  refine lv_iload_n hx hb dJ3_checkIndex_8e157_0 rfl (lv_at hl 0 rfl) ?_
  refine lv_if_lt (tgt := 9) hx hb dJ3_checkIndex_8e157_1 (by decide) (fun c1 => absurd c1 h1) (fun c1 => ?_)
  refine lv_iload_n hx hb dJ3_checkIndex_8e157_4 rfl (lv_at hl 0 rfl) ?_
  refine lv_iload_n hx hb dJ3_checkIndex_8e157_5 rfl (lv_at hl 1 rfl) ?_
  refine lv_icmp_lt (tgt := 16) hx hb dJ3_checkIndex_8e157_6 (by decide) (fun c6 => ?_) (fun c6 => absurd c6 (fun z9 => z9 h2))
  refine lv_iload_n hx hb dJ3_checkIndex_8e157_16 rfl (lv_at hl 0 rfl) ?_
  have hP9 := hP.sub (ws' := []) [] rfl
  have hD9 := hD.sub (ws' := []) [] (by decide) rfl
  have hK9 := hK.sub (tys' := []) [] rfl
  exact W.iret (v := a1) hx hb hr (fun t ht hW => ⟨⟨a1, (), rfl, trivial, by rw [ht]; exact hP9, va_K.moved hW.alike hK9, hD9⟩, hS.F ht⟩) hS.2.2 dJ3_checkIndex_8e157_17
def zo_s_checkIndex : List Cond := [.code yJ0_checkIndex_df160 cJ0_checkIndex_df160 2 none, .fieldLink RJ0 1053 "jdk/internal/util/Preconditions" "SIOOBE_FORMATTER" "Ljava/util/function/BiFunction;", .methodLink RJ0 1059 yJ3_checkIndex_8e157, .static yJ3_checkIndex_8e157, .initialized RJ3]
def zw_s_checkIndex : List Cond := zo_s_checkIndex ++ (zw_s_pciN ++ (zw_s_pciR ++ []))
theorem gz_s_checkIndex : zw_s_checkIndex.all goodWord = true := p1_ga (by decide +kernel) (p1_ga gz_s_pciN (p1_ga gz_s_pciR p1_g0))
theorem iz_s_checkIndex : ∀ w ∈ zw_s_checkIndex, w ∈ lw_tbl := p1_ia (p1_all [278, 279, 281, 282, 110] (by decide +kernel)) (p1_ia iz_s_pciN (p1_ia iz_s_pciR p1_i0))
set_option maxHeartbeats 4000000 in
set_option maxRecDepth 100000 in
theorem s_checkIndex (l : Launch) (dC : Nat → ClassId) (dI : Nat → Nat → Nat) (sz : Nat) (a1 : Int32) (sK : Nat) (sV : Nat) (sf : Nat → Int32) (h1 : ¬ a1 < 0) (h2 : a1 < 115) : Met l yJ0_checkIndex_df160 zw_s_checkIndex ({ frames := 1, cells := 0, slots := 0, locals := 22 }) (va_Pc [.int a1, .int 115] (fun U => U.heap.size = sz ∧ va_P (dC, dI) vwCl [] U.heap ∧ va_K (dC, dI) vwCl [] U ∧ va_D (fun _ => True) [] ∧ p1_st sK sV sf (va_A [] sz) U U.heap)) (va_Qv (fun (_ : Unit) => True) (fun _ t => va_P (dC, dI) vwCl [] t.heap ∧ va_K (dC, dI) vwCl [] t ∧ va_D (va_A [] sz) []) (va_A [] sz)) 0 0 (va_A [] sz) := by
  refine Met.ofW (cc := cJ0_checkIndex_df160) (maxL := 2) (ret := none) (by decide) rfl ?_
  intro p e s m args below meth c s₁ B hml hv
  obtain ⟨rfl, hsz, hP, hK, hD0, hE⟩ := hv
  have hx := B.exec
  have hb := B.bytes
  have hr := B.returns
  have hts := atoms_spec (ws := zw_s_checkIndex) B.pre
  have hown : s.vm.findClass RJ0 = some m.cls := findClass_of_methodNamed B.named
  have hlocks := B.notSynchronized
  subst hsz
  have hD := hD0.self (sz := s.heap.size)
  generalize hAe : va_A [] s.heap.size = A at hD hE ⊢
  have hA : ∀ q : Nat, s.heap.size ≤ q → A q := fun q h => by rw [← hAe]; exact Or.inr h
  have hS : va_S A s.heap s.heap [] := va_S.rf
  have hP : va_P (dC, dI) vwCl [] s.heap := hP
  obtain ⟨t1, t2, t3, t4, z1, z2⟩ := id hE
  have m_0 : (.fieldLink RJ0 1053 "jdk/internal/util/Preconditions" "SIOOBE_FORMATTER" "Ljava/util/function/BiFunction;" : Cond) ∈ zw_s_checkIndex := List.mem_append_left _ (List.mem_of_getElem? (i := 1) rfl)
  have k_0 := hts _ m_0
  have m_1 : (.methodLink RJ0 1059 yJ3_checkIndex_8e157 : Cond) ∈ zw_s_checkIndex := List.mem_append_left _ (List.mem_of_getElem? (i := 2) rfl)
  have k_1 := hts _ m_1
  have m_2 : (.static yJ3_checkIndex_8e157 : Cond) ∈ zw_s_checkIndex := List.mem_append_left _ (List.mem_of_getElem? (i := 3) rfl)
  have k_2 := hts _ m_2
  have m_3 : (.initialized RJ3 : Cond) ∈ zw_s_checkIndex := List.mem_append_left _ (List.mem_of_getElem? (i := 4) rfl)
  have k_3 := hts _ m_3
  have g_s_pciN : ∀ w ∈ zw_s_pciN, w ∈ zw_s_checkIndex := fun w h => List.mem_append_right _ (List.mem_append_left _ h)
  have g_s_pciR : ∀ w ∈ zw_s_pciR, w ∈ zw_s_checkIndex := fun w h => List.mem_append_right _ (List.mem_append_right _ (List.mem_append_left _ h))
  have hl := lv_entry ([.int a1, .int 115]) (n := 2) (Nat.le_of_ble_eq_true rfl)
  rw [lg_entry_eq]
  generalize (lg_sl ([.int a1, .int 115]) ++ List.replicate (2 - (lg_sl ([.int a1, .int 115])).length) Slot.unset).toArray = ls at hl ⊢
  have hl : lv_has ls 2 [(0, .int a1), (1, .int 115)] := hl
  refine lv_iload_n hx hb dJ0_checkIndex_df160_0 rfl (lv_at hl 0 rfl) ?_
  refine lv_iload_n hx hb dJ0_checkIndex_df160_1 rfl (lv_at hl 1 rfl) ?_
  rcases z2 with z2 | ⟨tq, z2⟩
  · refine va_gets (v := .null) hx hb z2 hS hown k_0 (fun _ h9 => h9) dJ0_checkIndex_df160_2 ?_
    have hPc := hP.sub (ws' := []) [] rfl
    have hDc := hD.sub (ws' := []) [] (by decide) rfl
    have hKc := hK.sub (tys' := []) [] rfl
    have hFc := va_free (wc := []) hD hS hA [] rfl
    refine va_calli (va_runS (As := [.int a1, .int 115, .null]) (rest := []) ⟨hx, hb, hml, hown, hts⟩ (s_pciN l dC dI s.heap.size a1 h1 h2) (va_cwS 3 hts (p1_gS m_1 m_2 m_3 g_s_pciN gz_s_pciN) rfl rfl rfl (by decide +kernel) ⟨by decide, by decide⟩) ⟨fun a U g mk q => by obtain ⟨q0, q1, qP, qK, qD⟩ := q; exact ⟨q0, q1, qP, va_K.moved (u := U) (U := U.calling g mk a) (Vm.Alike.refl U.vm) qK, qD⟩, fun U hU hW => ⟨rfl, by rw [hU], by rw [hU]; exact hPc, va_K.moved hW.alike hKc, hDc.weaken (fun _ _ _ _ => trivial)⟩⟩ rfl rfl hl.1 rfl (lv_room (Nat.le_of_ble_eq_true rfl)) dJ0_checkIndex_df160_5 ⟨by decide, by decide⟩) hS (fun q _ h => hFc q h) hFc (fun r_1 u t H1 locs ht hvm hw hB hz1 hk1 hS => ?_)
    obtain ⟨hP1, hK1, hD1⟩ := hB
    rw [ht] at hP1
    obtain ⟨hP, hD⟩ := va_join (wr := []) (w1 := []) hP hD [] [] rfl rfl (by decide) (by decide) hk1 hFc hP1 hD1
    generalize H1 = H at hP hS ⊢
    have hP : va_P (dC, dI) vwCl [] H := hP
    have hD : va_D A [] := hD
    try dsimp only at hw
    have hw_2 := hw
    refine lv_pop hx hb dJ0_checkIndex_df160_8 rfl ?_
    have hP9 := hP.sub (ws' := []) [] rfl
    have hD9 := hD.sub (ws' := []) [] (by decide) rfl
    have hK9 := hK.sub (tys' := []) [] rfl
    exact W.vret hx hb hr (fun t ht hW => ⟨⟨(), rfl, trivial, by rw [ht]; exact hP9, va_K.moved hW.alike hK9, hD9⟩, hS.F ht⟩) hS.2.2 dJ0_checkIndex_df160_9
  · refine va_gets (v := .ref tq) hx hb z2 hS hown k_0 (fun _ h9 => h9) dJ0_checkIndex_df160_2 ?_
    have hPc := hP.sub (ws' := []) [] rfl
    have hDc := hD.sub (ws' := []) [] (by decide) rfl
    have hKc := hK.sub (tys' := []) [] rfl
    have hFc := va_free (wc := []) hD hS hA [] rfl
    refine va_calli (va_runS (As := [.int a1, .int 115, .ref tq]) (rest := []) ⟨hx, hb, hml, hown, hts⟩ (s_pciR l dC dI s.heap.size a1 tq h1 h2) (va_cwS 3 hts (p1_gS m_1 m_2 m_3 g_s_pciR gz_s_pciR) rfl rfl rfl (by decide +kernel) ⟨by decide, by decide⟩) ⟨fun a U g mk q => by obtain ⟨q0, q1, qP, qK, qD⟩ := q; exact ⟨q0, q1, qP, va_K.moved (u := U) (U := U.calling g mk a) (Vm.Alike.refl U.vm) qK, qD⟩, fun U hU hW => ⟨rfl, by rw [hU], by rw [hU]; exact hPc, va_K.moved hW.alike hKc, hDc.weaken (fun _ _ _ _ => trivial)⟩⟩ rfl rfl hl.1 rfl (lv_room (Nat.le_of_ble_eq_true rfl)) dJ0_checkIndex_df160_5 ⟨by decide, by decide⟩) hS (fun q _ h => hFc q h) hFc (fun r_3 u t H1 locs ht hvm hw hB hz1 hk1 hS => ?_)
    obtain ⟨hP1, hK1, hD1⟩ := hB
    rw [ht] at hP1
    obtain ⟨hP, hD⟩ := va_join (wr := []) (w1 := []) hP hD [] [] rfl rfl (by decide) (by decide) hk1 hFc hP1 hD1
    generalize H1 = H at hP hS ⊢
    have hP : va_P (dC, dI) vwCl [] H := hP
    have hD : va_D A [] := hD
    try dsimp only at hw
    have hw_4 := hw
    refine lv_pop hx hb dJ0_checkIndex_df160_8 rfl ?_
    have hP9 := hP.sub (ws' := []) [] rfl
    have hD9 := hD.sub (ws' := []) [] (by decide) rfl
    have hK9 := hK.sub (tys' := []) [] rfl
    exact W.vret hx hb hr (fun t ht hW => ⟨⟨(), rfl, trivial, by rw [ht]; exact hP9, va_K.moved hW.alike hK9, hD9⟩, hS.F ht⟩) hS.2.2 dJ0_checkIndex_df160_9
def zo_s_lchar : List Cond := [.code yJ1_charAt_3b067 cJ1_charAt_3b067 2 (some .char), .methodLink RJ1 9 yJ0_checkIndex_df160, .static yJ0_checkIndex_df160, .initialized RJ0]
def zw_s_lchar : List Cond := zo_s_lchar ++ (zw_s_checkIndex ++ [])
theorem gz_s_lchar : zw_s_lchar.all goodWord = true := p1_ga (by decide +kernel) (p1_ga gz_s_checkIndex p1_g0)
theorem iz_s_lchar : ∀ w ∈ zw_s_lchar, w ∈ lw_tbl := p1_ia (p1_all [275, 276, 277, 108] (by decide +kernel)) (p1_ia iz_s_checkIndex p1_i0)
set_option maxHeartbeats 4000000 in
set_option maxRecDepth 100000 in
theorem s_lchar (l : Launch) (dC : Nat → ClassId) (dI : Nat → Nat → Nat) (sz : Nat) (sV : Nat) (a1 : Int32) (sK : Nat) (sf : Nat → Int32) (h1 : ¬ a1 < 0) (h2 : a1 < 115) : Met l yJ1_charAt_3b067 zw_s_lchar ({ frames := 2, cells := 0, slots := 0, locals := 43 }) (va_Pc [.ref sV, .int a1] (fun U => U.heap.size = sz ∧ va_P (dC, dI) vwCl [] U.heap ∧ va_K (dC, dI) vwCl [] U ∧ va_D (fun _ => True) [] ∧ p1_st sK sV sf (va_A [] sz) U U.heap)) (va_Qi (fun (r : Int32) (_ : Unit) => narrow .char (.int r) = .int r) (fun _ t => va_P (dC, dI) vwCl [] t.heap ∧ va_K (dC, dI) vwCl [] t ∧ va_D (va_A [] sz) []) (va_A [] sz)) 0 0 (va_A [] sz) := by
  refine Met.ofW (cc := cJ1_charAt_3b067) (maxL := 2) (ret := (some .char)) (by decide) rfl ?_
  intro p e s m args below meth c s₁ B hml hv
  obtain ⟨rfl, hsz, hP, hK, hD0, hE⟩ := hv
  have hx := B.exec
  have hb := B.bytes
  have hr := B.returns
  have hts := atoms_spec (ws := zw_s_lchar) B.pre
  have hown : s.vm.findClass RJ1 = some m.cls := findClass_of_methodNamed B.named
  have hlocks := B.notSynchronized
  subst hsz
  have hD := hD0.self (sz := s.heap.size)
  generalize hAe : va_A [] s.heap.size = A at hD hE ⊢
  have hA : ∀ q : Nat, s.heap.size ≤ q → A q := fun q h => by rw [← hAe]; exact Or.inr h
  have hS : va_S A s.heap s.heap [] := va_S.rf
  have hP : va_P (dC, dI) vwCl [] s.heap := hP
  obtain ⟨t1, t2, t3, t4, z1, z2⟩ := id hE
  have m_0 : (.methodLink RJ1 9 yJ0_checkIndex_df160 : Cond) ∈ zw_s_lchar := List.mem_append_left _ (List.mem_of_getElem? (i := 1) rfl)
  have k_0 := hts _ m_0
  have m_1 : (.static yJ0_checkIndex_df160 : Cond) ∈ zw_s_lchar := List.mem_append_left _ (List.mem_of_getElem? (i := 2) rfl)
  have k_1 := hts _ m_1
  have m_2 : (.initialized RJ0 : Cond) ∈ zw_s_lchar := List.mem_append_left _ (List.mem_of_getElem? (i := 3) rfl)
  have k_2 := hts _ m_2
  have g_s_checkIndex : ∀ w ∈ zw_s_checkIndex, w ∈ zw_s_lchar := fun w h => List.mem_append_right _ (List.mem_append_left _ h)
  have hl := lv_entry ([.ref sV, .int a1]) (n := 2) (Nat.le_of_ble_eq_true rfl)
  rw [lg_entry_eq]
  generalize (lg_sl ([.ref sV, .int a1]) ++ List.replicate (2 - (lg_sl ([.ref sV, .int a1])).length) Slot.unset).toArray = ls at hl ⊢
  have hl : lv_has ls 2 [(0, .ref sV), (1, .int a1)] := hl
  refine lv_iload_n hx hb dJ1_charAt_3b067_0 rfl (lv_at hl 1 rfl) ?_
  refine lv_aload_n hx hb dJ1_charAt_3b067_1 rfl (lv_at hl 0 rfl) ?_
  refine va_tlen (v := 115) hx hb t4 hS rfl dJ1_charAt_3b067_2 ?_
  have hPc := hP.sub (ws' := []) [] rfl
  have hDc := hD.sub (ws' := []) [] (by decide) rfl
  have hKc := hK.sub (tys' := []) [] rfl
  have hFc := va_free (wc := []) hD hS hA [] rfl
  refine va_callv (va_runS (As := [.int a1, .int 115]) (rest := []) ⟨hx, hb, hml, hown, hts⟩ (s_checkIndex l dC dI s.heap.size a1 sK sV sf h1 h2) (va_cwS 2 hts (p1_gS m_0 m_1 m_2 g_s_checkIndex gz_s_checkIndex) rfl rfl rfl (by decide +kernel) ⟨by decide, by decide⟩) ⟨fun a U g mk q => by obtain ⟨q0, q1, qP, qK, qD, qE⟩ := q; exact ⟨q0, q1, qP, va_K.moved (u := U) (U := U.calling g mk a) (Vm.Alike.refl U.vm) qK, qD, qE⟩, fun U hU hW => ⟨rfl, by rw [hU], by rw [hU]; exact hPc, va_K.moved hW.alike hKc, hDc.weaken (fun _ _ _ _ => trivial), by rw [hU]; exact p1_st.warm hE hW hS (fun q h => hFc q h)⟩⟩ rfl rfl hl.1 rfl (lv_room (Nat.le_of_ble_eq_true rfl)) dJ1_charAt_3b067_3 ⟨by decide, by decide⟩) hS (fun q _ h => hFc q h) hFc (fun u t H1 locs ht hvm hw hB hz1 hk1 hS => ?_)
  obtain ⟨hP1, hK1, hD1⟩ := hB
  rw [ht] at hP1
  obtain ⟨hP, hD⟩ := va_join (wr := []) (w1 := []) hP hD [] [] rfl rfl (by decide) (by decide) hk1 hFc hP1 hD1
  generalize H1 = H at hP hS ⊢
  have hP : va_P (dC, dI) vwCl [] H := hP
  have hD : va_D A [] := hD
  try dsimp only at hw
  refine lv_aload_n hx hb dJ1_charAt_3b067_6 rfl (lv_at hl 0 rfl) ?_
  refine lv_iload_n hx hb dJ1_charAt_3b067_7 rfl (lv_at hl 1 rfl) ?_
  refine va_tb hx hb t4 hS (p1_115 h1 h2) rfl dJ1_charAt_3b067_8 ?_
  refine lv_topi (fun v_2 ev_2 => ?_)
  refine lv_sipush (v := 255) hx hb dJ1_charAt_3b067_9 (by decide) ?_
  refine lv_iand hx hb dJ1_charAt_3b067_12 ?_
  refine lv_topi (fun v_3 ev_3 => ?_)
  refine lv_i2c hx hb dJ1_charAt_3b067_13 rfl ?_
  refine lv_topi (fun v_5 ev_5 => ?_)
  have hP9 := hP.sub (ws' := []) [] rfl
  have hD9 := hD.sub (ws' := []) [] (by decide) rfl
  have hK9 := hK.sub (tys' := []) [] rfl
  exact W.zret (v := v_5) hx hb hr (by rw [ev_5]; exact pk_nc _) (fun t ht hW => ⟨⟨v_5, (), rfl, (by rw [ev_5]; exact pk_nc _), by rw [ht]; exact hP9, va_K.moved hW.alike hK9, hD9⟩, hS.F ht⟩) hS.2.2 dJ1_charAt_3b067_14
def zo_s_charAt : List Cond := [.code yJ0_charAt_5068e cJ0_charAt_5068e 2 (some .char), .methodLink RJ0 492 yJ0_isLatin1_aae02, .instanceMethod yJ0_isLatin1_aae02, .selects RJ0 yJ0_isLatin1_aae02 yJ0_isLatin1_aae02, .initialized RJ0, .fieldLink RJ0 9 "java/lang/String" "value" "[B", .methodLink RJ0 495 yJ1_charAt_3b067, .static yJ1_charAt_3b067, .initialized RJ1]
def zw_s_charAt : List Cond := zo_s_charAt ++ (zw_s_isLatin1 ++ (zw_s_lchar ++ []))
theorem gz_s_charAt : zw_s_charAt.all goodWord = true := p1_ga (by decide +kernel) (p1_ga gz_s_isLatin1 (p1_ga gz_s_lchar p1_g0))
theorem iz_s_charAt : ∀ w ∈ zw_s_charAt, w ∈ lw_tbl := p1_ia (p1_all [268, 269, 270, 271, 108, 1697, 273, 274, 109] (by decide +kernel)) (p1_ia iz_s_isLatin1 (p1_ia iz_s_lchar p1_i0))
set_option maxHeartbeats 4000000 in
set_option maxRecDepth 100000 in
theorem s_charAt (l : Launch) (dC : Nat → ClassId) (dI : Nat → Nat → Nat) (sz : Nat) (sK : Nat) (a1 : Int32) (sV : Nat) (sf : Nat → Int32) (h1 : ¬ a1 < 0) (h2 : a1 < 115) : Met l yJ0_charAt_5068e zw_s_charAt ({ frames := 3, cells := 0, slots := 0, locals := 64 }) (va_Pc [.ref sK, .int a1] (fun U => U.heap.size = sz ∧ va_P (dC, dI) vwCl [] U.heap ∧ va_K (dC, dI) vwCl [] U ∧ va_D (fun _ => True) [] ∧ p1_st sK sV sf (va_A [] sz) U U.heap)) (va_Qi (fun (r : Int32) (_ : Unit) => narrow .char (.int r) = .int r) (fun _ t => va_P (dC, dI) vwCl [] t.heap ∧ va_K (dC, dI) vwCl [] t ∧ va_D (va_A [] sz) []) (va_A [] sz)) 0 0 (va_A [] sz) := by
  refine Met.ofW (cc := cJ0_charAt_5068e) (maxL := 2) (ret := (some .char)) (by decide) rfl ?_
  intro p e s m args below meth c s₁ B hml hv
  obtain ⟨rfl, hsz, hP, hK, hD0, hE⟩ := hv
  have hx := B.exec
  have hb := B.bytes
  have hr := B.returns
  have hts := atoms_spec (ws := zw_s_charAt) B.pre
  have hown : s.vm.findClass RJ0 = some m.cls := findClass_of_methodNamed B.named
  have hlocks := B.notSynchronized
  subst hsz
  have hD := hD0.self (sz := s.heap.size)
  generalize hAe : va_A [] s.heap.size = A at hD hE ⊢
  have hA : ∀ q : Nat, s.heap.size ≤ q → A q := fun q h => by rw [← hAe]; exact Or.inr h
  have hS : va_S A s.heap s.heap [] := va_S.rf
  have hP : va_P (dC, dI) vwCl [] s.heap := hP
  obtain ⟨t1, t2, t3, t4, z1, z2⟩ := id hE
  have m_0 : (.methodLink RJ0 492 yJ0_isLatin1_aae02 : Cond) ∈ zw_s_charAt := List.mem_append_left _ (List.mem_of_getElem? (i := 1) rfl)
  have k_0 := hts _ m_0
  have m_1 : (.instanceMethod yJ0_isLatin1_aae02 : Cond) ∈ zw_s_charAt := List.mem_append_left _ (List.mem_of_getElem? (i := 2) rfl)
  have k_1 := hts _ m_1
  have m_2 : (.selects RJ0 yJ0_isLatin1_aae02 yJ0_isLatin1_aae02 : Cond) ∈ zw_s_charAt := List.mem_append_left _ (List.mem_of_getElem? (i := 3) rfl)
  have k_2 := hts _ m_2
  have m_3 : (.initialized RJ0 : Cond) ∈ zw_s_charAt := List.mem_append_left _ (List.mem_of_getElem? (i := 4) rfl)
  have k_3 := hts _ m_3
  have m_4 : (.fieldLink RJ0 9 "java/lang/String" "value" "[B" : Cond) ∈ zw_s_charAt := List.mem_append_left _ (List.mem_of_getElem? (i := 5) rfl)
  have k_4 := hts _ m_4
  have m_5 : (.methodLink RJ0 495 yJ1_charAt_3b067 : Cond) ∈ zw_s_charAt := List.mem_append_left _ (List.mem_of_getElem? (i := 6) rfl)
  have k_5 := hts _ m_5
  have m_6 : (.static yJ1_charAt_3b067 : Cond) ∈ zw_s_charAt := List.mem_append_left _ (List.mem_of_getElem? (i := 7) rfl)
  have k_6 := hts _ m_6
  have m_7 : (.initialized RJ1 : Cond) ∈ zw_s_charAt := List.mem_append_left _ (List.mem_of_getElem? (i := 8) rfl)
  have k_7 := hts _ m_7
  have g_s_isLatin1 : ∀ w ∈ zw_s_isLatin1, w ∈ zw_s_charAt := fun w h => List.mem_append_right _ (List.mem_append_left _ h)
  have g_s_lchar : ∀ w ∈ zw_s_lchar, w ∈ zw_s_charAt := fun w h => List.mem_append_right _ (List.mem_append_right _ (List.mem_append_left _ h))
  have hl := lv_entry ([.ref sK, .int a1]) (n := 2) (Nat.le_of_ble_eq_true rfl)
  rw [lg_entry_eq]
  generalize (lg_sl ([.ref sK, .int a1]) ++ List.replicate (2 - (lg_sl ([.ref sK, .int a1])).length) Slot.unset).toArray = ls at hl ⊢
  have hl : lv_has ls 2 [(0, .ref sK), (1, .int a1)] := hl
  refine lv_aload_n hx hb dJ0_charAt_5068e_0 rfl (lv_at hl 0 rfl) ?_
  have hPc := hP.sub (ws' := []) [] rfl
  have hDc := hD.sub (ws' := []) [] (by decide) rfl
  have hKc := hK.sub (tys' := []) [] rfl
  have hFc := va_free (wc := []) hD hS hA [] rfl
  refine va_calli (va_runV (As := []) (rest := []) ⟨hx, hb, hml, hown, hts⟩ (s_isLatin1 l dC dI s.heap.size sK sV sf) (cwV 0 hts (p1_gV m_0 m_1 m_2 m_3 g_s_isLatin1 gz_s_isLatin1) rfl rfl rfl (by decide +kernel) ⟨by decide, by decide⟩) ⟨fun a U g mk q => by obtain ⟨q0, q1, qP, qK, qD, qE⟩ := q; exact ⟨q0, q1, qP, va_K.moved (u := U) (U := U.calling g mk a) (Vm.Alike.refl U.vm) qK, qD, qE⟩, p1_recv t1 hS, fun U hU hW => ⟨rfl, by rw [hU], by rw [hU]; exact hPc, va_K.moved hW.alike hKc, hDc.weaken (fun _ _ _ _ => trivial), by rw [hU]; exact p1_st.warm hE hW hS (fun q h => hFc q h)⟩⟩ rfl rfl hl.1 rfl (lv_room (Nat.le_of_ble_eq_true rfl)) dJ0_charAt_5068e_1 ⟨by decide, by decide⟩) hS (fun q _ h => hFc q h) hFc (fun r_1 u t H1 locs ht hvm hw hB hz1 hk1 hS => ?_)
  obtain ⟨hP1, hK1, hD1⟩ := hB
  rw [ht] at hP1
  obtain ⟨hP, hD⟩ := va_join (wr := []) (w1 := []) hP hD [] [] rfl rfl (by decide) (by decide) hk1 hFc hP1 hD1
  generalize H1 = H at hP hS ⊢
  have hP : va_P (dC, dI) vwCl [] H := hP
  have hD : va_D A [] := hD
  try dsimp only at hw
  obtain rfl : r_1 = 1 := hw
  refine lv_if_eq (tgt := 16) hx hb dJ0_charAt_5068e_4 (by decide) (fun c9 => absurd c9 (by decide)) (fun _ => ?_)
  refine lv_aload_n hx hb dJ0_charAt_5068e_7 rfl (lv_at hl 0 rfl) ?_
  refine vk_getf (v := .ref sV) hx hb t3 hS hown k_4 (fun _ h9 => h9) dJ0_charAt_5068e_8 ?_
  refine lv_iload_n hx hb dJ0_charAt_5068e_11 rfl (lv_at hl 1 rfl) ?_
  have hPc := hP.sub (ws' := []) [] rfl
  have hDc := hD.sub (ws' := []) [] (by decide) rfl
  have hKc := hK.sub (tys' := []) [] rfl
  have hFc := va_free (wc := []) hD hS hA [] rfl
  refine va_calli (va_runS (As := [.ref sV, .int a1]) (rest := []) ⟨hx, hb, hml, hown, hts⟩ (s_lchar l dC dI H.size sV a1 sK sf h1 h2) (va_cwS 2 hts (p1_gS m_5 m_6 m_7 g_s_lchar gz_s_lchar) rfl rfl rfl (by decide +kernel) ⟨by decide, by decide⟩) ⟨fun a U g mk q => by obtain ⟨q0, q1, qP, qK, qD, qE⟩ := q; exact ⟨q0, q1, qP, va_K.moved (u := U) (U := U.calling g mk a) (Vm.Alike.refl U.vm) qK, qD, qE⟩, fun U hU hW => ⟨rfl, by rw [hU], by rw [hU]; exact hPc, va_K.moved hW.alike hKc, hDc.weaken (fun _ _ _ _ => trivial), by rw [hU]; exact p1_st.warm hE hW hS (fun q h => hFc q h)⟩⟩ rfl rfl hl.1 rfl (lv_room (Nat.le_of_ble_eq_true rfl)) dJ0_charAt_5068e_12 ⟨by decide, by decide⟩) hS (fun q _ h => hFc q h) hFc (fun r_2 u t H1 locs ht hvm hw hB hz1 hk1 hS => ?_)
  obtain ⟨hP1, hK1, hD1⟩ := hB
  rw [ht] at hP1
  obtain ⟨hP, hD⟩ := va_join (wr := []) (w1 := []) hP hD [] [] rfl rfl (by decide) (by decide) hk1 hFc hP1 hD1
  generalize H1 = H at hP hS ⊢
  have hP : va_P (dC, dI) vwCl [] H := hP
  have hD : va_D A [] := hD
  try dsimp only at hw
  have hw_3 := hw
  have hP9 := hP.sub (ws' := []) [] rfl
  have hD9 := hD.sub (ws' := []) [] (by decide) rfl
  have hK9 := hK.sub (tys' := []) [] rfl
  exact W.zret (v := r_2) hx hb hr hw_3 (fun t ht hW => ⟨⟨r_2, (), rfl, hw_3, by rw [ht]; exact hP9, va_K.moved hW.alike hK9, hD9⟩, hS.F ht⟩) hS.2.2 dJ0_charAt_5068e_15
def zo_c_withLetter : List Cond := [.code yX4_withLetter cX4_withLetter 3 (some .long), .constantLong RX4 120 (27)]
def zw_c_withLetter : List Cond := zo_c_withLetter ++ []
theorem gz_c_withLetter : zw_c_withLetter.all goodWord = true := p1_ga (by decide +kernel) p1_g0
theorem iz_c_withLetter : ∀ w ∈ zw_c_withLetter, w ∈ lw_tbl := p1_ia (p1_all [305, 306] (by decide +kernel)) p1_i0
set_option maxHeartbeats 4000000 in
set_option maxRecDepth 100000 in
theorem c_withLetter (l : Launch) (dC : Nat → ClassId) (dI : Nat → Nat → Nat) (sz : Nat) (a1 : Int64) (a2 : Int32) : Met l yX4_withLetter zw_c_withLetter ({ frames := 0, cells := 0, slots := 0, locals := 0 }) (va_Pc [.long a1, .int a2] (fun U => U.heap.size = sz ∧ va_P (dC, dI) vwCl [] U.heap ∧ va_K (dC, dI) vwCl [] U ∧ va_D (fun _ => True) [])) (va_Ql (fun (r : Int64) (_ : Unit) => True) (fun _ t => va_P (dC, dI) vwCl [] t.heap ∧ va_K (dC, dI) vwCl [] t ∧ va_D (va_A [] sz) []) (va_A [] sz)) 0 0 (va_A [] sz) := by
  refine Met.ofW (cc := cX4_withLetter) (maxL := 3) (ret := (some .long)) (by decide) rfl ?_
  intro p e s m args below meth c s₁ B hml hv
  obtain ⟨rfl, hsz, hP, hK, hD0⟩ := hv
  have hx := B.exec
  have hb := B.bytes
  have hr := B.returns
  have hts := atoms_spec (ws := zw_c_withLetter) B.pre
  have hown : s.vm.findClass RX4 = some m.cls := findClass_of_methodNamed B.named
  have hlocks := B.notSynchronized
  subst hsz
  have hD := hD0.self (sz := s.heap.size)
  generalize hAe : va_A [] s.heap.size = A at hD ⊢
  have hA : ∀ q : Nat, s.heap.size ≤ q → A q := fun q h => by rw [← hAe]; exact Or.inr h
  have hS : va_S A s.heap s.heap [] := va_S.rf
  have hP : va_P (dC, dI) vwCl [] s.heap := hP
  have m_0 : (.constantLong RX4 120 (27) : Cond) ∈ zw_c_withLetter := List.mem_append_left _ (List.mem_of_getElem? (i := 1) rfl)
  have k_0 := hts _ m_0
  have hl := lv_entry ([.long a1, .int a2]) (n := 3) (Nat.le_of_ble_eq_true rfl)
  rw [lg_entry_eq]
  generalize (lg_sl ([.long a1, .int a2]) ++ List.replicate (3 - (lg_sl ([.long a1, .int a2])).length) Slot.unset).toArray = ls at hl ⊢
  have hl : lv_has ls 3 [(0, .long a1), (2, .int a2)] := hl
  refine lv_ldc2 (v := 27) hx hb hown k_0 dX4_withLetter_0 ?_
  refine lv_lload_n hx hb dX4_withLetter_3 rfl (lv_at hl 0 rfl) ?_
  refine lv_lmul hx hb dX4_withLetter_4 ?_
  refine lv_topl (fun w_1 ew_1 => ?_)
  refine lv_iload_n hx hb dX4_withLetter_5 rfl (lv_at hl 1 rfl) ?_
  refine lv_bipush (v := 97) hx hb dX4_withLetter_6 (by decide) ?_
  refine lv_isub hx hb dX4_withLetter_8 ?_
  refine lv_topi (fun v_2 ev_2 => ?_)
  refine lv_iconst (v := 1) hx hb dX4_withLetter_9 (by decide) ?_
  refine lv_iadd hx hb dX4_withLetter_10 ?_
  refine lv_topi (fun v_3 ev_3 => ?_)
  refine lv_i2l hx hb dX4_withLetter_11 rfl ?_
  refine lv_topl (fun w_5 ew_5 => ?_)
  refine lv_ladd hx hb dX4_withLetter_12 ?_
  refine lv_topl (fun w_6 ew_6 => ?_)
  have hP9 := hP.sub (ws' := []) [] rfl
  have hD9 := hD.sub (ws' := []) [] (by decide) rfl
  have hK9 := hK.sub (tys' := []) [] rfl
  exact W.lret (v := w_6) hx hb hr (fun t ht hW => ⟨⟨w_6, (), rfl, trivial, by rw [ht]; exact hP9, va_K.moved hW.alike hK9, hD9⟩, hS.F ht⟩) hS.2.2 dX4_withLetter_13
end
