section
-- ===== PART A: goes FIRST, ahead of the names: the tables' words, and 'selects' of the private methods out of them =====
/-- a private method of a class that the tables say can be made, by its rows of tables_1 -/
def lw_okq (q : MethodName × Nat) : Prop := (q.1.cls ≠ "java/lang/invoke/MethodHandle" ∧ q.1.cls ≠ "java/lang/invoke/VarHandle") ∧ Cond.instantiable q.1.cls q.2 ∈ tables_1 ∧ Cond.privateMethod q.1 ∈ tables_1 ∧ Cond.instanceMethod q.1 ∈ tables_1
theorem lw_p0 : lw_okq (⟨"RingWaters", "putBytes", "(I)V"⟩, 12) := ⟨⟨by decide +kernel, by decide +kernel⟩, List.mem_of_getElem? (i := 23) (by decide +kernel), List.mem_of_getElem? (i := 379) (by decide +kernel), List.mem_of_getElem? (i := 380) (by decide +kernel)⟩
theorem lw_p1 : lw_okq (⟨"RingWaters", "refuse", "(I)I"⟩, 12) := ⟨⟨by decide +kernel, by decide +kernel⟩, List.mem_of_getElem? (i := 23) (by decide +kernel), List.mem_of_getElem? (i := 387) (by decide +kernel), List.mem_of_getElem? (i := 388) (by decide +kernel)⟩
theorem lw_p2 : lw_okq (⟨"RingWaters$Reader", "readToken", "()V"⟩, 12) := ⟨⟨by decide +kernel, by decide +kernel⟩, List.mem_of_getElem? (i := 31) (by decide +kernel), List.mem_of_getElem? (i := 399) (by decide +kernel), List.mem_of_getElem? (i := 400) (by decide +kernel)⟩
theorem lw_p3 : lw_okq (⟨"RingWaters$Reader", "readWord", "()V"⟩, 12) := ⟨⟨by decide +kernel, by decide +kernel⟩, List.mem_of_getElem? (i := 31) (by decide +kernel), List.mem_of_getElem? (i := 406) (by decide +kernel), List.mem_of_getElem? (i := 407) (by decide +kernel)⟩
theorem lw_p4 : lw_okq (⟨"RingWaters$Reader", "readWhole", "()V"⟩, 12) := ⟨⟨by decide +kernel, by decide +kernel⟩, List.mem_of_getElem? (i := 31) (by decide +kernel), List.mem_of_getElem? (i := 416) (by decide +kernel), List.mem_of_getElem? (i := 417) (by decide +kernel)⟩
theorem lw_p5 : lw_okq (⟨"RingWaters$Reader", "readWell", "()Z"⟩, 12) := ⟨⟨by decide +kernel, by decide +kernel⟩, List.mem_of_getElem? (i := 31) (by decide +kernel), List.mem_of_getElem? (i := 420) (by decide +kernel), List.mem_of_getElem? (i := 421) (by decide +kernel)⟩
theorem lw_p6 : lw_okq (⟨"RingWaters$Reader", "takeWord", "(J)Z"⟩, 12) := ⟨⟨by decide +kernel, by decide +kernel⟩, List.mem_of_getElem? (i := 31) (by decide +kernel), List.mem_of_getElem? (i := 425) (by decide +kernel), List.mem_of_getElem? (i := 426) (by decide +kernel)⟩
theorem lw_p7 : lw_okq (⟨"RingWaters$Reader", "blame", "(I)Z"⟩, 12) := ⟨⟨by decide +kernel, by decide +kernel⟩, List.mem_of_getElem? (i := 31) (by decide +kernel), List.mem_of_getElem? (i := 429) (by decide +kernel), List.mem_of_getElem? (i := 430) (by decide +kernel)⟩
theorem lw_p8 : lw_okq (⟨"RingWaters$Reader", "takeNewName", "()Z"⟩, 12) := ⟨⟨by decide +kernel, by decide +kernel⟩, List.mem_of_getElem? (i := 31) (by decide +kernel), List.mem_of_getElem? (i := 433) (by decide +kernel), List.mem_of_getElem? (i := 434) (by decide +kernel)⟩
theorem lw_p9 : lw_okq (⟨"RingWaters$Reader", "isName", "()Z"⟩, 12) := ⟨⟨by decide +kernel, by decide +kernel⟩, List.mem_of_getElem? (i := 31) (by decide +kernel), List.mem_of_getElem? (i := 437) (by decide +kernel), List.mem_of_getElem? (i := 438) (by decide +kernel)⟩
theorem lw_p10 : lw_okq (⟨"RingWaters$Reader", "isWholeWithin", "(II)Z"⟩, 12) := ⟨⟨by decide +kernel, by decide +kernel⟩, List.mem_of_getElem? (i := 31) (by decide +kernel), List.mem_of_getElem? (i := 450) (by decide +kernel), List.mem_of_getElem? (i := 451) (by decide +kernel)⟩
theorem lw_p11 : lw_okq (⟨"RingWaters$Reader", "readLine", "()Z"⟩, 12) := ⟨⟨by decide +kernel, by decide +kernel⟩, List.mem_of_getElem? (i := 31) (by decide +kernel), List.mem_of_getElem? (i := 458) (by decide +kernel), List.mem_of_getElem? (i := 459) (by decide +kernel)⟩
theorem lw_p12 : lw_okq (⟨"RingWaters$Reader", "readJoint", "()Z"⟩, 12) := ⟨⟨by decide +kernel, by decide +kernel⟩, List.mem_of_getElem? (i := 31) (by decide +kernel), List.mem_of_getElem? (i := 462) (by decide +kernel), List.mem_of_getElem? (i := 463) (by decide +kernel)⟩
theorem lw_p13 : lw_okq (⟨"RingWaters$Reader", "readResisting", "(I)Z"⟩, 12) := ⟨⟨by decide +kernel, by decide +kernel⟩, List.mem_of_getElem? (i := 31) (by decide +kernel), List.mem_of_getElem? (i := 466) (by decide +kernel), List.mem_of_getElem? (i := 467) (by decide +kernel)⟩
theorem lw_p14 : lw_okq (⟨"RingWaters$Reader", "readEnds", "()Z"⟩, 12) := ⟨⟨by decide +kernel, by decide +kernel⟩, List.mem_of_getElem? (i := 31) (by decide +kernel), List.mem_of_getElem? (i := 470) (by decide +kernel), List.mem_of_getElem? (i := 471) (by decide +kernel)⟩
theorem lw_p15 : lw_okq (⟨"RingWaters$Reader", "jointAtHand", "()I"⟩, 12) := ⟨⟨by decide +kernel, by decide +kernel⟩, List.mem_of_getElem? (i := 31) (by decide +kernel), List.mem_of_getElem? (i := 474) (by decide +kernel), List.mem_of_getElem? (i := 475) (by decide +kernel)⟩
def lw_privs_1 : List (MethodName × Nat) := [(⟨"RingWaters", "putBytes", "(I)V"⟩, 12), (⟨"RingWaters", "refuse", "(I)I"⟩, 12), (⟨"RingWaters$Reader", "readToken", "()V"⟩, 12), (⟨"RingWaters$Reader", "readWord", "()V"⟩, 12), (⟨"RingWaters$Reader", "readWhole", "()V"⟩, 12), (⟨"RingWaters$Reader", "readWell", "()Z"⟩, 12), (⟨"RingWaters$Reader", "takeWord", "(J)Z"⟩, 12), (⟨"RingWaters$Reader", "blame", "(I)Z"⟩, 12), (⟨"RingWaters$Reader", "takeNewName", "()Z"⟩, 12), (⟨"RingWaters$Reader", "isName", "()Z"⟩, 12), (⟨"RingWaters$Reader", "isWholeWithin", "(II)Z"⟩, 12), (⟨"RingWaters$Reader", "readLine", "()Z"⟩, 12), (⟨"RingWaters$Reader", "readJoint", "()Z"⟩, 12), (⟨"RingWaters$Reader", "readResisting", "(I)Z"⟩, 12), (⟨"RingWaters$Reader", "readEnds", "()Z"⟩, 12), (⟨"RingWaters$Reader", "jointAtHand", "()I"⟩, 12)]
theorem lw_r1 : ∀ q ∈ lw_privs_1, lw_okq q := List.forall_mem_cons.mpr ⟨lw_p0, List.forall_mem_cons.mpr ⟨lw_p1, List.forall_mem_cons.mpr ⟨lw_p2, List.forall_mem_cons.mpr ⟨lw_p3, List.forall_mem_cons.mpr ⟨lw_p4, List.forall_mem_cons.mpr ⟨lw_p5, List.forall_mem_cons.mpr ⟨lw_p6, List.forall_mem_cons.mpr ⟨lw_p7, List.forall_mem_cons.mpr ⟨lw_p8, List.forall_mem_cons.mpr ⟨lw_p9, List.forall_mem_cons.mpr ⟨lw_p10, List.forall_mem_cons.mpr ⟨lw_p11, List.forall_mem_cons.mpr ⟨lw_p12, List.forall_mem_cons.mpr ⟨lw_p13, List.forall_mem_cons.mpr ⟨lw_p14, List.forall_mem_cons.mpr ⟨lw_p15, fun _ h => absurd h List.not_mem_nil⟩⟩⟩⟩⟩⟩⟩⟩⟩⟩⟩⟩⟩⟩⟩⟩
theorem lw_p16 : lw_okq (⟨"RingWaters$Reader", "readPump", "()Z"⟩, 12) := ⟨⟨by decide +kernel, by decide +kernel⟩, List.mem_of_getElem? (i := 31) (by decide +kernel), List.mem_of_getElem? (i := 482) (by decide +kernel), List.mem_of_getElem? (i := 483) (by decide +kernel)⟩
theorem lw_p17 : lw_okq (⟨"RingWaters$Reader", "readEnd", "()V"⟩, 12) := ⟨⟨by decide +kernel, by decide +kernel⟩, List.mem_of_getElem? (i := 31) (by decide +kernel), List.mem_of_getElem? (i := 490) (by decide +kernel), List.mem_of_getElem? (i := 491) (by decide +kernel)⟩
theorem lw_p18 : lw_okq (⟨"RingWaters", "allow", "()V"⟩, 12) := ⟨⟨by decide +kernel, by decide +kernel⟩, List.mem_of_getElem? (i := 23) (by decide +kernel), List.mem_of_getElem? (i := 498) (by decide +kernel), List.mem_of_getElem? (i := 499) (by decide +kernel)⟩
theorem lw_p19 : lw_okq (⟨"RingWaters", "settle", "()V"⟩, 12) := ⟨⟨by decide +kernel, by decide +kernel⟩, List.mem_of_getElem? (i := 23) (by decide +kernel), List.mem_of_getElem? (i := 513) (by decide +kernel), List.mem_of_getElem? (i := 514) (by decide +kernel)⟩
theorem lw_p20 : lw_okq (⟨"RingWaters$Waters", "beginRound", "()V"⟩, 13) := ⟨⟨by decide +kernel, by decide +kernel⟩, List.mem_of_getElem? (i := 156) (by decide +kernel), List.mem_of_getElem? (i := 524) (by decide +kernel), List.mem_of_getElem? (i := 525) (by decide +kernel)⟩
theorem lw_p21 : lw_okq (⟨"RingWaters$Tree", "spreadFrom", "(ILRingWaters$Net;I)V"⟩, 8) := ⟨⟨by decide +kernel, by decide +kernel⟩, List.mem_of_getElem? (i := 164) (by decide +kernel), List.mem_of_getElem? (i := 533) (by decide +kernel), List.mem_of_getElem? (i := 534) (by decide +kernel)⟩
theorem lw_p22 : lw_okq (⟨"RingWaters$Rings", "add", "(II)V"⟩, 5) := ⟨⟨by decide +kernel, by decide +kernel⟩, List.mem_of_getElem? (i := 211) (by decide +kernel), List.mem_of_getElem? (i := 549) (by decide +kernel), List.mem_of_getElem? (i := 550) (by decide +kernel)⟩
theorem lw_p23 : lw_okq (⟨"RingWaters$Rings", "followTree", "(LRingWaters$Tree;II)V"⟩, 5) := ⟨⟨by decide +kernel, by decide +kernel⟩, List.mem_of_getElem? (i := 211) (by decide +kernel), List.mem_of_getElem? (i := 553) (by decide +kernel), List.mem_of_getElem? (i := 554) (by decide +kernel)⟩
theorem lw_p24 : lw_okq (⟨"RingWaters$Waters", "sweepUpTo", "(I)V"⟩, 13) := ⟨⟨by decide +kernel, by decide +kernel⟩, List.mem_of_getElem? (i := 156) (by decide +kernel), List.mem_of_getElem? (i := 560) (by decide +kernel), List.mem_of_getElem? (i := 561) (by decide +kernel)⟩
theorem lw_p25 : lw_okq (⟨"RingWaters$Waters", "keepFlows", "()V"⟩, 13) := ⟨⟨by decide +kernel, by decide +kernel⟩, List.mem_of_getElem? (i := 156) (by decide +kernel), List.mem_of_getElem? (i := 564) (by decide +kernel), List.mem_of_getElem? (i := 565) (by decide +kernel)⟩
theorem lw_p26 : lw_okq (⟨"RingWaters$Waters", "lessen", "(IJ)V"⟩, 13) := ⟨⟨by decide +kernel, by decide +kernel⟩, List.mem_of_getElem? (i := 156) (by decide +kernel), List.mem_of_getElem? (i := 604) (by decide +kernel), List.mem_of_getElem? (i := 605) (by decide +kernel)⟩
theorem lw_p27 : lw_okq (⟨"RingWaters$Waters", "sweepsToLeaveOut", "(I)I"⟩, 13) := ⟨⟨by decide +kernel, by decide +kernel⟩, List.mem_of_getElem? (i := 156) (by decide +kernel), List.mem_of_getElem? (i := 608) (by decide +kernel), List.mem_of_getElem? (i := 609) (by decide +kernel)⟩
theorem lw_p28 : lw_okq (⟨"RingWaters$Waters", "areFlowsAsKept", "()Z"⟩, 13) := ⟨⟨by decide +kernel, by decide +kernel⟩, List.mem_of_getElem? (i := 156) (by decide +kernel), List.mem_of_getElem? (i := 612) (by decide +kernel), List.mem_of_getElem? (i := 613) (by decide +kernel)⟩
theorem lw_p29 : lw_okq (⟨"RingWaters$Waters", "findHeads", "()V"⟩, 13) := ⟨⟨by decide +kernel, by decide +kernel⟩, List.mem_of_getElem? (i := 156) (by decide +kernel), List.mem_of_getElem? (i := 616) (by decide +kernel), List.mem_of_getElem? (i := 617) (by decide +kernel)⟩
theorem lw_p30 : lw_okq (⟨"RingWaters$Waters", "edgeToTurn", "()I"⟩, 13) := ⟨⟨by decide +kernel, by decide +kernel⟩, List.mem_of_getElem? (i := 156) (by decide +kernel), List.mem_of_getElem? (i := 621) (by decide +kernel), List.mem_of_getElem? (i := 622) (by decide +kernel)⟩
theorem lw_p31 : lw_okq (⟨"RingWaters$Waters", "wouldFlow", "(I)Z"⟩, 13) := ⟨⟨by decide +kernel, by decide +kernel⟩, List.mem_of_getElem? (i := 156) (by decide +kernel), List.mem_of_getElem? (i := 626) (by decide +kernel), List.mem_of_getElem? (i := 627) (by decide +kernel)⟩
def lw_privs_2 : List (MethodName × Nat) := [(⟨"RingWaters$Reader", "readPump", "()Z"⟩, 12), (⟨"RingWaters$Reader", "readEnd", "()V"⟩, 12), (⟨"RingWaters", "allow", "()V"⟩, 12), (⟨"RingWaters", "settle", "()V"⟩, 12), (⟨"RingWaters$Waters", "beginRound", "()V"⟩, 13), (⟨"RingWaters$Tree", "spreadFrom", "(ILRingWaters$Net;I)V"⟩, 8), (⟨"RingWaters$Rings", "add", "(II)V"⟩, 5), (⟨"RingWaters$Rings", "followTree", "(LRingWaters$Tree;II)V"⟩, 5), (⟨"RingWaters$Waters", "sweepUpTo", "(I)V"⟩, 13), (⟨"RingWaters$Waters", "keepFlows", "()V"⟩, 13), (⟨"RingWaters$Waters", "lessen", "(IJ)V"⟩, 13), (⟨"RingWaters$Waters", "sweepsToLeaveOut", "(I)I"⟩, 13), (⟨"RingWaters$Waters", "areFlowsAsKept", "()Z"⟩, 13), (⟨"RingWaters$Waters", "findHeads", "()V"⟩, 13), (⟨"RingWaters$Waters", "edgeToTurn", "()I"⟩, 13), (⟨"RingWaters$Waters", "wouldFlow", "(I)Z"⟩, 13)]
theorem lw_r2 : ∀ q ∈ lw_privs_2, lw_okq q := List.forall_mem_cons.mpr ⟨lw_p16, List.forall_mem_cons.mpr ⟨lw_p17, List.forall_mem_cons.mpr ⟨lw_p18, List.forall_mem_cons.mpr ⟨lw_p19, List.forall_mem_cons.mpr ⟨lw_p20, List.forall_mem_cons.mpr ⟨lw_p21, List.forall_mem_cons.mpr ⟨lw_p22, List.forall_mem_cons.mpr ⟨lw_p23, List.forall_mem_cons.mpr ⟨lw_p24, List.forall_mem_cons.mpr ⟨lw_p25, List.forall_mem_cons.mpr ⟨lw_p26, List.forall_mem_cons.mpr ⟨lw_p27, List.forall_mem_cons.mpr ⟨lw_p28, List.forall_mem_cons.mpr ⟨lw_p29, List.forall_mem_cons.mpr ⟨lw_p30, List.forall_mem_cons.mpr ⟨lw_p31, fun _ h => absurd h List.not_mem_nil⟩⟩⟩⟩⟩⟩⟩⟩⟩⟩⟩⟩⟩⟩⟩⟩
theorem lw_p32 : lw_okq (⟨"RingWaters$Waters", "roundsToLeaveOut", "()I"⟩, 13) := ⟨⟨by decide +kernel, by decide +kernel⟩, List.mem_of_getElem? (i := 156) (by decide +kernel), List.mem_of_getElem? (i := 630) (by decide +kernel), List.mem_of_getElem? (i := 631) (by decide +kernel)⟩
theorem lw_p33 : lw_okq (⟨"RingWaters", "hasText", "()Z"⟩, 12) := ⟨⟨by decide +kernel, by decide +kernel⟩, List.mem_of_getElem? (i := 23) (by decide +kernel), List.mem_of_getElem? (i := 646) (by decide +kernel), List.mem_of_getElem? (i := 647) (by decide +kernel)⟩
theorem lw_p34 : lw_okq (⟨"RingWaters", "refuseLong", "(I)J"⟩, 12) := ⟨⟨by decide +kernel, by decide +kernel⟩, List.mem_of_getElem? (i := 23) (by decide +kernel), List.mem_of_getElem? (i := 685) (by decide +kernel), List.mem_of_getElem? (i := 686) (by decide +kernel)⟩
theorem lw_p35 : lw_okq (⟨"RingWaters", "whyNoWaterAt", "(I)I"⟩, 12) := ⟨⟨by decide +kernel, by decide +kernel⟩, List.mem_of_getElem? (i := 23) (by decide +kernel), List.mem_of_getElem? (i := 711) (by decide +kernel), List.mem_of_getElem? (i := 712) (by decide +kernel)⟩
theorem lw_p36 : lw_okq (⟨"RingWaters", "hasRing", "(I)Z"⟩, 12) := ⟨⟨by decide +kernel, by decide +kernel⟩, List.mem_of_getElem? (i := 23) (by decide +kernel), List.mem_of_getElem? (i := 736) (by decide +kernel), List.mem_of_getElem? (i := 737) (by decide +kernel)⟩
theorem lw_p37 : lw_okq (⟨"RingWaters", "isDrawingJoint", "(I)Z"⟩, 12) := ⟨⟨by decide +kernel, by decide +kernel⟩, List.mem_of_getElem? (i := 23) (by decide +kernel), List.mem_of_getElem? (i := 778) (by decide +kernel), List.mem_of_getElem? (i := 779) (by decide +kernel)⟩
theorem lw_p38 : lw_okq (⟨"RingWaters", "vitalEdges", "()I"⟩, 12) := ⟨⟨by decide +kernel, by decide +kernel⟩, List.mem_of_getElem? (i := 23) (by decide +kernel), List.mem_of_getElem? (i := 830) (by decide +kernel), List.mem_of_getElem? (i := 831) (by decide +kernel)⟩
theorem lw_p39 : lw_okq (⟨"RingWaters", "dryIfClosed", "(I)I"⟩, 12) := ⟨⟨by decide +kernel, by decide +kernel⟩, List.mem_of_getElem? (i := 23) (by decide +kernel), List.mem_of_getElem? (i := 834) (by decide +kernel), List.mem_of_getElem? (i := 835) (by decide +kernel)⟩
theorem lw_p40 : lw_okq (⟨"RingWaters", "solveWithMore", "(II)V"⟩, 12) := ⟨⟨by decide +kernel, by decide +kernel⟩, List.mem_of_getElem? (i := 23) (by decide +kernel), List.mem_of_getElem? (i := 842) (by decide +kernel), List.mem_of_getElem? (i := 843) (by decide +kernel)⟩
theorem lw_p41 : lw_okq (⟨"RingWaters", "bestToWiden", "()I"⟩, 12) := ⟨⟨by decide +kernel, by decide +kernel⟩, List.mem_of_getElem? (i := 23) (by decide +kernel), List.mem_of_getElem? (i := 858) (by decide +kernel), List.mem_of_getElem? (i := 859) (by decide +kernel)⟩
theorem lw_p42 : lw_okq (⟨"RingWaters", "leastIfWidened", "(I)J"⟩, 12) := ⟨⟨by decide +kernel, by decide +kernel⟩, List.mem_of_getElem? (i := 23) (by decide +kernel), List.mem_of_getElem? (i := 862) (by decide +kernel), List.mem_of_getElem? (i := 863) (by decide +kernel)⟩
theorem lw_p43 : lw_okq (⟨"RingWaters", "findLeak", "()V"⟩, 12) := ⟨⟨by decide +kernel, by decide +kernel⟩, List.mem_of_getElem? (i := 23) (by decide +kernel), List.mem_of_getElem? (i := 900) (by decide +kernel), List.mem_of_getElem? (i := 901) (by decide +kernel)⟩
theorem lw_p44 : lw_okq (⟨"RingWaters$Acts", "dropFirst", "()V"⟩, 4) := ⟨⟨by decide +kernel, by decide +kernel⟩, List.mem_of_getElem? (i := 289) (by decide +kernel), List.mem_of_getElem? (i := 917) (by decide +kernel), List.mem_of_getElem? (i := 918) (by decide +kernel)⟩
theorem lw_p45 : lw_okq (⟨"java/lang/Throwable", "fillInStackTrace", "(I)Ljava/lang/Throwable;"⟩, 6) := ⟨⟨by decide +kernel, by decide +kernel⟩, List.mem_of_getElem? (i := 999) (by decide +kernel), List.mem_of_getElem? (i := 997) (by decide +kernel), List.mem_of_getElem? (i := 998) (by decide +kernel)⟩
theorem lw_p46 : lw_okq (⟨"RingWatersModel", "laysWord", "(I)V"⟩, 55) := ⟨⟨by decide +kernel, by decide +kernel⟩, List.mem_of_getElem? (i := 1024) (by decide +kernel), List.mem_of_getElem? (i := 1205) (by decide +kernel), List.mem_of_getElem? (i := 1206) (by decide +kernel)⟩
theorem lw_p47 : lw_okq (⟨"RingWatersModel", "isRefused", "(I)Z"⟩, 55) := ⟨⟨by decide +kernel, by decide +kernel⟩, List.mem_of_getElem? (i := 1024) (by decide +kernel), List.mem_of_getElem? (i := 1219) (by decide +kernel), List.mem_of_getElem? (i := 1220) (by decide +kernel)⟩
def lw_privs_3 : List (MethodName × Nat) := [(⟨"RingWaters$Waters", "roundsToLeaveOut", "()I"⟩, 13), (⟨"RingWaters", "hasText", "()Z"⟩, 12), (⟨"RingWaters", "refuseLong", "(I)J"⟩, 12), (⟨"RingWaters", "whyNoWaterAt", "(I)I"⟩, 12), (⟨"RingWaters", "hasRing", "(I)Z"⟩, 12), (⟨"RingWaters", "isDrawingJoint", "(I)Z"⟩, 12), (⟨"RingWaters", "vitalEdges", "()I"⟩, 12), (⟨"RingWaters", "dryIfClosed", "(I)I"⟩, 12), (⟨"RingWaters", "solveWithMore", "(II)V"⟩, 12), (⟨"RingWaters", "bestToWiden", "()I"⟩, 12), (⟨"RingWaters", "leastIfWidened", "(I)J"⟩, 12), (⟨"RingWaters", "findLeak", "()V"⟩, 12), (⟨"RingWaters$Acts", "dropFirst", "()V"⟩, 4), (⟨"java/lang/Throwable", "fillInStackTrace", "(I)Ljava/lang/Throwable;"⟩, 6), (⟨"RingWatersModel", "laysWord", "(I)V"⟩, 55), (⟨"RingWatersModel", "isRefused", "(I)Z"⟩, 55)]
theorem lw_r3 : ∀ q ∈ lw_privs_3, lw_okq q := List.forall_mem_cons.mpr ⟨lw_p32, List.forall_mem_cons.mpr ⟨lw_p33, List.forall_mem_cons.mpr ⟨lw_p34, List.forall_mem_cons.mpr ⟨lw_p35, List.forall_mem_cons.mpr ⟨lw_p36, List.forall_mem_cons.mpr ⟨lw_p37, List.forall_mem_cons.mpr ⟨lw_p38, List.forall_mem_cons.mpr ⟨lw_p39, List.forall_mem_cons.mpr ⟨lw_p40, List.forall_mem_cons.mpr ⟨lw_p41, List.forall_mem_cons.mpr ⟨lw_p42, List.forall_mem_cons.mpr ⟨lw_p43, List.forall_mem_cons.mpr ⟨lw_p44, List.forall_mem_cons.mpr ⟨lw_p45, List.forall_mem_cons.mpr ⟨lw_p46, List.forall_mem_cons.mpr ⟨lw_p47, fun _ h => absurd h List.not_mem_nil⟩⟩⟩⟩⟩⟩⟩⟩⟩⟩⟩⟩⟩⟩⟩⟩
theorem lw_p48 : lw_okq (⟨"RingWatersModel", "readAll", "(I)Z"⟩, 55) := ⟨⟨by decide +kernel, by decide +kernel⟩, List.mem_of_getElem? (i := 1024) (by decide +kernel), List.mem_of_getElem? (i := 1223) (by decide +kernel), List.mem_of_getElem? (i := 1224) (by decide +kernel)⟩
theorem lw_p49 : lw_okq (⟨"RingWatersModel", "goesOn", "()V"⟩, 55) := ⟨⟨by decide +kernel, by decide +kernel⟩, List.mem_of_getElem? (i := 1024) (by decide +kernel), List.mem_of_getElem? (i := 1227) (by decide +kernel), List.mem_of_getElem? (i := 1228) (by decide +kernel)⟩
theorem lw_p50 : lw_okq (⟨"RingWatersModel", "see", "(I)I"⟩, 55) := ⟨⟨by decide +kernel, by decide +kernel⟩, List.mem_of_getElem? (i := 1024) (by decide +kernel), List.mem_of_getElem? (i := 1231) (by decide +kernel), List.mem_of_getElem? (i := 1232) (by decide +kernel)⟩
theorem lw_p51 : lw_okq (⟨"RingWatersModel", "readWell", "()Z"⟩, 55) := ⟨⟨by decide +kernel, by decide +kernel⟩, List.mem_of_getElem? (i := 1024) (by decide +kernel), List.mem_of_getElem? (i := 1239) (by decide +kernel), List.mem_of_getElem? (i := 1240) (by decide +kernel)⟩
theorem lw_p52 : lw_okq (⟨"RingWatersModel", "isWord", "(Ljava/lang/String;)Z"⟩, 55) := ⟨⟨by decide +kernel, by decide +kernel⟩, List.mem_of_getElem? (i := 1024) (by decide +kernel), List.mem_of_getElem? (i := 1244) (by decide +kernel), List.mem_of_getElem? (i := 1245) (by decide +kernel)⟩
theorem lw_p53 : lw_okq (⟨"RingWatersModel", "errs", "(I)Z"⟩, 55) := ⟨⟨by decide +kernel, by decide +kernel⟩, List.mem_of_getElem? (i := 1024) (by decide +kernel), List.mem_of_getElem? (i := 1296) (by decide +kernel), List.mem_of_getElem? (i := 1297) (by decide +kernel)⟩
theorem lw_p54 : lw_okq (⟨"RingWatersModel", "takesNew", "()Z"⟩, 55) := ⟨⟨by decide +kernel, by decide +kernel⟩, List.mem_of_getElem? (i := 1024) (by decide +kernel), List.mem_of_getElem? (i := 1300) (by decide +kernel), List.mem_of_getElem? (i := 1301) (by decide +kernel)⟩
theorem lw_p55 : lw_okq (⟨"RingWatersModel", "isName", "()Z"⟩, 55) := ⟨⟨by decide +kernel, by decide +kernel⟩, List.mem_of_getElem? (i := 1024) (by decide +kernel), List.mem_of_getElem? (i := 1304) (by decide +kernel), List.mem_of_getElem? (i := 1305) (by decide +kernel)⟩
theorem lw_p56 : lw_okq (⟨"RingWatersModel", "jointHere", "()I"⟩, 55) := ⟨⟨by decide +kernel, by decide +kernel⟩, List.mem_of_getElem? (i := 1024) (by decide +kernel), List.mem_of_getElem? (i := 1313) (by decide +kernel), List.mem_of_getElem? (i := 1314) (by decide +kernel)⟩
theorem lw_p57 : lw_okq (⟨"RingWatersModel", "isAt", "(III)Z"⟩, 55) := ⟨⟨by decide +kernel, by decide +kernel⟩, List.mem_of_getElem? (i := 1024) (by decide +kernel), List.mem_of_getElem? (i := 1317) (by decide +kernel), List.mem_of_getElem? (i := 1318) (by decide +kernel)⟩
theorem lw_p58 : lw_okq (⟨"RingWatersModel", "takesWhole", "(II)Z"⟩, 55) := ⟨⟨by decide +kernel, by decide +kernel⟩, List.mem_of_getElem? (i := 1024) (by decide +kernel), List.mem_of_getElem? (i := 1321) (by decide +kernel), List.mem_of_getElem? (i := 1322) (by decide +kernel)⟩
theorem lw_p59 : lw_okq (⟨"RingWatersModel", "readLine", "()Z"⟩, 55) := ⟨⟨by decide +kernel, by decide +kernel⟩, List.mem_of_getElem? (i := 1024) (by decide +kernel), List.mem_of_getElem? (i := 1325) (by decide +kernel), List.mem_of_getElem? (i := 1326) (by decide +kernel)⟩
theorem lw_p60 : lw_okq (⟨"RingWatersModel", "readJoint", "()Z"⟩, 55) := ⟨⟨by decide +kernel, by decide +kernel⟩, List.mem_of_getElem? (i := 1024) (by decide +kernel), List.mem_of_getElem? (i := 1329) (by decide +kernel), List.mem_of_getElem? (i := 1330) (by decide +kernel)⟩
theorem lw_p61 : lw_okq (⟨"RingWatersModel", "readEdge", "(I)Z"⟩, 55) := ⟨⟨by decide +kernel, by decide +kernel⟩, List.mem_of_getElem? (i := 1024) (by decide +kernel), List.mem_of_getElem? (i := 1333) (by decide +kernel), List.mem_of_getElem? (i := 1334) (by decide +kernel)⟩
theorem lw_p62 : lw_okq (⟨"RingWatersModel", "takesJoint", "(I)I"⟩, 55) := ⟨⟨by decide +kernel, by decide +kernel⟩, List.mem_of_getElem? (i := 1024) (by decide +kernel), List.mem_of_getElem? (i := 1337) (by decide +kernel), List.mem_of_getElem? (i := 1338) (by decide +kernel)⟩
theorem lw_p63 : lw_okq (⟨"RingWatersModel", "readLifts", "(I)Z"⟩, 55) := ⟨⟨by decide +kernel, by decide +kernel⟩, List.mem_of_getElem? (i := 1024) (by decide +kernel), List.mem_of_getElem? (i := 1341) (by decide +kernel), List.mem_of_getElem? (i := 1342) (by decide +kernel)⟩
def lw_privs_4 : List (MethodName × Nat) := [(⟨"RingWatersModel", "readAll", "(I)Z"⟩, 55), (⟨"RingWatersModel", "goesOn", "()V"⟩, 55), (⟨"RingWatersModel", "see", "(I)I"⟩, 55), (⟨"RingWatersModel", "readWell", "()Z"⟩, 55), (⟨"RingWatersModel", "isWord", "(Ljava/lang/String;)Z"⟩, 55), (⟨"RingWatersModel", "errs", "(I)Z"⟩, 55), (⟨"RingWatersModel", "takesNew", "()Z"⟩, 55), (⟨"RingWatersModel", "isName", "()Z"⟩, 55), (⟨"RingWatersModel", "jointHere", "()I"⟩, 55), (⟨"RingWatersModel", "isAt", "(III)Z"⟩, 55), (⟨"RingWatersModel", "takesWhole", "(II)Z"⟩, 55), (⟨"RingWatersModel", "readLine", "()Z"⟩, 55), (⟨"RingWatersModel", "readJoint", "()Z"⟩, 55), (⟨"RingWatersModel", "readEdge", "(I)Z"⟩, 55), (⟨"RingWatersModel", "takesJoint", "(I)I"⟩, 55), (⟨"RingWatersModel", "readLifts", "(I)Z"⟩, 55)]
theorem lw_r4 : ∀ q ∈ lw_privs_4, lw_okq q := List.forall_mem_cons.mpr ⟨lw_p48, List.forall_mem_cons.mpr ⟨lw_p49, List.forall_mem_cons.mpr ⟨lw_p50, List.forall_mem_cons.mpr ⟨lw_p51, List.forall_mem_cons.mpr ⟨lw_p52, List.forall_mem_cons.mpr ⟨lw_p53, List.forall_mem_cons.mpr ⟨lw_p54, List.forall_mem_cons.mpr ⟨lw_p55, List.forall_mem_cons.mpr ⟨lw_p56, List.forall_mem_cons.mpr ⟨lw_p57, List.forall_mem_cons.mpr ⟨lw_p58, List.forall_mem_cons.mpr ⟨lw_p59, List.forall_mem_cons.mpr ⟨lw_p60, List.forall_mem_cons.mpr ⟨lw_p61, List.forall_mem_cons.mpr ⟨lw_p62, List.forall_mem_cons.mpr ⟨lw_p63, fun _ h => absurd h List.not_mem_nil⟩⟩⟩⟩⟩⟩⟩⟩⟩⟩⟩⟩⟩⟩⟩⟩
theorem lw_p64 : lw_okq (⟨"RingWatersModel", "areMet", "()Z"⟩, 55) := ⟨⟨by decide +kernel, by decide +kernel⟩, List.mem_of_getElem? (i := 1024) (by decide +kernel), List.mem_of_getElem? (i := 1345) (by decide +kernel), List.mem_of_getElem? (i := 1346) (by decide +kernel)⟩
theorem lw_p65 : lw_okq (⟨"RingWatersModel", "no", "(I)I"⟩, 55) := ⟨⟨by decide +kernel, by decide +kernel⟩, List.mem_of_getElem? (i := 1024) (by decide +kernel), List.mem_of_getElem? (i := 1349) (by decide +kernel), List.mem_of_getElem? (i := 1350) (by decide +kernel)⟩
theorem lw_p66 : lw_okq (⟨"RingWatersModel", "stands", "()V"⟩, 55) := ⟨⟨by decide +kernel, by decide +kernel⟩, List.mem_of_getElem? (i := 1024) (by decide +kernel), List.mem_of_getElem? (i := 1353) (by decide +kernel), List.mem_of_getElem? (i := 1354) (by decide +kernel)⟩
theorem lw_p67 : lw_okq (⟨"RingWatersModel", "solves", "()V"⟩, 55) := ⟨⟨by decide +kernel, by decide +kernel⟩, List.mem_of_getElem? (i := 1024) (by decide +kernel), List.mem_of_getElem? (i := 1357) (by decide +kernel), List.mem_of_getElem? (i := 1358) (by decide +kernel)⟩
theorem lw_p68 : lw_okq (⟨"RingWatersModel", "laysNet", "()V"⟩, 55) := ⟨⟨by decide +kernel, by decide +kernel⟩, List.mem_of_getElem? (i := 1024) (by decide +kernel), List.mem_of_getElem? (i := 1361) (by decide +kernel), List.mem_of_getElem? (i := 1362) (by decide +kernel)⟩
theorem lw_p69 : lw_okq (⟨"RingWatersModel", "laysTree", "()V"⟩, 55) := ⟨⟨by decide +kernel, by decide +kernel⟩, List.mem_of_getElem? (i := 1024) (by decide +kernel), List.mem_of_getElem? (i := 1365) (by decide +kernel), List.mem_of_getElem? (i := 1366) (by decide +kernel)⟩
theorem lw_p70 : lw_okq (⟨"RingWatersModel", "otherEnd", "(II)I"⟩, 55) := ⟨⟨by decide +kernel, by decide +kernel⟩, List.mem_of_getElem? (i := 1024) (by decide +kernel), List.mem_of_getElem? (i := 1369) (by decide +kernel), List.mem_of_getElem? (i := 1370) (by decide +kernel)⟩
theorem lw_p71 : lw_okq (⟨"RingWatersModel", "isOpen", "(I)Z"⟩, 55) := ⟨⟨by decide +kernel, by decide +kernel⟩, List.mem_of_getElem? (i := 1024) (by decide +kernel), List.mem_of_getElem? (i := 1373) (by decide +kernel), List.mem_of_getElem? (i := 1374) (by decide +kernel)⟩
theorem lw_p72 : lw_okq (⟨"RingWatersModel", "isMet", "(I)Z"⟩, 55) := ⟨⟨by decide +kernel, by decide +kernel⟩, List.mem_of_getElem? (i := 1024) (by decide +kernel), List.mem_of_getElem? (i := 1377) (by decide +kernel), List.mem_of_getElem? (i := 1378) (by decide +kernel)⟩
theorem lw_p73 : lw_okq (⟨"RingWatersModel", "isLive", "(I)Z"⟩, 55) := ⟨⟨by decide +kernel, by decide +kernel⟩, List.mem_of_getElem? (i := 1024) (by decide +kernel), List.mem_of_getElem? (i := 1381) (by decide +kernel), List.mem_of_getElem? (i := 1382) (by decide +kernel)⟩
theorem lw_p74 : lw_okq (⟨"RingWatersModel", "isTree", "(I)Z"⟩, 55) := ⟨⟨by decide +kernel, by decide +kernel⟩, List.mem_of_getElem? (i := 1024) (by decide +kernel), List.mem_of_getElem? (i := 1385) (by decide +kernel), List.mem_of_getElem? (i := 1386) (by decide +kernel)⟩
theorem lw_p75 : lw_okq (⟨"RingWatersModel", "laysRing", "(I)V"⟩, 55) := ⟨⟨by decide +kernel, by decide +kernel⟩, List.mem_of_getElem? (i := 1024) (by decide +kernel), List.mem_of_getElem? (i := 1389) (by decide +kernel), List.mem_of_getElem? (i := 1390) (by decide +kernel)⟩
theorem lw_p76 : lw_okq (⟨"RingWatersModel", "laysRingEdge", "(III)V"⟩, 55) := ⟨⟨by decide +kernel, by decide +kernel⟩, List.mem_of_getElem? (i := 1024) (by decide +kernel), List.mem_of_getElem? (i := 1393) (by decide +kernel), List.mem_of_getElem? (i := 1394) (by decide +kernel)⟩
theorem lw_p77 : lw_okq (⟨"RingWatersModel", "deepOf", "(I)I"⟩, 55) := ⟨⟨by decide +kernel, by decide +kernel⟩, List.mem_of_getElem? (i := 1024) (by decide +kernel), List.mem_of_getElem? (i := 1397) (by decide +kernel), List.mem_of_getElem? (i := 1398) (by decide +kernel)⟩
theorem lw_p78 : lw_okq (⟨"RingWatersModel", "above", "(I)I"⟩, 55) := ⟨⟨by decide +kernel, by decide +kernel⟩, List.mem_of_getElem? (i := 1024) (by decide +kernel), List.mem_of_getElem? (i := 1401) (by decide +kernel), List.mem_of_getElem? (i := 1402) (by decide +kernel)⟩
theorem lw_p79 : lw_okq (⟨"RingWatersModel", "begins", "()V"⟩, 55) := ⟨⟨by decide +kernel, by decide +kernel⟩, List.mem_of_getElem? (i := 1024) (by decide +kernel), List.mem_of_getElem? (i := 1405) (by decide +kernel), List.mem_of_getElem? (i := 1406) (by decide +kernel)⟩
def lw_privs_5 : List (MethodName × Nat) := [(⟨"RingWatersModel", "areMet", "()Z"⟩, 55), (⟨"RingWatersModel", "no", "(I)I"⟩, 55), (⟨"RingWatersModel", "stands", "()V"⟩, 55), (⟨"RingWatersModel", "solves", "()V"⟩, 55), (⟨"RingWatersModel", "laysNet", "()V"⟩, 55), (⟨"RingWatersModel", "laysTree", "()V"⟩, 55), (⟨"RingWatersModel", "otherEnd", "(II)I"⟩, 55), (⟨"RingWatersModel", "isOpen", "(I)Z"⟩, 55), (⟨"RingWatersModel", "isMet", "(I)Z"⟩, 55), (⟨"RingWatersModel", "isLive", "(I)Z"⟩, 55), (⟨"RingWatersModel", "isTree", "(I)Z"⟩, 55), (⟨"RingWatersModel", "laysRing", "(I)V"⟩, 55), (⟨"RingWatersModel", "laysRingEdge", "(III)V"⟩, 55), (⟨"RingWatersModel", "deepOf", "(I)I"⟩, 55), (⟨"RingWatersModel", "above", "(I)I"⟩, 55), (⟨"RingWatersModel", "begins", "()V"⟩, 55)]
theorem lw_r5 : ∀ q ∈ lw_privs_5, lw_okq q := List.forall_mem_cons.mpr ⟨lw_p64, List.forall_mem_cons.mpr ⟨lw_p65, List.forall_mem_cons.mpr ⟨lw_p66, List.forall_mem_cons.mpr ⟨lw_p67, List.forall_mem_cons.mpr ⟨lw_p68, List.forall_mem_cons.mpr ⟨lw_p69, List.forall_mem_cons.mpr ⟨lw_p70, List.forall_mem_cons.mpr ⟨lw_p71, List.forall_mem_cons.mpr ⟨lw_p72, List.forall_mem_cons.mpr ⟨lw_p73, List.forall_mem_cons.mpr ⟨lw_p74, List.forall_mem_cons.mpr ⟨lw_p75, List.forall_mem_cons.mpr ⟨lw_p76, List.forall_mem_cons.mpr ⟨lw_p77, List.forall_mem_cons.mpr ⟨lw_p78, List.forall_mem_cons.mpr ⟨lw_p79, fun _ h => absurd h List.not_mem_nil⟩⟩⟩⟩⟩⟩⟩⟩⟩⟩⟩⟩⟩⟩⟩⟩
theorem lw_p80 : lw_okq (⟨"RingWatersModel", "drawn", "(I)I"⟩, 55) := ⟨⟨by decide +kernel, by decide +kernel⟩, List.mem_of_getElem? (i := 1024) (by decide +kernel), List.mem_of_getElem? (i := 1409) (by decide +kernel), List.mem_of_getElem? (i := 1410) (by decide +kernel)⟩
theorem lw_p81 : lw_okq (⟨"RingWatersModel", "sweep", "()Z"⟩, 55) := ⟨⟨by decide +kernel, by decide +kernel⟩, List.mem_of_getElem? (i := 1024) (by decide +kernel), List.mem_of_getElem? (i := 1413) (by decide +kernel), List.mem_of_getElem? (i := 1414) (by decide +kernel)⟩
theorem lw_p82 : lw_okq (⟨"RingWatersModel", "ringSum", "(I)J"⟩, 55) := ⟨⟨by decide +kernel, by decide +kernel⟩, List.mem_of_getElem? (i := 1024) (by decide +kernel), List.mem_of_getElem? (i := 1417) (by decide +kernel), List.mem_of_getElem? (i := 1418) (by decide +kernel)⟩
theorem lw_p83 : lw_okq (⟨"RingWatersModel", "lossOf", "(IJ)J"⟩, 55) := ⟨⟨by decide +kernel, by decide +kernel⟩, List.mem_of_getElem? (i := 1024) (by decide +kernel), List.mem_of_getElem? (i := 1421) (by decide +kernel), List.mem_of_getElem? (i := 1422) (by decide +kernel)⟩
theorem lw_p84 : lw_okq (⟨"RingWatersModel", "liftOf", "(IJ)J"⟩, 55) := ⟨⟨by decide +kernel, by decide +kernel⟩, List.mem_of_getElem? (i := 1024) (by decide +kernel), List.mem_of_getElem? (i := 1425) (by decide +kernel), List.mem_of_getElem? (i := 1426) (by decide +kernel)⟩
theorem lw_p85 : lw_okq (⟨"RingWatersModel", "ringSteep", "(I)J"⟩, 55) := ⟨⟨by decide +kernel, by decide +kernel⟩, List.mem_of_getElem? (i := 1024) (by decide +kernel), List.mem_of_getElem? (i := 1431) (by decide +kernel), List.mem_of_getElem? (i := 1432) (by decide +kernel)⟩
theorem lw_p86 : lw_okq (⟨"RingWatersModel", "steepOf", "(I)J"⟩, 55) := ⟨⟨by decide +kernel, by decide +kernel⟩, List.mem_of_getElem? (i := 1024) (by decide +kernel), List.mem_of_getElem? (i := 1435) (by decide +kernel), List.mem_of_getElem? (i := 1436) (by decide +kernel)⟩
theorem lw_p87 : lw_okq (⟨"RingWatersModel", "steepBy", "(IJ)J"⟩, 55) := ⟨⟨by decide +kernel, by decide +kernel⟩, List.mem_of_getElem? (i := 1024) (by decide +kernel), List.mem_of_getElem? (i := 1439) (by decide +kernel), List.mem_of_getElem? (i := 1440) (by decide +kernel)⟩
theorem lw_p88 : lw_okq (⟨"RingWatersModel", "laysHeads", "()V"⟩, 55) := ⟨⟨by decide +kernel, by decide +kernel⟩, List.mem_of_getElem? (i := 1024) (by decide +kernel), List.mem_of_getElem? (i := 1449) (by decide +kernel), List.mem_of_getElem? (i := 1450) (by decide +kernel)⟩
theorem lw_p89 : lw_okq (⟨"RingWatersModel", "wrongWay", "()I"⟩, 55) := ⟨⟨by decide +kernel, by decide +kernel⟩, List.mem_of_getElem? (i := 1024) (by decide +kernel), List.mem_of_getElem? (i := 1453) (by decide +kernel), List.mem_of_getElem? (i := 1454) (by decide +kernel)⟩
theorem lw_p90 : lw_okq (⟨"RingWatersModel", "rightWay", "()I"⟩, 55) := ⟨⟨by decide +kernel, by decide +kernel⟩, List.mem_of_getElem? (i := 1024) (by decide +kernel), List.mem_of_getElem? (i := 1457) (by decide +kernel), List.mem_of_getElem? (i := 1458) (by decide +kernel)⟩
theorem lw_p91 : lw_okq (⟨"RingWatersModel", "isEdge", "(I)Z"⟩, 55) := ⟨⟨by decide +kernel, by decide +kernel⟩, List.mem_of_getElem? (i := 1024) (by decide +kernel), List.mem_of_getElem? (i := 1473) (by decide +kernel), List.mem_of_getElem? (i := 1474) (by decide +kernel)⟩
theorem lw_p92 : lw_okq (⟨"RingWatersModel", "isJoint", "(I)Z"⟩, 55) := ⟨⟨by decide +kernel, by decide +kernel⟩, List.mem_of_getElem? (i := 1024) (by decide +kernel), List.mem_of_getElem? (i := 1484) (by decide +kernel), List.mem_of_getElem? (i := 1485) (by decide +kernel)⟩
theorem lw_p93 : lw_okq (⟨"RingWatersModel", "given", "()I"⟩, 55) := ⟨⟨by decide +kernel, by decide +kernel⟩, List.mem_of_getElem? (i := 1024) (by decide +kernel), List.mem_of_getElem? (i := 1495) (by decide +kernel), List.mem_of_getElem? (i := 1496) (by decide +kernel)⟩
theorem lw_p94 : lw_okq (⟨"RingWatersModel", "dryBits", "()I"⟩, 55) := ⟨⟨by decide +kernel, by decide +kernel⟩, List.mem_of_getElem? (i := 1024) (by decide +kernel), List.mem_of_getElem? (i := 1499) (by decide +kernel), List.mem_of_getElem? (i := 1500) (by decide +kernel)⟩
theorem lw_p95 : lw_okq (⟨"RingWatersModel", "measuredMany", "()I"⟩, 55) := ⟨⟨by decide +kernel, by decide +kernel⟩, List.mem_of_getElem? (i := 1024) (by decide +kernel), List.mem_of_getElem? (i := 1503) (by decide +kernel), List.mem_of_getElem? (i := 1504) (by decide +kernel)⟩
def lw_privs_6 : List (MethodName × Nat) := [(⟨"RingWatersModel", "drawn", "(I)I"⟩, 55), (⟨"RingWatersModel", "sweep", "()Z"⟩, 55), (⟨"RingWatersModel", "ringSum", "(I)J"⟩, 55), (⟨"RingWatersModel", "lossOf", "(IJ)J"⟩, 55), (⟨"RingWatersModel", "liftOf", "(IJ)J"⟩, 55), (⟨"RingWatersModel", "ringSteep", "(I)J"⟩, 55), (⟨"RingWatersModel", "steepOf", "(I)J"⟩, 55), (⟨"RingWatersModel", "steepBy", "(IJ)J"⟩, 55), (⟨"RingWatersModel", "laysHeads", "()V"⟩, 55), (⟨"RingWatersModel", "wrongWay", "()I"⟩, 55), (⟨"RingWatersModel", "rightWay", "()I"⟩, 55), (⟨"RingWatersModel", "isEdge", "(I)Z"⟩, 55), (⟨"RingWatersModel", "isJoint", "(I)Z"⟩, 55), (⟨"RingWatersModel", "given", "()I"⟩, 55), (⟨"RingWatersModel", "dryBits", "()I"⟩, 55), (⟨"RingWatersModel", "measuredMany", "()I"⟩, 55)]
theorem lw_r6 : ∀ q ∈ lw_privs_6, lw_okq q := List.forall_mem_cons.mpr ⟨lw_p80, List.forall_mem_cons.mpr ⟨lw_p81, List.forall_mem_cons.mpr ⟨lw_p82, List.forall_mem_cons.mpr ⟨lw_p83, List.forall_mem_cons.mpr ⟨lw_p84, List.forall_mem_cons.mpr ⟨lw_p85, List.forall_mem_cons.mpr ⟨lw_p86, List.forall_mem_cons.mpr ⟨lw_p87, List.forall_mem_cons.mpr ⟨lw_p88, List.forall_mem_cons.mpr ⟨lw_p89, List.forall_mem_cons.mpr ⟨lw_p90, List.forall_mem_cons.mpr ⟨lw_p91, List.forall_mem_cons.mpr ⟨lw_p92, List.forall_mem_cons.mpr ⟨lw_p93, List.forall_mem_cons.mpr ⟨lw_p94, List.forall_mem_cons.mpr ⟨lw_p95, fun _ h => absurd h List.not_mem_nil⟩⟩⟩⟩⟩⟩⟩⟩⟩⟩⟩⟩⟩⟩⟩⟩
theorem lw_p96 : lw_okq (⟨"RingWatersModel", "ringsOf", "(I)I"⟩, 55) := ⟨⟨by decide +kernel, by decide +kernel⟩, List.mem_of_getElem? (i := 1024) (by decide +kernel), List.mem_of_getElem? (i := 1512) (by decide +kernel), List.mem_of_getElem? (i := 1513) (by decide +kernel)⟩
theorem lw_p97 : lw_okq (⟨"RingWatersModel", "endsAt", "(I)I"⟩, 55) := ⟨⟨by decide +kernel, by decide +kernel⟩, List.mem_of_getElem? (i := 1024) (by decide +kernel), List.mem_of_getElem? (i := 1529) (by decide +kernel), List.mem_of_getElem? (i := 1530) (by decide +kernel)⟩
theorem lw_p98 : lw_okq (⟨"RingWatersModel", "nothing", "(I)J"⟩, 55) := ⟨⟨by decide +kernel, by decide +kernel⟩, List.mem_of_getElem? (i := 1024) (by decide +kernel), List.mem_of_getElem? (i := 1537) (by decide +kernel), List.mem_of_getElem? (i := 1538) (by decide +kernel)⟩
theorem lw_p99 : lw_okq (⟨"RingWatersModel", "pressureOf", "(I)J"⟩, 55) := ⟨⟨by decide +kernel, by decide +kernel⟩, List.mem_of_getElem? (i := 1024) (by decide +kernel), List.mem_of_getElem? (i := 1545) (by decide +kernel), List.mem_of_getElem? (i := 1546) (by decide +kernel)⟩
theorem lw_p100 : lw_okq (⟨"RingWatersModel", "weakestNow", "()I"⟩, 55) := ⟨⟨by decide +kernel, by decide +kernel⟩, List.mem_of_getElem? (i := 1024) (by decide +kernel), List.mem_of_getElem? (i := 1553) (by decide +kernel), List.mem_of_getElem? (i := 1554) (by decide +kernel)⟩
theorem lw_p101 : lw_okq (⟨"RingWatersModel", "laysEarly", "(I)V"⟩, 55) := ⟨⟨by decide +kernel, by decide +kernel⟩, List.mem_of_getElem? (i := 1024) (by decide +kernel), List.mem_of_getElem? (i := 1570) (by decide +kernel), List.mem_of_getElem? (i := 1571) (by decide +kernel)⟩
theorem lw_p102 : lw_okq (⟨"RingWatersModel", "isDrawing", "(I)Z"⟩, 55) := ⟨⟨by decide +kernel, by decide +kernel⟩, List.mem_of_getElem? (i := 1024) (by decide +kernel), List.mem_of_getElem? (i := 1582) (by decide +kernel), List.mem_of_getElem? (i := 1583) (by decide +kernel)⟩
theorem lw_p103 : lw_okq (⟨"RingWatersModel", "solvesWith", "(II)V"⟩, 55) := ⟨⟨by decide +kernel, by decide +kernel⟩, List.mem_of_getElem? (i := 1024) (by decide +kernel), List.mem_of_getElem? (i := 1596) (by decide +kernel), List.mem_of_getElem? (i := 1597) (by decide +kernel)⟩
theorem lw_p104 : lw_okq (⟨"RingWatersModel", "isEnough", "(I)Z"⟩, 55) := ⟨⟨by decide +kernel, by decide +kernel⟩, List.mem_of_getElem? (i := 1024) (by decide +kernel), List.mem_of_getElem? (i := 1600) (by decide +kernel), List.mem_of_getElem? (i := 1601) (by decide +kernel)⟩
theorem lw_p105 : lw_okq (⟨"RingWatersModel", "solvesAgain", "()V"⟩, 55) := ⟨⟨by decide +kernel, by decide +kernel⟩, List.mem_of_getElem? (i := 1024) (by decide +kernel), List.mem_of_getElem? (i := 1604) (by decide +kernel), List.mem_of_getElem? (i := 1605) (by decide +kernel)⟩
theorem lw_p106 : lw_okq (⟨"RingWatersModel", "solvesShared", "(I)V"⟩, 55) := ⟨⟨by decide +kernel, by decide +kernel⟩, List.mem_of_getElem? (i := 1024) (by decide +kernel), List.mem_of_getElem? (i := 1613) (by decide +kernel), List.mem_of_getElem? (i := 1614) (by decide +kernel)⟩
theorem lw_p107 : lw_okq (⟨"RingWatersModel", "dryWithout", "(I)I"⟩, 55) := ⟨⟨by decide +kernel, by decide +kernel⟩, List.mem_of_getElem? (i := 1024) (by decide +kernel), List.mem_of_getElem? (i := 1629) (by decide +kernel), List.mem_of_getElem? (i := 1630) (by decide +kernel)⟩
theorem lw_p108 : lw_okq (⟨"RingWatersModel", "dryWithoutAll", "(I)I"⟩, 55) := ⟨⟨by decide +kernel, by decide +kernel⟩, List.mem_of_getElem? (i := 1024) (by decide +kernel), List.mem_of_getElem? (i := 1633) (by decide +kernel), List.mem_of_getElem? (i := 1634) (by decide +kernel)⟩
theorem lw_p109 : lw_okq (⟨"RingWatersModel", "seeksWidest", "()V"⟩, 55) := ⟨⟨by decide +kernel, by decide +kernel⟩, List.mem_of_getElem? (i := 1024) (by decide +kernel), List.mem_of_getElem? (i := 1646) (by decide +kernel), List.mem_of_getElem? (i := 1647) (by decide +kernel)⟩
theorem lw_p110 : lw_okq (⟨"RingWatersModel", "offWith", "(II)J"⟩, 55) := ⟨⟨by decide +kernel, by decide +kernel⟩, List.mem_of_getElem? (i := 1024) (by decide +kernel), List.mem_of_getElem? (i := 1669) (by decide +kernel), List.mem_of_getElem? (i := 1670) (by decide +kernel)⟩
theorem lw_p111 : lw_okq (⟨"RingWatersModel", "remembers", "()V"⟩, 55) := ⟨⟨by decide +kernel, by decide +kernel⟩, List.mem_of_getElem? (i := 1024) (by decide +kernel), List.mem_of_getElem? (i := 1683) (by decide +kernel), List.mem_of_getElem? (i := 1684) (by decide +kernel)⟩
def lw_privs_7 : List (MethodName × Nat) := [(⟨"RingWatersModel", "ringsOf", "(I)I"⟩, 55), (⟨"RingWatersModel", "endsAt", "(I)I"⟩, 55), (⟨"RingWatersModel", "nothing", "(I)J"⟩, 55), (⟨"RingWatersModel", "pressureOf", "(I)J"⟩, 55), (⟨"RingWatersModel", "weakestNow", "()I"⟩, 55), (⟨"RingWatersModel", "laysEarly", "(I)V"⟩, 55), (⟨"RingWatersModel", "isDrawing", "(I)Z"⟩, 55), (⟨"RingWatersModel", "solvesWith", "(II)V"⟩, 55), (⟨"RingWatersModel", "isEnough", "(I)Z"⟩, 55), (⟨"RingWatersModel", "solvesAgain", "()V"⟩, 55), (⟨"RingWatersModel", "solvesShared", "(I)V"⟩, 55), (⟨"RingWatersModel", "dryWithout", "(I)I"⟩, 55), (⟨"RingWatersModel", "dryWithoutAll", "(I)I"⟩, 55), (⟨"RingWatersModel", "seeksWidest", "()V"⟩, 55), (⟨"RingWatersModel", "offWith", "(II)J"⟩, 55), (⟨"RingWatersModel", "remembers", "()V"⟩, 55)]
theorem lw_r7 : ∀ q ∈ lw_privs_7, lw_okq q := List.forall_mem_cons.mpr ⟨lw_p96, List.forall_mem_cons.mpr ⟨lw_p97, List.forall_mem_cons.mpr ⟨lw_p98, List.forall_mem_cons.mpr ⟨lw_p99, List.forall_mem_cons.mpr ⟨lw_p100, List.forall_mem_cons.mpr ⟨lw_p101, List.forall_mem_cons.mpr ⟨lw_p102, List.forall_mem_cons.mpr ⟨lw_p103, List.forall_mem_cons.mpr ⟨lw_p104, List.forall_mem_cons.mpr ⟨lw_p105, List.forall_mem_cons.mpr ⟨lw_p106, List.forall_mem_cons.mpr ⟨lw_p107, List.forall_mem_cons.mpr ⟨lw_p108, List.forall_mem_cons.mpr ⟨lw_p109, List.forall_mem_cons.mpr ⟨lw_p110, List.forall_mem_cons.mpr ⟨lw_p111, fun _ h => absurd h List.not_mem_nil⟩⟩⟩⟩⟩⟩⟩⟩⟩⟩⟩⟩⟩⟩⟩⟩
theorem lw_p112 : lw_okq (⟨"RingWatersModel", "becomes", "(II)I"⟩, 55) := ⟨⟨by decide +kernel, by decide +kernel⟩, List.mem_of_getElem? (i := 1024) (by decide +kernel), List.mem_of_getElem? (i := 1694) (by decide +kernel), List.mem_of_getElem? (i := 1695) (by decide +kernel)⟩
def lw_privs_8 : List (MethodName × Nat) := [(⟨"RingWatersModel", "becomes", "(II)I"⟩, 55)]
theorem lw_r8 : ∀ q ∈ lw_privs_8, lw_okq q := List.forall_mem_cons.mpr ⟨lw_p112, fun _ h => absurd h List.not_mem_nil⟩
def lw_privs : List (MethodName × Nat) := lw_privs_1 ++ (lw_privs_2 ++ (lw_privs_3 ++ (lw_privs_4 ++ (lw_privs_5 ++ (lw_privs_6 ++ (lw_privs_7 ++ (lw_privs_8)))))))
def lw_tbl : List Cond := k2_sels lw_privs ++ tables_1
theorem lw_privs_ok : ∀ q ∈ lw_privs, lw_okq q := by
  show ∀ q ∈ lw_privs_1 ++ (lw_privs_2 ++ (lw_privs_3 ++ (lw_privs_4 ++ (lw_privs_5 ++ (lw_privs_6 ++ (lw_privs_7 ++ (lw_privs_8))))))), lw_okq q
  exact List.forall_mem_append.mpr ⟨lw_r1, List.forall_mem_append.mpr ⟨lw_r2, List.forall_mem_append.mpr ⟨lw_r3, List.forall_mem_append.mpr ⟨lw_r4, List.forall_mem_append.mpr ⟨lw_r5, List.forall_mem_append.mpr ⟨lw_r6, List.forall_mem_append.mpr ⟨lw_r7, lw_r8⟩⟩⟩⟩⟩⟩⟩
end
section
/-! ===== BEGIN words of one list among another's, by their places ===== -/
theorem goodIn_r {big : List Cond} (ws : List Cond) (ps : List Nat) (hp : ws = ps.filterMap (fun i => big[i]?)) (h : ws.all goodWord = true) : GoodIn big ws := by
  intro w hw
  have h1 := List.all_eq_true.mp h w hw
  rw [hp] at hw
  obtain ⟨i, -, hi⟩ := List.mem_filterMap.mp hw
  have hm : w ∈ big := by first | exact List.mem_of_getElem? hi | exact List.getElem?_mem hi
  exact ⟨hm, good_of_word h1⟩
theorem goodIn_app {big a b : List Cond} (ha : GoodIn big a) (hb : GoodIn big b) : GoodIn big (a ++ b) := fun w h => (List.mem_append.mp h).elim (ha w) (hb w)
theorem goodIn_ca {big a b : List Cond} {c : Cond} (ha : GoodIn big (c :: a)) (hb : GoodIn big b) : GoodIn big (c :: (a ++ b)) := fun w h => (List.mem_cons.mp h).elim (fun e => ha w (List.mem_cons.mpr (Or.inl e))) (fun h => (List.mem_append.mp h).elim (fun h => ha w (List.mem_cons.mpr (Or.inr h))) (hb w))
theorem goodIn_sub {big ws : List Cond} (hm : ∀ w ∈ ws, w ∈ big) (h : ws.all goodWord = true) : GoodIn big ws := fun w hw => ⟨hm w hw, good_of_word (List.all_eq_true.mp h w hw)⟩
/-! ===== END ===== -/
/-! ===== BEGIN printed: names, fields, word lists, decode rows ===== -/
def RX0 : String := "RingWaters$Acts"
def TX0 : u_T := fun k => match k with
  | 0 => ("RingWaters$Acts", "count", "I", false)
  | 1 => ("RingWaters$Acts", "kinds", "[I", true)
  | 2 => ("RingWaters$Acts", "places", "[I", true)
  | _ => ("RingWaters$Acts", "olds", "[I", true)
def tyX0 : Nat → FieldType := fun k => match k with
  | 0 => .int
  | 1 => .array .int
  | 2 => .array .int
  | _ => .array .int
abbrev wsX00 : List Cond := u_ws RX0 TX0 4
theorem nmX0 : ∀ a, a < 4 → ∀ b, b < 4 → a ≠ b → (TX0 a).2.1 ≠ (TX0 b).2.1 := by decide +kernel
theorem tyX0_ok : ∀ k, k < 4 → parseFieldDescriptor (TX0 k).2.2.1 = some (tyX0 k) := by decide +kernel
abbrev cX0_init : ByteArray := prog_2_method_1_code
def yX0_init : MethodName := ⟨RX0, "<init>", "()V"⟩
abbrev cX0_note : ByteArray := prog_2_method_2_code
def yX0_note : MethodName := ⟨RX0, "note", "(III)V"⟩
abbrev cX0_dropFirst : ByteArray := prog_2_method_3_code
def yX0_dropFirst : MethodName := ⟨RX0, "dropFirst", "()V"⟩
abbrev cX0_takeBackLatest : ByteArray := prog_2_method_4_code
def yX0_takeBackLatest : MethodName := ⟨RX0, "takeBackLatest", "(LRingWaters$Net;)V"⟩
def RX1 : String := "RingWaters$Measures"
def TX1 : u_T := fun k => match k with
  | 0 => ("RingWaters$Measures", "measured", "I", false)
  | 1 => ("RingWaters$Measures", "measuredHeads", "[I", true)
  | 2 => ("RingWaters$Measures", "isLeakFound", "Z", false)
  | 3 => ("RingWaters$Measures", "leakJoint", "I", false)
  | 4 => ("RingWaters$Measures", "leakDraw", "I", false)
  | _ => ("RingWaters$Measures", "leakFar", "J", false)
def tyX1 : Nat → FieldType := fun k => match k with
  | 0 => .int
  | 1 => .array .int
  | 2 => .boolean
  | 3 => .int
  | 4 => .int
  | _ => .long
abbrev wsX10 : List Cond := u_ws RX1 TX1 6
theorem nmX1 : ∀ a, a < 6 → ∀ b, b < 6 → a ≠ b → (TX1 a).2.1 ≠ (TX1 b).2.1 := by decide +kernel
theorem tyX1_ok : ∀ k, k < 6 → parseFieldDescriptor (TX1 k).2.2.1 = some (tyX1 k) := by decide +kernel
abbrev cX1_init : ByteArray := prog_3_method_1_code
def yX1_init : MethodName := ⟨RX1, "<init>", "()V"⟩
abbrev cX1_note : ByteArray := prog_3_method_2_code
def yX1_note : MethodName := ⟨RX1, "note", "(II)V"⟩
abbrev cX1_clear : ByteArray := prog_3_method_3_code
def yX1_clear : MethodName := ⟨RX1, "clear", "()V"⟩
abbrev cX1_count : ByteArray := prog_3_method_4_code
def yX1_count : MethodName := ⟨RX1, "count", "()I"⟩
abbrev cX1_farFrom : ByteArray := prog_3_method_5_code
def yX1_farFrom : MethodName := ⟨RX1, "farFrom", "(LRingWaters$Waters;)J"⟩
abbrev cX1_offerLeak : ByteArray := prog_3_method_6_code
def yX1_offerLeak : MethodName := ⟨RX1, "offerLeak", "(IIJ)V"⟩
def RX2 : String := "RingWaters$Net"
def TX2 : u_T := fun k => match k with
  | 0 => ("RingWaters$Net", "joints", "I", false)
  | 1 => ("RingWaters$Net", "edges", "I", false)
  | 2 => ("RingWaters$Net", "wellHead", "I", false)
  | 3 => ("RingWaters$Net", "closed", "I", false)
  | 4 => ("RingWaters$Net", "names", "[J", true)
  | 5 => ("RingWaters$Net", "draws", "[I", true)
  | 6 => ("RingWaters$Net", "heights", "[I", true)
  | 7 => ("RingWaters$Net", "firsts", "[I", true)
  | 8 => ("RingWaters$Net", "seconds", "[I", true)
  | 9 => ("RingWaters$Net", "kinds", "[I", true)
  | 10 => ("RingWaters$Net", "resists", "[I", true)
  | 11 => ("RingWaters$Net", "liftCounts", "[I", true)
  | _ => ("RingWaters$Net", "lifts", "[I", true)
def tyX2 : Nat → FieldType := fun k => match k with
  | 0 => .int
  | 1 => .int
  | 2 => .int
  | 3 => .int
  | 4 => .array .long
  | 5 => .array .int
  | 6 => .array .int
  | 7 => .array .int
  | 8 => .array .int
  | 9 => .array .int
  | 10 => .array .int
  | 11 => .array .int
  | _ => .array .int
abbrev wsX20 : List Cond := u_ws RX2 TX2 13
theorem nmX2 : ∀ a, a < 13 → ∀ b, b < 13 → a ≠ b → (TX2 a).2.1 ≠ (TX2 b).2.1 := by decide +kernel
theorem tyX2_ok : ∀ k, k < 13 → parseFieldDescriptor (TX2 k).2.2.1 = some (tyX2 k) := by decide +kernel
abbrev cX2_init : ByteArray := prog_4_method_1_code
def yX2_init : MethodName := ⟨RX2, "<init>", "()V"⟩
abbrev cX2_copyFrom : ByteArray := prog_4_method_2_code
def yX2_copyFrom : MethodName := ⟨RX2, "copyFrom", "(LRingWaters$Net;)V"⟩
abbrev cX2_clear : ByteArray := prog_4_method_3_code
def yX2_clear : MethodName := ⟨RX2, "clear", "()V"⟩
abbrev cX2_hasJoint : ByteArray := prog_4_method_4_code
def yX2_hasJoint : MethodName := ⟨RX2, "hasJoint", "(I)Z"⟩
abbrev cX2_hasEdge : ByteArray := prog_4_method_5_code
def yX2_hasEdge : MethodName := ⟨RX2, "hasEdge", "(I)Z"⟩
abbrev cX2_jointCalled : ByteArray := prog_4_method_6_code
def yX2_jointCalled : MethodName := ⟨RX2, "jointCalled", "(J)I"⟩
abbrev cX2_addJoint : ByteArray := prog_4_method_7_code
def yX2_addJoint : MethodName := ⟨RX2, "addJoint", "(JII)V"⟩
abbrev cX2_addEdge : ByteArray := prog_4_method_8_code
def yX2_addEdge : MethodName := ⟨RX2, "addEdge", "(IIII)V"⟩
abbrev cX2_addLift : ByteArray := prog_4_method_9_code
def yX2_addLift : MethodName := ⟨RX2, "addLift", "(I)V"⟩
abbrev cX2_scaleDraws : ByteArray := prog_4_method_10_code
def yX2_scaleDraws : MethodName := ⟨RX2, "scaleDraws", "(LRingWaters$Net;I)Z"⟩
abbrev cX2_edgesAt : ByteArray := prog_4_method_11_code
def yX2_edgesAt : MethodName := ⟨RX2, "edgesAt", "(I)I"⟩
abbrev cX2_otherEnd : ByteArray := prog_4_method_12_code
def yX2_otherEnd : MethodName := ⟨RX2, "otherEnd", "(II)I"⟩
abbrev cX2_isConnected : ByteArray := prog_4_method_13_code
def yX2_isConnected : MethodName := ⟨RX2, "isConnected", "()Z"⟩
abbrev cX2_lossBy : ByteArray := prog_4_method_14_code
def yX2_lossBy : MethodName := ⟨RX2, "lossBy", "(IJ)J"⟩
abbrev cX2_steepBy : ByteArray := prog_4_method_15_code
def yX2_steepBy : MethodName := ⟨RX2, "steepBy", "(IJ)J"⟩
def RX3 : String := "RingWaters$Reader"
def TX3 : u_T := fun k => match k with
  | 0 => ("RingWaters$Reader", "net", "LRingWaters$Net;", true)
  | 1 => ("RingWaters$Reader", "bytes", "[B", false)
  | 2 => ("RingWaters$Reader", "length", "I", false)
  | 3 => ("RingWaters$Reader", "next", "I", false)
  | 4 => ("RingWaters$Reader", "fault", "I", false)
  | 5 => ("RingWaters$Reader", "start", "I", false)
  | 6 => ("RingWaters$Reader", "token", "I", false)
  | 7 => ("RingWaters$Reader", "word", "J", false)
  | 8 => ("RingWaters$Reader", "whole", "I", false)
  | 9 => ("RingWaters$Reader", "name", "J", false)
  | 10 => ("RingWaters$Reader", "first", "I", false)
  | _ => ("RingWaters$Reader", "second", "I", false)
def tyX3 : Nat → FieldType := fun k => match k with
  | 0 => .object "RingWaters$Net"
  | 1 => .array .byte
  | 2 => .int
  | 3 => .int
  | 4 => .int
  | 5 => .int
  | 6 => .int
  | 7 => .long
  | 8 => .int
  | 9 => .long
  | 10 => .int
  | _ => .int
abbrev wsX30 : List Cond := u_ws RX3 TX3 12
theorem nmX3 : ∀ a, a < 12 → ∀ b, b < 12 → a ≠ b → (TX3 a).2.1 ≠ (TX3 b).2.1 := by decide +kernel
theorem tyX3_ok : ∀ k, k < 12 → parseFieldDescriptor (TX3 k).2.2.1 = some (tyX3 k) := by decide +kernel
abbrev cX3_init : ByteArray := prog_5_method_1_code
def yX3_init : MethodName := ⟨RX3, "<init>", "()V"⟩
abbrev cX3_readText : ByteArray := prog_5_method_2_code
def yX3_readText : MethodName := ⟨RX3, "readText", "([BI)I"⟩
abbrev cX3_readEnd : ByteArray := prog_5_method_3_code
def yX3_readEnd : MethodName := ⟨RX3, "readEnd", "()V"⟩
abbrev cX3_readWell : ByteArray := prog_5_method_4_code
def yX3_readWell : MethodName := ⟨RX3, "readWell", "()Z"⟩
abbrev cX3_readLine : ByteArray := prog_5_method_5_code
def yX3_readLine : MethodName := ⟨RX3, "readLine", "()Z"⟩
abbrev cX3_readJoint : ByteArray := prog_5_method_6_code
def yX3_readJoint : MethodName := ⟨RX3, "readJoint", "()Z"⟩
abbrev cX3_readResisting : ByteArray := prog_5_method_7_code
def yX3_readResisting : MethodName := ⟨RX3, "readResisting", "(I)Z"⟩
abbrev cX3_readPump : ByteArray := prog_5_method_8_code
def yX3_readPump : MethodName := ⟨RX3, "readPump", "()Z"⟩
abbrev cX3_readEnds : ByteArray := prog_5_method_9_code
def yX3_readEnds : MethodName := ⟨RX3, "readEnds", "()Z"⟩
abbrev cX3_blame : ByteArray := prog_5_method_10_code
def yX3_blame : MethodName := ⟨RX3, "blame", "(I)Z"⟩
abbrev cX3_takeWord : ByteArray := prog_5_method_11_code
def yX3_takeWord : MethodName := ⟨RX3, "takeWord", "(J)Z"⟩
abbrev cX3_takeNewName : ByteArray := prog_5_method_12_code
def yX3_takeNewName : MethodName := ⟨RX3, "takeNewName", "()Z"⟩
abbrev cX3_isWholeWithin : ByteArray := prog_5_method_13_code
def yX3_isWholeWithin : MethodName := ⟨RX3, "isWholeWithin", "(II)Z"⟩
abbrev cX3_jointAtHand : ByteArray := prog_5_method_14_code
def yX3_jointAtHand : MethodName := ⟨RX3, "jointAtHand", "()I"⟩
abbrev cX3_isName : ByteArray := prog_5_method_15_code
def yX3_isName : MethodName := ⟨RX3, "isName", "()Z"⟩
abbrev cX3_readToken : ByteArray := prog_5_method_16_code
def yX3_readToken : MethodName := ⟨RX3, "readToken", "()V"⟩
abbrev cX3_readWord : ByteArray := prog_5_method_17_code
def yX3_readWord : MethodName := ⟨RX3, "readWord", "()V"⟩
abbrev cX3_readWhole : ByteArray := prog_5_method_18_code
def yX3_readWhole : MethodName := ⟨RX3, "readWhole", "()V"⟩
abbrev cX3_isLetter : ByteArray := prog_5_method_19_code
def yX3_isLetter : MethodName := ⟨RX3, "isLetter", "(I)Z"⟩
abbrev cX3_isDigit : ByteArray := prog_5_method_20_code
def yX3_isDigit : MethodName := ⟨RX3, "isDigit", "(I)Z"⟩
abbrev cX3_packed : ByteArray := prog_5_method_21_code
def yX3_packed : MethodName := ⟨RX3, "packed", "([BII)J"⟩
abbrev cX3_onlyWord : ByteArray := prog_5_method_22_code
def yX3_onlyWord : MethodName := ⟨RX3, "onlyWord", "([BI)J"⟩
def RX4 : String := "RingWaters$Rings"
def TX4 : u_T := fun k => match k with
  | 0 => ("RingWaters$Rings", "count", "I", false)
  | 1 => ("RingWaters$Rings", "lengths", "[I", true)
  | 2 => ("RingWaters$Rings", "members", "[I", true)
  | 3 => ("RingWaters$Rings", "ways", "[I", true)
  | _ => ("RingWaters$Rings", "downwards", "[I", true)
def tyX4 : Nat → FieldType := fun k => match k with
  | 0 => .int
  | 1 => .array .int
  | 2 => .array .int
  | 3 => .array .int
  | _ => .array .int
abbrev wsX40 : List Cond := u_ws RX4 TX4 5
theorem nmX4 : ∀ a, a < 5 → ∀ b, b < 5 → a ≠ b → (TX4 a).2.1 ≠ (TX4 b).2.1 := by decide +kernel
theorem tyX4_ok : ∀ k, k < 5 → parseFieldDescriptor (TX4 k).2.2.1 = some (tyX4 k) := by decide +kernel
abbrev cX4_init : ByteArray := prog_6_method_1_code
def yX4_init : MethodName := ⟨RX4, "<init>", "()V"⟩
abbrev cX4_find : ByteArray := prog_6_method_2_code
def yX4_find : MethodName := ⟨RX4, "find", "(LRingWaters$Net;LRingWaters$Tree;I)V"⟩
abbrev cX4_followTree : ByteArray := prog_6_method_3_code
def yX4_followTree : MethodName := ⟨RX4, "followTree", "(LRingWaters$Tree;II)V"⟩
abbrev cX4_add : ByteArray := prog_6_method_4_code
def yX4_add : MethodName := ⟨RX4, "add", "(II)V"⟩
abbrev cX4_member : ByteArray := prog_6_method_5_code
def yX4_member : MethodName := ⟨RX4, "member", "(II)I"⟩
abbrev cX4_countThrough : ByteArray := prog_6_method_6_code
def yX4_countThrough : MethodName := ⟨RX4, "countThrough", "(I)I"⟩
def RX5 : String := "RingWaters$Tree"
def TX5 : u_T := fun k => match k with
  | 0 => ("RingWaters$Tree", "met", "I", false)
  | 1 => ("RingWaters$Tree", "edges", "I", false)
  | 2 => ("RingWaters$Tree", "count", "I", false)
  | 3 => ("RingWaters$Tree", "queue", "[I", true)
  | 4 => ("RingWaters$Tree", "hangsOn", "[I", true)
  | 5 => ("RingWaters$Tree", "hangsBy", "[I", true)
  | 6 => ("RingWaters$Tree", "ways", "[I", true)
  | _ => ("RingWaters$Tree", "depths", "[I", true)
def tyX5 : Nat → FieldType := fun k => match k with
  | 0 => .int
  | 1 => .int
  | 2 => .int
  | 3 => .array .int
  | 4 => .array .int
  | 5 => .array .int
  | 6 => .array .int
  | _ => .array .int
abbrev wsX50 : List Cond := u_ws RX5 TX5 8
theorem nmX5 : ∀ a, a < 8 → ∀ b, b < 8 → a ≠ b → (TX5 a).2.1 ≠ (TX5 b).2.1 := by decide +kernel
theorem tyX5_ok : ∀ k, k < 8 → parseFieldDescriptor (TX5 k).2.2.1 = some (tyX5 k) := by decide +kernel
abbrev cX5_init : ByteArray := prog_7_method_1_code
def yX5_init : MethodName := ⟨RX5, "<init>", "()V"⟩
abbrev cX5_plant : ByteArray := prog_7_method_2_code
def yX5_plant : MethodName := ⟨RX5, "plant", "(LRingWaters$Net;I)V"⟩
abbrev cX5_spreadFrom : ByteArray := prog_7_method_3_code
def yX5_spreadFrom : MethodName := ⟨RX5, "spreadFrom", "(ILRingWaters$Net;I)V"⟩
abbrev cX5_countBehind : ByteArray := prog_7_method_4_code
def yX5_countBehind : MethodName := ⟨RX5, "countBehind", "(I)I"⟩
def RX6 : String := "RingWaters$Waters"
def TX6 : u_T := fun k => match k with
  | 0 => ("RingWaters$Waters", "net", "LRingWaters$Net;", true)
  | 1 => ("RingWaters$Waters", "tree", "LRingWaters$Tree;", true)
  | 2 => ("RingWaters$Waters", "rings", "LRingWaters$Rings;", true)
  | 3 => ("RingWaters$Waters", "flows", "[J", true)
  | 4 => ("RingWaters$Waters", "heads", "[J", true)
  | 5 => ("RingWaters$Waters", "carried", "[J", true)
  | 6 => ("RingWaters$Waters", "keptFlows", "[J", true)
  | 7 => ("RingWaters$Waters", "keptSweep", "I", false)
  | 8 => ("RingWaters$Waters", "shutInRound", "[I", true)
  | 9 => ("RingWaters$Waters", "shut", "I", false)
  | 10 => ("RingWaters$Waters", "rounds", "I", false)
  | 11 => ("RingWaters$Waters", "sweeps", "I", false)
  | _ => ("RingWaters$Waters", "atRest", "Z", false)
def tyX6 : Nat → FieldType := fun k => match k with
  | 0 => .object "RingWaters$Net"
  | 1 => .object "RingWaters$Tree"
  | 2 => .object "RingWaters$Rings"
  | 3 => .array .long
  | 4 => .array .long
  | 5 => .array .long
  | 6 => .array .long
  | 7 => .int
  | 8 => .array .int
  | 9 => .int
  | 10 => .int
  | 11 => .int
  | _ => .boolean
abbrev wsX60 : List Cond := u_ws RX6 TX6 13
theorem nmX6 : ∀ a, a < 13 → ∀ b, b < 13 → a ≠ b → (TX6 a).2.1 ≠ (TX6 b).2.1 := by decide +kernel
theorem tyX6_ok : ∀ k, k < 13 → parseFieldDescriptor (TX6 k).2.2.1 = some (tyX6 k) := by decide +kernel
abbrev cX6_init : ByteArray := prog_8_method_1_code
def yX6_init : MethodName := ⟨RX6, "<init>", "()V"⟩
abbrev cX6_solve : ByteArray := prog_8_method_2_code
def yX6_solve : MethodName := ⟨RX6, "solve", "()V"⟩
abbrev cX6_roundsToLeaveOut : ByteArray := prog_8_method_3_code
def yX6_roundsToLeaveOut : MethodName := ⟨RX6, "roundsToLeaveOut", "()I"⟩
abbrev cX6_sweepFirstRound : ByteArray := prog_8_method_4_code
def yX6_sweepFirstRound : MethodName := ⟨RX6, "sweepFirstRound", "(I)V"⟩
abbrev cX6_beginRound : ByteArray := prog_8_method_5_code
def yX6_beginRound : MethodName := ⟨RX6, "beginRound", "()V"⟩
abbrev cX6_sweepUpTo : ByteArray := prog_8_method_6_code
def yX6_sweepUpTo : MethodName := ⟨RX6, "sweepUpTo", "(I)V"⟩
abbrev cX6_sweepsToLeaveOut : ByteArray := prog_8_method_7_code
def yX6_sweepsToLeaveOut : MethodName := ⟨RX6, "sweepsToLeaveOut", "(I)I"⟩
abbrev cX6_keepFlows : ByteArray := prog_8_method_8_code
def yX6_keepFlows : MethodName := ⟨RX6, "keepFlows", "()V"⟩
abbrev cX6_areFlowsAsKept : ByteArray := prog_8_method_9_code
def yX6_areFlowsAsKept : MethodName := ⟨RX6, "areFlowsAsKept", "()Z"⟩
abbrev cX6_lessen : ByteArray := prog_8_method_10_code
def yX6_lessen : MethodName := ⟨RX6, "lessen", "(IJ)V"⟩
abbrev cX6_ringSum : ByteArray := prog_8_method_11_code
def yX6_ringSum : MethodName := ⟨RX6, "ringSum", "(I)J"⟩
abbrev cX6_ringSteep : ByteArray := prog_8_method_12_code
def yX6_ringSteep : MethodName := ⟨RX6, "ringSteep", "(I)J"⟩
abbrev cX6_nearest : ByteArray := prog_8_method_13_code
def yX6_nearest : MethodName := ⟨RX6, "nearest", "(JJ)J"⟩
abbrev cX6_findHeads : ByteArray := prog_8_method_14_code
def yX6_findHeads : MethodName := ⟨RX6, "findHeads", "()V"⟩
abbrev cX6_edgeToTurn : ByteArray := prog_8_method_15_code
def yX6_edgeToTurn : MethodName := ⟨RX6, "edgeToTurn", "()I"⟩
abbrev cX6_wouldFlow : ByteArray := prog_8_method_16_code
def yX6_wouldFlow : MethodName := ⟨RX6, "wouldFlow", "(I)Z"⟩
abbrev cX6_dryJoints : ByteArray := prog_8_method_17_code
def yX6_dryJoints : MethodName := ⟨RX6, "dryJoints", "()I"⟩
abbrev cX6_given : ByteArray := prog_8_method_18_code
def yX6_given : MethodName := ⟨RX6, "given", "()I"⟩
abbrev cX6_pressureAt : ByteArray := prog_8_method_19_code
def yX6_pressureAt : MethodName := ⟨RX6, "pressureAt", "(I)J"⟩
abbrev cX6_weakestJoint : ByteArray := prog_8_method_20_code
def yX6_weakestJoint : MethodName := ⟨RX6, "weakestJoint", "()I"⟩
abbrev cX6_leastPressure : ByteArray := prog_8_method_21_code
def yX6_leastPressure : MethodName := ⟨RX6, "leastPressure", "()J"⟩
abbrev cX6_leastPressureOfAll : ByteArray := prog_8_method_22_code
def yX6_leastPressureOfAll : MethodName := ⟨RX6, "leastPressureOfAll", "()J"⟩
abbrev cX6_greatestRingSum : ByteArray := prog_8_method_23_code
def yX6_greatestRingSum : MethodName := ⟨RX6, "greatestRingSum", "()J"⟩
abbrev cX6_pumpWork : ByteArray := prog_8_method_24_code
def yX6_pumpWork : MethodName := ⟨RX6, "pumpWork", "()J"⟩
abbrev cX6_leftOverAt : ByteArray := prog_8_method_25_code
def yX6_leftOverAt : MethodName := ⟨RX6, "leftOverAt", "(I)J"⟩
def RX7 : String := "RingWaters"
def TX7 : u_T := fun k => match k with
  | 0 => ("RingWaters", "tape", "[B", true)
  | 1 => ("RingWaters", "taped", "I", false)
  | 2 => ("RingWaters", "latestFault", "I", false)
  | 3 => ("RingWaters", "faultPlace", "I", false)
  | 4 => ("RingWaters", "latestTrouble", "I", false)
  | 5 => ("RingWaters", "reader", "LRingWaters$Reader;", true)
  | 6 => ("RingWaters", "waters", "LRingWaters$Waters;", true)
  | 7 => ("RingWaters", "net", "LRingWaters$Net;", true)
  | 8 => ("RingWaters", "paper", "LRingWaters$Waters;", true)
  | 9 => ("RingWaters", "sketch", "LRingWaters$Net;", true)
  | 10 => ("RingWaters", "acts", "LRingWaters$Acts;", true)
  | _ => ("RingWaters", "measures", "LRingWaters$Measures;", true)
def tyX7 : Nat → FieldType := fun k => match k with
  | 0 => .array .byte
  | 1 => .int
  | 2 => .int
  | 3 => .int
  | 4 => .int
  | 5 => .object "RingWaters$Reader"
  | 6 => .object "RingWaters$Waters"
  | 7 => .object "RingWaters$Net"
  | 8 => .object "RingWaters$Waters"
  | 9 => .object "RingWaters$Net"
  | 10 => .object "RingWaters$Acts"
  | _ => .object "RingWaters$Measures"
abbrev wsX70 : List Cond := u_ws RX7 TX7 12
theorem nmX7 : ∀ a, a < 12 → ∀ b, b < 12 → a ≠ b → (TX7 a).2.1 ≠ (TX7 b).2.1 := by decide +kernel
theorem tyX7_ok : ∀ k, k < 12 → parseFieldDescriptor (TX7 k).2.2.1 = some (tyX7 k) := by decide +kernel
abbrev cX7_init : ByteArray := prog_1_method_1_code
def yX7_init : MethodName := ⟨RX7, "<init>", "()V"⟩
abbrev cX7_feed : ByteArray := prog_1_method_2_code
def yX7_feed : MethodName := ⟨RX7, "feed", "(IIIII)I"⟩
abbrev cX7_text : ByteArray := prog_1_method_3_code
def yX7_text : MethodName := ⟨RX7, "text", "(I)I"⟩
abbrev cX7_fault : ByteArray := prog_1_method_4_code
def yX7_fault : MethodName := ⟨RX7, "fault", "()I"⟩
abbrev cX7_where : ByteArray := prog_1_method_5_code
def yX7_where : MethodName := ⟨RX7, "where", "()I"⟩
abbrev cX7_about : ByteArray := prog_1_method_6_code
def yX7_about : MethodName := ⟨RX7, "about", "(I)I"⟩
abbrev cX7_edge : ByteArray := prog_1_method_7_code
def yX7_edge : MethodName := ⟨RX7, "edge", "(II)I"⟩
abbrev cX7_flow : ByteArray := prog_1_method_8_code
def yX7_flow : MethodName := ⟨RX7, "flow", "(I)J"⟩
abbrev cX7_loss : ByteArray := prog_1_method_9_code
def yX7_loss : MethodName := ⟨RX7, "loss", "(I)J"⟩
abbrev cX7_joint : ByteArray := prog_1_method_10_code
def yX7_joint : MethodName := ⟨RX7, "joint", "(II)I"⟩
abbrev cX7_head : ByteArray := prog_1_method_11_code
def yX7_head : MethodName := ⟨RX7, "head", "(I)J"⟩
abbrev cX7_pressure : ByteArray := prog_1_method_12_code
def yX7_pressure : MethodName := ⟨RX7, "pressure", "(I)J"⟩
abbrev cX7_weakest : ByteArray := prog_1_method_13_code
def yX7_weakest : MethodName := ⟨RX7, "weakest", "()I"⟩
abbrev cX7_ring : ByteArray := prog_1_method_14_code
def yX7_ring : MethodName := ⟨RX7, "ring", "(II)I"⟩
abbrev cX7_sum : ByteArray := prog_1_method_15_code
def yX7_sum : MethodName := ⟨RX7, "sum", "(II)J"⟩
abbrev cX7_early : ByteArray := prog_1_method_16_code
def yX7_early : MethodName := ⟨RX7, "early", "(II)J"⟩
abbrev cX7_work : ByteArray := prog_1_method_17_code
def yX7_work : MethodName := ⟨RX7, "work", "()J"⟩
abbrev cX7_gap : ByteArray := prog_1_method_18_code
def yX7_gap : MethodName := ⟨RX7, "gap", "(I)J"⟩
abbrev cX7_balance : ByteArray := prog_1_method_19_code
def yX7_balance : MethodName := ⟨RX7, "balance", "(I)J"⟩
abbrev cX7_lossAt : ByteArray := prog_1_method_20_code
def yX7_lossAt : MethodName := ⟨RX7, "lossAt", "(III)J"⟩
abbrev cX7_behind : ByteArray := prog_1_method_21_code
def yX7_behind : MethodName := ⟨RX7, "behind", "(I)I"⟩
abbrev cX7_scaled : ByteArray := prog_1_method_22_code
def yX7_scaled : MethodName := ⟨RX7, "scaled", "(I)J"⟩
abbrev cX7_most : ByteArray := prog_1_method_23_code
def yX7_most : MethodName := ⟨RX7, "most", "(I)I"⟩
abbrev cX7_pairs : ByteArray := prog_1_method_24_code
def yX7_pairs : MethodName := ⟨RX7, "pairs", "()I"⟩
abbrev cX7_fire : ByteArray := prog_1_method_25_code
def yX7_fire : MethodName := ⟨RX7, "fire", "(II)I"⟩
abbrev cX7_cut : ByteArray := prog_1_method_26_code
def yX7_cut : MethodName := ⟨RX7, "cut", "(I)I"⟩
abbrev cX7_vital : ByteArray := prog_1_method_27_code
def yX7_vital : MethodName := ⟨RX7, "vital", "()I"⟩
abbrev cX7_widen : ByteArray := prog_1_method_28_code
def yX7_widen : MethodName := ⟨RX7, "widen", "()I"⟩
abbrev cX7_widened : ByteArray := prog_1_method_29_code
def yX7_widened : MethodName := ⟨RX7, "widened", "()J"⟩
abbrev cX7_measure : ByteArray := prog_1_method_30_code
def yX7_measure : MethodName := ⟨RX7, "measure", "(II)I"⟩
abbrev cX7_forget : ByteArray := prog_1_method_31_code
def yX7_forget : MethodName := ⟨RX7, "forget", "()I"⟩
abbrev cX7_off : ByteArray := prog_1_method_32_code
def yX7_off : MethodName := ⟨RX7, "off", "(II)J"⟩
abbrev cX7_leak : ByteArray := prog_1_method_33_code
def yX7_leak : MethodName := ⟨RX7, "leak", "(I)J"⟩
abbrev cX7_valve : ByteArray := prog_1_method_34_code
def yX7_valve : MethodName := ⟨RX7, "valve", "(IZ)I"⟩
abbrev cX7_draw : ByteArray := prog_1_method_35_code
def yX7_draw : MethodName := ⟨RX7, "draw", "(II)I"⟩
abbrev cX7_well : ByteArray := prog_1_method_36_code
def yX7_well : MethodName := ⟨RX7, "well", "(I)I"⟩
abbrev cX7_resist : ByteArray := prog_1_method_37_code
def yX7_resist : MethodName := ⟨RX7, "resist", "(II)I"⟩
abbrev cX7_undo : ByteArray := prog_1_method_38_code
def yX7_undo : MethodName := ⟨RX7, "undo", "()I"⟩
abbrev cX7_named : ByteArray := prog_1_method_39_code
def yX7_named : MethodName := ⟨RX7, "named", "(I)I"⟩
abbrev cX7_size : ByteArray := prog_1_method_40_code
def yX7_size : MethodName := ⟨RX7, "size", "()I"⟩
abbrev cX7_trouble : ByteArray := prog_1_method_41_code
def yX7_trouble : MethodName := ⟨RX7, "trouble", "()I"⟩
abbrev cX7_refuse : ByteArray := prog_1_method_42_code
def yX7_refuse : MethodName := ⟨RX7, "refuse", "(I)I"⟩
abbrev cX7_refuseLong : ByteArray := prog_1_method_43_code
def yX7_refuseLong : MethodName := ⟨RX7, "refuseLong", "(I)J"⟩
abbrev cX7_allow : ByteArray := prog_1_method_44_code
def yX7_allow : MethodName := ⟨RX7, "allow", "()V"⟩
abbrev cX7_hasText : ByteArray := prog_1_method_45_code
def yX7_hasText : MethodName := ⟨RX7, "hasText", "()Z"⟩
abbrev cX7_isDrawingJoint : ByteArray := prog_1_method_46_code
def yX7_isDrawingJoint : MethodName := ⟨RX7, "isDrawingJoint", "(I)Z"⟩
abbrev cX7_hasRing : ByteArray := prog_1_method_47_code
def yX7_hasRing : MethodName := ⟨RX7, "hasRing", "(I)Z"⟩
abbrev cX7_whyNoWaterAt : ByteArray := prog_1_method_48_code
def yX7_whyNoWaterAt : MethodName := ⟨RX7, "whyNoWaterAt", "(I)I"⟩
abbrev cX7_isPressureAsked : ByteArray := prog_1_method_49_code
def yX7_isPressureAsked : MethodName := ⟨RX7, "isPressureAsked", "(I)Z"⟩
abbrev cX7_bit : ByteArray := prog_1_method_50_code
def yX7_bit : MethodName := ⟨RX7, "bit", "(II)I"⟩
abbrev cX7_putBytes : ByteArray := prog_1_method_51_code
def yX7_putBytes : MethodName := ⟨RX7, "putBytes", "(I)V"⟩
abbrev cX7_settle : ByteArray := prog_1_method_52_code
def yX7_settle : MethodName := ⟨RX7, "settle", "()V"⟩
abbrev cX7_solveWithMore : ByteArray := prog_1_method_53_code
def yX7_solveWithMore : MethodName := ⟨RX7, "solveWithMore", "(II)V"⟩
abbrev cX7_dryIfClosed : ByteArray := prog_1_method_54_code
def yX7_dryIfClosed : MethodName := ⟨RX7, "dryIfClosed", "(I)I"⟩
abbrev cX7_vitalEdges : ByteArray := prog_1_method_55_code
def yX7_vitalEdges : MethodName := ⟨RX7, "vitalEdges", "()I"⟩
abbrev cX7_bestToWiden : ByteArray := prog_1_method_56_code
def yX7_bestToWiden : MethodName := ⟨RX7, "bestToWiden", "()I"⟩
abbrev cX7_leastIfWidened : ByteArray := prog_1_method_57_code
def yX7_leastIfWidened : MethodName := ⟨RX7, "leastIfWidened", "(I)J"⟩
abbrev cX7_findLeak : ByteArray := prog_1_method_58_code
def yX7_findLeak : MethodName := ⟨RX7, "findLeak", "()V"⟩
def RX8 : String := "RingWatersModel"
def TX8 : u_T := fun k => match k with
  | 0 => ("RingWatersModel", "thrown", "I", false)
  | 1 => ("RingWatersModel", "trouble", "I", false)
  | 2 => ("RingWatersModel", "fault", "I", false)
  | 3 => ("RingWatersModel", "where", "I", false)
  | 4 => ("RingWatersModel", "tape", "[I", true)
  | 5 => ("RingWatersModel", "taped", "I", false)
  | 6 => ("RingWatersModel", "joints", "I", false)
  | 7 => ("RingWatersModel", "edges", "I", false)
  | 8 => ("RingWatersModel", "told", "[I", true)
  | 9 => ("RingWatersModel", "height", "[I", true)
  | 10 => ("RingWatersModel", "name", "[I", true)
  | 11 => ("RingWatersModel", "first", "[I", true)
  | 12 => ("RingWatersModel", "second", "[I", true)
  | 13 => ("RingWatersModel", "kind", "[I", true)
  | 14 => ("RingWatersModel", "resist", "[I", true)
  | 15 => ("RingWatersModel", "lift", "[I", true)
  | 16 => ("RingWatersModel", "lifts", "[I", true)
  | 17 => ("RingWatersModel", "closed", "I", false)
  | 18 => ("RingWatersModel", "textLong", "I", false)
  | 19 => ("RingWatersModel", "place", "I", false)
  | 20 => ("RingWatersModel", "spot", "I", false)
  | 21 => ("RingWatersModel", "token", "I", false)
  | 22 => ("RingWatersModel", "whole", "I", false)
  | 23 => ("RingWatersModel", "readFault", "I", false)
  | 24 => ("RingWatersModel", "readPlace", "I", false)
  | 25 => ("RingWatersModel", "readJoints", "I", false)
  | 26 => ("RingWatersModel", "readEdges", "I", false)
  | 27 => ("RingWatersModel", "lastWhole", "I", false)
  | 28 => ("RingWatersModel", "shut", "I", false)
  | 29 => ("RingWatersModel", "met", "I", false)
  | 30 => ("RingWatersModel", "hangs", "[I", true)
  | 31 => ("RingWatersModel", "queue", "[I", true)
  | 32 => ("RingWatersModel", "queued", "I", false)
  | 33 => ("RingWatersModel", "flow", "[J", true)
  | 34 => ("RingWatersModel", "rings", "I", false)
  | 35 => ("RingWatersModel", "ringEdge", "[I", true)
  | 36 => ("RingWatersModel", "ringWay", "[I", true)
  | 37 => ("RingWatersModel", "ringLong", "[I", true)
  | 38 => ("RingWatersModel", "heads", "[J", true)
  | 39 => ("RingWatersModel", "rounds", "I", false)
  | 40 => ("RingWatersModel", "sweeps", "I", false)
  | 41 => ("RingWatersModel", "isRest", "Z", false)
  | 42 => ("RingWatersModel", "down", "[I", true)
  | 43 => ("RingWatersModel", "behind", "[J", true)
  | 44 => ("RingWatersModel", "moreAt", "I", false)
  | 45 => ("RingWatersModel", "more", "I", false)
  | 46 => ("RingWatersModel", "share", "I", false)
  | 47 => ("RingWatersModel", "widest", "I", false)
  | 48 => ("RingWatersModel", "widestLeast", "J", false)
  | 49 => ("RingWatersModel", "isMeasured", "[Z", true)
  | 50 => ("RingWatersModel", "measured", "[I", true)
  | 51 => ("RingWatersModel", "acts", "I", false)
  | 52 => ("RingWatersModel", "wasTold", "[I", true)
  | 53 => ("RingWatersModel", "wasResist", "[I", true)
  | _ => ("RingWatersModel", "wasClosed", "[I", true)
def tyX8 : Nat → FieldType := fun k => match k with
  | 0 => .int
  | 1 => .int
  | 2 => .int
  | 3 => .int
  | 4 => .array .int
  | 5 => .int
  | 6 => .int
  | 7 => .int
  | 8 => .array .int
  | 9 => .array .int
  | 10 => .array .int
  | 11 => .array .int
  | 12 => .array .int
  | 13 => .array .int
  | 14 => .array .int
  | 15 => .array .int
  | 16 => .array .int
  | 17 => .int
  | 18 => .int
  | 19 => .int
  | 20 => .int
  | 21 => .int
  | 22 => .int
  | 23 => .int
  | 24 => .int
  | 25 => .int
  | 26 => .int
  | 27 => .int
  | 28 => .int
  | 29 => .int
  | 30 => .array .int
  | 31 => .array .int
  | 32 => .int
  | 33 => .array .long
  | 34 => .int
  | 35 => .array .int
  | 36 => .array .int
  | 37 => .array .int
  | 38 => .array .long
  | 39 => .int
  | 40 => .int
  | 41 => .boolean
  | 42 => .array .int
  | 43 => .array .long
  | 44 => .int
  | 45 => .int
  | 46 => .int
  | 47 => .int
  | 48 => .long
  | 49 => .array .boolean
  | 50 => .array .int
  | 51 => .int
  | 52 => .array .int
  | 53 => .array .int
  | _ => .array .int
abbrev wsX80 : List Cond := u_ws RX8 TX8 55
theorem nmX8 : ∀ a, a < 55 → ∀ b, b < 55 → a ≠ b → (TX8 a).2.1 ≠ (TX8 b).2.1 := by decide +kernel
theorem tyX8_ok : ∀ k, k < 55 → parseFieldDescriptor (TX8 k).2.2.1 = some (tyX8 k) := by decide +kernel
abbrev cX8_init : ByteArray := prog_10_method_1_code
def yX8_init : MethodName := ⟨RX8, "<init>", "()V"⟩
abbrev cX8_thrown : ByteArray := prog_10_method_2_code
def yX8_thrown : MethodName := ⟨RX8, "thrown", "()I"⟩
abbrev cX8_in : ByteArray := prog_10_method_3_code
def yX8_in : MethodName := ⟨RX8, "in", "(JJJ)Z"⟩
abbrev cX8_no : ByteArray := prog_10_method_4_code
def yX8_no : MethodName := ⟨RX8, "no", "(I)I"⟩
abbrev cX8_nothing : ByteArray := prog_10_method_5_code
def yX8_nothing : MethodName := ⟨RX8, "nothing", "(I)J"⟩
abbrev cX8_isRefused : ByteArray := prog_10_method_6_code
def yX8_isRefused : MethodName := ⟨RX8, "isRefused", "(I)Z"⟩
abbrev cX8_unless : ByteArray := prog_10_method_7_code
def yX8_unless : MethodName := ⟨RX8, "unless", "(Z)I"⟩
abbrev cX8_unless_ : ByteArray := prog_10_method_8_code
def yX8_unless_ : MethodName := ⟨RX8, "unless", "(ZZ)I"⟩
abbrev cX8_feed : ByteArray := prog_10_method_9_code
def yX8_feed : MethodName := ⟨RX8, "feed", "(IIIII)I"⟩
abbrev cX8_laysWord : ByteArray := prog_10_method_10_code
def yX8_laysWord : MethodName := ⟨RX8, "laysWord", "(I)V"⟩
abbrev cX8_see : ByteArray := prog_10_method_11_code
def yX8_see : MethodName := ⟨RX8, "see", "(I)I"⟩
abbrev cX8_goesOn : ByteArray := prog_10_method_12_code
def yX8_goesOn : MethodName := ⟨RX8, "goesOn", "()V"⟩
abbrev cX8_isWord : ByteArray := prog_10_method_13_code
def yX8_isWord : MethodName := ⟨RX8, "isWord", "(Ljava/lang/String;)Z"⟩
abbrev cX8_errs : ByteArray := prog_10_method_14_code
def yX8_errs : MethodName := ⟨RX8, "errs", "(I)Z"⟩
abbrev cX8_isName : ByteArray := prog_10_method_15_code
def yX8_isName : MethodName := ⟨RX8, "isName", "()Z"⟩
abbrev cX8_isAt : ByteArray := prog_10_method_16_code
def yX8_isAt : MethodName := ⟨RX8, "isAt", "(III)Z"⟩
abbrev cX8_jointHere : ByteArray := prog_10_method_17_code
def yX8_jointHere : MethodName := ⟨RX8, "jointHere", "()I"⟩
abbrev cX8_takesWhole : ByteArray := prog_10_method_18_code
def yX8_takesWhole : MethodName := ⟨RX8, "takesWhole", "(II)Z"⟩
abbrev cX8_takesNew : ByteArray := prog_10_method_19_code
def yX8_takesNew : MethodName := ⟨RX8, "takesNew", "()Z"⟩
abbrev cX8_readWell : ByteArray := prog_10_method_20_code
def yX8_readWell : MethodName := ⟨RX8, "readWell", "()Z"⟩
abbrev cX8_readJoint : ByteArray := prog_10_method_21_code
def yX8_readJoint : MethodName := ⟨RX8, "readJoint", "()Z"⟩
abbrev cX8_takesJoint : ByteArray := prog_10_method_22_code
def yX8_takesJoint : MethodName := ⟨RX8, "takesJoint", "(I)I"⟩
abbrev cX8_readLifts : ByteArray := prog_10_method_23_code
def yX8_readLifts : MethodName := ⟨RX8, "readLifts", "(I)Z"⟩
abbrev cX8_readEdge : ByteArray := prog_10_method_24_code
def yX8_readEdge : MethodName := ⟨RX8, "readEdge", "(I)Z"⟩
abbrev cX8_readLine : ByteArray := prog_10_method_25_code
def yX8_readLine : MethodName := ⟨RX8, "readLine", "()Z"⟩
abbrev cX8_areMet : ByteArray := prog_10_method_26_code
def yX8_areMet : MethodName := ⟨RX8, "areMet", "()Z"⟩
abbrev cX8_readAll : ByteArray := prog_10_method_27_code
def yX8_readAll : MethodName := ⟨RX8, "readAll", "(I)Z"⟩
abbrev cX8_stands : ByteArray := prog_10_method_28_code
def yX8_stands : MethodName := ⟨RX8, "stands", "()V"⟩
abbrev cX8_text : ByteArray := prog_10_method_29_code
def yX8_text : MethodName := ⟨RX8, "text", "(I)I"⟩
abbrev cX8_fault : ByteArray := prog_10_method_30_code
def yX8_fault : MethodName := ⟨RX8, "fault", "()I"⟩
abbrev cX8_where : ByteArray := prog_10_method_31_code
def yX8_where : MethodName := ⟨RX8, "where", "()I"⟩
abbrev cX8_isOpen : ByteArray := prog_10_method_32_code
def yX8_isOpen : MethodName := ⟨RX8, "isOpen", "(I)Z"⟩
abbrev cX8_isMet : ByteArray := prog_10_method_33_code
def yX8_isMet : MethodName := ⟨RX8, "isMet", "(I)Z"⟩
abbrev cX8_isLive : ByteArray := prog_10_method_34_code
def yX8_isLive : MethodName := ⟨RX8, "isLive", "(I)Z"⟩
abbrev cX8_isTree : ByteArray := prog_10_method_35_code
def yX8_isTree : MethodName := ⟨RX8, "isTree", "(I)Z"⟩
abbrev cX8_otherEnd : ByteArray := prog_10_method_36_code
def yX8_otherEnd : MethodName := ⟨RX8, "otherEnd", "(II)I"⟩
abbrev cX8_laysTree : ByteArray := prog_10_method_37_code
def yX8_laysTree : MethodName := ⟨RX8, "laysTree", "()V"⟩
abbrev cX8_above : ByteArray := prog_10_method_38_code
def yX8_above : MethodName := ⟨RX8, "above", "(I)I"⟩
abbrev cX8_deepOf : ByteArray := prog_10_method_39_code
def yX8_deepOf : MethodName := ⟨RX8, "deepOf", "(I)I"⟩
abbrev cX8_laysRingEdge : ByteArray := prog_10_method_40_code
def yX8_laysRingEdge : MethodName := ⟨RX8, "laysRingEdge", "(III)V"⟩
abbrev cX8_laysRing : ByteArray := prog_10_method_41_code
def yX8_laysRing : MethodName := ⟨RX8, "laysRing", "(I)V"⟩
abbrev cX8_begins : ByteArray := prog_10_method_42_code
def yX8_begins : MethodName := ⟨RX8, "begins", "()V"⟩
abbrev cX8_drawn : ByteArray := prog_10_method_43_code
def yX8_drawn : MethodName := ⟨RX8, "drawn", "(I)I"⟩
abbrev cX8_liftOf : ByteArray := prog_10_method_44_code
def yX8_liftOf : MethodName := ⟨RX8, "liftOf", "(IJ)J"⟩
abbrev cX8_lossOf : ByteArray := prog_10_method_45_code
def yX8_lossOf : MethodName := ⟨RX8, "lossOf", "(IJ)J"⟩
abbrev cX8_steepBy : ByteArray := prog_10_method_46_code
def yX8_steepBy : MethodName := ⟨RX8, "steepBy", "(IJ)J"⟩
abbrev cX8_steepOf : ByteArray := prog_10_method_47_code
def yX8_steepOf : MethodName := ⟨RX8, "steepOf", "(I)J"⟩
abbrev cX8_lossAt : ByteArray := prog_10_method_48_code
def yX8_lossAt : MethodName := ⟨RX8, "lossAt", "(III)J"⟩
abbrev cX8_behind : ByteArray := prog_10_method_49_code
def yX8_behind : MethodName := ⟨RX8, "behind", "(I)I"⟩
abbrev cX8_ringSum : ByteArray := prog_10_method_50_code
def yX8_ringSum : MethodName := ⟨RX8, "ringSum", "(I)J"⟩
abbrev cX8_ringSteep : ByteArray := prog_10_method_51_code
def yX8_ringSteep : MethodName := ⟨RX8, "ringSteep", "(I)J"⟩
abbrev cX8_nearest : ByteArray := prog_10_method_52_code
def yX8_nearest : MethodName := ⟨RX8, "nearest", "(JJ)J"⟩
abbrev cX8_sweep : ByteArray := prog_10_method_53_code
def yX8_sweep : MethodName := ⟨RX8, "sweep", "()Z"⟩
abbrev cX8_laysNet : ByteArray := prog_10_method_54_code
def yX8_laysNet : MethodName := ⟨RX8, "laysNet", "()V"⟩
abbrev cX8_laysHeads : ByteArray := prog_10_method_55_code
def yX8_laysHeads : MethodName := ⟨RX8, "laysHeads", "()V"⟩
abbrev cX8_wrongWay : ByteArray := prog_10_method_56_code
def yX8_wrongWay : MethodName := ⟨RX8, "wrongWay", "()I"⟩
abbrev cX8_rightWay : ByteArray := prog_10_method_57_code
def yX8_rightWay : MethodName := ⟨RX8, "rightWay", "()I"⟩
abbrev cX8_solves : ByteArray := prog_10_method_58_code
def yX8_solves : MethodName := ⟨RX8, "solves", "()V"⟩
abbrev cX8_isEdge : ByteArray := prog_10_method_59_code
def yX8_isEdge : MethodName := ⟨RX8, "isEdge", "(I)Z"⟩
abbrev cX8_isJoint : ByteArray := prog_10_method_60_code
def yX8_isJoint : MethodName := ⟨RX8, "isJoint", "(I)Z"⟩
abbrev cX8_isDrawing : ByteArray := prog_10_method_61_code
def yX8_isDrawing : MethodName := ⟨RX8, "isDrawing", "(I)Z"⟩
abbrev cX8_dryBits : ByteArray := prog_10_method_62_code
def yX8_dryBits : MethodName := ⟨RX8, "dryBits", "()I"⟩
abbrev cX8_ones : ByteArray := prog_10_method_63_code
def yX8_ones : MethodName := ⟨RX8, "ones", "(I)I"⟩
abbrev cX8_given : ByteArray := prog_10_method_64_code
def yX8_given : MethodName := ⟨RX8, "given", "()I"⟩
abbrev cX8_about : ByteArray := prog_10_method_65_code
def yX8_about : MethodName := ⟨RX8, "about", "(I)I"⟩
abbrev cX8_ringsOf : ByteArray := prog_10_method_66_code
def yX8_ringsOf : MethodName := ⟨RX8, "ringsOf", "(I)I"⟩
abbrev cX8_edge : ByteArray := prog_10_method_67_code
def yX8_edge : MethodName := ⟨RX8, "edge", "(II)I"⟩
abbrev cX8_flow : ByteArray := prog_10_method_68_code
def yX8_flow : MethodName := ⟨RX8, "flow", "(I)J"⟩
abbrev cX8_loss : ByteArray := prog_10_method_69_code
def yX8_loss : MethodName := ⟨RX8, "loss", "(I)J"⟩
abbrev cX8_endsAt : ByteArray := prog_10_method_70_code
def yX8_endsAt : MethodName := ⟨RX8, "endsAt", "(I)I"⟩
abbrev cX8_joint : ByteArray := prog_10_method_71_code
def yX8_joint : MethodName := ⟨RX8, "joint", "(II)I"⟩
abbrev cX8_pressureOf : ByteArray := prog_10_method_72_code
def yX8_pressureOf : MethodName := ⟨RX8, "pressureOf", "(I)J"⟩
abbrev cX8_head : ByteArray := prog_10_method_73_code
def yX8_head : MethodName := ⟨RX8, "head", "(I)J"⟩
abbrev cX8_pressure : ByteArray := prog_10_method_74_code
def yX8_pressure : MethodName := ⟨RX8, "pressure", "(I)J"⟩
abbrev cX8_weakestNow : ByteArray := prog_10_method_75_code
def yX8_weakestNow : MethodName := ⟨RX8, "weakestNow", "()I"⟩
abbrev cX8_weakest : ByteArray := prog_10_method_76_code
def yX8_weakest : MethodName := ⟨RX8, "weakest", "()I"⟩
abbrev cX8_ring : ByteArray := prog_10_method_77_code
def yX8_ring : MethodName := ⟨RX8, "ring", "(II)I"⟩
abbrev cX8_sum : ByteArray := prog_10_method_78_code
def yX8_sum : MethodName := ⟨RX8, "sum", "(II)J"⟩
abbrev cX8_early : ByteArray := prog_10_method_79_code
def yX8_early : MethodName := ⟨RX8, "early", "(II)J"⟩
abbrev cX8_laysEarly : ByteArray := prog_10_method_80_code
def yX8_laysEarly : MethodName := ⟨RX8, "laysEarly", "(I)V"⟩
abbrev cX8_gap : ByteArray := prog_10_method_81_code
def yX8_gap : MethodName := ⟨RX8, "gap", "(I)J"⟩
abbrev cX8_balance : ByteArray := prog_10_method_82_code
def yX8_balance : MethodName := ⟨RX8, "balance", "(I)J"⟩
abbrev cX8_work : ByteArray := prog_10_method_83_code
def yX8_work : MethodName := ⟨RX8, "work", "()J"⟩
abbrev cX8_solvesWith : ByteArray := prog_10_method_84_code
def yX8_solvesWith : MethodName := ⟨RX8, "solvesWith", "(II)V"⟩
abbrev cX8_solvesAgain : ByteArray := prog_10_method_85_code
def yX8_solvesAgain : MethodName := ⟨RX8, "solvesAgain", "()V"⟩
abbrev cX8_isEnough : ByteArray := prog_10_method_86_code
def yX8_isEnough : MethodName := ⟨RX8, "isEnough", "(I)Z"⟩
abbrev cX8_fire : ByteArray := prog_10_method_87_code
def yX8_fire : MethodName := ⟨RX8, "fire", "(II)I"⟩
abbrev cX8_solvesShared : ByteArray := prog_10_method_88_code
def yX8_solvesShared : MethodName := ⟨RX8, "solvesShared", "(I)V"⟩
abbrev cX8_scaled : ByteArray := prog_10_method_89_code
def yX8_scaled : MethodName := ⟨RX8, "scaled", "(I)J"⟩
abbrev cX8_most : ByteArray := prog_10_method_90_code
def yX8_most : MethodName := ⟨RX8, "most", "(I)I"⟩
abbrev cX8_pairs : ByteArray := prog_10_method_91_code
def yX8_pairs : MethodName := ⟨RX8, "pairs", "()I"⟩
abbrev cX8_dryWithout : ByteArray := prog_10_method_92_code
def yX8_dryWithout : MethodName := ⟨RX8, "dryWithout", "(I)I"⟩
abbrev cX8_dryWithoutAll : ByteArray := prog_10_method_93_code
def yX8_dryWithoutAll : MethodName := ⟨RX8, "dryWithoutAll", "(I)I"⟩
abbrev cX8_cut : ByteArray := prog_10_method_94_code
def yX8_cut : MethodName := ⟨RX8, "cut", "(I)I"⟩
abbrev cX8_vital : ByteArray := prog_10_method_95_code
def yX8_vital : MethodName := ⟨RX8, "vital", "()I"⟩
abbrev cX8_seeksWidest : ByteArray := prog_10_method_96_code
def yX8_seeksWidest : MethodName := ⟨RX8, "seeksWidest", "()V"⟩
abbrev cX8_widen : ByteArray := prog_10_method_97_code
def yX8_widen : MethodName := ⟨RX8, "widen", "()I"⟩
abbrev cX8_widened : ByteArray := prog_10_method_98_code
def yX8_widened : MethodName := ⟨RX8, "widened", "()J"⟩
abbrev cX8_measuredMany : ByteArray := prog_10_method_99_code
def yX8_measuredMany : MethodName := ⟨RX8, "measuredMany", "()I"⟩
abbrev cX8_measure : ByteArray := prog_10_method_100_code
def yX8_measure : MethodName := ⟨RX8, "measure", "(II)I"⟩
abbrev cX8_forget : ByteArray := prog_10_method_101_code
def yX8_forget : MethodName := ⟨RX8, "forget", "()I"⟩
abbrev cX8_offWith : ByteArray := prog_10_method_102_code
def yX8_offWith : MethodName := ⟨RX8, "offWith", "(II)J"⟩
abbrev cX8_off : ByteArray := prog_10_method_103_code
def yX8_off : MethodName := ⟨RX8, "off", "(II)J"⟩
abbrev cX8_leak : ByteArray := prog_10_method_104_code
def yX8_leak : MethodName := ⟨RX8, "leak", "(I)J"⟩
abbrev cX8_remembers : ByteArray := prog_10_method_105_code
def yX8_remembers : MethodName := ⟨RX8, "remembers", "()V"⟩
abbrev cX8_valve : ByteArray := prog_10_method_106_code
def yX8_valve : MethodName := ⟨RX8, "valve", "(IZ)I"⟩
abbrev cX8_becomes : ByteArray := prog_10_method_107_code
def yX8_becomes : MethodName := ⟨RX8, "becomes", "(II)I"⟩
abbrev cX8_draw : ByteArray := prog_10_method_108_code
def yX8_draw : MethodName := ⟨RX8, "draw", "(II)I"⟩
abbrev cX8_well : ByteArray := prog_10_method_109_code
def yX8_well : MethodName := ⟨RX8, "well", "(I)I"⟩
abbrev cX8_resist : ByteArray := prog_10_method_110_code
def yX8_resist : MethodName := ⟨RX8, "resist", "(II)I"⟩
abbrev cX8_undo : ByteArray := prog_10_method_111_code
def yX8_undo : MethodName := ⟨RX8, "undo", "()I"⟩
abbrev cX8_named : ByteArray := prog_10_method_112_code
def yX8_named : MethodName := ⟨RX8, "named", "(I)I"⟩
abbrev cX8_size : ByteArray := prog_10_method_113_code
def yX8_size : MethodName := ⟨RX8, "size", "()I"⟩
abbrev cX8_trouble : ByteArray := prog_10_method_114_code
def yX8_trouble : MethodName := ⟨RX8, "trouble", "()I"⟩
def RJx145de : String := "java/io/Serializable"
def TJx145de : u_T := fun k => match k with
  | _ => ("", "", "", false)
def tyJx145de : Nat → FieldType := fun k => match k with
  | _ => .int
abbrev wsJx145de0 : List Cond := u_ws RJx145de TJx145de 0
theorem nmJx145de : ∀ a, a < 0 → ∀ b, b < 0 → a ≠ b → (TJx145de a).2.1 ≠ (TJx145de b).2.1 := by decide +kernel
theorem tyJx145de_ok : ∀ k, k < 0 → parseFieldDescriptor (TJx145de k).2.2.1 = some (tyJx145de k) := by decide +kernel
def RJx9f9b0 : String := "java/lang/CharSequence"
def TJx9f9b0 : u_T := fun k => match k with
  | _ => ("", "", "", false)
def tyJx9f9b0 : Nat → FieldType := fun k => match k with
  | _ => .int
abbrev wsJx9f9b00 : List Cond := u_ws RJx9f9b0 TJx9f9b0 0
theorem nmJx9f9b0 : ∀ a, a < 0 → ∀ b, b < 0 → a ≠ b → (TJx9f9b0 a).2.1 ≠ (TJx9f9b0 b).2.1 := by decide +kernel
theorem tyJx9f9b0_ok : ∀ k, k < 0 → parseFieldDescriptor (TJx9f9b0 k).2.2.1 = some (tyJx9f9b0 k) := by decide +kernel
def RJxb160c : String := "java/lang/Comparable"
def TJxb160c : u_T := fun k => match k with
  | _ => ("", "", "", false)
def tyJxb160c : Nat → FieldType := fun k => match k with
  | _ => .int
abbrev wsJxb160c0 : List Cond := u_ws RJxb160c TJxb160c 0
theorem nmJxb160c : ∀ a, a < 0 → ∀ b, b < 0 → a ≠ b → (TJxb160c a).2.1 ≠ (TJxb160c b).2.1 := by decide +kernel
theorem tyJxb160c_ok : ∀ k, k < 0 → parseFieldDescriptor (TJxb160c k).2.2.1 = some (tyJxb160c k) := by decide +kernel
def RJ6 : String := "java/lang/Integer"
def TJ6 : u_T := fun k => match k with
  | _ => ("", "", "", false)
def tyJ6 : Nat → FieldType := fun k => match k with
  | _ => .int
abbrev wsJ60 : List Cond := u_ws RJ6 TJ6 0
theorem nmJ6 : ∀ a, a < 0 → ∀ b, b < 0 → a ≠ b → (TJ6 a).2.1 ≠ (TJ6 b).2.1 := by decide +kernel
theorem tyJ6_ok : ∀ k, k < 0 → parseFieldDescriptor (TJ6 k).2.2.1 = some (tyJ6 k) := by decide +kernel
abbrev cJ6_bitCount_0f7a4 : ByteArray := prog_15_method_49_code
def yJ6_bitCount_0f7a4 : MethodName := ⟨RJ6, "bitCount", "(I)I"⟩
def RJ9 : String := "java/lang/Math"
def TJ9 : u_T := fun k => match k with
  | _ => ("", "", "", false)
def tyJ9 : Nat → FieldType := fun k => match k with
  | _ => .int
abbrev wsJ90 : List Cond := u_ws RJ9 TJ9 0
theorem nmJ9 : ∀ a, a < 0 → ∀ b, b < 0 → a ≠ b → (TJ9 a).2.1 ≠ (TJ9 b).2.1 := by decide +kernel
theorem tyJ9_ok : ∀ k, k < 0 → parseFieldDescriptor (TJ9 k).2.2.1 = some (tyJ9 k) := by decide +kernel
abbrev cJ9_abs_067f4 : ByteArray := prog_16_method_61_code
def yJ9_abs_067f4 : MethodName := ⟨RJ9, "abs", "(J)J"⟩
abbrev cJ9_max_f86c9 : ByteArray := prog_16_method_66_code
def yJ9_max_f86c9 : MethodName := ⟨RJ9, "max", "(JJ)J"⟩
abbrev cJ9_min_f86c9 : ByteArray := prog_16_method_70_code
def yJ9_min_f86c9 : MethodName := ⟨RJ9, "min", "(JJ)J"⟩
def RJ0 : String := "java/lang/String"
def TJ0 : u_T := fun k => match k with
  | _ => ("", "", "", false)
def tyJ0 : Nat → FieldType := fun k => match k with
  | _ => .int
abbrev wsJ00 : List Cond := u_ws RJ0 TJ0 0
theorem nmJ0 : ∀ a, a < 0 → ∀ b, b < 0 → a ≠ b → (TJ0 a).2.1 ≠ (TJ0 b).2.1 := by decide +kernel
theorem tyJ0_ok : ∀ k, k < 0 → parseFieldDescriptor (TJ0 k).2.2.1 = some (tyJ0 k) := by decide +kernel
abbrev cJ0_length_8abf5 : ByteArray := prog_18_method_54_code
def yJ0_length_8abf5 : MethodName := ⟨RJ0, "length", "()I"⟩
abbrev cJ0_charAt_5068e : ByteArray := prog_18_method_56_code
def yJ0_charAt_5068e : MethodName := ⟨RJ0, "charAt", "(I)C"⟩
abbrev cJ0_coder_7d493 : ByteArray := prog_18_method_152_code
def yJ0_coder_7d493 : MethodName := ⟨RJ0, "coder", "()B"⟩
abbrev cJ0_isLatin1_aae02 : ByteArray := prog_18_method_154_code
def yJ0_isLatin1_aae02 : MethodName := ⟨RJ0, "isLatin1", "()Z"⟩
abbrev cJ0_checkIndex_df160 : ByteArray := prog_18_method_155_code
def yJ0_checkIndex_df160 : MethodName := ⟨RJ0, "checkIndex", "(II)V"⟩
def RJ1 : String := "java/lang/StringLatin1"
def TJ1 : u_T := fun k => match k with
  | _ => ("", "", "", false)
def tyJ1 : Nat → FieldType := fun k => match k with
  | _ => .int
abbrev wsJ10 : List Cond := u_ws RJ1 TJ1 0
theorem nmJ1 : ∀ a, a < 0 → ∀ b, b < 0 → a ≠ b → (TJ1 a).2.1 ≠ (TJ1 b).2.1 := by decide +kernel
theorem tyJ1_ok : ∀ k, k < 0 → parseFieldDescriptor (TJ1 k).2.2.1 = some (tyJ1 k) := by decide +kernel
abbrev cJ1_charAt_3b067 : ByteArray := prog_19_method_2_code
def yJ1_charAt_3b067 : MethodName := ⟨RJ1, "charAt", "([BI)C"⟩
def RJ2 : String := "java/lang/StringUTF16"
def TJ2 : u_T := fun k => match k with
  | _ => ("", "", "", false)
def tyJ2 : Nat → FieldType := fun k => match k with
  | _ => .int
abbrev wsJ20 : List Cond := u_ws RJ2 TJ2 0
theorem nmJ2 : ∀ a, a < 0 → ∀ b, b < 0 → a ≠ b → (TJ2 a).2.1 ≠ (TJ2 b).2.1 := by decide +kernel
theorem tyJ2_ok : ∀ k, k < 0 → parseFieldDescriptor (TJ2 k).2.2.1 = some (tyJ2 k) := by decide +kernel
abbrev cJ2_getChar_3b067 : ByteArray := prog_20_method_5_code
def yJ2_getChar_3b067 : MethodName := ⟨RJ2, "getChar", "([BI)C"⟩
abbrev cJ2_length_9d52b : ByteArray := prog_20_method_6_code
def yJ2_length_9d52b : MethodName := ⟨RJ2, "length", "([B)I"⟩
abbrev cJ2_charAt_3b067 : ByteArray := prog_20_method_83_code
def yJ2_charAt_3b067 : MethodName := ⟨RJ2, "charAt", "([BI)C"⟩
abbrev cJ2_checkIndex_2214a : ByteArray := prog_20_method_91_code
def yJ2_checkIndex_2214a : MethodName := ⟨RJ2, "checkIndex", "(I[B)V"⟩
def RJ10 : String := "java/lang/System"
def TJ10 : u_T := fun k => match k with
  | _ => ("", "", "", false)
def tyJ10 : Nat → FieldType := fun k => match k with
  | _ => .int
abbrev wsJ100 : List Cond := u_ws RJ10 TJ10 0
theorem nmJ10 : ∀ a, a < 0 → ∀ b, b < 0 → a ≠ b → (TJ10 a).2.1 ≠ (TJ10 b).2.1 := by decide +kernel
theorem tyJ10_ok : ∀ k, k < 0 → parseFieldDescriptor (TJ10 k).2.2.1 = some (tyJ10 k) := by decide +kernel
def RJxfd54e : String := "java/lang/constant/Constable"
def TJxfd54e : u_T := fun k => match k with
  | _ => ("", "", "", false)
def tyJxfd54e : Nat → FieldType := fun k => match k with
  | _ => .int
abbrev wsJxfd54e0 : List Cond := u_ws RJxfd54e TJxfd54e 0
theorem nmJxfd54e : ∀ a, a < 0 → ∀ b, b < 0 → a ≠ b → (TJxfd54e a).2.1 ≠ (TJxfd54e b).2.1 := by decide +kernel
theorem tyJxfd54e_ok : ∀ k, k < 0 → parseFieldDescriptor (TJxfd54e k).2.2.1 = some (tyJxfd54e k) := by decide +kernel
def RJx3cf43 : String := "java/lang/constant/ConstantDesc"
def TJx3cf43 : u_T := fun k => match k with
  | _ => ("", "", "", false)
def tyJx3cf43 : Nat → FieldType := fun k => match k with
  | _ => .int
abbrev wsJx3cf430 : List Cond := u_ws RJx3cf43 TJx3cf43 0
theorem nmJx3cf43 : ∀ a, a < 0 → ∀ b, b < 0 → a ≠ b → (TJx3cf43 a).2.1 ≠ (TJx3cf43 b).2.1 := by decide +kernel
theorem tyJx3cf43_ok : ∀ k, k < 0 → parseFieldDescriptor (TJx3cf43 k).2.2.1 = some (tyJx3cf43 k) := by decide +kernel
def RJ7 : String := "java/util/Arrays"
def TJ7 : u_T := fun k => match k with
  | _ => ("", "", "", false)
def tyJ7 : Nat → FieldType := fun k => match k with
  | _ => .int
abbrev wsJ70 : List Cond := u_ws RJ7 TJ7 0
theorem nmJ7 : ∀ a, a < 0 → ∀ b, b < 0 → a ≠ b → (TJ7 a).2.1 ≠ (TJ7 b).2.1 := by decide +kernel
theorem tyJ7_ok : ∀ k, k < 0 → parseFieldDescriptor (TJ7 k).2.2.1 = some (tyJ7 k) := by decide +kernel
abbrev cJ7_fill_d0a16 : ByteArray := prog_25_method_101_code
def yJ7_fill_d0a16 : MethodName := ⟨RJ7, "fill", "([JJ)V"⟩
abbrev cJ7_fill_53178 : ByteArray := prog_25_method_103_code
def yJ7_fill_53178 : MethodName := ⟨RJ7, "fill", "([II)V"⟩
def RJ3 : String := "jdk/internal/util/Preconditions"
def TJ3 : u_T := fun k => match k with
  | _ => ("", "", "", false)
def tyJ3 : Nat → FieldType := fun k => match k with
  | _ => .int
abbrev wsJ30 : List Cond := u_ws RJ3 TJ3 0
theorem nmJ3 : ∀ a, a < 0 → ∀ b, b < 0 → a ≠ b → (TJ3 a).2.1 ≠ (TJ3 b).2.1 := by decide +kernel
theorem tyJ3_ok : ∀ k, k < 0 → parseFieldDescriptor (TJ3 k).2.2.1 = some (tyJ3 k) := by decide +kernel
abbrev cJ3_checkIndex_8e157 : ByteArray := prog_27_method_11_code
def yJ3_checkIndex_8e157 : MethodName := ⟨RJ3, "checkIndex", "(IILjava/util/function/BiFunction;)I"⟩
def RL : String := "RingWatersLaw"
abbrev cL_named : ByteArray := method_3_code
def yL_named : MethodName := ⟨RL, "named", "(LRingWaters;I[J)I"⟩
abbrev cL_law : ByteArray := code
def yL_law : MethodName := ⟨RL, "law", "([I)Z"⟩
abbrev vwCl : List vw_C := [(RX0, TX0, 4), (RX1, TX1, 6), (RX2, TX2, 13), (RX3, TX3, 12), (RX4, TX4, 5), (RX5, TX5, 8), (RX6, TX6, 13), (RX7, TX7, 12), (RX8, TX8, 55)]
end
section
theorem dX0_init_0 : decode cX0_init 0 = .ok (.aload_n 0, 1) := by decide +kernel
theorem dX0_init_1 : decode cX0_init 1 = .ok (.invokespecial 3, 3) := by decide +kernel
theorem dX0_init_4 : decode cX0_init 4 = .ok (.aload_n 0, 1) := by decide +kernel
theorem dX0_init_5 : decode cX0_init 5 = .ok (.bipush 12, 2) := by decide +kernel
theorem dX0_init_7 : decode cX0_init 7 = .ok (.newarray .int, 2) := by decide +kernel
theorem dX0_init_9 : decode cX0_init 9 = .ok (.putfield 9, 3) := by decide +kernel
theorem dX0_init_12 : decode cX0_init 12 = .ok (.aload_n 0, 1) := by decide +kernel
theorem dX0_init_13 : decode cX0_init 13 = .ok (.bipush 12, 2) := by decide +kernel
theorem dX0_init_15 : decode cX0_init 15 = .ok (.newarray .int, 2) := by decide +kernel
theorem dX0_init_17 : decode cX0_init 17 = .ok (.putfield 15, 3) := by decide +kernel
theorem dX0_init_20 : decode cX0_init 20 = .ok (.aload_n 0, 1) := by decide +kernel
theorem dX0_init_21 : decode cX0_init 21 = .ok (.bipush 12, 2) := by decide +kernel
theorem dX0_init_23 : decode cX0_init 23 = .ok (.newarray .int, 2) := by decide +kernel
theorem dX0_init_25 : decode cX0_init 25 = .ok (.putfield 18, 3) := by decide +kernel
theorem dX0_init_28 : decode cX0_init 28 = .ok (.return_, 1) := by decide +kernel
theorem dX0_note_0 : decode cX0_note 0 = .ok (.aload_n 0, 1) := by decide +kernel
theorem dX0_note_1 : decode cX0_note 1 = .ok (.getfield 21, 3) := by decide +kernel
theorem dX0_note_4 : decode cX0_note 4 = .ok (.bipush 12, 2) := by decide +kernel
theorem dX0_note_6 : decode cX0_note 6 = .ok (.if_icmp .lt 7, 3) := by decide +kernel
theorem dX0_note_9 : decode cX0_note 9 = .ok (.aload_n 0, 1) := by decide +kernel
theorem dX0_note_10 : decode cX0_note 10 = .ok (.invokevirtual 25, 3) := by decide +kernel
theorem dX0_note_13 : decode cX0_note 13 = .ok (.aload_n 0, 1) := by decide +kernel
theorem dX0_note_14 : decode cX0_note 14 = .ok (.getfield 9, 3) := by decide +kernel
theorem dX0_note_17 : decode cX0_note 17 = .ok (.aload_n 0, 1) := by decide +kernel
theorem dX0_note_18 : decode cX0_note 18 = .ok (.getfield 21, 3) := by decide +kernel
theorem dX0_note_21 : decode cX0_note 21 = .ok (.iload_n 1, 1) := by decide +kernel
theorem dX0_note_22 : decode cX0_note 22 = .ok (.iastore, 1) := by decide +kernel
theorem dX0_note_23 : decode cX0_note 23 = .ok (.aload_n 0, 1) := by decide +kernel
theorem dX0_note_24 : decode cX0_note 24 = .ok (.getfield 15, 3) := by decide +kernel
theorem dX0_note_27 : decode cX0_note 27 = .ok (.aload_n 0, 1) := by decide +kernel
theorem dX0_note_28 : decode cX0_note 28 = .ok (.getfield 21, 3) := by decide +kernel
theorem dX0_note_31 : decode cX0_note 31 = .ok (.iload_n 2, 1) := by decide +kernel
theorem dX0_note_32 : decode cX0_note 32 = .ok (.iastore, 1) := by decide +kernel
theorem dX0_note_33 : decode cX0_note 33 = .ok (.aload_n 0, 1) := by decide +kernel
theorem dX0_note_34 : decode cX0_note 34 = .ok (.getfield 18, 3) := by decide +kernel
theorem dX0_note_37 : decode cX0_note 37 = .ok (.aload_n 0, 1) := by decide +kernel
theorem dX0_note_38 : decode cX0_note 38 = .ok (.getfield 21, 3) := by decide +kernel
theorem dX0_note_41 : decode cX0_note 41 = .ok (.iload_n 3, 1) := by decide +kernel
theorem dX0_note_42 : decode cX0_note 42 = .ok (.iastore, 1) := by decide +kernel
theorem dX0_note_43 : decode cX0_note 43 = .ok (.aload_n 0, 1) := by decide +kernel
theorem dX0_note_44 : decode cX0_note 44 = .ok (.dup, 1) := by decide +kernel
theorem dX0_note_45 : decode cX0_note 45 = .ok (.getfield 21, 3) := by decide +kernel
theorem dX0_note_48 : decode cX0_note 48 = .ok (.iconst 1, 1) := by decide +kernel
theorem dX0_note_49 : decode cX0_note 49 = .ok (.iadd, 1) := by decide +kernel
theorem dX0_note_50 : decode cX0_note 50 = .ok (.putfield 21, 3) := by decide +kernel
theorem dX0_note_53 : decode cX0_note 53 = .ok (.return_, 1) := by decide +kernel
theorem dX0_dropFirst_0 : decode cX0_dropFirst 0 = .ok (.aload_n 0, 1) := by decide +kernel
theorem dX0_dropFirst_1 : decode cX0_dropFirst 1 = .ok (.bipush 11, 2) := by decide +kernel
theorem dX0_dropFirst_3 : decode cX0_dropFirst 3 = .ok (.putfield 21, 3) := by decide +kernel
theorem dX0_dropFirst_6 : decode cX0_dropFirst 6 = .ok (.aload_n 0, 1) := by decide +kernel
theorem dX0_dropFirst_7 : decode cX0_dropFirst 7 = .ok (.getfield 9, 3) := by decide +kernel
theorem dX0_dropFirst_10 : decode cX0_dropFirst 10 = .ok (.iconst 1, 1) := by decide +kernel
theorem dX0_dropFirst_11 : decode cX0_dropFirst 11 = .ok (.aload_n 0, 1) := by decide +kernel
theorem dX0_dropFirst_12 : decode cX0_dropFirst 12 = .ok (.getfield 9, 3) := by decide +kernel
theorem dX0_dropFirst_15 : decode cX0_dropFirst 15 = .ok (.iconst 0, 1) := by decide +kernel
theorem dX0_dropFirst_16 : decode cX0_dropFirst 16 = .ok (.aload_n 0, 1) := by decide +kernel
theorem dX0_dropFirst_17 : decode cX0_dropFirst 17 = .ok (.getfield 21, 3) := by decide +kernel
theorem dX0_dropFirst_20 : decode cX0_dropFirst 20 = .ok (.invokestatic 28, 3) := by decide +kernel
theorem dX0_dropFirst_23 : decode cX0_dropFirst 23 = .ok (.aload_n 0, 1) := by decide +kernel
theorem dX0_dropFirst_24 : decode cX0_dropFirst 24 = .ok (.getfield 15, 3) := by decide +kernel
theorem dX0_dropFirst_27 : decode cX0_dropFirst 27 = .ok (.iconst 1, 1) := by decide +kernel
theorem dX0_dropFirst_28 : decode cX0_dropFirst 28 = .ok (.aload_n 0, 1) := by decide +kernel
theorem dX0_dropFirst_29 : decode cX0_dropFirst 29 = .ok (.getfield 15, 3) := by decide +kernel
theorem dX0_dropFirst_32 : decode cX0_dropFirst 32 = .ok (.iconst 0, 1) := by decide +kernel
theorem dX0_dropFirst_33 : decode cX0_dropFirst 33 = .ok (.aload_n 0, 1) := by decide +kernel
theorem dX0_dropFirst_34 : decode cX0_dropFirst 34 = .ok (.getfield 21, 3) := by decide +kernel
theorem dX0_dropFirst_37 : decode cX0_dropFirst 37 = .ok (.invokestatic 28, 3) := by decide +kernel
theorem dX0_dropFirst_40 : decode cX0_dropFirst 40 = .ok (.aload_n 0, 1) := by decide +kernel
theorem dX0_dropFirst_41 : decode cX0_dropFirst 41 = .ok (.getfield 18, 3) := by decide +kernel
theorem dX0_dropFirst_44 : decode cX0_dropFirst 44 = .ok (.iconst 1, 1) := by decide +kernel
theorem dX0_dropFirst_45 : decode cX0_dropFirst 45 = .ok (.aload_n 0, 1) := by decide +kernel
theorem dX0_dropFirst_46 : decode cX0_dropFirst 46 = .ok (.getfield 18, 3) := by decide +kernel
theorem dX0_dropFirst_49 : decode cX0_dropFirst 49 = .ok (.iconst 0, 1) := by decide +kernel
theorem dX0_dropFirst_50 : decode cX0_dropFirst 50 = .ok (.aload_n 0, 1) := by decide +kernel
theorem dX0_dropFirst_51 : decode cX0_dropFirst 51 = .ok (.getfield 21, 3) := by decide +kernel
theorem dX0_dropFirst_54 : decode cX0_dropFirst 54 = .ok (.invokestatic 28, 3) := by decide +kernel
theorem dX0_dropFirst_57 : decode cX0_dropFirst 57 = .ok (.return_, 1) := by decide +kernel
theorem dX0_takeBackLatest_0 : decode cX0_takeBackLatest 0 = .ok (.aload_n 0, 1) := by decide +kernel
theorem dX0_takeBackLatest_1 : decode cX0_takeBackLatest 1 = .ok (.getfield 21, 3) := by decide +kernel
theorem dX0_takeBackLatest_4 : decode cX0_takeBackLatest 4 = .ok (.ifCond .gt 4, 3) := by decide +kernel
theorem dX0_takeBackLatest_7 : decode cX0_takeBackLatest 7 = .ok (.return_, 1) := by decide +kernel
theorem dX0_takeBackLatest_8 : decode cX0_takeBackLatest 8 = .ok (.aload_n 0, 1) := by decide +kernel
theorem dX0_takeBackLatest_9 : decode cX0_takeBackLatest 9 = .ok (.dup, 1) := by decide +kernel
theorem dX0_takeBackLatest_10 : decode cX0_takeBackLatest 10 = .ok (.getfield 21, 3) := by decide +kernel
theorem dX0_takeBackLatest_13 : decode cX0_takeBackLatest 13 = .ok (.iconst 1, 1) := by decide +kernel
theorem dX0_takeBackLatest_14 : decode cX0_takeBackLatest 14 = .ok (.isub, 1) := by decide +kernel
theorem dX0_takeBackLatest_15 : decode cX0_takeBackLatest 15 = .ok (.putfield 21, 3) := by decide +kernel
theorem dX0_takeBackLatest_18 : decode cX0_takeBackLatest 18 = .ok (.aload_n 0, 1) := by decide +kernel
theorem dX0_takeBackLatest_19 : decode cX0_takeBackLatest 19 = .ok (.getfield 15, 3) := by decide +kernel
theorem dX0_takeBackLatest_22 : decode cX0_takeBackLatest 22 = .ok (.aload_n 0, 1) := by decide +kernel
theorem dX0_takeBackLatest_23 : decode cX0_takeBackLatest 23 = .ok (.getfield 21, 3) := by decide +kernel
theorem dX0_takeBackLatest_26 : decode cX0_takeBackLatest 26 = .ok (.iaload, 1) := by decide +kernel
theorem dX0_takeBackLatest_27 : decode cX0_takeBackLatest 27 = .ok (.istore_n 2, 1) := by decide +kernel
theorem dX0_takeBackLatest_28 : decode cX0_takeBackLatest 28 = .ok (.aload_n 0, 1) := by decide +kernel
theorem dX0_takeBackLatest_29 : decode cX0_takeBackLatest 29 = .ok (.getfield 18, 3) := by decide +kernel
theorem dX0_takeBackLatest_32 : decode cX0_takeBackLatest 32 = .ok (.aload_n 0, 1) := by decide +kernel
theorem dX0_takeBackLatest_33 : decode cX0_takeBackLatest 33 = .ok (.getfield 21, 3) := by decide +kernel
theorem dX0_takeBackLatest_36 : decode cX0_takeBackLatest 36 = .ok (.iaload, 1) := by decide +kernel
theorem dX0_takeBackLatest_37 : decode cX0_takeBackLatest 37 = .ok (.istore_n 3, 1) := by decide +kernel
theorem dX0_takeBackLatest_38 : decode cX0_takeBackLatest 38 = .ok (.aload_n 0, 1) := by decide +kernel
theorem dX0_takeBackLatest_39 : decode cX0_takeBackLatest 39 = .ok (.getfield 9, 3) := by decide +kernel
theorem dX0_takeBackLatest_42 : decode cX0_takeBackLatest 42 = .ok (.aload_n 0, 1) := by decide +kernel
theorem dX0_takeBackLatest_43 : decode cX0_takeBackLatest 43 = .ok (.getfield 21, 3) := by decide +kernel
theorem dX0_takeBackLatest_46 : decode cX0_takeBackLatest 46 = .ok (.iaload, 1) := by decide +kernel
theorem dX0_takeBackLatest_47 : decode cX0_takeBackLatest 47 = .ok (.tableswitch 64 0 2 #[25, 46, 56], 25) := by decide +kernel
theorem dX0_takeBackLatest_72 : decode cX0_takeBackLatest 72 = .ok (.aload_n 1, 1) := by decide +kernel
theorem dX0_takeBackLatest_73 : decode cX0_takeBackLatest 73 = .ok (.aload_n 1, 1) := by decide +kernel
theorem dX0_takeBackLatest_74 : decode cX0_takeBackLatest 74 = .ok (.getfield 34, 3) := by decide +kernel
theorem dX0_takeBackLatest_77 : decode cX0_takeBackLatest 77 = .ok (.iconst 1, 1) := by decide +kernel
theorem dX0_takeBackLatest_78 : decode cX0_takeBackLatest 78 = .ok (.iload_n 2, 1) := by decide +kernel
theorem dX0_takeBackLatest_79 : decode cX0_takeBackLatest 79 = .ok (.ishl, 1) := by decide +kernel
theorem dX0_takeBackLatest_80 : decode cX0_takeBackLatest 80 = .ok (.iconst (-1), 1) := by decide +kernel
theorem dX0_takeBackLatest_81 : decode cX0_takeBackLatest 81 = .ok (.ixor, 1) := by decide +kernel
theorem dX0_takeBackLatest_82 : decode cX0_takeBackLatest 82 = .ok (.iand, 1) := by decide +kernel
theorem dX0_takeBackLatest_83 : decode cX0_takeBackLatest 83 = .ok (.iload_n 3, 1) := by decide +kernel
theorem dX0_takeBackLatest_84 : decode cX0_takeBackLatest 84 = .ok (.iload_n 2, 1) := by decide +kernel
theorem dX0_takeBackLatest_85 : decode cX0_takeBackLatest 85 = .ok (.ishl, 1) := by decide +kernel
theorem dX0_takeBackLatest_86 : decode cX0_takeBackLatest 86 = .ok (.ior, 1) := by decide +kernel
theorem dX0_takeBackLatest_87 : decode cX0_takeBackLatest 87 = .ok (.putfield 34, 3) := by decide +kernel
theorem dX0_takeBackLatest_90 : decode cX0_takeBackLatest 90 = .ok (.goto 28, 3) := by decide +kernel
theorem dX0_takeBackLatest_93 : decode cX0_takeBackLatest 93 = .ok (.aload_n 1, 1) := by decide +kernel
theorem dX0_takeBackLatest_94 : decode cX0_takeBackLatest 94 = .ok (.getfield 39, 3) := by decide +kernel
theorem dX0_takeBackLatest_97 : decode cX0_takeBackLatest 97 = .ok (.iload_n 2, 1) := by decide +kernel
theorem dX0_takeBackLatest_98 : decode cX0_takeBackLatest 98 = .ok (.iload_n 3, 1) := by decide +kernel
theorem dX0_takeBackLatest_99 : decode cX0_takeBackLatest 99 = .ok (.iastore, 1) := by decide +kernel
theorem dX0_takeBackLatest_100 : decode cX0_takeBackLatest 100 = .ok (.goto 18, 3) := by decide +kernel
theorem dX0_takeBackLatest_103 : decode cX0_takeBackLatest 103 = .ok (.aload_n 1, 1) := by decide +kernel
theorem dX0_takeBackLatest_104 : decode cX0_takeBackLatest 104 = .ok (.iload_n 3, 1) := by decide +kernel
theorem dX0_takeBackLatest_105 : decode cX0_takeBackLatest 105 = .ok (.putfield 42, 3) := by decide +kernel
theorem dX0_takeBackLatest_108 : decode cX0_takeBackLatest 108 = .ok (.goto 10, 3) := by decide +kernel
theorem dX0_takeBackLatest_111 : decode cX0_takeBackLatest 111 = .ok (.aload_n 1, 1) := by decide +kernel
theorem dX0_takeBackLatest_112 : decode cX0_takeBackLatest 112 = .ok (.getfield 45, 3) := by decide +kernel
theorem dX0_takeBackLatest_115 : decode cX0_takeBackLatest 115 = .ok (.iload_n 2, 1) := by decide +kernel
theorem dX0_takeBackLatest_116 : decode cX0_takeBackLatest 116 = .ok (.iload_n 3, 1) := by decide +kernel
theorem dX0_takeBackLatest_117 : decode cX0_takeBackLatest 117 = .ok (.iastore, 1) := by decide +kernel
theorem dX0_takeBackLatest_118 : decode cX0_takeBackLatest 118 = .ok (.return_, 1) := by decide +kernel
end
section
theorem dX1_init_0 : decode cX1_init 0 = .ok (.aload_n 0, 1) := by decide +kernel
theorem dX1_init_1 : decode cX1_init 1 = .ok (.invokespecial 3, 3) := by decide +kernel
theorem dX1_init_4 : decode cX1_init 4 = .ok (.aload_n 0, 1) := by decide +kernel
theorem dX1_init_5 : decode cX1_init 5 = .ok (.bipush 9, 2) := by decide +kernel
theorem dX1_init_7 : decode cX1_init 7 = .ok (.newarray .int, 2) := by decide +kernel
theorem dX1_init_9 : decode cX1_init 9 = .ok (.putfield 9, 3) := by decide +kernel
theorem dX1_init_12 : decode cX1_init 12 = .ok (.return_, 1) := by decide +kernel
theorem dX1_note_0 : decode cX1_note 0 = .ok (.aload_n 0, 1) := by decide +kernel
theorem dX1_note_1 : decode cX1_note 1 = .ok (.dup, 1) := by decide +kernel
theorem dX1_note_2 : decode cX1_note 2 = .ok (.getfield 15, 3) := by decide +kernel
theorem dX1_note_5 : decode cX1_note 5 = .ok (.iconst 1, 1) := by decide +kernel
theorem dX1_note_6 : decode cX1_note 6 = .ok (.iload_n 1, 1) := by decide +kernel
theorem dX1_note_7 : decode cX1_note 7 = .ok (.ishl, 1) := by decide +kernel
theorem dX1_note_8 : decode cX1_note 8 = .ok (.ior, 1) := by decide +kernel
theorem dX1_note_9 : decode cX1_note 9 = .ok (.putfield 15, 3) := by decide +kernel
theorem dX1_note_12 : decode cX1_note 12 = .ok (.aload_n 0, 1) := by decide +kernel
theorem dX1_note_13 : decode cX1_note 13 = .ok (.getfield 9, 3) := by decide +kernel
theorem dX1_note_16 : decode cX1_note 16 = .ok (.iload_n 1, 1) := by decide +kernel
theorem dX1_note_17 : decode cX1_note 17 = .ok (.iload_n 2, 1) := by decide +kernel
theorem dX1_note_18 : decode cX1_note 18 = .ok (.iastore, 1) := by decide +kernel
theorem dX1_note_19 : decode cX1_note 19 = .ok (.aload_n 0, 1) := by decide +kernel
theorem dX1_note_20 : decode cX1_note 20 = .ok (.iconst 0, 1) := by decide +kernel
theorem dX1_note_21 : decode cX1_note 21 = .ok (.putfield 19, 3) := by decide +kernel
theorem dX1_note_24 : decode cX1_note 24 = .ok (.return_, 1) := by decide +kernel
theorem dX1_clear_0 : decode cX1_clear 0 = .ok (.aload_n 0, 1) := by decide +kernel
theorem dX1_clear_1 : decode cX1_clear 1 = .ok (.iconst 0, 1) := by decide +kernel
theorem dX1_clear_2 : decode cX1_clear 2 = .ok (.putfield 15, 3) := by decide +kernel
theorem dX1_clear_5 : decode cX1_clear 5 = .ok (.return_, 1) := by decide +kernel
theorem dX1_count_0 : decode cX1_count 0 = .ok (.aload_n 0, 1) := by decide +kernel
theorem dX1_count_1 : decode cX1_count 1 = .ok (.getfield 15, 3) := by decide +kernel
theorem dX1_count_4 : decode cX1_count 4 = .ok (.invokestatic 23, 3) := by decide +kernel
theorem dX1_count_7 : decode cX1_count 7 = .ok (.ireturn, 1) := by decide +kernel
theorem dX1_farFrom_0 : decode cX1_farFrom 0 = .ok (.lconst 0, 1) := by decide +kernel
theorem dX1_farFrom_1 : decode cX1_farFrom 1 = .ok (.lstore_n 2, 1) := by decide +kernel
theorem dX1_farFrom_2 : decode cX1_farFrom 2 = .ok (.iconst 1, 1) := by decide +kernel
theorem dX1_farFrom_3 : decode cX1_farFrom 3 = .ok (.istore 4, 2) := by decide +kernel
theorem dX1_farFrom_5 : decode cX1_farFrom 5 = .ok (.iload 4, 2) := by decide +kernel
theorem dX1_farFrom_7 : decode cX1_farFrom 7 = .ok (.bipush 9, 2) := by decide +kernel
theorem dX1_farFrom_9 : decode cX1_farFrom 9 = .ok (.if_icmp .ge 77, 3) := by decide +kernel
theorem dX1_farFrom_12 : decode cX1_farFrom 12 = .ok (.aload_n 0, 1) := by decide +kernel
theorem dX1_farFrom_13 : decode cX1_farFrom 13 = .ok (.getfield 15, 3) := by decide +kernel
theorem dX1_farFrom_16 : decode cX1_farFrom 16 = .ok (.iload 4, 2) := by decide +kernel
theorem dX1_farFrom_18 : decode cX1_farFrom 18 = .ok (.invokestatic 29, 3) := by decide +kernel
theorem dX1_farFrom_21 : decode cX1_farFrom 21 = .ok (.iconst 1, 1) := by decide +kernel
theorem dX1_farFrom_22 : decode cX1_farFrom 22 = .ok (.if_icmp .ne 58, 3) := by decide +kernel
theorem dX1_farFrom_25 : decode cX1_farFrom 25 = .ok (.aload_n 1, 1) := by decide +kernel
theorem dX1_farFrom_26 : decode cX1_farFrom 26 = .ok (.getfield 33, 3) := by decide +kernel
theorem dX1_farFrom_29 : decode cX1_farFrom 29 = .ok (.getfield 39, 3) := by decide +kernel
theorem dX1_farFrom_32 : decode cX1_farFrom 32 = .ok (.iload 4, 2) := by decide +kernel
theorem dX1_farFrom_34 : decode cX1_farFrom 34 = .ok (.invokestatic 29, 3) := by decide +kernel
theorem dX1_farFrom_37 : decode cX1_farFrom 37 = .ok (.ifCond .ne 7, 3) := by decide +kernel
theorem dX1_farFrom_40 : decode cX1_farFrom 40 = .ok (.iconst 1, 1) := by decide +kernel
theorem dX1_farFrom_41 : decode cX1_farFrom 41 = .ok (.goto 4, 3) := by decide +kernel
theorem dX1_farFrom_44 : decode cX1_farFrom 44 = .ok (.iconst 0, 1) := by decide +kernel
theorem dX1_farFrom_45 : decode cX1_farFrom 45 = .ok (.istore 5, 2) := by decide +kernel
theorem dX1_farFrom_47 : decode cX1_farFrom 47 = .ok (.lload_n 2, 1) := by decide +kernel
theorem dX1_farFrom_48 : decode cX1_farFrom 48 = .ok (.iload 5, 2) := by decide +kernel
theorem dX1_farFrom_50 : decode cX1_farFrom 50 = .ok (.ifCond .eq 9, 3) := by decide +kernel
theorem dX1_farFrom_53 : decode cX1_farFrom 53 = .ok (.ldc2_w 44, 3) := by decide +kernel
theorem dX1_farFrom_56 : decode cX1_farFrom 56 = .ok (.goto 22, 3) := by decide +kernel
theorem dX1_farFrom_59 : decode cX1_farFrom 59 = .ok (.aload_n 1, 1) := by decide +kernel
theorem dX1_farFrom_60 : decode cX1_farFrom 60 = .ok (.getfield 46, 3) := by decide +kernel
theorem dX1_farFrom_63 : decode cX1_farFrom 63 = .ok (.iload 4, 2) := by decide +kernel
theorem dX1_farFrom_65 : decode cX1_farFrom 65 = .ok (.laload, 1) := by decide +kernel
theorem dX1_farFrom_66 : decode cX1_farFrom 66 = .ok (.aload_n 0, 1) := by decide +kernel
theorem dX1_farFrom_67 : decode cX1_farFrom 67 = .ok (.getfield 9, 3) := by decide +kernel
theorem dX1_farFrom_70 : decode cX1_farFrom 70 = .ok (.iload 4, 2) := by decide +kernel
theorem dX1_farFrom_72 : decode cX1_farFrom 72 = .ok (.iaload, 1) := by decide +kernel
theorem dX1_farFrom_73 : decode cX1_farFrom 73 = .ok (.i2l, 1) := by decide +kernel
theorem dX1_farFrom_74 : decode cX1_farFrom 74 = .ok (.lsub, 1) := by decide +kernel
theorem dX1_farFrom_75 : decode cX1_farFrom 75 = .ok (.invokestatic 50, 3) := by decide +kernel
theorem dX1_farFrom_78 : decode cX1_farFrom 78 = .ok (.ladd, 1) := by decide +kernel
theorem dX1_farFrom_79 : decode cX1_farFrom 79 = .ok (.lstore_n 2, 1) := by decide +kernel
theorem dX1_farFrom_80 : decode cX1_farFrom 80 = .ok (.iinc 4 1, 3) := by decide +kernel
theorem dX1_farFrom_83 : decode cX1_farFrom 83 = .ok (.goto (-78), 3) := by decide +kernel
theorem dX1_farFrom_86 : decode cX1_farFrom 86 = .ok (.lload_n 2, 1) := by decide +kernel
theorem dX1_farFrom_87 : decode cX1_farFrom 87 = .ok (.lreturn, 1) := by decide +kernel
theorem dX1_offerLeak_0 : decode cX1_offerLeak 0 = .ok (.lload_n 3, 1) := by decide +kernel
theorem dX1_offerLeak_1 : decode cX1_offerLeak 1 = .ok (.aload_n 0, 1) := by decide +kernel
theorem dX1_offerLeak_2 : decode cX1_offerLeak 2 = .ok (.getfield 56, 3) := by decide +kernel
theorem dX1_offerLeak_5 : decode cX1_offerLeak 5 = .ok (.lcmp, 1) := by decide +kernel
theorem dX1_offerLeak_6 : decode cX1_offerLeak 6 = .ok (.ifCond .ge 18, 3) := by decide +kernel
theorem dX1_offerLeak_9 : decode cX1_offerLeak 9 = .ok (.aload_n 0, 1) := by decide +kernel
theorem dX1_offerLeak_10 : decode cX1_offerLeak 10 = .ok (.iload_n 1, 1) := by decide +kernel
theorem dX1_offerLeak_11 : decode cX1_offerLeak 11 = .ok (.putfield 60, 3) := by decide +kernel
theorem dX1_offerLeak_14 : decode cX1_offerLeak 14 = .ok (.aload_n 0, 1) := by decide +kernel
theorem dX1_offerLeak_15 : decode cX1_offerLeak 15 = .ok (.iload_n 2, 1) := by decide +kernel
theorem dX1_offerLeak_16 : decode cX1_offerLeak 16 = .ok (.putfield 63, 3) := by decide +kernel
theorem dX1_offerLeak_19 : decode cX1_offerLeak 19 = .ok (.aload_n 0, 1) := by decide +kernel
theorem dX1_offerLeak_20 : decode cX1_offerLeak 20 = .ok (.lload_n 3, 1) := by decide +kernel
theorem dX1_offerLeak_21 : decode cX1_offerLeak 21 = .ok (.putfield 56, 3) := by decide +kernel
theorem dX1_offerLeak_24 : decode cX1_offerLeak 24 = .ok (.return_, 1) := by decide +kernel
end
section
theorem dX2_init_0 : decode cX2_init 0 = .ok (.aload_n 0, 1) := by decide +kernel
theorem dX2_init_1 : decode cX2_init 1 = .ok (.invokespecial 3, 3) := by decide +kernel
theorem dX2_init_4 : decode cX2_init 4 = .ok (.aload_n 0, 1) := by decide +kernel
theorem dX2_init_5 : decode cX2_init 5 = .ok (.bipush 9, 2) := by decide +kernel
theorem dX2_init_7 : decode cX2_init 7 = .ok (.newarray .long, 2) := by decide +kernel
theorem dX2_init_9 : decode cX2_init 9 = .ok (.putfield 9, 3) := by decide +kernel
theorem dX2_init_12 : decode cX2_init 12 = .ok (.aload_n 0, 1) := by decide +kernel
theorem dX2_init_13 : decode cX2_init 13 = .ok (.bipush 9, 2) := by decide +kernel
theorem dX2_init_15 : decode cX2_init 15 = .ok (.newarray .int, 2) := by decide +kernel
theorem dX2_init_17 : decode cX2_init 17 = .ok (.putfield 15, 3) := by decide +kernel
theorem dX2_init_20 : decode cX2_init 20 = .ok (.aload_n 0, 1) := by decide +kernel
theorem dX2_init_21 : decode cX2_init 21 = .ok (.bipush 9, 2) := by decide +kernel
theorem dX2_init_23 : decode cX2_init 23 = .ok (.newarray .int, 2) := by decide +kernel
theorem dX2_init_25 : decode cX2_init 25 = .ok (.putfield 19, 3) := by decide +kernel
theorem dX2_init_28 : decode cX2_init 28 = .ok (.aload_n 0, 1) := by decide +kernel
theorem dX2_init_29 : decode cX2_init 29 = .ok (.bipush 14, 2) := by decide +kernel
theorem dX2_init_31 : decode cX2_init 31 = .ok (.newarray .int, 2) := by decide +kernel
theorem dX2_init_33 : decode cX2_init 33 = .ok (.putfield 22, 3) := by decide +kernel
theorem dX2_init_36 : decode cX2_init 36 = .ok (.aload_n 0, 1) := by decide +kernel
theorem dX2_init_37 : decode cX2_init 37 = .ok (.bipush 14, 2) := by decide +kernel
theorem dX2_init_39 : decode cX2_init 39 = .ok (.newarray .int, 2) := by decide +kernel
theorem dX2_init_41 : decode cX2_init 41 = .ok (.putfield 25, 3) := by decide +kernel
theorem dX2_init_44 : decode cX2_init 44 = .ok (.aload_n 0, 1) := by decide +kernel
theorem dX2_init_45 : decode cX2_init 45 = .ok (.bipush 14, 2) := by decide +kernel
theorem dX2_init_47 : decode cX2_init 47 = .ok (.newarray .int, 2) := by decide +kernel
theorem dX2_init_49 : decode cX2_init 49 = .ok (.putfield 28, 3) := by decide +kernel
theorem dX2_init_52 : decode cX2_init 52 = .ok (.aload_n 0, 1) := by decide +kernel
theorem dX2_init_53 : decode cX2_init 53 = .ok (.bipush 14, 2) := by decide +kernel
theorem dX2_init_55 : decode cX2_init 55 = .ok (.newarray .int, 2) := by decide +kernel
theorem dX2_init_57 : decode cX2_init 57 = .ok (.putfield 31, 3) := by decide +kernel
theorem dX2_init_60 : decode cX2_init 60 = .ok (.aload_n 0, 1) := by decide +kernel
theorem dX2_init_61 : decode cX2_init 61 = .ok (.bipush 14, 2) := by decide +kernel
theorem dX2_init_63 : decode cX2_init 63 = .ok (.newarray .int, 2) := by decide +kernel
theorem dX2_init_65 : decode cX2_init 65 = .ok (.putfield 34, 3) := by decide +kernel
theorem dX2_init_68 : decode cX2_init 68 = .ok (.aload_n 0, 1) := by decide +kernel
theorem dX2_init_69 : decode cX2_init 69 = .ok (.bipush 84, 2) := by decide +kernel
theorem dX2_init_71 : decode cX2_init 71 = .ok (.newarray .int, 2) := by decide +kernel
theorem dX2_init_73 : decode cX2_init 73 = .ok (.putfield 37, 3) := by decide +kernel
theorem dX2_init_76 : decode cX2_init 76 = .ok (.return_, 1) := by decide +kernel
theorem dX2_copyFrom_0 : decode cX2_copyFrom 0 = .ok (.aload_n 0, 1) := by decide +kernel
theorem dX2_copyFrom_1 : decode cX2_copyFrom 1 = .ok (.aload_n 1, 1) := by decide +kernel
theorem dX2_copyFrom_2 : decode cX2_copyFrom 2 = .ok (.getfield 40, 3) := by decide +kernel
theorem dX2_copyFrom_5 : decode cX2_copyFrom 5 = .ok (.putfield 40, 3) := by decide +kernel
theorem dX2_copyFrom_8 : decode cX2_copyFrom 8 = .ok (.aload_n 0, 1) := by decide +kernel
theorem dX2_copyFrom_9 : decode cX2_copyFrom 9 = .ok (.aload_n 1, 1) := by decide +kernel
theorem dX2_copyFrom_10 : decode cX2_copyFrom 10 = .ok (.getfield 44, 3) := by decide +kernel
theorem dX2_copyFrom_13 : decode cX2_copyFrom 13 = .ok (.putfield 44, 3) := by decide +kernel
theorem dX2_copyFrom_16 : decode cX2_copyFrom 16 = .ok (.aload_n 0, 1) := by decide +kernel
theorem dX2_copyFrom_17 : decode cX2_copyFrom 17 = .ok (.aload_n 1, 1) := by decide +kernel
theorem dX2_copyFrom_18 : decode cX2_copyFrom 18 = .ok (.getfield 47, 3) := by decide +kernel
theorem dX2_copyFrom_21 : decode cX2_copyFrom 21 = .ok (.putfield 47, 3) := by decide +kernel
theorem dX2_copyFrom_24 : decode cX2_copyFrom 24 = .ok (.aload_n 0, 1) := by decide +kernel
theorem dX2_copyFrom_25 : decode cX2_copyFrom 25 = .ok (.aload_n 1, 1) := by decide +kernel
theorem dX2_copyFrom_26 : decode cX2_copyFrom 26 = .ok (.getfield 50, 3) := by decide +kernel
theorem dX2_copyFrom_29 : decode cX2_copyFrom 29 = .ok (.putfield 50, 3) := by decide +kernel
theorem dX2_copyFrom_32 : decode cX2_copyFrom 32 = .ok (.aload_n 1, 1) := by decide +kernel
theorem dX2_copyFrom_33 : decode cX2_copyFrom 33 = .ok (.getfield 9, 3) := by decide +kernel
theorem dX2_copyFrom_36 : decode cX2_copyFrom 36 = .ok (.iconst 0, 1) := by decide +kernel
theorem dX2_copyFrom_37 : decode cX2_copyFrom 37 = .ok (.aload_n 0, 1) := by decide +kernel
theorem dX2_copyFrom_38 : decode cX2_copyFrom 38 = .ok (.getfield 9, 3) := by decide +kernel
theorem dX2_copyFrom_41 : decode cX2_copyFrom 41 = .ok (.iconst 0, 1) := by decide +kernel
theorem dX2_copyFrom_42 : decode cX2_copyFrom 42 = .ok (.bipush 9, 2) := by decide +kernel
theorem dX2_copyFrom_44 : decode cX2_copyFrom 44 = .ok (.invokestatic 53, 3) := by decide +kernel
theorem dX2_copyFrom_47 : decode cX2_copyFrom 47 = .ok (.aload_n 1, 1) := by decide +kernel
theorem dX2_copyFrom_48 : decode cX2_copyFrom 48 = .ok (.getfield 15, 3) := by decide +kernel
theorem dX2_copyFrom_51 : decode cX2_copyFrom 51 = .ok (.iconst 0, 1) := by decide +kernel
theorem dX2_copyFrom_52 : decode cX2_copyFrom 52 = .ok (.aload_n 0, 1) := by decide +kernel
theorem dX2_copyFrom_53 : decode cX2_copyFrom 53 = .ok (.getfield 15, 3) := by decide +kernel
theorem dX2_copyFrom_56 : decode cX2_copyFrom 56 = .ok (.iconst 0, 1) := by decide +kernel
theorem dX2_copyFrom_57 : decode cX2_copyFrom 57 = .ok (.bipush 9, 2) := by decide +kernel
theorem dX2_copyFrom_59 : decode cX2_copyFrom 59 = .ok (.invokestatic 53, 3) := by decide +kernel
theorem dX2_copyFrom_62 : decode cX2_copyFrom 62 = .ok (.aload_n 1, 1) := by decide +kernel
theorem dX2_copyFrom_63 : decode cX2_copyFrom 63 = .ok (.getfield 19, 3) := by decide +kernel
theorem dX2_copyFrom_66 : decode cX2_copyFrom 66 = .ok (.iconst 0, 1) := by decide +kernel
theorem dX2_copyFrom_67 : decode cX2_copyFrom 67 = .ok (.aload_n 0, 1) := by decide +kernel
theorem dX2_copyFrom_68 : decode cX2_copyFrom 68 = .ok (.getfield 19, 3) := by decide +kernel
theorem dX2_copyFrom_71 : decode cX2_copyFrom 71 = .ok (.iconst 0, 1) := by decide +kernel
theorem dX2_copyFrom_72 : decode cX2_copyFrom 72 = .ok (.bipush 9, 2) := by decide +kernel
theorem dX2_copyFrom_74 : decode cX2_copyFrom 74 = .ok (.invokestatic 53, 3) := by decide +kernel
theorem dX2_copyFrom_77 : decode cX2_copyFrom 77 = .ok (.aload_n 1, 1) := by decide +kernel
theorem dX2_copyFrom_78 : decode cX2_copyFrom 78 = .ok (.getfield 22, 3) := by decide +kernel
theorem dX2_copyFrom_81 : decode cX2_copyFrom 81 = .ok (.iconst 0, 1) := by decide +kernel
theorem dX2_copyFrom_82 : decode cX2_copyFrom 82 = .ok (.aload_n 0, 1) := by decide +kernel
theorem dX2_copyFrom_83 : decode cX2_copyFrom 83 = .ok (.getfield 22, 3) := by decide +kernel
theorem dX2_copyFrom_86 : decode cX2_copyFrom 86 = .ok (.iconst 0, 1) := by decide +kernel
theorem dX2_copyFrom_87 : decode cX2_copyFrom 87 = .ok (.bipush 14, 2) := by decide +kernel
theorem dX2_copyFrom_89 : decode cX2_copyFrom 89 = .ok (.invokestatic 53, 3) := by decide +kernel
theorem dX2_copyFrom_92 : decode cX2_copyFrom 92 = .ok (.aload_n 1, 1) := by decide +kernel
theorem dX2_copyFrom_93 : decode cX2_copyFrom 93 = .ok (.getfield 25, 3) := by decide +kernel
theorem dX2_copyFrom_96 : decode cX2_copyFrom 96 = .ok (.iconst 0, 1) := by decide +kernel
theorem dX2_copyFrom_97 : decode cX2_copyFrom 97 = .ok (.aload_n 0, 1) := by decide +kernel
theorem dX2_copyFrom_98 : decode cX2_copyFrom 98 = .ok (.getfield 25, 3) := by decide +kernel
theorem dX2_copyFrom_101 : decode cX2_copyFrom 101 = .ok (.iconst 0, 1) := by decide +kernel
theorem dX2_copyFrom_102 : decode cX2_copyFrom 102 = .ok (.bipush 14, 2) := by decide +kernel
theorem dX2_copyFrom_104 : decode cX2_copyFrom 104 = .ok (.invokestatic 53, 3) := by decide +kernel
theorem dX2_copyFrom_107 : decode cX2_copyFrom 107 = .ok (.aload_n 1, 1) := by decide +kernel
theorem dX2_copyFrom_108 : decode cX2_copyFrom 108 = .ok (.getfield 28, 3) := by decide +kernel
theorem dX2_copyFrom_111 : decode cX2_copyFrom 111 = .ok (.iconst 0, 1) := by decide +kernel
theorem dX2_copyFrom_112 : decode cX2_copyFrom 112 = .ok (.aload_n 0, 1) := by decide +kernel
theorem dX2_copyFrom_113 : decode cX2_copyFrom 113 = .ok (.getfield 28, 3) := by decide +kernel
theorem dX2_copyFrom_116 : decode cX2_copyFrom 116 = .ok (.iconst 0, 1) := by decide +kernel
theorem dX2_copyFrom_117 : decode cX2_copyFrom 117 = .ok (.bipush 14, 2) := by decide +kernel
theorem dX2_copyFrom_119 : decode cX2_copyFrom 119 = .ok (.invokestatic 53, 3) := by decide +kernel
theorem dX2_copyFrom_122 : decode cX2_copyFrom 122 = .ok (.aload_n 1, 1) := by decide +kernel
theorem dX2_copyFrom_123 : decode cX2_copyFrom 123 = .ok (.getfield 31, 3) := by decide +kernel
theorem dX2_copyFrom_126 : decode cX2_copyFrom 126 = .ok (.iconst 0, 1) := by decide +kernel
theorem dX2_copyFrom_127 : decode cX2_copyFrom 127 = .ok (.aload_n 0, 1) := by decide +kernel
theorem dX2_copyFrom_128 : decode cX2_copyFrom 128 = .ok (.getfield 31, 3) := by decide +kernel
theorem dX2_copyFrom_131 : decode cX2_copyFrom 131 = .ok (.iconst 0, 1) := by decide +kernel
theorem dX2_copyFrom_132 : decode cX2_copyFrom 132 = .ok (.bipush 14, 2) := by decide +kernel
theorem dX2_copyFrom_134 : decode cX2_copyFrom 134 = .ok (.invokestatic 53, 3) := by decide +kernel
theorem dX2_copyFrom_137 : decode cX2_copyFrom 137 = .ok (.aload_n 1, 1) := by decide +kernel
theorem dX2_copyFrom_138 : decode cX2_copyFrom 138 = .ok (.getfield 34, 3) := by decide +kernel
theorem dX2_copyFrom_141 : decode cX2_copyFrom 141 = .ok (.iconst 0, 1) := by decide +kernel
theorem dX2_copyFrom_142 : decode cX2_copyFrom 142 = .ok (.aload_n 0, 1) := by decide +kernel
theorem dX2_copyFrom_143 : decode cX2_copyFrom 143 = .ok (.getfield 34, 3) := by decide +kernel
theorem dX2_copyFrom_146 : decode cX2_copyFrom 146 = .ok (.iconst 0, 1) := by decide +kernel
theorem dX2_copyFrom_147 : decode cX2_copyFrom 147 = .ok (.bipush 14, 2) := by decide +kernel
theorem dX2_copyFrom_149 : decode cX2_copyFrom 149 = .ok (.invokestatic 53, 3) := by decide +kernel
theorem dX2_copyFrom_152 : decode cX2_copyFrom 152 = .ok (.aload_n 1, 1) := by decide +kernel
theorem dX2_copyFrom_153 : decode cX2_copyFrom 153 = .ok (.getfield 37, 3) := by decide +kernel
theorem dX2_copyFrom_156 : decode cX2_copyFrom 156 = .ok (.iconst 0, 1) := by decide +kernel
theorem dX2_copyFrom_157 : decode cX2_copyFrom 157 = .ok (.aload_n 0, 1) := by decide +kernel
theorem dX2_copyFrom_158 : decode cX2_copyFrom 158 = .ok (.getfield 37, 3) := by decide +kernel
theorem dX2_copyFrom_161 : decode cX2_copyFrom 161 = .ok (.iconst 0, 1) := by decide +kernel
theorem dX2_copyFrom_162 : decode cX2_copyFrom 162 = .ok (.bipush 84, 2) := by decide +kernel
theorem dX2_copyFrom_164 : decode cX2_copyFrom 164 = .ok (.invokestatic 53, 3) := by decide +kernel
theorem dX2_copyFrom_167 : decode cX2_copyFrom 167 = .ok (.return_, 1) := by decide +kernel
theorem dX2_clear_0 : decode cX2_clear 0 = .ok (.aload_n 0, 1) := by decide +kernel
theorem dX2_clear_1 : decode cX2_clear 1 = .ok (.iconst 0, 1) := by decide +kernel
theorem dX2_clear_2 : decode cX2_clear 2 = .ok (.putfield 40, 3) := by decide +kernel
theorem dX2_clear_5 : decode cX2_clear 5 = .ok (.aload_n 0, 1) := by decide +kernel
theorem dX2_clear_6 : decode cX2_clear 6 = .ok (.iconst 0, 1) := by decide +kernel
theorem dX2_clear_7 : decode cX2_clear 7 = .ok (.putfield 44, 3) := by decide +kernel
theorem dX2_clear_10 : decode cX2_clear 10 = .ok (.aload_n 0, 1) := by decide +kernel
theorem dX2_clear_11 : decode cX2_clear 11 = .ok (.iconst 0, 1) := by decide +kernel
theorem dX2_clear_12 : decode cX2_clear 12 = .ok (.putfield 47, 3) := by decide +kernel
theorem dX2_clear_15 : decode cX2_clear 15 = .ok (.aload_n 0, 1) := by decide +kernel
theorem dX2_clear_16 : decode cX2_clear 16 = .ok (.iconst 0, 1) := by decide +kernel
theorem dX2_clear_17 : decode cX2_clear 17 = .ok (.putfield 50, 3) := by decide +kernel
theorem dX2_clear_20 : decode cX2_clear 20 = .ok (.return_, 1) := by decide +kernel
theorem dX2_hasJoint_0 : decode cX2_hasJoint 0 = .ok (.iload_n 1, 1) := by decide +kernel
theorem dX2_hasJoint_1 : decode cX2_hasJoint 1 = .ok (.ifCond .lt 15, 3) := by decide +kernel
theorem dX2_hasJoint_4 : decode cX2_hasJoint 4 = .ok (.iload_n 1, 1) := by decide +kernel
theorem dX2_hasJoint_5 : decode cX2_hasJoint 5 = .ok (.aload_n 0, 1) := by decide +kernel
theorem dX2_hasJoint_6 : decode cX2_hasJoint 6 = .ok (.getfield 40, 3) := by decide +kernel
theorem dX2_hasJoint_9 : decode cX2_hasJoint 9 = .ok (.if_icmp .ge 7, 3) := by decide +kernel
theorem dX2_hasJoint_12 : decode cX2_hasJoint 12 = .ok (.iconst 1, 1) := by decide +kernel
theorem dX2_hasJoint_13 : decode cX2_hasJoint 13 = .ok (.goto 4, 3) := by decide +kernel
theorem dX2_hasJoint_16 : decode cX2_hasJoint 16 = .ok (.iconst 0, 1) := by decide +kernel
theorem dX2_hasJoint_17 : decode cX2_hasJoint 17 = .ok (.ireturn, 1) := by decide +kernel
theorem dX2_hasEdge_0 : decode cX2_hasEdge 0 = .ok (.iload_n 1, 1) := by decide +kernel
theorem dX2_hasEdge_1 : decode cX2_hasEdge 1 = .ok (.ifCond .lt 15, 3) := by decide +kernel
theorem dX2_hasEdge_4 : decode cX2_hasEdge 4 = .ok (.iload_n 1, 1) := by decide +kernel
theorem dX2_hasEdge_5 : decode cX2_hasEdge 5 = .ok (.aload_n 0, 1) := by decide +kernel
theorem dX2_hasEdge_6 : decode cX2_hasEdge 6 = .ok (.getfield 44, 3) := by decide +kernel
theorem dX2_hasEdge_9 : decode cX2_hasEdge 9 = .ok (.if_icmp .ge 7, 3) := by decide +kernel
theorem dX2_hasEdge_12 : decode cX2_hasEdge 12 = .ok (.iconst 1, 1) := by decide +kernel
theorem dX2_hasEdge_13 : decode cX2_hasEdge 13 = .ok (.goto 4, 3) := by decide +kernel
theorem dX2_hasEdge_16 : decode cX2_hasEdge 16 = .ok (.iconst 0, 1) := by decide +kernel
theorem dX2_hasEdge_17 : decode cX2_hasEdge 17 = .ok (.ireturn, 1) := by decide +kernel
theorem dX2_jointCalled_0 : decode cX2_jointCalled 0 = .ok (.iconst 0, 1) := by decide +kernel
theorem dX2_jointCalled_1 : decode cX2_jointCalled 1 = .ok (.istore_n 3, 1) := by decide +kernel
theorem dX2_jointCalled_2 : decode cX2_jointCalled 2 = .ok (.iload_n 3, 1) := by decide +kernel
theorem dX2_jointCalled_3 : decode cX2_jointCalled 3 = .ok (.aload_n 0, 1) := by decide +kernel
theorem dX2_jointCalled_4 : decode cX2_jointCalled 4 = .ok (.getfield 40, 3) := by decide +kernel
theorem dX2_jointCalled_7 : decode cX2_jointCalled 7 = .ok (.if_icmp .ge 22, 3) := by decide +kernel
theorem dX2_jointCalled_10 : decode cX2_jointCalled 10 = .ok (.aload_n 0, 1) := by decide +kernel
theorem dX2_jointCalled_11 : decode cX2_jointCalled 11 = .ok (.getfield 9, 3) := by decide +kernel
theorem dX2_jointCalled_14 : decode cX2_jointCalled 14 = .ok (.iload_n 3, 1) := by decide +kernel
theorem dX2_jointCalled_15 : decode cX2_jointCalled 15 = .ok (.laload, 1) := by decide +kernel
theorem dX2_jointCalled_16 : decode cX2_jointCalled 16 = .ok (.lload_n 1, 1) := by decide +kernel
theorem dX2_jointCalled_17 : decode cX2_jointCalled 17 = .ok (.lcmp, 1) := by decide +kernel
theorem dX2_jointCalled_18 : decode cX2_jointCalled 18 = .ok (.ifCond .ne 5, 3) := by decide +kernel
theorem dX2_jointCalled_21 : decode cX2_jointCalled 21 = .ok (.iload_n 3, 1) := by decide +kernel
theorem dX2_jointCalled_22 : decode cX2_jointCalled 22 = .ok (.ireturn, 1) := by decide +kernel
theorem dX2_jointCalled_23 : decode cX2_jointCalled 23 = .ok (.iinc 3 1, 3) := by decide +kernel
theorem dX2_jointCalled_26 : decode cX2_jointCalled 26 = .ok (.goto (-24), 3) := by decide +kernel
theorem dX2_jointCalled_29 : decode cX2_jointCalled 29 = .ok (.iconst (-1), 1) := by decide +kernel
theorem dX2_jointCalled_30 : decode cX2_jointCalled 30 = .ok (.ireturn, 1) := by decide +kernel
theorem dX2_addJoint_0 : decode cX2_addJoint 0 = .ok (.aload_n 0, 1) := by decide +kernel
theorem dX2_addJoint_1 : decode cX2_addJoint 1 = .ok (.getfield 40, 3) := by decide +kernel
theorem dX2_addJoint_4 : decode cX2_addJoint 4 = .ok (.bipush 9, 2) := by decide +kernel
theorem dX2_addJoint_6 : decode cX2_addJoint 6 = .ok (.if_icmp .ge 44, 3) := by decide +kernel
theorem dX2_addJoint_9 : decode cX2_addJoint 9 = .ok (.aload_n 0, 1) := by decide +kernel
theorem dX2_addJoint_10 : decode cX2_addJoint 10 = .ok (.getfield 9, 3) := by decide +kernel
theorem dX2_addJoint_13 : decode cX2_addJoint 13 = .ok (.aload_n 0, 1) := by decide +kernel
theorem dX2_addJoint_14 : decode cX2_addJoint 14 = .ok (.getfield 40, 3) := by decide +kernel
theorem dX2_addJoint_17 : decode cX2_addJoint 17 = .ok (.lload_n 1, 1) := by decide +kernel
theorem dX2_addJoint_18 : decode cX2_addJoint 18 = .ok (.lastore, 1) := by decide +kernel
theorem dX2_addJoint_19 : decode cX2_addJoint 19 = .ok (.aload_n 0, 1) := by decide +kernel
theorem dX2_addJoint_20 : decode cX2_addJoint 20 = .ok (.getfield 15, 3) := by decide +kernel
theorem dX2_addJoint_23 : decode cX2_addJoint 23 = .ok (.aload_n 0, 1) := by decide +kernel
theorem dX2_addJoint_24 : decode cX2_addJoint 24 = .ok (.getfield 40, 3) := by decide +kernel
theorem dX2_addJoint_27 : decode cX2_addJoint 27 = .ok (.iload_n 3, 1) := by decide +kernel
theorem dX2_addJoint_28 : decode cX2_addJoint 28 = .ok (.iastore, 1) := by decide +kernel
theorem dX2_addJoint_29 : decode cX2_addJoint 29 = .ok (.aload_n 0, 1) := by decide +kernel
theorem dX2_addJoint_30 : decode cX2_addJoint 30 = .ok (.getfield 19, 3) := by decide +kernel
theorem dX2_addJoint_33 : decode cX2_addJoint 33 = .ok (.aload_n 0, 1) := by decide +kernel
theorem dX2_addJoint_34 : decode cX2_addJoint 34 = .ok (.getfield 40, 3) := by decide +kernel
theorem dX2_addJoint_37 : decode cX2_addJoint 37 = .ok (.iload 4, 2) := by decide +kernel
theorem dX2_addJoint_39 : decode cX2_addJoint 39 = .ok (.iastore, 1) := by decide +kernel
theorem dX2_addJoint_40 : decode cX2_addJoint 40 = .ok (.aload_n 0, 1) := by decide +kernel
theorem dX2_addJoint_41 : decode cX2_addJoint 41 = .ok (.dup, 1) := by decide +kernel
theorem dX2_addJoint_42 : decode cX2_addJoint 42 = .ok (.getfield 40, 3) := by decide +kernel
theorem dX2_addJoint_45 : decode cX2_addJoint 45 = .ok (.iconst 1, 1) := by decide +kernel
theorem dX2_addJoint_46 : decode cX2_addJoint 46 = .ok (.iadd, 1) := by decide +kernel
theorem dX2_addJoint_47 : decode cX2_addJoint 47 = .ok (.putfield 40, 3) := by decide +kernel
theorem dX2_addJoint_50 : decode cX2_addJoint 50 = .ok (.return_, 1) := by decide +kernel
theorem dX2_addEdge_0 : decode cX2_addEdge 0 = .ok (.aload_n 0, 1) := by decide +kernel
theorem dX2_addEdge_1 : decode cX2_addEdge 1 = .ok (.getfield 44, 3) := by decide +kernel
theorem dX2_addEdge_4 : decode cX2_addEdge 4 = .ok (.bipush 14, 2) := by decide +kernel
theorem dX2_addEdge_6 : decode cX2_addEdge 6 = .ok (.if_icmp .ge 64, 3) := by decide +kernel
theorem dX2_addEdge_9 : decode cX2_addEdge 9 = .ok (.aload_n 0, 1) := by decide +kernel
theorem dX2_addEdge_10 : decode cX2_addEdge 10 = .ok (.getfield 28, 3) := by decide +kernel
theorem dX2_addEdge_13 : decode cX2_addEdge 13 = .ok (.aload_n 0, 1) := by decide +kernel
theorem dX2_addEdge_14 : decode cX2_addEdge 14 = .ok (.getfield 44, 3) := by decide +kernel
theorem dX2_addEdge_17 : decode cX2_addEdge 17 = .ok (.iload_n 1, 1) := by decide +kernel
theorem dX2_addEdge_18 : decode cX2_addEdge 18 = .ok (.iastore, 1) := by decide +kernel
theorem dX2_addEdge_19 : decode cX2_addEdge 19 = .ok (.aload_n 0, 1) := by decide +kernel
theorem dX2_addEdge_20 : decode cX2_addEdge 20 = .ok (.getfield 22, 3) := by decide +kernel
theorem dX2_addEdge_23 : decode cX2_addEdge 23 = .ok (.aload_n 0, 1) := by decide +kernel
theorem dX2_addEdge_24 : decode cX2_addEdge 24 = .ok (.getfield 44, 3) := by decide +kernel
theorem dX2_addEdge_27 : decode cX2_addEdge 27 = .ok (.iload_n 2, 1) := by decide +kernel
theorem dX2_addEdge_28 : decode cX2_addEdge 28 = .ok (.iastore, 1) := by decide +kernel
theorem dX2_addEdge_29 : decode cX2_addEdge 29 = .ok (.aload_n 0, 1) := by decide +kernel
theorem dX2_addEdge_30 : decode cX2_addEdge 30 = .ok (.getfield 25, 3) := by decide +kernel
theorem dX2_addEdge_33 : decode cX2_addEdge 33 = .ok (.aload_n 0, 1) := by decide +kernel
theorem dX2_addEdge_34 : decode cX2_addEdge 34 = .ok (.getfield 44, 3) := by decide +kernel
theorem dX2_addEdge_37 : decode cX2_addEdge 37 = .ok (.iload_n 3, 1) := by decide +kernel
theorem dX2_addEdge_38 : decode cX2_addEdge 38 = .ok (.iastore, 1) := by decide +kernel
theorem dX2_addEdge_39 : decode cX2_addEdge 39 = .ok (.aload_n 0, 1) := by decide +kernel
theorem dX2_addEdge_40 : decode cX2_addEdge 40 = .ok (.getfield 31, 3) := by decide +kernel
theorem dX2_addEdge_43 : decode cX2_addEdge 43 = .ok (.aload_n 0, 1) := by decide +kernel
theorem dX2_addEdge_44 : decode cX2_addEdge 44 = .ok (.getfield 44, 3) := by decide +kernel
theorem dX2_addEdge_47 : decode cX2_addEdge 47 = .ok (.iload 4, 2) := by decide +kernel
theorem dX2_addEdge_49 : decode cX2_addEdge 49 = .ok (.iastore, 1) := by decide +kernel
theorem dX2_addEdge_50 : decode cX2_addEdge 50 = .ok (.aload_n 0, 1) := by decide +kernel
theorem dX2_addEdge_51 : decode cX2_addEdge 51 = .ok (.getfield 34, 3) := by decide +kernel
theorem dX2_addEdge_54 : decode cX2_addEdge 54 = .ok (.aload_n 0, 1) := by decide +kernel
theorem dX2_addEdge_55 : decode cX2_addEdge 55 = .ok (.getfield 44, 3) := by decide +kernel
theorem dX2_addEdge_58 : decode cX2_addEdge 58 = .ok (.iconst 0, 1) := by decide +kernel
theorem dX2_addEdge_59 : decode cX2_addEdge 59 = .ok (.iastore, 1) := by decide +kernel
theorem dX2_addEdge_60 : decode cX2_addEdge 60 = .ok (.aload_n 0, 1) := by decide +kernel
theorem dX2_addEdge_61 : decode cX2_addEdge 61 = .ok (.dup, 1) := by decide +kernel
theorem dX2_addEdge_62 : decode cX2_addEdge 62 = .ok (.getfield 44, 3) := by decide +kernel
theorem dX2_addEdge_65 : decode cX2_addEdge 65 = .ok (.iconst 1, 1) := by decide +kernel
theorem dX2_addEdge_66 : decode cX2_addEdge 66 = .ok (.iadd, 1) := by decide +kernel
theorem dX2_addEdge_67 : decode cX2_addEdge 67 = .ok (.putfield 44, 3) := by decide +kernel
theorem dX2_addEdge_70 : decode cX2_addEdge 70 = .ok (.return_, 1) := by decide +kernel
theorem dX2_addLift_0 : decode cX2_addLift 0 = .ok (.aload_n 0, 1) := by decide +kernel
theorem dX2_addLift_1 : decode cX2_addLift 1 = .ok (.getfield 44, 3) := by decide +kernel
theorem dX2_addLift_4 : decode cX2_addLift 4 = .ok (.iconst 1, 1) := by decide +kernel
theorem dX2_addLift_5 : decode cX2_addLift 5 = .ok (.isub, 1) := by decide +kernel
theorem dX2_addLift_6 : decode cX2_addLift 6 = .ok (.istore_n 2, 1) := by decide +kernel
theorem dX2_addLift_7 : decode cX2_addLift 7 = .ok (.iload_n 2, 1) := by decide +kernel
theorem dX2_addLift_8 : decode cX2_addLift 8 = .ok (.ifCond .lt 41, 3) := by decide +kernel
theorem dX2_addLift_11 : decode cX2_addLift 11 = .ok (.aload_n 0, 1) := by decide +kernel
theorem dX2_addLift_12 : decode cX2_addLift 12 = .ok (.getfield 34, 3) := by decide +kernel
theorem dX2_addLift_15 : decode cX2_addLift 15 = .ok (.iload_n 2, 1) := by decide +kernel
theorem dX2_addLift_16 : decode cX2_addLift 16 = .ok (.iaload, 1) := by decide +kernel
theorem dX2_addLift_17 : decode cX2_addLift 17 = .ok (.bipush 6, 2) := by decide +kernel
theorem dX2_addLift_19 : decode cX2_addLift 19 = .ok (.if_icmp .ge 30, 3) := by decide +kernel
theorem dX2_addLift_22 : decode cX2_addLift 22 = .ok (.aload_n 0, 1) := by decide +kernel
theorem dX2_addLift_23 : decode cX2_addLift 23 = .ok (.getfield 37, 3) := by decide +kernel
theorem dX2_addLift_26 : decode cX2_addLift 26 = .ok (.iload_n 2, 1) := by decide +kernel
theorem dX2_addLift_27 : decode cX2_addLift 27 = .ok (.bipush 6, 2) := by decide +kernel
theorem dX2_addLift_29 : decode cX2_addLift 29 = .ok (.imul, 1) := by decide +kernel
theorem dX2_addLift_30 : decode cX2_addLift 30 = .ok (.aload_n 0, 1) := by decide +kernel
theorem dX2_addLift_31 : decode cX2_addLift 31 = .ok (.getfield 34, 3) := by decide +kernel
theorem dX2_addLift_34 : decode cX2_addLift 34 = .ok (.iload_n 2, 1) := by decide +kernel
theorem dX2_addLift_35 : decode cX2_addLift 35 = .ok (.iaload, 1) := by decide +kernel
theorem dX2_addLift_36 : decode cX2_addLift 36 = .ok (.iadd, 1) := by decide +kernel
theorem dX2_addLift_37 : decode cX2_addLift 37 = .ok (.iload_n 1, 1) := by decide +kernel
theorem dX2_addLift_38 : decode cX2_addLift 38 = .ok (.iastore, 1) := by decide +kernel
theorem dX2_addLift_39 : decode cX2_addLift 39 = .ok (.aload_n 0, 1) := by decide +kernel
theorem dX2_addLift_40 : decode cX2_addLift 40 = .ok (.getfield 34, 3) := by decide +kernel
theorem dX2_addLift_43 : decode cX2_addLift 43 = .ok (.iload_n 2, 1) := by decide +kernel
theorem dX2_addLift_44 : decode cX2_addLift 44 = .ok (.dup2, 1) := by decide +kernel
theorem dX2_addLift_45 : decode cX2_addLift 45 = .ok (.iaload, 1) := by decide +kernel
theorem dX2_addLift_46 : decode cX2_addLift 46 = .ok (.iconst 1, 1) := by decide +kernel
theorem dX2_addLift_47 : decode cX2_addLift 47 = .ok (.iadd, 1) := by decide +kernel
theorem dX2_addLift_48 : decode cX2_addLift 48 = .ok (.iastore, 1) := by decide +kernel
theorem dX2_addLift_49 : decode cX2_addLift 49 = .ok (.return_, 1) := by decide +kernel
theorem dX2_scaleDraws_0 : decode cX2_scaleDraws 0 = .ok (.iconst 0, 1) := by decide +kernel
theorem dX2_scaleDraws_1 : decode cX2_scaleDraws 1 = .ok (.istore_n 3, 1) := by decide +kernel
theorem dX2_scaleDraws_2 : decode cX2_scaleDraws 2 = .ok (.iconst 0, 1) := by decide +kernel
theorem dX2_scaleDraws_3 : decode cX2_scaleDraws 3 = .ok (.istore 4, 2) := by decide +kernel
theorem dX2_scaleDraws_5 : decode cX2_scaleDraws 5 = .ok (.iload 4, 2) := by decide +kernel
theorem dX2_scaleDraws_7 : decode cX2_scaleDraws 7 = .ok (.aload_n 0, 1) := by decide +kernel
theorem dX2_scaleDraws_8 : decode cX2_scaleDraws 8 = .ok (.getfield 40, 3) := by decide +kernel
theorem dX2_scaleDraws_11 : decode cX2_scaleDraws 11 = .ok (.if_icmp .ge 54, 3) := by decide +kernel
theorem dX2_scaleDraws_14 : decode cX2_scaleDraws 14 = .ok (.aload_n 1, 1) := by decide +kernel
theorem dX2_scaleDraws_15 : decode cX2_scaleDraws 15 = .ok (.getfield 15, 3) := by decide +kernel
theorem dX2_scaleDraws_18 : decode cX2_scaleDraws 18 = .ok (.iload 4, 2) := by decide +kernel
theorem dX2_scaleDraws_20 : decode cX2_scaleDraws 20 = .ok (.iaload, 1) := by decide +kernel
theorem dX2_scaleDraws_21 : decode cX2_scaleDraws 21 = .ok (.iload_n 2, 1) := by decide +kernel
theorem dX2_scaleDraws_22 : decode cX2_scaleDraws 22 = .ok (.imul, 1) := by decide +kernel
theorem dX2_scaleDraws_23 : decode cX2_scaleDraws 23 = .ok (.bipush 100, 2) := by decide +kernel
theorem dX2_scaleDraws_25 : decode cX2_scaleDraws 25 = .ok (.idiv, 1) := by decide +kernel
theorem dX2_scaleDraws_26 : decode cX2_scaleDraws 26 = .ok (.istore 5, 2) := by decide +kernel
theorem dX2_scaleDraws_28 : decode cX2_scaleDraws 28 = .ok (.iload_n 3, 1) := by decide +kernel
theorem dX2_scaleDraws_29 : decode cX2_scaleDraws 29 = .ok (.ifCond .ne 15, 3) := by decide +kernel
theorem dX2_scaleDraws_32 : decode cX2_scaleDraws 32 = .ok (.iload 5, 2) := by decide +kernel
theorem dX2_scaleDraws_34 : decode cX2_scaleDraws 34 = .ok (.aload_n 0, 1) := by decide +kernel
theorem dX2_scaleDraws_35 : decode cX2_scaleDraws 35 = .ok (.getfield 15, 3) := by decide +kernel
theorem dX2_scaleDraws_38 : decode cX2_scaleDraws 38 = .ok (.iload 4, 2) := by decide +kernel
theorem dX2_scaleDraws_40 : decode cX2_scaleDraws 40 = .ok (.iaload, 1) := by decide +kernel
theorem dX2_scaleDraws_41 : decode cX2_scaleDraws 41 = .ok (.if_icmp .eq 7, 3) := by decide +kernel
theorem dX2_scaleDraws_44 : decode cX2_scaleDraws 44 = .ok (.iconst 1, 1) := by decide +kernel
theorem dX2_scaleDraws_45 : decode cX2_scaleDraws 45 = .ok (.goto 4, 3) := by decide +kernel
theorem dX2_scaleDraws_48 : decode cX2_scaleDraws 48 = .ok (.iconst 0, 1) := by decide +kernel
theorem dX2_scaleDraws_49 : decode cX2_scaleDraws 49 = .ok (.istore_n 3, 1) := by decide +kernel
theorem dX2_scaleDraws_50 : decode cX2_scaleDraws 50 = .ok (.aload_n 0, 1) := by decide +kernel
theorem dX2_scaleDraws_51 : decode cX2_scaleDraws 51 = .ok (.getfield 15, 3) := by decide +kernel
theorem dX2_scaleDraws_54 : decode cX2_scaleDraws 54 = .ok (.iload 4, 2) := by decide +kernel
theorem dX2_scaleDraws_56 : decode cX2_scaleDraws 56 = .ok (.iload 5, 2) := by decide +kernel
theorem dX2_scaleDraws_58 : decode cX2_scaleDraws 58 = .ok (.iastore, 1) := by decide +kernel
theorem dX2_scaleDraws_59 : decode cX2_scaleDraws 59 = .ok (.iinc 4 1, 3) := by decide +kernel
theorem dX2_scaleDraws_62 : decode cX2_scaleDraws 62 = .ok (.goto (-57), 3) := by decide +kernel
theorem dX2_scaleDraws_65 : decode cX2_scaleDraws 65 = .ok (.iload_n 3, 1) := by decide +kernel
theorem dX2_scaleDraws_66 : decode cX2_scaleDraws 66 = .ok (.ireturn, 1) := by decide +kernel
theorem dX2_edgesAt_0 : decode cX2_edgesAt 0 = .ok (.iconst 0, 1) := by decide +kernel
theorem dX2_edgesAt_1 : decode cX2_edgesAt 1 = .ok (.istore_n 2, 1) := by decide +kernel
theorem dX2_edgesAt_2 : decode cX2_edgesAt 2 = .ok (.iconst 0, 1) := by decide +kernel
theorem dX2_edgesAt_3 : decode cX2_edgesAt 3 = .ok (.istore_n 3, 1) := by decide +kernel
theorem dX2_edgesAt_4 : decode cX2_edgesAt 4 = .ok (.iload_n 3, 1) := by decide +kernel
theorem dX2_edgesAt_5 : decode cX2_edgesAt 5 = .ok (.aload_n 0, 1) := by decide +kernel
theorem dX2_edgesAt_6 : decode cX2_edgesAt 6 = .ok (.getfield 44, 3) := by decide +kernel
theorem dX2_edgesAt_9 : decode cX2_edgesAt 9 = .ok (.if_icmp .ge 35, 3) := by decide +kernel
theorem dX2_edgesAt_12 : decode cX2_edgesAt 12 = .ok (.aload_n 0, 1) := by decide +kernel
theorem dX2_edgesAt_13 : decode cX2_edgesAt 13 = .ok (.getfield 22, 3) := by decide +kernel
theorem dX2_edgesAt_16 : decode cX2_edgesAt 16 = .ok (.iload_n 3, 1) := by decide +kernel
theorem dX2_edgesAt_17 : decode cX2_edgesAt 17 = .ok (.iaload, 1) := by decide +kernel
theorem dX2_edgesAt_18 : decode cX2_edgesAt 18 = .ok (.iload_n 1, 1) := by decide +kernel
theorem dX2_edgesAt_19 : decode cX2_edgesAt 19 = .ok (.if_icmp .eq 13, 3) := by decide +kernel
theorem dX2_edgesAt_22 : decode cX2_edgesAt 22 = .ok (.aload_n 0, 1) := by decide +kernel
theorem dX2_edgesAt_23 : decode cX2_edgesAt 23 = .ok (.getfield 25, 3) := by decide +kernel
theorem dX2_edgesAt_26 : decode cX2_edgesAt 26 = .ok (.iload_n 3, 1) := by decide +kernel
theorem dX2_edgesAt_27 : decode cX2_edgesAt 27 = .ok (.iaload, 1) := by decide +kernel
theorem dX2_edgesAt_28 : decode cX2_edgesAt 28 = .ok (.iload_n 1, 1) := by decide +kernel
theorem dX2_edgesAt_29 : decode cX2_edgesAt 29 = .ok (.if_icmp .ne 9, 3) := by decide +kernel
theorem dX2_edgesAt_32 : decode cX2_edgesAt 32 = .ok (.iload_n 2, 1) := by decide +kernel
theorem dX2_edgesAt_33 : decode cX2_edgesAt 33 = .ok (.iconst 1, 1) := by decide +kernel
theorem dX2_edgesAt_34 : decode cX2_edgesAt 34 = .ok (.iload_n 3, 1) := by decide +kernel
theorem dX2_edgesAt_35 : decode cX2_edgesAt 35 = .ok (.ishl, 1) := by decide +kernel
theorem dX2_edgesAt_36 : decode cX2_edgesAt 36 = .ok (.ior, 1) := by decide +kernel
theorem dX2_edgesAt_37 : decode cX2_edgesAt 37 = .ok (.istore_n 2, 1) := by decide +kernel
theorem dX2_edgesAt_38 : decode cX2_edgesAt 38 = .ok (.iinc 3 1, 3) := by decide +kernel
theorem dX2_edgesAt_41 : decode cX2_edgesAt 41 = .ok (.goto (-37), 3) := by decide +kernel
theorem dX2_edgesAt_44 : decode cX2_edgesAt 44 = .ok (.iload_n 2, 1) := by decide +kernel
theorem dX2_edgesAt_45 : decode cX2_edgesAt 45 = .ok (.ireturn, 1) := by decide +kernel
theorem dX2_otherEnd_0 : decode cX2_otherEnd 0 = .ok (.aload_n 0, 1) := by decide +kernel
theorem dX2_otherEnd_1 : decode cX2_otherEnd 1 = .ok (.getfield 22, 3) := by decide +kernel
theorem dX2_otherEnd_4 : decode cX2_otherEnd 4 = .ok (.iload_n 1, 1) := by decide +kernel
theorem dX2_otherEnd_5 : decode cX2_otherEnd 5 = .ok (.iaload, 1) := by decide +kernel
theorem dX2_otherEnd_6 : decode cX2_otherEnd 6 = .ok (.iload_n 2, 1) := by decide +kernel
theorem dX2_otherEnd_7 : decode cX2_otherEnd 7 = .ok (.if_icmp .ne 10, 3) := by decide +kernel
theorem dX2_otherEnd_10 : decode cX2_otherEnd 10 = .ok (.aload_n 0, 1) := by decide +kernel
theorem dX2_otherEnd_11 : decode cX2_otherEnd 11 = .ok (.getfield 25, 3) := by decide +kernel
theorem dX2_otherEnd_14 : decode cX2_otherEnd 14 = .ok (.iload_n 1, 1) := by decide +kernel
theorem dX2_otherEnd_15 : decode cX2_otherEnd 15 = .ok (.iaload, 1) := by decide +kernel
theorem dX2_otherEnd_16 : decode cX2_otherEnd 16 = .ok (.ireturn, 1) := by decide +kernel
theorem dX2_otherEnd_17 : decode cX2_otherEnd 17 = .ok (.aload_n 0, 1) := by decide +kernel
theorem dX2_otherEnd_18 : decode cX2_otherEnd 18 = .ok (.getfield 25, 3) := by decide +kernel
theorem dX2_otherEnd_21 : decode cX2_otherEnd 21 = .ok (.iload_n 1, 1) := by decide +kernel
theorem dX2_otherEnd_22 : decode cX2_otherEnd 22 = .ok (.iaload, 1) := by decide +kernel
theorem dX2_otherEnd_23 : decode cX2_otherEnd 23 = .ok (.iload_n 2, 1) := by decide +kernel
theorem dX2_otherEnd_24 : decode cX2_otherEnd 24 = .ok (.if_icmp .ne 12, 3) := by decide +kernel
theorem dX2_otherEnd_27 : decode cX2_otherEnd 27 = .ok (.aload_n 0, 1) := by decide +kernel
theorem dX2_otherEnd_28 : decode cX2_otherEnd 28 = .ok (.getfield 22, 3) := by decide +kernel
theorem dX2_otherEnd_31 : decode cX2_otherEnd 31 = .ok (.iload_n 1, 1) := by decide +kernel
theorem dX2_otherEnd_32 : decode cX2_otherEnd 32 = .ok (.iaload, 1) := by decide +kernel
theorem dX2_otherEnd_33 : decode cX2_otherEnd 33 = .ok (.goto 4, 3) := by decide +kernel
theorem dX2_otherEnd_36 : decode cX2_otherEnd 36 = .ok (.iconst (-1), 1) := by decide +kernel
theorem dX2_otherEnd_37 : decode cX2_otherEnd 37 = .ok (.ireturn, 1) := by decide +kernel
theorem dX2_isConnected_0 : decode cX2_isConnected 0 = .ok (.iconst 1, 1) := by decide +kernel
theorem dX2_isConnected_1 : decode cX2_isConnected 1 = .ok (.istore_n 1, 1) := by decide +kernel
theorem dX2_isConnected_2 : decode cX2_isConnected 2 = .ok (.iconst 0, 1) := by decide +kernel
theorem dX2_isConnected_3 : decode cX2_isConnected 3 = .ok (.istore_n 2, 1) := by decide +kernel
theorem dX2_isConnected_4 : decode cX2_isConnected 4 = .ok (.iload_n 2, 1) := by decide +kernel
theorem dX2_isConnected_5 : decode cX2_isConnected 5 = .ok (.aload_n 0, 1) := by decide +kernel
theorem dX2_isConnected_6 : decode cX2_isConnected 6 = .ok (.getfield 40, 3) := by decide +kernel
theorem dX2_isConnected_9 : decode cX2_isConnected 9 = .ok (.if_icmp .ge 56, 3) := by decide +kernel
theorem dX2_isConnected_12 : decode cX2_isConnected 12 = .ok (.iconst 0, 1) := by decide +kernel
theorem dX2_isConnected_13 : decode cX2_isConnected 13 = .ok (.istore_n 3, 1) := by decide +kernel
theorem dX2_isConnected_14 : decode cX2_isConnected 14 = .ok (.iload_n 3, 1) := by decide +kernel
theorem dX2_isConnected_15 : decode cX2_isConnected 15 = .ok (.aload_n 0, 1) := by decide +kernel
theorem dX2_isConnected_16 : decode cX2_isConnected 16 = .ok (.getfield 44, 3) := by decide +kernel
theorem dX2_isConnected_19 : decode cX2_isConnected 19 = .ok (.if_icmp .ge 40, 3) := by decide +kernel
theorem dX2_isConnected_22 : decode cX2_isConnected 22 = .ok (.iconst 1, 1) := by decide +kernel
theorem dX2_isConnected_23 : decode cX2_isConnected 23 = .ok (.aload_n 0, 1) := by decide +kernel
theorem dX2_isConnected_24 : decode cX2_isConnected 24 = .ok (.getfield 22, 3) := by decide +kernel
theorem dX2_isConnected_27 : decode cX2_isConnected 27 = .ok (.iload_n 3, 1) := by decide +kernel
theorem dX2_isConnected_28 : decode cX2_isConnected 28 = .ok (.iaload, 1) := by decide +kernel
theorem dX2_isConnected_29 : decode cX2_isConnected 29 = .ok (.ishl, 1) := by decide +kernel
theorem dX2_isConnected_30 : decode cX2_isConnected 30 = .ok (.iconst 1, 1) := by decide +kernel
theorem dX2_isConnected_31 : decode cX2_isConnected 31 = .ok (.aload_n 0, 1) := by decide +kernel
theorem dX2_isConnected_32 : decode cX2_isConnected 32 = .ok (.getfield 25, 3) := by decide +kernel
theorem dX2_isConnected_35 : decode cX2_isConnected 35 = .ok (.iload_n 3, 1) := by decide +kernel
theorem dX2_isConnected_36 : decode cX2_isConnected 36 = .ok (.iaload, 1) := by decide +kernel
theorem dX2_isConnected_37 : decode cX2_isConnected 37 = .ok (.ishl, 1) := by decide +kernel
theorem dX2_isConnected_38 : decode cX2_isConnected 38 = .ok (.ior, 1) := by decide +kernel
theorem dX2_isConnected_39 : decode cX2_isConnected 39 = .ok (.istore 4, 2) := by decide +kernel
theorem dX2_isConnected_41 : decode cX2_isConnected 41 = .ok (.iload_n 1, 1) := by decide +kernel
theorem dX2_isConnected_42 : decode cX2_isConnected 42 = .ok (.iload 4, 2) := by decide +kernel
theorem dX2_isConnected_44 : decode cX2_isConnected 44 = .ok (.iand, 1) := by decide +kernel
theorem dX2_isConnected_45 : decode cX2_isConnected 45 = .ok (.ifCond .eq 8, 3) := by decide +kernel
theorem dX2_isConnected_48 : decode cX2_isConnected 48 = .ok (.iload_n 1, 1) := by decide +kernel
theorem dX2_isConnected_49 : decode cX2_isConnected 49 = .ok (.iload 4, 2) := by decide +kernel
theorem dX2_isConnected_51 : decode cX2_isConnected 51 = .ok (.ior, 1) := by decide +kernel
theorem dX2_isConnected_52 : decode cX2_isConnected 52 = .ok (.istore_n 1, 1) := by decide +kernel
theorem dX2_isConnected_53 : decode cX2_isConnected 53 = .ok (.iinc 3 1, 3) := by decide +kernel
theorem dX2_isConnected_56 : decode cX2_isConnected 56 = .ok (.goto (-42), 3) := by decide +kernel
theorem dX2_isConnected_59 : decode cX2_isConnected 59 = .ok (.iinc 2 1, 3) := by decide +kernel
theorem dX2_isConnected_62 : decode cX2_isConnected 62 = .ok (.goto (-58), 3) := by decide +kernel
theorem dX2_isConnected_65 : decode cX2_isConnected 65 = .ok (.iload_n 1, 1) := by decide +kernel
theorem dX2_isConnected_66 : decode cX2_isConnected 66 = .ok (.iconst 1, 1) := by decide +kernel
theorem dX2_isConnected_67 : decode cX2_isConnected 67 = .ok (.aload_n 0, 1) := by decide +kernel
theorem dX2_isConnected_68 : decode cX2_isConnected 68 = .ok (.getfield 40, 3) := by decide +kernel
theorem dX2_isConnected_71 : decode cX2_isConnected 71 = .ok (.ishl, 1) := by decide +kernel
theorem dX2_isConnected_72 : decode cX2_isConnected 72 = .ok (.iconst 1, 1) := by decide +kernel
theorem dX2_isConnected_73 : decode cX2_isConnected 73 = .ok (.isub, 1) := by decide +kernel
theorem dX2_isConnected_74 : decode cX2_isConnected 74 = .ok (.if_icmp .ne 7, 3) := by decide +kernel
theorem dX2_isConnected_77 : decode cX2_isConnected 77 = .ok (.iconst 1, 1) := by decide +kernel
theorem dX2_isConnected_78 : decode cX2_isConnected 78 = .ok (.goto 4, 3) := by decide +kernel
theorem dX2_isConnected_81 : decode cX2_isConnected 81 = .ok (.iconst 0, 1) := by decide +kernel
theorem dX2_isConnected_82 : decode cX2_isConnected 82 = .ok (.ireturn, 1) := by decide +kernel
theorem dX2_lossBy_0 : decode cX2_lossBy 0 = .ok (.aload_n 0, 1) := by decide +kernel
theorem dX2_lossBy_1 : decode cX2_lossBy 1 = .ok (.getfield 28, 3) := by decide +kernel
theorem dX2_lossBy_4 : decode cX2_lossBy 4 = .ok (.iload_n 1, 1) := by decide +kernel
theorem dX2_lossBy_5 : decode cX2_lossBy 5 = .ok (.iaload, 1) := by decide +kernel
theorem dX2_lossBy_6 : decode cX2_lossBy 6 = .ok (.iconst 2, 1) := by decide +kernel
theorem dX2_lossBy_7 : decode cX2_lossBy 7 = .ok (.if_icmp .eq 18, 3) := by decide +kernel
theorem dX2_lossBy_10 : decode cX2_lossBy 10 = .ok (.aload_n 0, 1) := by decide +kernel
theorem dX2_lossBy_11 : decode cX2_lossBy 11 = .ok (.getfield 31, 3) := by decide +kernel
theorem dX2_lossBy_14 : decode cX2_lossBy 14 = .ok (.iload_n 1, 1) := by decide +kernel
theorem dX2_lossBy_15 : decode cX2_lossBy 15 = .ok (.iaload, 1) := by decide +kernel
theorem dX2_lossBy_16 : decode cX2_lossBy 16 = .ok (.i2l, 1) := by decide +kernel
theorem dX2_lossBy_17 : decode cX2_lossBy 17 = .ok (.lload_n 2, 1) := by decide +kernel
theorem dX2_lossBy_18 : decode cX2_lossBy 18 = .ok (.lmul, 1) := by decide +kernel
theorem dX2_lossBy_19 : decode cX2_lossBy 19 = .ok (.lload_n 2, 1) := by decide +kernel
theorem dX2_lossBy_20 : decode cX2_lossBy 20 = .ok (.invokestatic 59, 3) := by decide +kernel
theorem dX2_lossBy_23 : decode cX2_lossBy 23 = .ok (.lmul, 1) := by decide +kernel
theorem dX2_lossBy_24 : decode cX2_lossBy 24 = .ok (.lreturn, 1) := by decide +kernel
theorem dX2_lossBy_25 : decode cX2_lossBy 25 = .ok (.lload_n 2, 1) := by decide +kernel
theorem dX2_lossBy_26 : decode cX2_lossBy 26 = .ok (.lconst 0, 1) := by decide +kernel
theorem dX2_lossBy_27 : decode cX2_lossBy 27 = .ok (.lcmp, 1) := by decide +kernel
theorem dX2_lossBy_28 : decode cX2_lossBy 28 = .ok (.ifCond .ge 7, 3) := by decide +kernel
theorem dX2_lossBy_31 : decode cX2_lossBy 31 = .ok (.lconst 0, 1) := by decide +kernel
theorem dX2_lossBy_32 : decode cX2_lossBy 32 = .ok (.goto 8, 3) := by decide +kernel
theorem dX2_lossBy_35 : decode cX2_lossBy 35 = .ok (.lload_n 2, 1) := by decide +kernel
theorem dX2_lossBy_36 : decode cX2_lossBy 36 = .ok (.ldc2_w 65, 3) := by decide +kernel
theorem dX2_lossBy_39 : decode cX2_lossBy 39 = .ok (.ldiv, 1) := by decide +kernel
theorem dX2_lossBy_40 : decode cX2_lossBy 40 = .ok (.lstore 4, 2) := by decide +kernel
theorem dX2_lossBy_42 : decode cX2_lossBy 42 = .ok (.lload 4, 2) := by decide +kernel
theorem dX2_lossBy_44 : decode cX2_lossBy 44 = .ok (.aload_n 0, 1) := by decide +kernel
theorem dX2_lossBy_45 : decode cX2_lossBy 45 = .ok (.getfield 34, 3) := by decide +kernel
theorem dX2_lossBy_48 : decode cX2_lossBy 48 = .ok (.iload_n 1, 1) := by decide +kernel
theorem dX2_lossBy_49 : decode cX2_lossBy 49 = .ok (.iaload, 1) := by decide +kernel
theorem dX2_lossBy_50 : decode cX2_lossBy 50 = .ok (.i2l, 1) := by decide +kernel
theorem dX2_lossBy_51 : decode cX2_lossBy 51 = .ok (.lcmp, 1) := by decide +kernel
theorem dX2_lossBy_52 : decode cX2_lossBy 52 = .ok (.ifCond .ge 24, 3) := by decide +kernel
theorem dX2_lossBy_55 : decode cX2_lossBy 55 = .ok (.ldc2_w 67, 3) := by decide +kernel
theorem dX2_lossBy_58 : decode cX2_lossBy 58 = .ok (.aload_n 0, 1) := by decide +kernel
theorem dX2_lossBy_59 : decode cX2_lossBy 59 = .ok (.getfield 37, 3) := by decide +kernel
theorem dX2_lossBy_62 : decode cX2_lossBy 62 = .ok (.iload_n 1, 1) := by decide +kernel
theorem dX2_lossBy_63 : decode cX2_lossBy 63 = .ok (.bipush 6, 2) := by decide +kernel
theorem dX2_lossBy_65 : decode cX2_lossBy 65 = .ok (.imul, 1) := by decide +kernel
theorem dX2_lossBy_66 : decode cX2_lossBy 66 = .ok (.lload 4, 2) := by decide +kernel
theorem dX2_lossBy_68 : decode cX2_lossBy 68 = .ok (.l2i, 1) := by decide +kernel
theorem dX2_lossBy_69 : decode cX2_lossBy 69 = .ok (.iadd, 1) := by decide +kernel
theorem dX2_lossBy_70 : decode cX2_lossBy 70 = .ok (.iaload, 1) := by decide +kernel
theorem dX2_lossBy_71 : decode cX2_lossBy 71 = .ok (.i2l, 1) := by decide +kernel
theorem dX2_lossBy_72 : decode cX2_lossBy 72 = .ok (.lmul, 1) := by decide +kernel
theorem dX2_lossBy_73 : decode cX2_lossBy 73 = .ok (.goto 4, 3) := by decide +kernel
theorem dX2_lossBy_76 : decode cX2_lossBy 76 = .ok (.lconst 0, 1) := by decide +kernel
theorem dX2_lossBy_77 : decode cX2_lossBy 77 = .ok (.lreturn, 1) := by decide +kernel
theorem dX2_steepBy_0 : decode cX2_steepBy 0 = .ok (.aload_n 0, 1) := by decide +kernel
theorem dX2_steepBy_1 : decode cX2_steepBy 1 = .ok (.getfield 28, 3) := by decide +kernel
theorem dX2_steepBy_4 : decode cX2_steepBy 4 = .ok (.iload_n 1, 1) := by decide +kernel
theorem dX2_steepBy_5 : decode cX2_steepBy 5 = .ok (.iaload, 1) := by decide +kernel
theorem dX2_steepBy_6 : decode cX2_steepBy 6 = .ok (.iconst 2, 1) := by decide +kernel
theorem dX2_steepBy_7 : decode cX2_steepBy 7 = .ok (.if_icmp .ne 7, 3) := by decide +kernel
theorem dX2_steepBy_10 : decode cX2_steepBy 10 = .ok (.lconst 1, 1) := by decide +kernel
theorem dX2_steepBy_11 : decode cX2_steepBy 11 = .ok (.goto 21, 3) := by decide +kernel
theorem dX2_steepBy_14 : decode cX2_steepBy 14 = .ok (.aload_n 0, 1) := by decide +kernel
theorem dX2_steepBy_15 : decode cX2_steepBy 15 = .ok (.getfield 31, 3) := by decide +kernel
theorem dX2_steepBy_18 : decode cX2_steepBy 18 = .ok (.iload_n 1, 1) := by decide +kernel
theorem dX2_steepBy_19 : decode cX2_steepBy 19 = .ok (.iaload, 1) := by decide +kernel
theorem dX2_steepBy_20 : decode cX2_steepBy 20 = .ok (.i2l, 1) := by decide +kernel
theorem dX2_steepBy_21 : decode cX2_steepBy 21 = .ok (.ldc2_w 69, 3) := by decide +kernel
theorem dX2_steepBy_24 : decode cX2_steepBy 24 = .ok (.lload_n 2, 1) := by decide +kernel
theorem dX2_steepBy_25 : decode cX2_steepBy 25 = .ok (.invokestatic 59, 3) := by decide +kernel
theorem dX2_steepBy_28 : decode cX2_steepBy 28 = .ok (.lmul, 1) := by decide +kernel
theorem dX2_steepBy_29 : decode cX2_steepBy 29 = .ok (.lconst 1, 1) := by decide +kernel
theorem dX2_steepBy_30 : decode cX2_steepBy 30 = .ok (.ladd, 1) := by decide +kernel
theorem dX2_steepBy_31 : decode cX2_steepBy 31 = .ok (.lmul, 1) := by decide +kernel
theorem dX2_steepBy_32 : decode cX2_steepBy 32 = .ok (.lreturn, 1) := by decide +kernel
end
section
theorem dX3_init_0 : decode cX3_init 0 = .ok (.aload_n 0, 1) := by decide +kernel
theorem dX3_init_1 : decode cX3_init 1 = .ok (.invokespecial 3, 3) := by decide +kernel
theorem dX3_init_4 : decode cX3_init 4 = .ok (.aload_n 0, 1) := by decide +kernel
theorem dX3_init_5 : decode cX3_init 5 = .ok (.new 9, 3) := by decide +kernel
theorem dX3_init_8 : decode cX3_init 8 = .ok (.dup, 1) := by decide +kernel
theorem dX3_init_9 : decode cX3_init 9 = .ok (.invokespecial 11, 3) := by decide +kernel
theorem dX3_init_12 : decode cX3_init 12 = .ok (.putfield 12, 3) := by decide +kernel
theorem dX3_init_15 : decode cX3_init 15 = .ok (.aload_n 0, 1) := by decide +kernel
theorem dX3_init_16 : decode cX3_init 16 = .ok (.iconst 0, 1) := by decide +kernel
theorem dX3_init_17 : decode cX3_init 17 = .ok (.newarray .byte, 2) := by decide +kernel
theorem dX3_init_19 : decode cX3_init 19 = .ok (.putfield 18, 3) := by decide +kernel
theorem dX3_init_22 : decode cX3_init 22 = .ok (.return_, 1) := by decide +kernel
theorem dX3_readText_0 : decode cX3_readText 0 = .ok (.aload_n 0, 1) := by decide +kernel
theorem dX3_readText_1 : decode cX3_readText 1 = .ok (.aload_n 1, 1) := by decide +kernel
theorem dX3_readText_2 : decode cX3_readText 2 = .ok (.putfield 18, 3) := by decide +kernel
theorem dX3_readText_5 : decode cX3_readText 5 = .ok (.aload_n 0, 1) := by decide +kernel
theorem dX3_readText_6 : decode cX3_readText 6 = .ok (.iload_n 2, 1) := by decide +kernel
theorem dX3_readText_7 : decode cX3_readText 7 = .ok (.putfield 22, 3) := by decide +kernel
theorem dX3_readText_10 : decode cX3_readText 10 = .ok (.aload_n 0, 1) := by decide +kernel
theorem dX3_readText_11 : decode cX3_readText 11 = .ok (.iconst 0, 1) := by decide +kernel
theorem dX3_readText_12 : decode cX3_readText 12 = .ok (.putfield 26, 3) := by decide +kernel
theorem dX3_readText_15 : decode cX3_readText 15 = .ok (.aload_n 0, 1) := by decide +kernel
theorem dX3_readText_16 : decode cX3_readText 16 = .ok (.iconst 0, 1) := by decide +kernel
theorem dX3_readText_17 : decode cX3_readText 17 = .ok (.putfield 29, 3) := by decide +kernel
theorem dX3_readText_20 : decode cX3_readText 20 = .ok (.aload_n 0, 1) := by decide +kernel
theorem dX3_readText_21 : decode cX3_readText 21 = .ok (.getfield 12, 3) := by decide +kernel
theorem dX3_readText_24 : decode cX3_readText 24 = .ok (.invokevirtual 32, 3) := by decide +kernel
theorem dX3_readText_27 : decode cX3_readText 27 = .ok (.aload_n 0, 1) := by decide +kernel
theorem dX3_readText_28 : decode cX3_readText 28 = .ok (.invokevirtual 35, 3) := by decide +kernel
theorem dX3_readText_31 : decode cX3_readText 31 = .ok (.aload_n 0, 1) := by decide +kernel
theorem dX3_readText_32 : decode cX3_readText 32 = .ok (.invokevirtual 38, 3) := by decide +kernel
theorem dX3_readText_35 : decode cX3_readText 35 = .ok (.istore_n 3, 1) := by decide +kernel
theorem dX3_readText_36 : decode cX3_readText 36 = .ok (.iconst 0, 1) := by decide +kernel
theorem dX3_readText_37 : decode cX3_readText 37 = .ok (.istore 4, 2) := by decide +kernel
theorem dX3_readText_39 : decode cX3_readText 39 = .ok (.iload 4, 2) := by decide +kernel
theorem dX3_readText_41 : decode cX3_readText 41 = .ok (.sipush 600, 3) := by decide +kernel
theorem dX3_readText_44 : decode cX3_readText 44 = .ok (.if_icmp .ge 30, 3) := by decide +kernel
theorem dX3_readText_47 : decode cX3_readText 47 = .ok (.iload_n 3, 1) := by decide +kernel
theorem dX3_readText_48 : decode cX3_readText 48 = .ok (.ifCond .eq 26, 3) := by decide +kernel
theorem dX3_readText_51 : decode cX3_readText 51 = .ok (.aload_n 0, 1) := by decide +kernel
theorem dX3_readText_52 : decode cX3_readText 52 = .ok (.getfield 42, 3) := by decide +kernel
theorem dX3_readText_55 : decode cX3_readText 55 = .ok (.iconst 3, 1) := by decide +kernel
theorem dX3_readText_56 : decode cX3_readText 56 = .ok (.if_icmp .ne 18, 3) := by decide +kernel
theorem dX3_readText_59 : decode cX3_readText 59 = .ok (.aload_n 0, 1) := by decide +kernel
theorem dX3_readText_60 : decode cX3_readText 60 = .ok (.invokevirtual 35, 3) := by decide +kernel
theorem dX3_readText_63 : decode cX3_readText 63 = .ok (.aload_n 0, 1) := by decide +kernel
theorem dX3_readText_64 : decode cX3_readText 64 = .ok (.invokevirtual 45, 3) := by decide +kernel
theorem dX3_readText_67 : decode cX3_readText 67 = .ok (.istore_n 3, 1) := by decide +kernel
theorem dX3_readText_68 : decode cX3_readText 68 = .ok (.iinc 4 1, 3) := by decide +kernel
theorem dX3_readText_71 : decode cX3_readText 71 = .ok (.goto (-32), 3) := by decide +kernel
theorem dX3_readText_74 : decode cX3_readText 74 = .ok (.iload_n 3, 1) := by decide +kernel
theorem dX3_readText_75 : decode cX3_readText 75 = .ok (.ifCond .eq 7, 3) := by decide +kernel
theorem dX3_readText_78 : decode cX3_readText 78 = .ok (.aload_n 0, 1) := by decide +kernel
theorem dX3_readText_79 : decode cX3_readText 79 = .ok (.invokevirtual 48, 3) := by decide +kernel
theorem dX3_readText_82 : decode cX3_readText 82 = .ok (.aload_n 0, 1) := by decide +kernel
theorem dX3_readText_83 : decode cX3_readText 83 = .ok (.getfield 29, 3) := by decide +kernel
theorem dX3_readText_86 : decode cX3_readText 86 = .ok (.ireturn, 1) := by decide +kernel
theorem dX3_readEnd_0 : decode cX3_readEnd 0 = .ok (.aload_n 0, 1) := by decide +kernel
theorem dX3_readEnd_1 : decode cX3_readEnd 1 = .ok (.getfield 42, 3) := by decide +kernel
theorem dX3_readEnd_4 : decode cX3_readEnd 4 = .ok (.ifCond .eq 12, 3) := by decide +kernel
theorem dX3_readEnd_7 : decode cX3_readEnd 7 = .ok (.aload_n 0, 1) := by decide +kernel
theorem dX3_readEnd_8 : decode cX3_readEnd 8 = .ok (.iconst 1, 1) := by decide +kernel
theorem dX3_readEnd_9 : decode cX3_readEnd 9 = .ok (.invokevirtual 51, 3) := by decide +kernel
theorem dX3_readEnd_12 : decode cX3_readEnd 12 = .ok (.pop, 1) := by decide +kernel
theorem dX3_readEnd_13 : decode cX3_readEnd 13 = .ok (.goto 30, 3) := by decide +kernel
theorem dX3_readEnd_16 : decode cX3_readEnd 16 = .ok (.aload_n 0, 1) := by decide +kernel
theorem dX3_readEnd_17 : decode cX3_readEnd 17 = .ok (.getfield 12, 3) := by decide +kernel
theorem dX3_readEnd_20 : decode cX3_readEnd 20 = .ok (.getfield 55, 3) := by decide +kernel
theorem dX3_readEnd_23 : decode cX3_readEnd 23 = .ok (.iconst 2, 1) := by decide +kernel
theorem dX3_readEnd_24 : decode cX3_readEnd 24 = .ok (.if_icmp .lt 13, 3) := by decide +kernel
theorem dX3_readEnd_27 : decode cX3_readEnd 27 = .ok (.aload_n 0, 1) := by decide +kernel
theorem dX3_readEnd_28 : decode cX3_readEnd 28 = .ok (.getfield 12, 3) := by decide +kernel
theorem dX3_readEnd_31 : decode cX3_readEnd 31 = .ok (.invokevirtual 58, 3) := by decide +kernel
theorem dX3_readEnd_34 : decode cX3_readEnd 34 = .ok (.ifCond .ne 9, 3) := by decide +kernel
theorem dX3_readEnd_37 : decode cX3_readEnd 37 = .ok (.aload_n 0, 1) := by decide +kernel
theorem dX3_readEnd_38 : decode cX3_readEnd 38 = .ok (.iconst 5, 1) := by decide +kernel
theorem dX3_readEnd_39 : decode cX3_readEnd 39 = .ok (.invokevirtual 51, 3) := by decide +kernel
theorem dX3_readEnd_42 : decode cX3_readEnd 42 = .ok (.pop, 1) := by decide +kernel
theorem dX3_readEnd_43 : decode cX3_readEnd 43 = .ok (.return_, 1) := by decide +kernel
theorem dX3_readWell_0 : decode cX3_readWell 0 = .ok (.aload_n 0, 1) := by decide +kernel
theorem dX3_readWell_1 : decode cX3_readWell 1 = .ok (.ldc2_w 61, 3) := by decide +kernel
theorem dX3_readWell_4 : decode cX3_readWell 4 = .ok (.invokevirtual 63, 3) := by decide +kernel
theorem dX3_readWell_7 : decode cX3_readWell 7 = .ok (.ifCond .eq 21, 3) := by decide +kernel
theorem dX3_readWell_10 : decode cX3_readWell 10 = .ok (.aload_n 0, 1) := by decide +kernel
theorem dX3_readWell_11 : decode cX3_readWell 11 = .ok (.invokevirtual 67, 3) := by decide +kernel
theorem dX3_readWell_14 : decode cX3_readWell 14 = .ok (.ifCond .eq 14, 3) := by decide +kernel
theorem dX3_readWell_17 : decode cX3_readWell 17 = .ok (.aload_n 0, 1) := by decide +kernel
theorem dX3_readWell_18 : decode cX3_readWell 18 = .ok (.iconst 0, 1) := by decide +kernel
theorem dX3_readWell_19 : decode cX3_readWell 19 = .ok (.sipush 999, 3) := by decide +kernel
theorem dX3_readWell_22 : decode cX3_readWell 22 = .ok (.invokevirtual 70, 3) := by decide +kernel
theorem dX3_readWell_25 : decode cX3_readWell 25 = .ok (.ifCond .ne 5, 3) := by decide +kernel
theorem dX3_readWell_28 : decode cX3_readWell 28 = .ok (.iconst 0, 1) := by decide +kernel
theorem dX3_readWell_29 : decode cX3_readWell 29 = .ok (.ireturn, 1) := by decide +kernel
theorem dX3_readWell_30 : decode cX3_readWell 30 = .ok (.aload_n 0, 1) := by decide +kernel
theorem dX3_readWell_31 : decode cX3_readWell 31 = .ok (.getfield 12, 3) := by decide +kernel
theorem dX3_readWell_34 : decode cX3_readWell 34 = .ok (.aload_n 0, 1) := by decide +kernel
theorem dX3_readWell_35 : decode cX3_readWell 35 = .ok (.getfield 74, 3) := by decide +kernel
theorem dX3_readWell_38 : decode cX3_readWell 38 = .ok (.putfield 77, 3) := by decide +kernel
theorem dX3_readWell_41 : decode cX3_readWell 41 = .ok (.aload_n 0, 1) := by decide +kernel
theorem dX3_readWell_42 : decode cX3_readWell 42 = .ok (.getfield 12, 3) := by decide +kernel
theorem dX3_readWell_45 : decode cX3_readWell 45 = .ok (.aload_n 0, 1) := by decide +kernel
theorem dX3_readWell_46 : decode cX3_readWell 46 = .ok (.getfield 80, 3) := by decide +kernel
theorem dX3_readWell_49 : decode cX3_readWell 49 = .ok (.iconst 0, 1) := by decide +kernel
theorem dX3_readWell_50 : decode cX3_readWell 50 = .ok (.iconst 0, 1) := by decide +kernel
theorem dX3_readWell_51 : decode cX3_readWell 51 = .ok (.invokevirtual 84, 3) := by decide +kernel
theorem dX3_readWell_54 : decode cX3_readWell 54 = .ok (.aload_n 0, 1) := by decide +kernel
theorem dX3_readWell_55 : decode cX3_readWell 55 = .ok (.invokevirtual 35, 3) := by decide +kernel
theorem dX3_readWell_58 : decode cX3_readWell 58 = .ok (.iconst 1, 1) := by decide +kernel
theorem dX3_readWell_59 : decode cX3_readWell 59 = .ok (.ireturn, 1) := by decide +kernel
theorem dX3_readLine_0 : decode cX3_readLine 0 = .ok (.aload_n 0, 1) := by decide +kernel
theorem dX3_readLine_1 : decode cX3_readLine 1 = .ok (.getfield 42, 3) := by decide +kernel
theorem dX3_readLine_4 : decode cX3_readLine 4 = .ok (.iconst 1, 1) := by decide +kernel
theorem dX3_readLine_5 : decode cX3_readLine 5 = .ok (.if_icmp .eq 9, 3) := by decide +kernel
theorem dX3_readLine_8 : decode cX3_readLine 8 = .ok (.aload_n 0, 1) := by decide +kernel
theorem dX3_readLine_9 : decode cX3_readLine 9 = .ok (.iconst 1, 1) := by decide +kernel
theorem dX3_readLine_10 : decode cX3_readLine 10 = .ok (.invokevirtual 51, 3) := by decide +kernel
theorem dX3_readLine_13 : decode cX3_readLine 13 = .ok (.ireturn, 1) := by decide +kernel
theorem dX3_readLine_14 : decode cX3_readLine 14 = .ok (.aload_n 0, 1) := by decide +kernel
theorem dX3_readLine_15 : decode cX3_readLine 15 = .ok (.getfield 88, 3) := by decide +kernel
theorem dX3_readLine_18 : decode cX3_readLine 18 = .ok (.ldc2_w 91, 3) := by decide +kernel
theorem dX3_readLine_21 : decode cX3_readLine 21 = .ok (.lcmp, 1) := by decide +kernel
theorem dX3_readLine_22 : decode cX3_readLine 22 = .ok (.ifCond .ne 8, 3) := by decide +kernel
theorem dX3_readLine_25 : decode cX3_readLine 25 = .ok (.aload_n 0, 1) := by decide +kernel
theorem dX3_readLine_26 : decode cX3_readLine 26 = .ok (.invokevirtual 93, 3) := by decide +kernel
theorem dX3_readLine_29 : decode cX3_readLine 29 = .ok (.ireturn, 1) := by decide +kernel
theorem dX3_readLine_30 : decode cX3_readLine 30 = .ok (.aload_n 0, 1) := by decide +kernel
theorem dX3_readLine_31 : decode cX3_readLine 31 = .ok (.getfield 88, 3) := by decide +kernel
theorem dX3_readLine_34 : decode cX3_readLine 34 = .ok (.ldc2_w 96, 3) := by decide +kernel
theorem dX3_readLine_37 : decode cX3_readLine 37 = .ok (.lcmp, 1) := by decide +kernel
theorem dX3_readLine_38 : decode cX3_readLine 38 = .ok (.ifCond .ne 9, 3) := by decide +kernel
theorem dX3_readLine_41 : decode cX3_readLine 41 = .ok (.aload_n 0, 1) := by decide +kernel
theorem dX3_readLine_42 : decode cX3_readLine 42 = .ok (.iconst 0, 1) := by decide +kernel
theorem dX3_readLine_43 : decode cX3_readLine 43 = .ok (.invokevirtual 98, 3) := by decide +kernel
theorem dX3_readLine_46 : decode cX3_readLine 46 = .ok (.ireturn, 1) := by decide +kernel
theorem dX3_readLine_47 : decode cX3_readLine 47 = .ok (.aload_n 0, 1) := by decide +kernel
theorem dX3_readLine_48 : decode cX3_readLine 48 = .ok (.getfield 88, 3) := by decide +kernel
theorem dX3_readLine_51 : decode cX3_readLine 51 = .ok (.ldc2_w 101, 3) := by decide +kernel
theorem dX3_readLine_54 : decode cX3_readLine 54 = .ok (.lcmp, 1) := by decide +kernel
theorem dX3_readLine_55 : decode cX3_readLine 55 = .ok (.ifCond .ne 9, 3) := by decide +kernel
theorem dX3_readLine_58 : decode cX3_readLine 58 = .ok (.aload_n 0, 1) := by decide +kernel
theorem dX3_readLine_59 : decode cX3_readLine 59 = .ok (.iconst 1, 1) := by decide +kernel
theorem dX3_readLine_60 : decode cX3_readLine 60 = .ok (.invokevirtual 98, 3) := by decide +kernel
theorem dX3_readLine_63 : decode cX3_readLine 63 = .ok (.ireturn, 1) := by decide +kernel
theorem dX3_readLine_64 : decode cX3_readLine 64 = .ok (.aload_n 0, 1) := by decide +kernel
theorem dX3_readLine_65 : decode cX3_readLine 65 = .ok (.getfield 88, 3) := by decide +kernel
theorem dX3_readLine_68 : decode cX3_readLine 68 = .ok (.ldc2_w 103, 3) := by decide +kernel
theorem dX3_readLine_71 : decode cX3_readLine 71 = .ok (.lcmp, 1) := by decide +kernel
theorem dX3_readLine_72 : decode cX3_readLine 72 = .ok (.ifCond .ne 10, 3) := by decide +kernel
theorem dX3_readLine_75 : decode cX3_readLine 75 = .ok (.aload_n 0, 1) := by decide +kernel
theorem dX3_readLine_76 : decode cX3_readLine 76 = .ok (.invokevirtual 105, 3) := by decide +kernel
theorem dX3_readLine_79 : decode cX3_readLine 79 = .ok (.goto 8, 3) := by decide +kernel
theorem dX3_readLine_82 : decode cX3_readLine 82 = .ok (.aload_n 0, 1) := by decide +kernel
theorem dX3_readLine_83 : decode cX3_readLine 83 = .ok (.iconst 1, 1) := by decide +kernel
theorem dX3_readLine_84 : decode cX3_readLine 84 = .ok (.invokevirtual 51, 3) := by decide +kernel
theorem dX3_readLine_87 : decode cX3_readLine 87 = .ok (.ireturn, 1) := by decide +kernel
theorem dX3_readJoint_0 : decode cX3_readJoint 0 = .ok (.aload_n 0, 1) := by decide +kernel
theorem dX3_readJoint_1 : decode cX3_readJoint 1 = .ok (.getfield 12, 3) := by decide +kernel
theorem dX3_readJoint_4 : decode cX3_readJoint 4 = .ok (.getfield 55, 3) := by decide +kernel
theorem dX3_readJoint_7 : decode cX3_readJoint 7 = .ok (.bipush 9, 2) := by decide +kernel
theorem dX3_readJoint_9 : decode cX3_readJoint 9 = .ok (.if_icmp .lt 9, 3) := by decide +kernel
theorem dX3_readJoint_12 : decode cX3_readJoint 12 = .ok (.aload_n 0, 1) := by decide +kernel
theorem dX3_readJoint_13 : decode cX3_readJoint 13 = .ok (.iconst 4, 1) := by decide +kernel
theorem dX3_readJoint_14 : decode cX3_readJoint 14 = .ok (.invokevirtual 51, 3) := by decide +kernel
theorem dX3_readJoint_17 : decode cX3_readJoint 17 = .ok (.ireturn, 1) := by decide +kernel
theorem dX3_readJoint_18 : decode cX3_readJoint 18 = .ok (.aload_n 0, 1) := by decide +kernel
theorem dX3_readJoint_19 : decode cX3_readJoint 19 = .ok (.invokevirtual 35, 3) := by decide +kernel
theorem dX3_readJoint_22 : decode cX3_readJoint 22 = .ok (.aload_n 0, 1) := by decide +kernel
theorem dX3_readJoint_23 : decode cX3_readJoint 23 = .ok (.invokevirtual 67, 3) := by decide +kernel
theorem dX3_readJoint_26 : decode cX3_readJoint 26 = .ok (.ifCond .eq 13, 3) := by decide +kernel
theorem dX3_readJoint_29 : decode cX3_readJoint 29 = .ok (.aload_n 0, 1) := by decide +kernel
theorem dX3_readJoint_30 : decode cX3_readJoint 30 = .ok (.iconst 0, 1) := by decide +kernel
theorem dX3_readJoint_31 : decode cX3_readJoint 31 = .ok (.bipush 60, 2) := by decide +kernel
theorem dX3_readJoint_33 : decode cX3_readJoint 33 = .ok (.invokevirtual 70, 3) := by decide +kernel
theorem dX3_readJoint_36 : decode cX3_readJoint 36 = .ok (.ifCond .ne 5, 3) := by decide +kernel
theorem dX3_readJoint_39 : decode cX3_readJoint 39 = .ok (.iconst 0, 1) := by decide +kernel
theorem dX3_readJoint_40 : decode cX3_readJoint 40 = .ok (.ireturn, 1) := by decide +kernel
theorem dX3_readJoint_41 : decode cX3_readJoint 41 = .ok (.aload_n 0, 1) := by decide +kernel
theorem dX3_readJoint_42 : decode cX3_readJoint 42 = .ok (.getfield 74, 3) := by decide +kernel
theorem dX3_readJoint_45 : decode cX3_readJoint 45 = .ok (.istore_n 1, 1) := by decide +kernel
theorem dX3_readJoint_46 : decode cX3_readJoint 46 = .ok (.aload_n 0, 1) := by decide +kernel
theorem dX3_readJoint_47 : decode cX3_readJoint 47 = .ok (.invokevirtual 35, 3) := by decide +kernel
theorem dX3_readJoint_50 : decode cX3_readJoint 50 = .ok (.aload_n 0, 1) := by decide +kernel
theorem dX3_readJoint_51 : decode cX3_readJoint 51 = .ok (.ldc2_w 108, 3) := by decide +kernel
theorem dX3_readJoint_54 : decode cX3_readJoint 54 = .ok (.invokevirtual 63, 3) := by decide +kernel
theorem dX3_readJoint_57 : decode cX3_readJoint 57 = .ok (.ifCond .eq 14, 3) := by decide +kernel
theorem dX3_readJoint_60 : decode cX3_readJoint 60 = .ok (.aload_n 0, 1) := by decide +kernel
theorem dX3_readJoint_61 : decode cX3_readJoint 61 = .ok (.iconst 0, 1) := by decide +kernel
theorem dX3_readJoint_62 : decode cX3_readJoint 62 = .ok (.sipush 300, 3) := by decide +kernel
theorem dX3_readJoint_65 : decode cX3_readJoint 65 = .ok (.invokevirtual 70, 3) := by decide +kernel
theorem dX3_readJoint_68 : decode cX3_readJoint 68 = .ok (.ifCond .ne 5, 3) := by decide +kernel
theorem dX3_readJoint_71 : decode cX3_readJoint 71 = .ok (.iconst 0, 1) := by decide +kernel
theorem dX3_readJoint_72 : decode cX3_readJoint 72 = .ok (.ireturn, 1) := by decide +kernel
theorem dX3_readJoint_73 : decode cX3_readJoint 73 = .ok (.aload_n 0, 1) := by decide +kernel
theorem dX3_readJoint_74 : decode cX3_readJoint 74 = .ok (.getfield 12, 3) := by decide +kernel
theorem dX3_readJoint_77 : decode cX3_readJoint 77 = .ok (.aload_n 0, 1) := by decide +kernel
theorem dX3_readJoint_78 : decode cX3_readJoint 78 = .ok (.getfield 80, 3) := by decide +kernel
theorem dX3_readJoint_81 : decode cX3_readJoint 81 = .ok (.iload_n 1, 1) := by decide +kernel
theorem dX3_readJoint_82 : decode cX3_readJoint 82 = .ok (.aload_n 0, 1) := by decide +kernel
theorem dX3_readJoint_83 : decode cX3_readJoint 83 = .ok (.getfield 74, 3) := by decide +kernel
theorem dX3_readJoint_86 : decode cX3_readJoint 86 = .ok (.invokevirtual 84, 3) := by decide +kernel
theorem dX3_readJoint_89 : decode cX3_readJoint 89 = .ok (.aload_n 0, 1) := by decide +kernel
theorem dX3_readJoint_90 : decode cX3_readJoint 90 = .ok (.invokevirtual 35, 3) := by decide +kernel
theorem dX3_readJoint_93 : decode cX3_readJoint 93 = .ok (.iconst 1, 1) := by decide +kernel
theorem dX3_readJoint_94 : decode cX3_readJoint 94 = .ok (.ireturn, 1) := by decide +kernel
theorem dX3_readResisting_0 : decode cX3_readResisting 0 = .ok (.aload_n 0, 1) := by decide +kernel
theorem dX3_readResisting_1 : decode cX3_readResisting 1 = .ok (.invokevirtual 110, 3) := by decide +kernel
theorem dX3_readResisting_4 : decode cX3_readResisting 4 = .ok (.ifCond .eq 13, 3) := by decide +kernel
theorem dX3_readResisting_7 : decode cX3_readResisting 7 = .ok (.aload_n 0, 1) := by decide +kernel
theorem dX3_readResisting_8 : decode cX3_readResisting 8 = .ok (.iconst 1, 1) := by decide +kernel
theorem dX3_readResisting_9 : decode cX3_readResisting 9 = .ok (.bipush 20, 2) := by decide +kernel
theorem dX3_readResisting_11 : decode cX3_readResisting 11 = .ok (.invokevirtual 70, 3) := by decide +kernel
theorem dX3_readResisting_14 : decode cX3_readResisting 14 = .ok (.ifCond .ne 5, 3) := by decide +kernel
theorem dX3_readResisting_17 : decode cX3_readResisting 17 = .ok (.iconst 0, 1) := by decide +kernel
theorem dX3_readResisting_18 : decode cX3_readResisting 18 = .ok (.ireturn, 1) := by decide +kernel
theorem dX3_readResisting_19 : decode cX3_readResisting 19 = .ok (.aload_n 0, 1) := by decide +kernel
theorem dX3_readResisting_20 : decode cX3_readResisting 20 = .ok (.getfield 12, 3) := by decide +kernel
theorem dX3_readResisting_23 : decode cX3_readResisting 23 = .ok (.iload_n 1, 1) := by decide +kernel
theorem dX3_readResisting_24 : decode cX3_readResisting 24 = .ok (.aload_n 0, 1) := by decide +kernel
theorem dX3_readResisting_25 : decode cX3_readResisting 25 = .ok (.getfield 113, 3) := by decide +kernel
theorem dX3_readResisting_28 : decode cX3_readResisting 28 = .ok (.aload_n 0, 1) := by decide +kernel
theorem dX3_readResisting_29 : decode cX3_readResisting 29 = .ok (.getfield 116, 3) := by decide +kernel
theorem dX3_readResisting_32 : decode cX3_readResisting 32 = .ok (.aload_n 0, 1) := by decide +kernel
theorem dX3_readResisting_33 : decode cX3_readResisting 33 = .ok (.getfield 74, 3) := by decide +kernel
theorem dX3_readResisting_36 : decode cX3_readResisting 36 = .ok (.invokevirtual 119, 3) := by decide +kernel
theorem dX3_readResisting_39 : decode cX3_readResisting 39 = .ok (.aload_n 0, 1) := by decide +kernel
theorem dX3_readResisting_40 : decode cX3_readResisting 40 = .ok (.invokevirtual 35, 3) := by decide +kernel
theorem dX3_readResisting_43 : decode cX3_readResisting 43 = .ok (.iconst 1, 1) := by decide +kernel
theorem dX3_readResisting_44 : decode cX3_readResisting 44 = .ok (.ireturn, 1) := by decide +kernel
theorem dX3_readPump_0 : decode cX3_readPump 0 = .ok (.aload_n 0, 1) := by decide +kernel
theorem dX3_readPump_1 : decode cX3_readPump 1 = .ok (.invokevirtual 110, 3) := by decide +kernel
theorem dX3_readPump_4 : decode cX3_readPump 4 = .ok (.ifCond .ne 5, 3) := by decide +kernel
theorem dX3_readPump_7 : decode cX3_readPump 7 = .ok (.iconst 0, 1) := by decide +kernel
theorem dX3_readPump_8 : decode cX3_readPump 8 = .ok (.ireturn, 1) := by decide +kernel
theorem dX3_readPump_9 : decode cX3_readPump 9 = .ok (.aload_n 0, 1) := by decide +kernel
theorem dX3_readPump_10 : decode cX3_readPump 10 = .ok (.getfield 12, 3) := by decide +kernel
theorem dX3_readPump_13 : decode cX3_readPump 13 = .ok (.iconst 2, 1) := by decide +kernel
theorem dX3_readPump_14 : decode cX3_readPump 14 = .ok (.aload_n 0, 1) := by decide +kernel
theorem dX3_readPump_15 : decode cX3_readPump 15 = .ok (.getfield 113, 3) := by decide +kernel
theorem dX3_readPump_18 : decode cX3_readPump 18 = .ok (.aload_n 0, 1) := by decide +kernel
theorem dX3_readPump_19 : decode cX3_readPump 19 = .ok (.getfield 116, 3) := by decide +kernel
theorem dX3_readPump_22 : decode cX3_readPump 22 = .ok (.iconst 0, 1) := by decide +kernel
theorem dX3_readPump_23 : decode cX3_readPump 23 = .ok (.invokevirtual 119, 3) := by decide +kernel
theorem dX3_readPump_26 : decode cX3_readPump 26 = .ok (.sipush 300, 3) := by decide +kernel
theorem dX3_readPump_29 : decode cX3_readPump 29 = .ok (.istore_n 1, 1) := by decide +kernel
theorem dX3_readPump_30 : decode cX3_readPump 30 = .ok (.iconst 0, 1) := by decide +kernel
theorem dX3_readPump_31 : decode cX3_readPump 31 = .ok (.istore_n 2, 1) := by decide +kernel
theorem dX3_readPump_32 : decode cX3_readPump 32 = .ok (.iload_n 2, 1) := by decide +kernel
theorem dX3_readPump_33 : decode cX3_readPump 33 = .ok (.bipush 6, 2) := by decide +kernel
theorem dX3_readPump_35 : decode cX3_readPump 35 = .ok (.if_icmp .ge 54, 3) := by decide +kernel
theorem dX3_readPump_38 : decode cX3_readPump 38 = .ok (.aload_n 0, 1) := by decide +kernel
theorem dX3_readPump_39 : decode cX3_readPump 39 = .ok (.iconst 0, 1) := by decide +kernel
theorem dX3_readPump_40 : decode cX3_readPump 40 = .ok (.iload_n 1, 1) := by decide +kernel
theorem dX3_readPump_41 : decode cX3_readPump 41 = .ok (.invokevirtual 70, 3) := by decide +kernel
theorem dX3_readPump_44 : decode cX3_readPump 44 = .ok (.ifCond .ne 5, 3) := by decide +kernel
theorem dX3_readPump_47 : decode cX3_readPump 47 = .ok (.iconst 0, 1) := by decide +kernel
theorem dX3_readPump_48 : decode cX3_readPump 48 = .ok (.ireturn, 1) := by decide +kernel
theorem dX3_readPump_49 : decode cX3_readPump 49 = .ok (.aload_n 0, 1) := by decide +kernel
theorem dX3_readPump_50 : decode cX3_readPump 50 = .ok (.getfield 74, 3) := by decide +kernel
theorem dX3_readPump_53 : decode cX3_readPump 53 = .ok (.istore_n 1, 1) := by decide +kernel
theorem dX3_readPump_54 : decode cX3_readPump 54 = .ok (.aload_n 0, 1) := by decide +kernel
theorem dX3_readPump_55 : decode cX3_readPump 55 = .ok (.getfield 12, 3) := by decide +kernel
theorem dX3_readPump_58 : decode cX3_readPump 58 = .ok (.aload_n 0, 1) := by decide +kernel
theorem dX3_readPump_59 : decode cX3_readPump 59 = .ok (.getfield 74, 3) := by decide +kernel
theorem dX3_readPump_62 : decode cX3_readPump 62 = .ok (.invokevirtual 123, 3) := by decide +kernel
theorem dX3_readPump_65 : decode cX3_readPump 65 = .ok (.aload_n 0, 1) := by decide +kernel
theorem dX3_readPump_66 : decode cX3_readPump 66 = .ok (.invokevirtual 35, 3) := by decide +kernel
theorem dX3_readPump_69 : decode cX3_readPump 69 = .ok (.aload_n 0, 1) := by decide +kernel
theorem dX3_readPump_70 : decode cX3_readPump 70 = .ok (.getfield 42, 3) := by decide +kernel
theorem dX3_readPump_73 : decode cX3_readPump 73 = .ok (.iconst 4, 1) := by decide +kernel
theorem dX3_readPump_74 : decode cX3_readPump 74 = .ok (.if_icmp .eq 5, 3) := by decide +kernel
theorem dX3_readPump_77 : decode cX3_readPump 77 = .ok (.iconst 1, 1) := by decide +kernel
theorem dX3_readPump_78 : decode cX3_readPump 78 = .ok (.ireturn, 1) := by decide +kernel
theorem dX3_readPump_79 : decode cX3_readPump 79 = .ok (.aload_n 0, 1) := by decide +kernel
theorem dX3_readPump_80 : decode cX3_readPump 80 = .ok (.invokevirtual 35, 3) := by decide +kernel
theorem dX3_readPump_83 : decode cX3_readPump 83 = .ok (.iinc 2 1, 3) := by decide +kernel
theorem dX3_readPump_86 : decode cX3_readPump 86 = .ok (.goto (-54), 3) := by decide +kernel
theorem dX3_readPump_89 : decode cX3_readPump 89 = .ok (.aload_n 0, 1) := by decide +kernel
theorem dX3_readPump_90 : decode cX3_readPump 90 = .ok (.iconst 0, 1) := by decide +kernel
theorem dX3_readPump_91 : decode cX3_readPump 91 = .ok (.iload_n 1, 1) := by decide +kernel
theorem dX3_readPump_92 : decode cX3_readPump 92 = .ok (.invokevirtual 70, 3) := by decide +kernel
theorem dX3_readPump_95 : decode cX3_readPump 95 = .ok (.ifCond .eq 15, 3) := by decide +kernel
theorem dX3_readPump_98 : decode cX3_readPump 98 = .ok (.aload_n 0, 1) := by decide +kernel
theorem dX3_readPump_99 : decode cX3_readPump 99 = .ok (.iconst 4, 1) := by decide +kernel
theorem dX3_readPump_100 : decode cX3_readPump 100 = .ok (.invokevirtual 51, 3) := by decide +kernel
theorem dX3_readPump_103 : decode cX3_readPump 103 = .ok (.ifCond .eq 7, 3) := by decide +kernel
theorem dX3_readPump_106 : decode cX3_readPump 106 = .ok (.iconst 1, 1) := by decide +kernel
theorem dX3_readPump_107 : decode cX3_readPump 107 = .ok (.goto 4, 3) := by decide +kernel
theorem dX3_readPump_110 : decode cX3_readPump 110 = .ok (.iconst 0, 1) := by decide +kernel
theorem dX3_readPump_111 : decode cX3_readPump 111 = .ok (.ireturn, 1) := by decide +kernel
theorem dX3_readEnds_0 : decode cX3_readEnds 0 = .ok (.aload_n 0, 1) := by decide +kernel
theorem dX3_readEnds_1 : decode cX3_readEnds 1 = .ok (.getfield 12, 3) := by decide +kernel
theorem dX3_readEnds_4 : decode cX3_readEnds 4 = .ok (.getfield 127, 3) := by decide +kernel
theorem dX3_readEnds_7 : decode cX3_readEnds 7 = .ok (.bipush 14, 2) := by decide +kernel
theorem dX3_readEnds_9 : decode cX3_readEnds 9 = .ok (.if_icmp .lt 9, 3) := by decide +kernel
theorem dX3_readEnds_12 : decode cX3_readEnds 12 = .ok (.aload_n 0, 1) := by decide +kernel
theorem dX3_readEnds_13 : decode cX3_readEnds 13 = .ok (.iconst 4, 1) := by decide +kernel
theorem dX3_readEnds_14 : decode cX3_readEnds 14 = .ok (.invokevirtual 51, 3) := by decide +kernel
theorem dX3_readEnds_17 : decode cX3_readEnds 17 = .ok (.ireturn, 1) := by decide +kernel
theorem dX3_readEnds_18 : decode cX3_readEnds 18 = .ok (.aload_n 0, 1) := by decide +kernel
theorem dX3_readEnds_19 : decode cX3_readEnds 19 = .ok (.invokevirtual 35, 3) := by decide +kernel
theorem dX3_readEnds_22 : decode cX3_readEnds 22 = .ok (.aload_n 0, 1) := by decide +kernel
theorem dX3_readEnds_23 : decode cX3_readEnds 23 = .ok (.aload_n 0, 1) := by decide +kernel
theorem dX3_readEnds_24 : decode cX3_readEnds 24 = .ok (.invokevirtual 130, 3) := by decide +kernel
theorem dX3_readEnds_27 : decode cX3_readEnds 27 = .ok (.putfield 113, 3) := by decide +kernel
theorem dX3_readEnds_30 : decode cX3_readEnds 30 = .ok (.aload_n 0, 1) := by decide +kernel
theorem dX3_readEnds_31 : decode cX3_readEnds 31 = .ok (.getfield 113, 3) := by decide +kernel
theorem dX3_readEnds_34 : decode cX3_readEnds 34 = .ok (.iconst (-1), 1) := by decide +kernel
theorem dX3_readEnds_35 : decode cX3_readEnds 35 = .ok (.if_icmp .ne 5, 3) := by decide +kernel
theorem dX3_readEnds_38 : decode cX3_readEnds 38 = .ok (.iconst 0, 1) := by decide +kernel
theorem dX3_readEnds_39 : decode cX3_readEnds 39 = .ok (.ireturn, 1) := by decide +kernel
theorem dX3_readEnds_40 : decode cX3_readEnds 40 = .ok (.aload_n 0, 1) := by decide +kernel
theorem dX3_readEnds_41 : decode cX3_readEnds 41 = .ok (.invokevirtual 35, 3) := by decide +kernel
theorem dX3_readEnds_44 : decode cX3_readEnds 44 = .ok (.aload_n 0, 1) := by decide +kernel
theorem dX3_readEnds_45 : decode cX3_readEnds 45 = .ok (.aload_n 0, 1) := by decide +kernel
theorem dX3_readEnds_46 : decode cX3_readEnds 46 = .ok (.invokevirtual 130, 3) := by decide +kernel
theorem dX3_readEnds_49 : decode cX3_readEnds 49 = .ok (.putfield 116, 3) := by decide +kernel
theorem dX3_readEnds_52 : decode cX3_readEnds 52 = .ok (.aload_n 0, 1) := by decide +kernel
theorem dX3_readEnds_53 : decode cX3_readEnds 53 = .ok (.getfield 116, 3) := by decide +kernel
theorem dX3_readEnds_56 : decode cX3_readEnds 56 = .ok (.iconst (-1), 1) := by decide +kernel
theorem dX3_readEnds_57 : decode cX3_readEnds 57 = .ok (.if_icmp .ne 5, 3) := by decide +kernel
theorem dX3_readEnds_60 : decode cX3_readEnds 60 = .ok (.iconst 0, 1) := by decide +kernel
theorem dX3_readEnds_61 : decode cX3_readEnds 61 = .ok (.ireturn, 1) := by decide +kernel
theorem dX3_readEnds_62 : decode cX3_readEnds 62 = .ok (.aload_n 0, 1) := by decide +kernel
theorem dX3_readEnds_63 : decode cX3_readEnds 63 = .ok (.getfield 116, 3) := by decide +kernel
theorem dX3_readEnds_66 : decode cX3_readEnds 66 = .ok (.aload_n 0, 1) := by decide +kernel
theorem dX3_readEnds_67 : decode cX3_readEnds 67 = .ok (.getfield 113, 3) := by decide +kernel
theorem dX3_readEnds_70 : decode cX3_readEnds 70 = .ok (.if_icmp .ne 9, 3) := by decide +kernel
theorem dX3_readEnds_73 : decode cX3_readEnds 73 = .ok (.aload_n 0, 1) := by decide +kernel
theorem dX3_readEnds_74 : decode cX3_readEnds 74 = .ok (.iconst 3, 1) := by decide +kernel
theorem dX3_readEnds_75 : decode cX3_readEnds 75 = .ok (.invokevirtual 51, 3) := by decide +kernel
theorem dX3_readEnds_78 : decode cX3_readEnds 78 = .ok (.ireturn, 1) := by decide +kernel
theorem dX3_readEnds_79 : decode cX3_readEnds 79 = .ok (.aload_n 0, 1) := by decide +kernel
theorem dX3_readEnds_80 : decode cX3_readEnds 80 = .ok (.invokevirtual 35, 3) := by decide +kernel
theorem dX3_readEnds_83 : decode cX3_readEnds 83 = .ok (.iconst 1, 1) := by decide +kernel
theorem dX3_readEnds_84 : decode cX3_readEnds 84 = .ok (.ireturn, 1) := by decide +kernel
theorem dX3_blame_0 : decode cX3_blame 0 = .ok (.aload_n 0, 1) := by decide +kernel
theorem dX3_blame_1 : decode cX3_blame 1 = .ok (.iload_n 1, 1) := by decide +kernel
theorem dX3_blame_2 : decode cX3_blame 2 = .ok (.putfield 29, 3) := by decide +kernel
theorem dX3_blame_5 : decode cX3_blame 5 = .ok (.iconst 0, 1) := by decide +kernel
theorem dX3_blame_6 : decode cX3_blame 6 = .ok (.ireturn, 1) := by decide +kernel
theorem dX3_takeWord_0 : decode cX3_takeWord 0 = .ok (.aload_n 0, 1) := by decide +kernel
theorem dX3_takeWord_1 : decode cX3_takeWord 1 = .ok (.getfield 42, 3) := by decide +kernel
theorem dX3_takeWord_4 : decode cX3_takeWord 4 = .ok (.iconst 1, 1) := by decide +kernel
theorem dX3_takeWord_5 : decode cX3_takeWord 5 = .ok (.if_icmp .ne 12, 3) := by decide +kernel
theorem dX3_takeWord_8 : decode cX3_takeWord 8 = .ok (.aload_n 0, 1) := by decide +kernel
theorem dX3_takeWord_9 : decode cX3_takeWord 9 = .ok (.getfield 88, 3) := by decide +kernel
theorem dX3_takeWord_12 : decode cX3_takeWord 12 = .ok (.lload_n 1, 1) := by decide +kernel
theorem dX3_takeWord_13 : decode cX3_takeWord 13 = .ok (.lcmp, 1) := by decide +kernel
theorem dX3_takeWord_14 : decode cX3_takeWord 14 = .ok (.ifCond .eq 9, 3) := by decide +kernel
theorem dX3_takeWord_17 : decode cX3_takeWord 17 = .ok (.aload_n 0, 1) := by decide +kernel
theorem dX3_takeWord_18 : decode cX3_takeWord 18 = .ok (.iconst 1, 1) := by decide +kernel
theorem dX3_takeWord_19 : decode cX3_takeWord 19 = .ok (.invokevirtual 51, 3) := by decide +kernel
theorem dX3_takeWord_22 : decode cX3_takeWord 22 = .ok (.ireturn, 1) := by decide +kernel
theorem dX3_takeWord_23 : decode cX3_takeWord 23 = .ok (.aload_n 0, 1) := by decide +kernel
theorem dX3_takeWord_24 : decode cX3_takeWord 24 = .ok (.invokevirtual 35, 3) := by decide +kernel
theorem dX3_takeWord_27 : decode cX3_takeWord 27 = .ok (.iconst 1, 1) := by decide +kernel
theorem dX3_takeWord_28 : decode cX3_takeWord 28 = .ok (.ireturn, 1) := by decide +kernel
theorem dX3_takeNewName_0 : decode cX3_takeNewName 0 = .ok (.aload_n 0, 1) := by decide +kernel
theorem dX3_takeNewName_1 : decode cX3_takeNewName 1 = .ok (.invokevirtual 134, 3) := by decide +kernel
theorem dX3_takeNewName_4 : decode cX3_takeNewName 4 = .ok (.ifCond .ne 9, 3) := by decide +kernel
theorem dX3_takeNewName_7 : decode cX3_takeNewName 7 = .ok (.aload_n 0, 1) := by decide +kernel
theorem dX3_takeNewName_8 : decode cX3_takeNewName 8 = .ok (.iconst 1, 1) := by decide +kernel
theorem dX3_takeNewName_9 : decode cX3_takeNewName 9 = .ok (.invokevirtual 51, 3) := by decide +kernel
theorem dX3_takeNewName_12 : decode cX3_takeNewName 12 = .ok (.ireturn, 1) := by decide +kernel
theorem dX3_takeNewName_13 : decode cX3_takeNewName 13 = .ok (.aload_n 0, 1) := by decide +kernel
theorem dX3_takeNewName_14 : decode cX3_takeNewName 14 = .ok (.getfield 12, 3) := by decide +kernel
theorem dX3_takeNewName_17 : decode cX3_takeNewName 17 = .ok (.aload_n 0, 1) := by decide +kernel
theorem dX3_takeNewName_18 : decode cX3_takeNewName 18 = .ok (.getfield 88, 3) := by decide +kernel
theorem dX3_takeNewName_21 : decode cX3_takeNewName 21 = .ok (.invokevirtual 137, 3) := by decide +kernel
theorem dX3_takeNewName_24 : decode cX3_takeNewName 24 = .ok (.iconst (-1), 1) := by decide +kernel
theorem dX3_takeNewName_25 : decode cX3_takeNewName 25 = .ok (.if_icmp .eq 9, 3) := by decide +kernel
theorem dX3_takeNewName_28 : decode cX3_takeNewName 28 = .ok (.aload_n 0, 1) := by decide +kernel
theorem dX3_takeNewName_29 : decode cX3_takeNewName 29 = .ok (.iconst 3, 1) := by decide +kernel
theorem dX3_takeNewName_30 : decode cX3_takeNewName 30 = .ok (.invokevirtual 51, 3) := by decide +kernel
theorem dX3_takeNewName_33 : decode cX3_takeNewName 33 = .ok (.ireturn, 1) := by decide +kernel
theorem dX3_takeNewName_34 : decode cX3_takeNewName 34 = .ok (.aload_n 0, 1) := by decide +kernel
theorem dX3_takeNewName_35 : decode cX3_takeNewName 35 = .ok (.aload_n 0, 1) := by decide +kernel
theorem dX3_takeNewName_36 : decode cX3_takeNewName 36 = .ok (.getfield 88, 3) := by decide +kernel
theorem dX3_takeNewName_39 : decode cX3_takeNewName 39 = .ok (.putfield 80, 3) := by decide +kernel
theorem dX3_takeNewName_42 : decode cX3_takeNewName 42 = .ok (.aload_n 0, 1) := by decide +kernel
theorem dX3_takeNewName_43 : decode cX3_takeNewName 43 = .ok (.invokevirtual 35, 3) := by decide +kernel
theorem dX3_takeNewName_46 : decode cX3_takeNewName 46 = .ok (.iconst 1, 1) := by decide +kernel
theorem dX3_takeNewName_47 : decode cX3_takeNewName 47 = .ok (.ireturn, 1) := by decide +kernel
theorem dX3_isWholeWithin_0 : decode cX3_isWholeWithin 0 = .ok (.aload_n 0, 1) := by decide +kernel
theorem dX3_isWholeWithin_1 : decode cX3_isWholeWithin 1 = .ok (.getfield 42, 3) := by decide +kernel
theorem dX3_isWholeWithin_4 : decode cX3_isWholeWithin 4 = .ok (.iconst 2, 1) := by decide +kernel
theorem dX3_isWholeWithin_5 : decode cX3_isWholeWithin 5 = .ok (.if_icmp .eq 9, 3) := by decide +kernel
theorem dX3_isWholeWithin_8 : decode cX3_isWholeWithin 8 = .ok (.aload_n 0, 1) := by decide +kernel
theorem dX3_isWholeWithin_9 : decode cX3_isWholeWithin 9 = .ok (.iconst 1, 1) := by decide +kernel
theorem dX3_isWholeWithin_10 : decode cX3_isWholeWithin 10 = .ok (.invokevirtual 51, 3) := by decide +kernel
theorem dX3_isWholeWithin_13 : decode cX3_isWholeWithin 13 = .ok (.ireturn, 1) := by decide +kernel
theorem dX3_isWholeWithin_14 : decode cX3_isWholeWithin 14 = .ok (.aload_n 0, 1) := by decide +kernel
theorem dX3_isWholeWithin_15 : decode cX3_isWholeWithin 15 = .ok (.getfield 74, 3) := by decide +kernel
theorem dX3_isWholeWithin_18 : decode cX3_isWholeWithin 18 = .ok (.iload_n 1, 1) := by decide +kernel
theorem dX3_isWholeWithin_19 : decode cX3_isWholeWithin 19 = .ok (.if_icmp .lt 11, 3) := by decide +kernel
theorem dX3_isWholeWithin_22 : decode cX3_isWholeWithin 22 = .ok (.aload_n 0, 1) := by decide +kernel
theorem dX3_isWholeWithin_23 : decode cX3_isWholeWithin 23 = .ok (.getfield 74, 3) := by decide +kernel
theorem dX3_isWholeWithin_26 : decode cX3_isWholeWithin 26 = .ok (.iload_n 2, 1) := by decide +kernel
theorem dX3_isWholeWithin_27 : decode cX3_isWholeWithin 27 = .ok (.if_icmp .le 11, 3) := by decide +kernel
theorem dX3_isWholeWithin_30 : decode cX3_isWholeWithin 30 = .ok (.aload_n 0, 1) := by decide +kernel
theorem dX3_isWholeWithin_31 : decode cX3_isWholeWithin 31 = .ok (.iconst 2, 1) := by decide +kernel
theorem dX3_isWholeWithin_32 : decode cX3_isWholeWithin 32 = .ok (.invokevirtual 51, 3) := by decide +kernel
theorem dX3_isWholeWithin_35 : decode cX3_isWholeWithin 35 = .ok (.ifCond .eq 7, 3) := by decide +kernel
theorem dX3_isWholeWithin_38 : decode cX3_isWholeWithin 38 = .ok (.iconst 1, 1) := by decide +kernel
theorem dX3_isWholeWithin_39 : decode cX3_isWholeWithin 39 = .ok (.goto 4, 3) := by decide +kernel
theorem dX3_isWholeWithin_42 : decode cX3_isWholeWithin 42 = .ok (.iconst 0, 1) := by decide +kernel
theorem dX3_isWholeWithin_43 : decode cX3_isWholeWithin 43 = .ok (.ireturn, 1) := by decide +kernel
theorem dX3_jointAtHand_0 : decode cX3_jointAtHand 0 = .ok (.aload_n 0, 1) := by decide +kernel
theorem dX3_jointAtHand_1 : decode cX3_jointAtHand 1 = .ok (.invokevirtual 134, 3) := by decide +kernel
theorem dX3_jointAtHand_4 : decode cX3_jointAtHand 4 = .ok (.ifCond .eq 17, 3) := by decide +kernel
theorem dX3_jointAtHand_7 : decode cX3_jointAtHand 7 = .ok (.aload_n 0, 1) := by decide +kernel
theorem dX3_jointAtHand_8 : decode cX3_jointAtHand 8 = .ok (.getfield 12, 3) := by decide +kernel
theorem dX3_jointAtHand_11 : decode cX3_jointAtHand 11 = .ok (.aload_n 0, 1) := by decide +kernel
theorem dX3_jointAtHand_12 : decode cX3_jointAtHand 12 = .ok (.getfield 88, 3) := by decide +kernel
theorem dX3_jointAtHand_15 : decode cX3_jointAtHand 15 = .ok (.invokevirtual 137, 3) := by decide +kernel
theorem dX3_jointAtHand_18 : decode cX3_jointAtHand 18 = .ok (.goto 4, 3) := by decide +kernel
theorem dX3_jointAtHand_21 : decode cX3_jointAtHand 21 = .ok (.iconst (-1), 1) := by decide +kernel
theorem dX3_jointAtHand_22 : decode cX3_jointAtHand 22 = .ok (.istore_n 1, 1) := by decide +kernel
theorem dX3_jointAtHand_23 : decode cX3_jointAtHand 23 = .ok (.iload_n 1, 1) := by decide +kernel
theorem dX3_jointAtHand_24 : decode cX3_jointAtHand 24 = .ok (.iconst (-1), 1) := by decide +kernel
theorem dX3_jointAtHand_25 : decode cX3_jointAtHand 25 = .ok (.if_icmp .ne 20, 3) := by decide +kernel
theorem dX3_jointAtHand_28 : decode cX3_jointAtHand 28 = .ok (.aload_n 0, 1) := by decide +kernel
theorem dX3_jointAtHand_29 : decode cX3_jointAtHand 29 = .ok (.aload_n 0, 1) := by decide +kernel
theorem dX3_jointAtHand_30 : decode cX3_jointAtHand 30 = .ok (.invokevirtual 134, 3) := by decide +kernel
theorem dX3_jointAtHand_33 : decode cX3_jointAtHand 33 = .ok (.ifCond .eq 7, 3) := by decide +kernel
theorem dX3_jointAtHand_36 : decode cX3_jointAtHand 36 = .ok (.iconst 3, 1) := by decide +kernel
theorem dX3_jointAtHand_37 : decode cX3_jointAtHand 37 = .ok (.goto 4, 3) := by decide +kernel
theorem dX3_jointAtHand_40 : decode cX3_jointAtHand 40 = .ok (.iconst 1, 1) := by decide +kernel
theorem dX3_jointAtHand_41 : decode cX3_jointAtHand 41 = .ok (.invokevirtual 51, 3) := by decide +kernel
theorem dX3_jointAtHand_44 : decode cX3_jointAtHand 44 = .ok (.pop, 1) := by decide +kernel
theorem dX3_jointAtHand_45 : decode cX3_jointAtHand 45 = .ok (.iload_n 1, 1) := by decide +kernel
theorem dX3_jointAtHand_46 : decode cX3_jointAtHand 46 = .ok (.ireturn, 1) := by decide +kernel
theorem dX3_isName_0 : decode cX3_isName 0 = .ok (.aload_n 0, 1) := by decide +kernel
theorem dX3_isName_1 : decode cX3_isName 1 = .ok (.getfield 42, 3) := by decide +kernel
theorem dX3_isName_4 : decode cX3_isName 4 = .ok (.iconst 1, 1) := by decide +kernel
theorem dX3_isName_5 : decode cX3_isName 5 = .ok (.if_icmp .ne 73, 3) := by decide +kernel
theorem dX3_isName_8 : decode cX3_isName 8 = .ok (.aload_n 0, 1) := by decide +kernel
theorem dX3_isName_9 : decode cX3_isName 9 = .ok (.getfield 88, 3) := by decide +kernel
theorem dX3_isName_12 : decode cX3_isName 12 = .ok (.ldc2_w 61, 3) := by decide +kernel
theorem dX3_isName_15 : decode cX3_isName 15 = .ok (.lcmp, 1) := by decide +kernel
theorem dX3_isName_16 : decode cX3_isName 16 = .ok (.ifCond .eq 62, 3) := by decide +kernel
theorem dX3_isName_19 : decode cX3_isName 19 = .ok (.aload_n 0, 1) := by decide +kernel
theorem dX3_isName_20 : decode cX3_isName 20 = .ok (.getfield 88, 3) := by decide +kernel
theorem dX3_isName_23 : decode cX3_isName 23 = .ok (.ldc2_w 91, 3) := by decide +kernel
theorem dX3_isName_26 : decode cX3_isName 26 = .ok (.lcmp, 1) := by decide +kernel
theorem dX3_isName_27 : decode cX3_isName 27 = .ok (.ifCond .eq 51, 3) := by decide +kernel
theorem dX3_isName_30 : decode cX3_isName 30 = .ok (.aload_n 0, 1) := by decide +kernel
theorem dX3_isName_31 : decode cX3_isName 31 = .ok (.getfield 88, 3) := by decide +kernel
theorem dX3_isName_34 : decode cX3_isName 34 = .ok (.ldc2_w 108, 3) := by decide +kernel
theorem dX3_isName_37 : decode cX3_isName 37 = .ok (.lcmp, 1) := by decide +kernel
theorem dX3_isName_38 : decode cX3_isName 38 = .ok (.ifCond .eq 40, 3) := by decide +kernel
theorem dX3_isName_41 : decode cX3_isName 41 = .ok (.aload_n 0, 1) := by decide +kernel
theorem dX3_isName_42 : decode cX3_isName 42 = .ok (.getfield 88, 3) := by decide +kernel
theorem dX3_isName_45 : decode cX3_isName 45 = .ok (.ldc2_w 96, 3) := by decide +kernel
theorem dX3_isName_48 : decode cX3_isName 48 = .ok (.lcmp, 1) := by decide +kernel
theorem dX3_isName_49 : decode cX3_isName 49 = .ok (.ifCond .eq 29, 3) := by decide +kernel
theorem dX3_isName_52 : decode cX3_isName 52 = .ok (.aload_n 0, 1) := by decide +kernel
theorem dX3_isName_53 : decode cX3_isName 53 = .ok (.getfield 88, 3) := by decide +kernel
theorem dX3_isName_56 : decode cX3_isName 56 = .ok (.ldc2_w 101, 3) := by decide +kernel
theorem dX3_isName_59 : decode cX3_isName 59 = .ok (.lcmp, 1) := by decide +kernel
theorem dX3_isName_60 : decode cX3_isName 60 = .ok (.ifCond .eq 18, 3) := by decide +kernel
theorem dX3_isName_63 : decode cX3_isName 63 = .ok (.aload_n 0, 1) := by decide +kernel
theorem dX3_isName_64 : decode cX3_isName 64 = .ok (.getfield 88, 3) := by decide +kernel
theorem dX3_isName_67 : decode cX3_isName 67 = .ok (.ldc2_w 103, 3) := by decide +kernel
theorem dX3_isName_70 : decode cX3_isName 70 = .ok (.lcmp, 1) := by decide +kernel
theorem dX3_isName_71 : decode cX3_isName 71 = .ok (.ifCond .eq 7, 3) := by decide +kernel
theorem dX3_isName_74 : decode cX3_isName 74 = .ok (.iconst 1, 1) := by decide +kernel
theorem dX3_isName_75 : decode cX3_isName 75 = .ok (.goto 4, 3) := by decide +kernel
theorem dX3_isName_78 : decode cX3_isName 78 = .ok (.iconst 0, 1) := by decide +kernel
theorem dX3_isName_79 : decode cX3_isName 79 = .ok (.ireturn, 1) := by decide +kernel
theorem dX3_readToken_0 : decode cX3_readToken 0 = .ok (.aload_n 0, 1) := by decide +kernel
theorem dX3_readToken_1 : decode cX3_readToken 1 = .ok (.getfield 26, 3) := by decide +kernel
theorem dX3_readToken_4 : decode cX3_readToken 4 = .ok (.aload_n 0, 1) := by decide +kernel
theorem dX3_readToken_5 : decode cX3_readToken 5 = .ok (.getfield 22, 3) := by decide +kernel
theorem dX3_readToken_8 : decode cX3_readToken 8 = .ok (.if_icmp .ge 30, 3) := by decide +kernel
theorem dX3_readToken_11 : decode cX3_readToken 11 = .ok (.aload_n 0, 1) := by decide +kernel
theorem dX3_readToken_12 : decode cX3_readToken 12 = .ok (.getfield 18, 3) := by decide +kernel
theorem dX3_readToken_15 : decode cX3_readToken 15 = .ok (.aload_n 0, 1) := by decide +kernel
theorem dX3_readToken_16 : decode cX3_readToken 16 = .ok (.getfield 26, 3) := by decide +kernel
theorem dX3_readToken_19 : decode cX3_readToken 19 = .ok (.baload, 1) := by decide +kernel
theorem dX3_readToken_20 : decode cX3_readToken 20 = .ok (.bipush 32, 2) := by decide +kernel
theorem dX3_readToken_22 : decode cX3_readToken 22 = .ok (.if_icmp .ne 16, 3) := by decide +kernel
theorem dX3_readToken_25 : decode cX3_readToken 25 = .ok (.aload_n 0, 1) := by decide +kernel
theorem dX3_readToken_26 : decode cX3_readToken 26 = .ok (.dup, 1) := by decide +kernel
theorem dX3_readToken_27 : decode cX3_readToken 27 = .ok (.getfield 26, 3) := by decide +kernel
theorem dX3_readToken_30 : decode cX3_readToken 30 = .ok (.iconst 1, 1) := by decide +kernel
theorem dX3_readToken_31 : decode cX3_readToken 31 = .ok (.iadd, 1) := by decide +kernel
theorem dX3_readToken_32 : decode cX3_readToken 32 = .ok (.putfield 26, 3) := by decide +kernel
theorem dX3_readToken_35 : decode cX3_readToken 35 = .ok (.goto (-35), 3) := by decide +kernel
theorem dX3_readToken_38 : decode cX3_readToken 38 = .ok (.aload_n 0, 1) := by decide +kernel
theorem dX3_readToken_39 : decode cX3_readToken 39 = .ok (.aload_n 0, 1) := by decide +kernel
theorem dX3_readToken_40 : decode cX3_readToken 40 = .ok (.getfield 26, 3) := by decide +kernel
theorem dX3_readToken_43 : decode cX3_readToken 43 = .ok (.putfield 141, 3) := by decide +kernel
theorem dX3_readToken_46 : decode cX3_readToken 46 = .ok (.aload_n 0, 1) := by decide +kernel
theorem dX3_readToken_47 : decode cX3_readToken 47 = .ok (.getfield 26, 3) := by decide +kernel
theorem dX3_readToken_50 : decode cX3_readToken 50 = .ok (.aload_n 0, 1) := by decide +kernel
theorem dX3_readToken_51 : decode cX3_readToken 51 = .ok (.getfield 22, 3) := by decide +kernel
theorem dX3_readToken_54 : decode cX3_readToken 54 = .ok (.if_icmp .lt 11, 3) := by decide +kernel
theorem dX3_readToken_57 : decode cX3_readToken 57 = .ok (.aload_n 0, 1) := by decide +kernel
theorem dX3_readToken_58 : decode cX3_readToken 58 = .ok (.iconst 0, 1) := by decide +kernel
theorem dX3_readToken_59 : decode cX3_readToken 59 = .ok (.putfield 42, 3) := by decide +kernel
theorem dX3_readToken_62 : decode cX3_readToken 62 = .ok (.goto 98, 3) := by decide +kernel
theorem dX3_readToken_65 : decode cX3_readToken 65 = .ok (.aload_n 0, 1) := by decide +kernel
theorem dX3_readToken_66 : decode cX3_readToken 66 = .ok (.getfield 18, 3) := by decide +kernel
theorem dX3_readToken_69 : decode cX3_readToken 69 = .ok (.aload_n 0, 1) := by decide +kernel
theorem dX3_readToken_70 : decode cX3_readToken 70 = .ok (.getfield 26, 3) := by decide +kernel
theorem dX3_readToken_73 : decode cX3_readToken 73 = .ok (.baload, 1) := by decide +kernel
theorem dX3_readToken_74 : decode cX3_readToken 74 = .ok (.invokestatic 144, 3) := by decide +kernel
theorem dX3_readToken_77 : decode cX3_readToken 77 = .ok (.ifCond .eq 10, 3) := by decide +kernel
theorem dX3_readToken_80 : decode cX3_readToken 80 = .ok (.aload_n 0, 1) := by decide +kernel
theorem dX3_readToken_81 : decode cX3_readToken 81 = .ok (.invokevirtual 147, 3) := by decide +kernel
theorem dX3_readToken_84 : decode cX3_readToken 84 = .ok (.goto 76, 3) := by decide +kernel
theorem dX3_readToken_87 : decode cX3_readToken 87 = .ok (.aload_n 0, 1) := by decide +kernel
theorem dX3_readToken_88 : decode cX3_readToken 88 = .ok (.getfield 18, 3) := by decide +kernel
theorem dX3_readToken_91 : decode cX3_readToken 91 = .ok (.aload_n 0, 1) := by decide +kernel
theorem dX3_readToken_92 : decode cX3_readToken 92 = .ok (.getfield 26, 3) := by decide +kernel
theorem dX3_readToken_95 : decode cX3_readToken 95 = .ok (.baload, 1) := by decide +kernel
theorem dX3_readToken_96 : decode cX3_readToken 96 = .ok (.invokestatic 150, 3) := by decide +kernel
theorem dX3_readToken_99 : decode cX3_readToken 99 = .ok (.ifCond .eq 10, 3) := by decide +kernel
theorem dX3_readToken_102 : decode cX3_readToken 102 = .ok (.aload_n 0, 1) := by decide +kernel
theorem dX3_readToken_103 : decode cX3_readToken 103 = .ok (.invokevirtual 153, 3) := by decide +kernel
theorem dX3_readToken_106 : decode cX3_readToken 106 = .ok (.goto 54, 3) := by decide +kernel
theorem dX3_readToken_109 : decode cX3_readToken 109 = .ok (.aload_n 0, 1) := by decide +kernel
theorem dX3_readToken_110 : decode cX3_readToken 110 = .ok (.aload_n 0, 1) := by decide +kernel
theorem dX3_readToken_111 : decode cX3_readToken 111 = .ok (.getfield 18, 3) := by decide +kernel
theorem dX3_readToken_114 : decode cX3_readToken 114 = .ok (.aload_n 0, 1) := by decide +kernel
theorem dX3_readToken_115 : decode cX3_readToken 115 = .ok (.getfield 26, 3) := by decide +kernel
theorem dX3_readToken_118 : decode cX3_readToken 118 = .ok (.baload, 1) := by decide +kernel
theorem dX3_readToken_119 : decode cX3_readToken 119 = .ok (.bipush 59, 2) := by decide +kernel
theorem dX3_readToken_121 : decode cX3_readToken 121 = .ok (.if_icmp .ne 7, 3) := by decide +kernel
theorem dX3_readToken_124 : decode cX3_readToken 124 = .ok (.iconst 3, 1) := by decide +kernel
theorem dX3_readToken_125 : decode cX3_readToken 125 = .ok (.goto 22, 3) := by decide +kernel
theorem dX3_readToken_128 : decode cX3_readToken 128 = .ok (.aload_n 0, 1) := by decide +kernel
theorem dX3_readToken_129 : decode cX3_readToken 129 = .ok (.getfield 18, 3) := by decide +kernel
theorem dX3_readToken_132 : decode cX3_readToken 132 = .ok (.aload_n 0, 1) := by decide +kernel
theorem dX3_readToken_133 : decode cX3_readToken 133 = .ok (.getfield 26, 3) := by decide +kernel
theorem dX3_readToken_136 : decode cX3_readToken 136 = .ok (.baload, 1) := by decide +kernel
theorem dX3_readToken_137 : decode cX3_readToken 137 = .ok (.bipush 44, 2) := by decide +kernel
theorem dX3_readToken_139 : decode cX3_readToken 139 = .ok (.if_icmp .ne 7, 3) := by decide +kernel
theorem dX3_readToken_142 : decode cX3_readToken 142 = .ok (.iconst 4, 1) := by decide +kernel
theorem dX3_readToken_143 : decode cX3_readToken 143 = .ok (.goto 4, 3) := by decide +kernel
theorem dX3_readToken_146 : decode cX3_readToken 146 = .ok (.iconst 5, 1) := by decide +kernel
theorem dX3_readToken_147 : decode cX3_readToken 147 = .ok (.putfield 42, 3) := by decide +kernel
theorem dX3_readToken_150 : decode cX3_readToken 150 = .ok (.aload_n 0, 1) := by decide +kernel
theorem dX3_readToken_151 : decode cX3_readToken 151 = .ok (.dup, 1) := by decide +kernel
theorem dX3_readToken_152 : decode cX3_readToken 152 = .ok (.getfield 26, 3) := by decide +kernel
theorem dX3_readToken_155 : decode cX3_readToken 155 = .ok (.iconst 1, 1) := by decide +kernel
theorem dX3_readToken_156 : decode cX3_readToken 156 = .ok (.iadd, 1) := by decide +kernel
theorem dX3_readToken_157 : decode cX3_readToken 157 = .ok (.putfield 26, 3) := by decide +kernel
theorem dX3_readToken_160 : decode cX3_readToken 160 = .ok (.return_, 1) := by decide +kernel
theorem dX3_readWord_0 : decode cX3_readWord 0 = .ok (.aload_n 0, 1) := by decide +kernel
theorem dX3_readWord_1 : decode cX3_readWord 1 = .ok (.getfield 26, 3) := by decide +kernel
theorem dX3_readWord_4 : decode cX3_readWord 4 = .ok (.aload_n 0, 1) := by decide +kernel
theorem dX3_readWord_5 : decode cX3_readWord 5 = .ok (.getfield 22, 3) := by decide +kernel
theorem dX3_readWord_8 : decode cX3_readWord 8 = .ok (.if_icmp .ge 31, 3) := by decide +kernel
theorem dX3_readWord_11 : decode cX3_readWord 11 = .ok (.aload_n 0, 1) := by decide +kernel
theorem dX3_readWord_12 : decode cX3_readWord 12 = .ok (.getfield 18, 3) := by decide +kernel
theorem dX3_readWord_15 : decode cX3_readWord 15 = .ok (.aload_n 0, 1) := by decide +kernel
theorem dX3_readWord_16 : decode cX3_readWord 16 = .ok (.getfield 26, 3) := by decide +kernel
theorem dX3_readWord_19 : decode cX3_readWord 19 = .ok (.baload, 1) := by decide +kernel
theorem dX3_readWord_20 : decode cX3_readWord 20 = .ok (.invokestatic 144, 3) := by decide +kernel
theorem dX3_readWord_23 : decode cX3_readWord 23 = .ok (.ifCond .eq 16, 3) := by decide +kernel
theorem dX3_readWord_26 : decode cX3_readWord 26 = .ok (.aload_n 0, 1) := by decide +kernel
theorem dX3_readWord_27 : decode cX3_readWord 27 = .ok (.dup, 1) := by decide +kernel
theorem dX3_readWord_28 : decode cX3_readWord 28 = .ok (.getfield 26, 3) := by decide +kernel
theorem dX3_readWord_31 : decode cX3_readWord 31 = .ok (.iconst 1, 1) := by decide +kernel
theorem dX3_readWord_32 : decode cX3_readWord 32 = .ok (.iadd, 1) := by decide +kernel
theorem dX3_readWord_33 : decode cX3_readWord 33 = .ok (.putfield 26, 3) := by decide +kernel
theorem dX3_readWord_36 : decode cX3_readWord 36 = .ok (.goto (-36), 3) := by decide +kernel
theorem dX3_readWord_39 : decode cX3_readWord 39 = .ok (.aload_n 0, 1) := by decide +kernel
theorem dX3_readWord_40 : decode cX3_readWord 40 = .ok (.aload_n 0, 1) := by decide +kernel
theorem dX3_readWord_41 : decode cX3_readWord 41 = .ok (.getfield 26, 3) := by decide +kernel
theorem dX3_readWord_44 : decode cX3_readWord 44 = .ok (.aload_n 0, 1) := by decide +kernel
theorem dX3_readWord_45 : decode cX3_readWord 45 = .ok (.getfield 141, 3) := by decide +kernel
theorem dX3_readWord_48 : decode cX3_readWord 48 = .ok (.isub, 1) := by decide +kernel
theorem dX3_readWord_49 : decode cX3_readWord 49 = .ok (.bipush 6, 2) := by decide +kernel
theorem dX3_readWord_51 : decode cX3_readWord 51 = .ok (.if_icmp .gt 7, 3) := by decide +kernel
theorem dX3_readWord_54 : decode cX3_readWord 54 = .ok (.iconst 1, 1) := by decide +kernel
theorem dX3_readWord_55 : decode cX3_readWord 55 = .ok (.goto 4, 3) := by decide +kernel
theorem dX3_readWord_58 : decode cX3_readWord 58 = .ok (.iconst 5, 1) := by decide +kernel
theorem dX3_readWord_59 : decode cX3_readWord 59 = .ok (.putfield 42, 3) := by decide +kernel
theorem dX3_readWord_62 : decode cX3_readWord 62 = .ok (.aload_n 0, 1) := by decide +kernel
theorem dX3_readWord_63 : decode cX3_readWord 63 = .ok (.aload_n 0, 1) := by decide +kernel
theorem dX3_readWord_64 : decode cX3_readWord 64 = .ok (.getfield 18, 3) := by decide +kernel
theorem dX3_readWord_67 : decode cX3_readWord 67 = .ok (.aload_n 0, 1) := by decide +kernel
theorem dX3_readWord_68 : decode cX3_readWord 68 = .ok (.getfield 141, 3) := by decide +kernel
theorem dX3_readWord_71 : decode cX3_readWord 71 = .ok (.aload_n 0, 1) := by decide +kernel
theorem dX3_readWord_72 : decode cX3_readWord 72 = .ok (.getfield 26, 3) := by decide +kernel
theorem dX3_readWord_75 : decode cX3_readWord 75 = .ok (.invokestatic 156, 3) := by decide +kernel
theorem dX3_readWord_78 : decode cX3_readWord 78 = .ok (.putfield 88, 3) := by decide +kernel
theorem dX3_readWord_81 : decode cX3_readWord 81 = .ok (.return_, 1) := by decide +kernel
theorem dX3_readWhole_0 : decode cX3_readWhole 0 = .ok (.aload_n 0, 1) := by decide +kernel
theorem dX3_readWhole_1 : decode cX3_readWhole 1 = .ok (.iconst 0, 1) := by decide +kernel
theorem dX3_readWhole_2 : decode cX3_readWhole 2 = .ok (.putfield 74, 3) := by decide +kernel
theorem dX3_readWhole_5 : decode cX3_readWhole 5 = .ok (.aload_n 0, 1) := by decide +kernel
theorem dX3_readWhole_6 : decode cX3_readWhole 6 = .ok (.getfield 26, 3) := by decide +kernel
theorem dX3_readWhole_9 : decode cX3_readWhole 9 = .ok (.aload_n 0, 1) := by decide +kernel
theorem dX3_readWhole_10 : decode cX3_readWhole 10 = .ok (.getfield 22, 3) := by decide +kernel
theorem dX3_readWhole_13 : decode cX3_readWhole 13 = .ok (.if_icmp .ge 55, 3) := by decide +kernel
theorem dX3_readWhole_16 : decode cX3_readWhole 16 = .ok (.aload_n 0, 1) := by decide +kernel
theorem dX3_readWhole_17 : decode cX3_readWhole 17 = .ok (.getfield 18, 3) := by decide +kernel
theorem dX3_readWhole_20 : decode cX3_readWhole 20 = .ok (.aload_n 0, 1) := by decide +kernel
theorem dX3_readWhole_21 : decode cX3_readWhole 21 = .ok (.getfield 26, 3) := by decide +kernel
theorem dX3_readWhole_24 : decode cX3_readWhole 24 = .ok (.baload, 1) := by decide +kernel
theorem dX3_readWhole_25 : decode cX3_readWhole 25 = .ok (.invokestatic 150, 3) := by decide +kernel
theorem dX3_readWhole_28 : decode cX3_readWhole 28 = .ok (.ifCond .eq 40, 3) := by decide +kernel
theorem dX3_readWhole_31 : decode cX3_readWhole 31 = .ok (.aload_n 0, 1) := by decide +kernel
theorem dX3_readWhole_32 : decode cX3_readWhole 32 = .ok (.bipush 10, 2) := by decide +kernel
theorem dX3_readWhole_34 : decode cX3_readWhole 34 = .ok (.aload_n 0, 1) := by decide +kernel
theorem dX3_readWhole_35 : decode cX3_readWhole 35 = .ok (.getfield 74, 3) := by decide +kernel
theorem dX3_readWhole_38 : decode cX3_readWhole 38 = .ok (.imul, 1) := by decide +kernel
theorem dX3_readWhole_39 : decode cX3_readWhole 39 = .ok (.aload_n 0, 1) := by decide +kernel
theorem dX3_readWhole_40 : decode cX3_readWhole 40 = .ok (.getfield 18, 3) := by decide +kernel
theorem dX3_readWhole_43 : decode cX3_readWhole 43 = .ok (.aload_n 0, 1) := by decide +kernel
theorem dX3_readWhole_44 : decode cX3_readWhole 44 = .ok (.getfield 26, 3) := by decide +kernel
theorem dX3_readWhole_47 : decode cX3_readWhole 47 = .ok (.baload, 1) := by decide +kernel
theorem dX3_readWhole_48 : decode cX3_readWhole 48 = .ok (.iadd, 1) := by decide +kernel
theorem dX3_readWhole_49 : decode cX3_readWhole 49 = .ok (.bipush 48, 2) := by decide +kernel
theorem dX3_readWhole_51 : decode cX3_readWhole 51 = .ok (.isub, 1) := by decide +kernel
theorem dX3_readWhole_52 : decode cX3_readWhole 52 = .ok (.putfield 74, 3) := by decide +kernel
theorem dX3_readWhole_55 : decode cX3_readWhole 55 = .ok (.aload_n 0, 1) := by decide +kernel
theorem dX3_readWhole_56 : decode cX3_readWhole 56 = .ok (.dup, 1) := by decide +kernel
theorem dX3_readWhole_57 : decode cX3_readWhole 57 = .ok (.getfield 26, 3) := by decide +kernel
theorem dX3_readWhole_60 : decode cX3_readWhole 60 = .ok (.iconst 1, 1) := by decide +kernel
theorem dX3_readWhole_61 : decode cX3_readWhole 61 = .ok (.iadd, 1) := by decide +kernel
theorem dX3_readWhole_62 : decode cX3_readWhole 62 = .ok (.putfield 26, 3) := by decide +kernel
theorem dX3_readWhole_65 : decode cX3_readWhole 65 = .ok (.goto (-60), 3) := by decide +kernel
theorem dX3_readWhole_68 : decode cX3_readWhole 68 = .ok (.aload_n 0, 1) := by decide +kernel
theorem dX3_readWhole_69 : decode cX3_readWhole 69 = .ok (.aload_n 0, 1) := by decide +kernel
theorem dX3_readWhole_70 : decode cX3_readWhole 70 = .ok (.getfield 26, 3) := by decide +kernel
theorem dX3_readWhole_73 : decode cX3_readWhole 73 = .ok (.aload_n 0, 1) := by decide +kernel
theorem dX3_readWhole_74 : decode cX3_readWhole 74 = .ok (.getfield 141, 3) := by decide +kernel
theorem dX3_readWhole_77 : decode cX3_readWhole 77 = .ok (.isub, 1) := by decide +kernel
theorem dX3_readWhole_78 : decode cX3_readWhole 78 = .ok (.iconst 3, 1) := by decide +kernel
theorem dX3_readWhole_79 : decode cX3_readWhole 79 = .ok (.if_icmp .gt 7, 3) := by decide +kernel
theorem dX3_readWhole_82 : decode cX3_readWhole 82 = .ok (.iconst 2, 1) := by decide +kernel
theorem dX3_readWhole_83 : decode cX3_readWhole 83 = .ok (.goto 4, 3) := by decide +kernel
theorem dX3_readWhole_86 : decode cX3_readWhole 86 = .ok (.iconst 5, 1) := by decide +kernel
theorem dX3_readWhole_87 : decode cX3_readWhole 87 = .ok (.putfield 42, 3) := by decide +kernel
theorem dX3_readWhole_90 : decode cX3_readWhole 90 = .ok (.return_, 1) := by decide +kernel
theorem dX3_isLetter_0 : decode cX3_isLetter 0 = .ok (.iload_n 0, 1) := by decide +kernel
theorem dX3_isLetter_1 : decode cX3_isLetter 1 = .ok (.bipush 97, 2) := by decide +kernel
theorem dX3_isLetter_3 : decode cX3_isLetter 3 = .ok (.if_icmp .lt 13, 3) := by decide +kernel
theorem dX3_isLetter_6 : decode cX3_isLetter 6 = .ok (.iload_n 0, 1) := by decide +kernel
theorem dX3_isLetter_7 : decode cX3_isLetter 7 = .ok (.bipush 122, 2) := by decide +kernel
theorem dX3_isLetter_9 : decode cX3_isLetter 9 = .ok (.if_icmp .gt 7, 3) := by decide +kernel
theorem dX3_isLetter_12 : decode cX3_isLetter 12 = .ok (.iconst 1, 1) := by decide +kernel
theorem dX3_isLetter_13 : decode cX3_isLetter 13 = .ok (.goto 4, 3) := by decide +kernel
theorem dX3_isLetter_16 : decode cX3_isLetter 16 = .ok (.iconst 0, 1) := by decide +kernel
theorem dX3_isLetter_17 : decode cX3_isLetter 17 = .ok (.ireturn, 1) := by decide +kernel
theorem dX3_isDigit_0 : decode cX3_isDigit 0 = .ok (.iload_n 0, 1) := by decide +kernel
theorem dX3_isDigit_1 : decode cX3_isDigit 1 = .ok (.bipush 48, 2) := by decide +kernel
theorem dX3_isDigit_3 : decode cX3_isDigit 3 = .ok (.if_icmp .lt 13, 3) := by decide +kernel
theorem dX3_isDigit_6 : decode cX3_isDigit 6 = .ok (.iload_n 0, 1) := by decide +kernel
theorem dX3_isDigit_7 : decode cX3_isDigit 7 = .ok (.bipush 57, 2) := by decide +kernel
theorem dX3_isDigit_9 : decode cX3_isDigit 9 = .ok (.if_icmp .gt 7, 3) := by decide +kernel
theorem dX3_isDigit_12 : decode cX3_isDigit 12 = .ok (.iconst 1, 1) := by decide +kernel
theorem dX3_isDigit_13 : decode cX3_isDigit 13 = .ok (.goto 4, 3) := by decide +kernel
theorem dX3_isDigit_16 : decode cX3_isDigit 16 = .ok (.iconst 0, 1) := by decide +kernel
theorem dX3_isDigit_17 : decode cX3_isDigit 17 = .ok (.ireturn, 1) := by decide +kernel
theorem dX3_packed_0 : decode cX3_packed 0 = .ok (.lconst 0, 1) := by decide +kernel
theorem dX3_packed_1 : decode cX3_packed 1 = .ok (.lstore_n 3, 1) := by decide +kernel
theorem dX3_packed_2 : decode cX3_packed 2 = .ok (.iload_n 1, 1) := by decide +kernel
theorem dX3_packed_3 : decode cX3_packed 3 = .ok (.istore 5, 2) := by decide +kernel
theorem dX3_packed_5 : decode cX3_packed 5 = .ok (.iload 5, 2) := by decide +kernel
theorem dX3_packed_7 : decode cX3_packed 7 = .ok (.iload_n 2, 1) := by decide +kernel
theorem dX3_packed_8 : decode cX3_packed 8 = .ok (.if_icmp .ge 20, 3) := by decide +kernel
theorem dX3_packed_11 : decode cX3_packed 11 = .ok (.lload_n 3, 1) := by decide +kernel
theorem dX3_packed_12 : decode cX3_packed 12 = .ok (.bipush 8, 2) := by decide +kernel
theorem dX3_packed_14 : decode cX3_packed 14 = .ok (.lshl, 1) := by decide +kernel
theorem dX3_packed_15 : decode cX3_packed 15 = .ok (.aload_n 0, 1) := by decide +kernel
theorem dX3_packed_16 : decode cX3_packed 16 = .ok (.iload 5, 2) := by decide +kernel
theorem dX3_packed_18 : decode cX3_packed 18 = .ok (.baload, 1) := by decide +kernel
theorem dX3_packed_19 : decode cX3_packed 19 = .ok (.i2l, 1) := by decide +kernel
theorem dX3_packed_20 : decode cX3_packed 20 = .ok (.lor, 1) := by decide +kernel
theorem dX3_packed_21 : decode cX3_packed 21 = .ok (.lstore_n 3, 1) := by decide +kernel
theorem dX3_packed_22 : decode cX3_packed 22 = .ok (.iinc 5 1, 3) := by decide +kernel
theorem dX3_packed_25 : decode cX3_packed 25 = .ok (.goto (-20), 3) := by decide +kernel
theorem dX3_packed_28 : decode cX3_packed 28 = .ok (.lload_n 3, 1) := by decide +kernel
theorem dX3_packed_29 : decode cX3_packed 29 = .ok (.lreturn, 1) := by decide +kernel
theorem dX3_onlyWord_0 : decode cX3_onlyWord 0 = .ok (.iconst 0, 1) := by decide +kernel
theorem dX3_onlyWord_1 : decode cX3_onlyWord 1 = .ok (.istore_n 2, 1) := by decide +kernel
theorem dX3_onlyWord_2 : decode cX3_onlyWord 2 = .ok (.iload_n 1, 1) := by decide +kernel
theorem dX3_onlyWord_3 : decode cX3_onlyWord 3 = .ok (.istore_n 3, 1) := by decide +kernel
theorem dX3_onlyWord_4 : decode cX3_onlyWord 4 = .ok (.iload_n 2, 1) := by decide +kernel
theorem dX3_onlyWord_5 : decode cX3_onlyWord 5 = .ok (.iload_n 3, 1) := by decide +kernel
theorem dX3_onlyWord_6 : decode cX3_onlyWord 6 = .ok (.if_icmp .ge 17, 3) := by decide +kernel
theorem dX3_onlyWord_9 : decode cX3_onlyWord 9 = .ok (.aload_n 0, 1) := by decide +kernel
theorem dX3_onlyWord_10 : decode cX3_onlyWord 10 = .ok (.iload_n 2, 1) := by decide +kernel
theorem dX3_onlyWord_11 : decode cX3_onlyWord 11 = .ok (.baload, 1) := by decide +kernel
theorem dX3_onlyWord_12 : decode cX3_onlyWord 12 = .ok (.bipush 32, 2) := by decide +kernel
theorem dX3_onlyWord_14 : decode cX3_onlyWord 14 = .ok (.if_icmp .ne 9, 3) := by decide +kernel
theorem dX3_onlyWord_17 : decode cX3_onlyWord 17 = .ok (.iinc 2 1, 3) := by decide +kernel
theorem dX3_onlyWord_20 : decode cX3_onlyWord 20 = .ok (.goto (-16), 3) := by decide +kernel
theorem dX3_onlyWord_23 : decode cX3_onlyWord 23 = .ok (.iload_n 3, 1) := by decide +kernel
theorem dX3_onlyWord_24 : decode cX3_onlyWord 24 = .ok (.iload_n 2, 1) := by decide +kernel
theorem dX3_onlyWord_25 : decode cX3_onlyWord 25 = .ok (.if_icmp .le 19, 3) := by decide +kernel
theorem dX3_onlyWord_28 : decode cX3_onlyWord 28 = .ok (.aload_n 0, 1) := by decide +kernel
theorem dX3_onlyWord_29 : decode cX3_onlyWord 29 = .ok (.iload_n 3, 1) := by decide +kernel
theorem dX3_onlyWord_30 : decode cX3_onlyWord 30 = .ok (.iconst 1, 1) := by decide +kernel
theorem dX3_onlyWord_31 : decode cX3_onlyWord 31 = .ok (.isub, 1) := by decide +kernel
theorem dX3_onlyWord_32 : decode cX3_onlyWord 32 = .ok (.baload, 1) := by decide +kernel
theorem dX3_onlyWord_33 : decode cX3_onlyWord 33 = .ok (.bipush 32, 2) := by decide +kernel
theorem dX3_onlyWord_35 : decode cX3_onlyWord 35 = .ok (.if_icmp .ne 9, 3) := by decide +kernel
theorem dX3_onlyWord_38 : decode cX3_onlyWord 38 = .ok (.iinc 3 (-1), 3) := by decide +kernel
theorem dX3_onlyWord_41 : decode cX3_onlyWord 41 = .ok (.goto (-18), 3) := by decide +kernel
theorem dX3_onlyWord_44 : decode cX3_onlyWord 44 = .ok (.iload_n 2, 1) := by decide +kernel
theorem dX3_onlyWord_45 : decode cX3_onlyWord 45 = .ok (.istore 4, 2) := by decide +kernel
theorem dX3_onlyWord_47 : decode cX3_onlyWord 47 = .ok (.iload 4, 2) := by decide +kernel
theorem dX3_onlyWord_49 : decode cX3_onlyWord 49 = .ok (.iload_n 3, 1) := by decide +kernel
theorem dX3_onlyWord_50 : decode cX3_onlyWord 50 = .ok (.if_icmp .ge 21, 3) := by decide +kernel
theorem dX3_onlyWord_53 : decode cX3_onlyWord 53 = .ok (.aload_n 0, 1) := by decide +kernel
theorem dX3_onlyWord_54 : decode cX3_onlyWord 54 = .ok (.iload 4, 2) := by decide +kernel
theorem dX3_onlyWord_56 : decode cX3_onlyWord 56 = .ok (.baload, 1) := by decide +kernel
theorem dX3_onlyWord_57 : decode cX3_onlyWord 57 = .ok (.invokestatic 144, 3) := by decide +kernel
theorem dX3_onlyWord_60 : decode cX3_onlyWord 60 = .ok (.ifCond .ne 5, 3) := by decide +kernel
theorem dX3_onlyWord_63 : decode cX3_onlyWord 63 = .ok (.lconst 0, 1) := by decide +kernel
theorem dX3_onlyWord_64 : decode cX3_onlyWord 64 = .ok (.lreturn, 1) := by decide +kernel
theorem dX3_onlyWord_65 : decode cX3_onlyWord 65 = .ok (.iinc 4 1, 3) := by decide +kernel
theorem dX3_onlyWord_68 : decode cX3_onlyWord 68 = .ok (.goto (-21), 3) := by decide +kernel
end
section
theorem dX3_onlyWord_71 : decode cX3_onlyWord 71 = .ok (.iload_n 3, 1) := by decide +kernel
theorem dX3_onlyWord_72 : decode cX3_onlyWord 72 = .ok (.iload_n 2, 1) := by decide +kernel
theorem dX3_onlyWord_73 : decode cX3_onlyWord 73 = .ok (.isub, 1) := by decide +kernel
theorem dX3_onlyWord_74 : decode cX3_onlyWord 74 = .ok (.bipush 6, 2) := by decide +kernel
theorem dX3_onlyWord_76 : decode cX3_onlyWord 76 = .ok (.if_icmp .gt 12, 3) := by decide +kernel
theorem dX3_onlyWord_79 : decode cX3_onlyWord 79 = .ok (.aload_n 0, 1) := by decide +kernel
theorem dX3_onlyWord_80 : decode cX3_onlyWord 80 = .ok (.iload_n 2, 1) := by decide +kernel
theorem dX3_onlyWord_81 : decode cX3_onlyWord 81 = .ok (.iload_n 3, 1) := by decide +kernel
theorem dX3_onlyWord_82 : decode cX3_onlyWord 82 = .ok (.invokestatic 156, 3) := by decide +kernel
theorem dX3_onlyWord_85 : decode cX3_onlyWord 85 = .ok (.goto 4, 3) := by decide +kernel
theorem dX3_onlyWord_88 : decode cX3_onlyWord 88 = .ok (.lconst 0, 1) := by decide +kernel
theorem dX3_onlyWord_89 : decode cX3_onlyWord 89 = .ok (.lreturn, 1) := by decide +kernel
end
section
theorem dX4_init_0 : decode cX4_init 0 = .ok (.aload_n 0, 1) := by decide +kernel
theorem dX4_init_1 : decode cX4_init 1 = .ok (.invokespecial 3, 3) := by decide +kernel
theorem dX4_init_4 : decode cX4_init 4 = .ok (.aload_n 0, 1) := by decide +kernel
theorem dX4_init_5 : decode cX4_init 5 = .ok (.bipush 14, 2) := by decide +kernel
theorem dX4_init_7 : decode cX4_init 7 = .ok (.newarray .int, 2) := by decide +kernel
theorem dX4_init_9 : decode cX4_init 9 = .ok (.putfield 9, 3) := by decide +kernel
theorem dX4_init_12 : decode cX4_init 12 = .ok (.aload_n 0, 1) := by decide +kernel
theorem dX4_init_13 : decode cX4_init 13 = .ok (.bipush 126, 2) := by decide +kernel
theorem dX4_init_15 : decode cX4_init 15 = .ok (.newarray .int, 2) := by decide +kernel
theorem dX4_init_17 : decode cX4_init 17 = .ok (.putfield 15, 3) := by decide +kernel
theorem dX4_init_20 : decode cX4_init 20 = .ok (.aload_n 0, 1) := by decide +kernel
theorem dX4_init_21 : decode cX4_init 21 = .ok (.bipush 126, 2) := by decide +kernel
theorem dX4_init_23 : decode cX4_init 23 = .ok (.newarray .int, 2) := by decide +kernel
theorem dX4_init_25 : decode cX4_init 25 = .ok (.putfield 18, 3) := by decide +kernel
theorem dX4_init_28 : decode cX4_init 28 = .ok (.aload_n 0, 1) := by decide +kernel
theorem dX4_init_29 : decode cX4_init 29 = .ok (.bipush 9, 2) := by decide +kernel
theorem dX4_init_31 : decode cX4_init 31 = .ok (.newarray .int, 2) := by decide +kernel
theorem dX4_init_33 : decode cX4_init 33 = .ok (.putfield 21, 3) := by decide +kernel
theorem dX4_init_36 : decode cX4_init 36 = .ok (.return_, 1) := by decide +kernel
theorem dX4_find_0 : decode cX4_find 0 = .ok (.aload_n 0, 1) := by decide +kernel
theorem dX4_find_1 : decode cX4_find 1 = .ok (.iconst 0, 1) := by decide +kernel
theorem dX4_find_2 : decode cX4_find 2 = .ok (.putfield 24, 3) := by decide +kernel
theorem dX4_find_5 : decode cX4_find 5 = .ok (.iload_n 3, 1) := by decide +kernel
theorem dX4_find_6 : decode cX4_find 6 = .ok (.aload_n 2, 1) := by decide +kernel
theorem dX4_find_7 : decode cX4_find 7 = .ok (.getfield 28, 3) := by decide +kernel
theorem dX4_find_10 : decode cX4_find 10 = .ok (.iconst (-1), 1) := by decide +kernel
theorem dX4_find_11 : decode cX4_find 11 = .ok (.ixor, 1) := by decide +kernel
theorem dX4_find_12 : decode cX4_find 12 = .ok (.iand, 1) := by decide +kernel
theorem dX4_find_13 : decode cX4_find 13 = .ok (.istore 4, 2) := by decide +kernel
theorem dX4_find_15 : decode cX4_find 15 = .ok (.iconst 0, 1) := by decide +kernel
theorem dX4_find_16 : decode cX4_find 16 = .ok (.istore 5, 2) := by decide +kernel
theorem dX4_find_18 : decode cX4_find 18 = .ok (.iload 5, 2) := by decide +kernel
theorem dX4_find_20 : decode cX4_find 20 = .ok (.aload_n 1, 1) := by decide +kernel
theorem dX4_find_21 : decode cX4_find 21 = .ok (.getfield 33, 3) := by decide +kernel
theorem dX4_find_24 : decode cX4_find 24 = .ok (.if_icmp .ge 84, 3) := by decide +kernel
theorem dX4_find_27 : decode cX4_find 27 = .ok (.iload 4, 2) := by decide +kernel
theorem dX4_find_29 : decode cX4_find 29 = .ok (.iload 5, 2) := by decide +kernel
theorem dX4_find_31 : decode cX4_find 31 = .ok (.invokestatic 36, 3) := by decide +kernel
theorem dX4_find_34 : decode cX4_find 34 = .ok (.iconst 1, 1) := by decide +kernel
theorem dX4_find_35 : decode cX4_find 35 = .ok (.if_icmp .ne 67, 3) := by decide +kernel
theorem dX4_find_38 : decode cX4_find 38 = .ok (.aload_n 2, 1) := by decide +kernel
theorem dX4_find_39 : decode cX4_find 39 = .ok (.getfield 40, 3) := by decide +kernel
theorem dX4_find_42 : decode cX4_find 42 = .ok (.aload_n 1, 1) := by decide +kernel
theorem dX4_find_43 : decode cX4_find 43 = .ok (.getfield 43, 3) := by decide +kernel
theorem dX4_find_46 : decode cX4_find 46 = .ok (.iload 5, 2) := by decide +kernel
theorem dX4_find_48 : decode cX4_find 48 = .ok (.iaload, 1) := by decide +kernel
theorem dX4_find_49 : decode cX4_find 49 = .ok (.invokestatic 36, 3) := by decide +kernel
theorem dX4_find_52 : decode cX4_find 52 = .ok (.iconst 1, 1) := by decide +kernel
theorem dX4_find_53 : decode cX4_find 53 = .ok (.if_icmp .ne 49, 3) := by decide +kernel
theorem dX4_find_56 : decode cX4_find 56 = .ok (.aload_n 0, 1) := by decide +kernel
theorem dX4_find_57 : decode cX4_find 57 = .ok (.getfield 9, 3) := by decide +kernel
theorem dX4_find_60 : decode cX4_find 60 = .ok (.aload_n 0, 1) := by decide +kernel
theorem dX4_find_61 : decode cX4_find 61 = .ok (.getfield 24, 3) := by decide +kernel
theorem dX4_find_64 : decode cX4_find 64 = .ok (.iconst 0, 1) := by decide +kernel
theorem dX4_find_65 : decode cX4_find 65 = .ok (.iastore, 1) := by decide +kernel
theorem dX4_find_66 : decode cX4_find 66 = .ok (.aload_n 0, 1) := by decide +kernel
theorem dX4_find_67 : decode cX4_find 67 = .ok (.iload 5, 2) := by decide +kernel
theorem dX4_find_69 : decode cX4_find 69 = .ok (.iconst 1, 1) := by decide +kernel
theorem dX4_find_70 : decode cX4_find 70 = .ok (.invokevirtual 46, 3) := by decide +kernel
theorem dX4_find_73 : decode cX4_find 73 = .ok (.aload_n 0, 1) := by decide +kernel
theorem dX4_find_74 : decode cX4_find 74 = .ok (.aload_n 2, 1) := by decide +kernel
theorem dX4_find_75 : decode cX4_find 75 = .ok (.aload_n 1, 1) := by decide +kernel
theorem dX4_find_76 : decode cX4_find 76 = .ok (.getfield 50, 3) := by decide +kernel
theorem dX4_find_79 : decode cX4_find 79 = .ok (.iload 5, 2) := by decide +kernel
theorem dX4_find_81 : decode cX4_find 81 = .ok (.iaload, 1) := by decide +kernel
theorem dX4_find_82 : decode cX4_find 82 = .ok (.aload_n 1, 1) := by decide +kernel
theorem dX4_find_83 : decode cX4_find 83 = .ok (.getfield 43, 3) := by decide +kernel
theorem dX4_find_86 : decode cX4_find 86 = .ok (.iload 5, 2) := by decide +kernel
theorem dX4_find_88 : decode cX4_find 88 = .ok (.iaload, 1) := by decide +kernel
theorem dX4_find_89 : decode cX4_find 89 = .ok (.invokevirtual 53, 3) := by decide +kernel
theorem dX4_find_92 : decode cX4_find 92 = .ok (.aload_n 0, 1) := by decide +kernel
theorem dX4_find_93 : decode cX4_find 93 = .ok (.dup, 1) := by decide +kernel
theorem dX4_find_94 : decode cX4_find 94 = .ok (.getfield 24, 3) := by decide +kernel
theorem dX4_find_97 : decode cX4_find 97 = .ok (.iconst 1, 1) := by decide +kernel
theorem dX4_find_98 : decode cX4_find 98 = .ok (.iadd, 1) := by decide +kernel
theorem dX4_find_99 : decode cX4_find 99 = .ok (.putfield 24, 3) := by decide +kernel
theorem dX4_find_102 : decode cX4_find 102 = .ok (.iinc 5 1, 3) := by decide +kernel
theorem dX4_find_105 : decode cX4_find 105 = .ok (.goto (-87), 3) := by decide +kernel
theorem dX4_find_108 : decode cX4_find 108 = .ok (.return_, 1) := by decide +kernel
theorem dX4_followTree_0 : decode cX4_followTree 0 = .ok (.iload_n 2, 1) := by decide +kernel
theorem dX4_followTree_1 : decode cX4_followTree 1 = .ok (.istore 4, 2) := by decide +kernel
theorem dX4_followTree_3 : decode cX4_followTree 3 = .ok (.iload_n 3, 1) := by decide +kernel
theorem dX4_followTree_4 : decode cX4_followTree 4 = .ok (.istore 5, 2) := by decide +kernel
theorem dX4_followTree_6 : decode cX4_followTree 6 = .ok (.iconst 0, 1) := by decide +kernel
theorem dX4_followTree_7 : decode cX4_followTree 7 = .ok (.istore 6, 2) := by decide +kernel
theorem dX4_followTree_9 : decode cX4_followTree 9 = .ok (.iconst 0, 1) := by decide +kernel
theorem dX4_followTree_10 : decode cX4_followTree 10 = .ok (.istore 7, 2) := by decide +kernel
theorem dX4_followTree_12 : decode cX4_followTree 12 = .ok (.iload 7, 2) := by decide +kernel
theorem dX4_followTree_14 : decode cX4_followTree 14 = .ok (.bipush 18, 2) := by decide +kernel
theorem dX4_followTree_16 : decode cX4_followTree 16 = .ok (.if_icmp .ge 92, 3) := by decide +kernel
theorem dX4_followTree_19 : decode cX4_followTree 19 = .ok (.iload 4, 2) := by decide +kernel
theorem dX4_followTree_21 : decode cX4_followTree 21 = .ok (.iload 5, 2) := by decide +kernel
theorem dX4_followTree_23 : decode cX4_followTree 23 = .ok (.if_icmp .eq 85, 3) := by decide +kernel
theorem dX4_followTree_26 : decode cX4_followTree 26 = .ok (.aload_n 1, 1) := by decide +kernel
theorem dX4_followTree_27 : decode cX4_followTree 27 = .ok (.getfield 57, 3) := by decide +kernel
theorem dX4_followTree_30 : decode cX4_followTree 30 = .ok (.iload 4, 2) := by decide +kernel
theorem dX4_followTree_32 : decode cX4_followTree 32 = .ok (.iaload, 1) := by decide +kernel
theorem dX4_followTree_33 : decode cX4_followTree 33 = .ok (.aload_n 1, 1) := by decide +kernel
theorem dX4_followTree_34 : decode cX4_followTree 34 = .ok (.getfield 57, 3) := by decide +kernel
theorem dX4_followTree_37 : decode cX4_followTree 37 = .ok (.iload 5, 2) := by decide +kernel
theorem dX4_followTree_39 : decode cX4_followTree 39 = .ok (.iaload, 1) := by decide +kernel
theorem dX4_followTree_40 : decode cX4_followTree 40 = .ok (.if_icmp .lt 34, 3) := by decide +kernel
theorem dX4_followTree_43 : decode cX4_followTree 43 = .ok (.aload_n 0, 1) := by decide +kernel
theorem dX4_followTree_44 : decode cX4_followTree 44 = .ok (.aload_n 1, 1) := by decide +kernel
theorem dX4_followTree_45 : decode cX4_followTree 45 = .ok (.getfield 60, 3) := by decide +kernel
theorem dX4_followTree_48 : decode cX4_followTree 48 = .ok (.iload 4, 2) := by decide +kernel
theorem dX4_followTree_50 : decode cX4_followTree 50 = .ok (.iaload, 1) := by decide +kernel
theorem dX4_followTree_51 : decode cX4_followTree 51 = .ok (.aload_n 1, 1) := by decide +kernel
theorem dX4_followTree_52 : decode cX4_followTree 52 = .ok (.getfield 63, 3) := by decide +kernel
theorem dX4_followTree_55 : decode cX4_followTree 55 = .ok (.iload 4, 2) := by decide +kernel
theorem dX4_followTree_57 : decode cX4_followTree 57 = .ok (.iaload, 1) := by decide +kernel
theorem dX4_followTree_58 : decode cX4_followTree 58 = .ok (.ineg, 1) := by decide +kernel
theorem dX4_followTree_59 : decode cX4_followTree 59 = .ok (.invokevirtual 46, 3) := by decide +kernel
theorem dX4_followTree_62 : decode cX4_followTree 62 = .ok (.aload_n 1, 1) := by decide +kernel
theorem dX4_followTree_63 : decode cX4_followTree 63 = .ok (.getfield 64, 3) := by decide +kernel
theorem dX4_followTree_66 : decode cX4_followTree 66 = .ok (.iload 4, 2) := by decide +kernel
theorem dX4_followTree_68 : decode cX4_followTree 68 = .ok (.iaload, 1) := by decide +kernel
theorem dX4_followTree_69 : decode cX4_followTree 69 = .ok (.istore 4, 2) := by decide +kernel
theorem dX4_followTree_71 : decode cX4_followTree 71 = .ok (.goto 31, 3) := by decide +kernel
theorem dX4_followTree_74 : decode cX4_followTree 74 = .ok (.iload 6, 2) := by decide +kernel
theorem dX4_followTree_76 : decode cX4_followTree 76 = .ok (.bipush 9, 2) := by decide +kernel
theorem dX4_followTree_78 : decode cX4_followTree 78 = .ok (.if_icmp .ge 24, 3) := by decide +kernel
theorem dX4_followTree_81 : decode cX4_followTree 81 = .ok (.aload_n 0, 1) := by decide +kernel
theorem dX4_followTree_82 : decode cX4_followTree 82 = .ok (.getfield 21, 3) := by decide +kernel
theorem dX4_followTree_85 : decode cX4_followTree 85 = .ok (.iload 6, 2) := by decide +kernel
theorem dX4_followTree_87 : decode cX4_followTree 87 = .ok (.iload 5, 2) := by decide +kernel
theorem dX4_followTree_89 : decode cX4_followTree 89 = .ok (.iastore, 1) := by decide +kernel
theorem dX4_followTree_90 : decode cX4_followTree 90 = .ok (.iinc 6 1, 3) := by decide +kernel
theorem dX4_followTree_93 : decode cX4_followTree 93 = .ok (.aload_n 1, 1) := by decide +kernel
theorem dX4_followTree_94 : decode cX4_followTree 94 = .ok (.getfield 64, 3) := by decide +kernel
theorem dX4_followTree_97 : decode cX4_followTree 97 = .ok (.iload 5, 2) := by decide +kernel
theorem dX4_followTree_99 : decode cX4_followTree 99 = .ok (.iaload, 1) := by decide +kernel
theorem dX4_followTree_100 : decode cX4_followTree 100 = .ok (.istore 5, 2) := by decide +kernel
theorem dX4_followTree_102 : decode cX4_followTree 102 = .ok (.iinc 7 1, 3) := by decide +kernel
theorem dX4_followTree_105 : decode cX4_followTree 105 = .ok (.goto (-93), 3) := by decide +kernel
theorem dX4_followTree_108 : decode cX4_followTree 108 = .ok (.iload 6, 2) := by decide +kernel
theorem dX4_followTree_110 : decode cX4_followTree 110 = .ok (.iconst 1, 1) := by decide +kernel
theorem dX4_followTree_111 : decode cX4_followTree 111 = .ok (.isub, 1) := by decide +kernel
theorem dX4_followTree_112 : decode cX4_followTree 112 = .ok (.istore 7, 2) := by decide +kernel
theorem dX4_followTree_114 : decode cX4_followTree 114 = .ok (.iload 7, 2) := by decide +kernel
theorem dX4_followTree_116 : decode cX4_followTree 116 = .ok (.ifCond .lt 37, 3) := by decide +kernel
theorem dX4_followTree_119 : decode cX4_followTree 119 = .ok (.aload_n 0, 1) := by decide +kernel
theorem dX4_followTree_120 : decode cX4_followTree 120 = .ok (.aload_n 1, 1) := by decide +kernel
theorem dX4_followTree_121 : decode cX4_followTree 121 = .ok (.getfield 60, 3) := by decide +kernel
theorem dX4_followTree_124 : decode cX4_followTree 124 = .ok (.aload_n 0, 1) := by decide +kernel
theorem dX4_followTree_125 : decode cX4_followTree 125 = .ok (.getfield 21, 3) := by decide +kernel
theorem dX4_followTree_128 : decode cX4_followTree 128 = .ok (.iload 7, 2) := by decide +kernel
theorem dX4_followTree_130 : decode cX4_followTree 130 = .ok (.iaload, 1) := by decide +kernel
theorem dX4_followTree_131 : decode cX4_followTree 131 = .ok (.iaload, 1) := by decide +kernel
theorem dX4_followTree_132 : decode cX4_followTree 132 = .ok (.aload_n 1, 1) := by decide +kernel
theorem dX4_followTree_133 : decode cX4_followTree 133 = .ok (.getfield 63, 3) := by decide +kernel
theorem dX4_followTree_136 : decode cX4_followTree 136 = .ok (.aload_n 0, 1) := by decide +kernel
theorem dX4_followTree_137 : decode cX4_followTree 137 = .ok (.getfield 21, 3) := by decide +kernel
theorem dX4_followTree_140 : decode cX4_followTree 140 = .ok (.iload 7, 2) := by decide +kernel
theorem dX4_followTree_142 : decode cX4_followTree 142 = .ok (.iaload, 1) := by decide +kernel
theorem dX4_followTree_143 : decode cX4_followTree 143 = .ok (.iaload, 1) := by decide +kernel
theorem dX4_followTree_144 : decode cX4_followTree 144 = .ok (.invokevirtual 46, 3) := by decide +kernel
theorem dX4_followTree_147 : decode cX4_followTree 147 = .ok (.iinc 7 (-1), 3) := by decide +kernel
theorem dX4_followTree_150 : decode cX4_followTree 150 = .ok (.goto (-36), 3) := by decide +kernel
theorem dX4_followTree_153 : decode cX4_followTree 153 = .ok (.return_, 1) := by decide +kernel
theorem dX4_add_0 : decode cX4_add 0 = .ok (.aload_n 0, 1) := by decide +kernel
theorem dX4_add_1 : decode cX4_add 1 = .ok (.getfield 9, 3) := by decide +kernel
theorem dX4_add_4 : decode cX4_add 4 = .ok (.aload_n 0, 1) := by decide +kernel
theorem dX4_add_5 : decode cX4_add 5 = .ok (.getfield 24, 3) := by decide +kernel
theorem dX4_add_8 : decode cX4_add 8 = .ok (.iaload, 1) := by decide +kernel
theorem dX4_add_9 : decode cX4_add 9 = .ok (.istore_n 3, 1) := by decide +kernel
theorem dX4_add_10 : decode cX4_add 10 = .ok (.iload_n 1, 1) := by decide +kernel
theorem dX4_add_11 : decode cX4_add 11 = .ok (.ifCond .lt 51, 3) := by decide +kernel
theorem dX4_add_14 : decode cX4_add 14 = .ok (.iload_n 3, 1) := by decide +kernel
theorem dX4_add_15 : decode cX4_add 15 = .ok (.bipush 9, 2) := by decide +kernel
theorem dX4_add_17 : decode cX4_add 17 = .ok (.if_icmp .ge 45, 3) := by decide +kernel
theorem dX4_add_20 : decode cX4_add 20 = .ok (.aload_n 0, 1) := by decide +kernel
theorem dX4_add_21 : decode cX4_add 21 = .ok (.getfield 15, 3) := by decide +kernel
theorem dX4_add_24 : decode cX4_add 24 = .ok (.aload_n 0, 1) := by decide +kernel
theorem dX4_add_25 : decode cX4_add 25 = .ok (.getfield 24, 3) := by decide +kernel
theorem dX4_add_28 : decode cX4_add 28 = .ok (.bipush 9, 2) := by decide +kernel
theorem dX4_add_30 : decode cX4_add 30 = .ok (.imul, 1) := by decide +kernel
theorem dX4_add_31 : decode cX4_add 31 = .ok (.iload_n 3, 1) := by decide +kernel
theorem dX4_add_32 : decode cX4_add 32 = .ok (.iadd, 1) := by decide +kernel
theorem dX4_add_33 : decode cX4_add 33 = .ok (.iload_n 1, 1) := by decide +kernel
theorem dX4_add_34 : decode cX4_add 34 = .ok (.iastore, 1) := by decide +kernel
theorem dX4_add_35 : decode cX4_add 35 = .ok (.aload_n 0, 1) := by decide +kernel
theorem dX4_add_36 : decode cX4_add 36 = .ok (.getfield 18, 3) := by decide +kernel
theorem dX4_add_39 : decode cX4_add 39 = .ok (.aload_n 0, 1) := by decide +kernel
theorem dX4_add_40 : decode cX4_add 40 = .ok (.getfield 24, 3) := by decide +kernel
theorem dX4_add_43 : decode cX4_add 43 = .ok (.bipush 9, 2) := by decide +kernel
theorem dX4_add_45 : decode cX4_add 45 = .ok (.imul, 1) := by decide +kernel
theorem dX4_add_46 : decode cX4_add 46 = .ok (.iload_n 3, 1) := by decide +kernel
theorem dX4_add_47 : decode cX4_add 47 = .ok (.iadd, 1) := by decide +kernel
theorem dX4_add_48 : decode cX4_add 48 = .ok (.iload_n 2, 1) := by decide +kernel
theorem dX4_add_49 : decode cX4_add 49 = .ok (.iastore, 1) := by decide +kernel
theorem dX4_add_50 : decode cX4_add 50 = .ok (.aload_n 0, 1) := by decide +kernel
theorem dX4_add_51 : decode cX4_add 51 = .ok (.getfield 9, 3) := by decide +kernel
theorem dX4_add_54 : decode cX4_add 54 = .ok (.aload_n 0, 1) := by decide +kernel
theorem dX4_add_55 : decode cX4_add 55 = .ok (.getfield 24, 3) := by decide +kernel
theorem dX4_add_58 : decode cX4_add 58 = .ok (.iload_n 3, 1) := by decide +kernel
theorem dX4_add_59 : decode cX4_add 59 = .ok (.iconst 1, 1) := by decide +kernel
theorem dX4_add_60 : decode cX4_add 60 = .ok (.iadd, 1) := by decide +kernel
theorem dX4_add_61 : decode cX4_add 61 = .ok (.iastore, 1) := by decide +kernel
theorem dX4_add_62 : decode cX4_add 62 = .ok (.return_, 1) := by decide +kernel
theorem dX4_member_0 : decode cX4_member 0 = .ok (.iload_n 2, 1) := by decide +kernel
theorem dX4_member_1 : decode cX4_member 1 = .ok (.aload_n 0, 1) := by decide +kernel
theorem dX4_member_2 : decode cX4_member 2 = .ok (.getfield 9, 3) := by decide +kernel
theorem dX4_member_5 : decode cX4_member 5 = .ok (.iload_n 1, 1) := by decide +kernel
theorem dX4_member_6 : decode cX4_member 6 = .ok (.iaload, 1) := by decide +kernel
theorem dX4_member_7 : decode cX4_member 7 = .ok (.if_icmp .ge 17, 3) := by decide +kernel
theorem dX4_member_10 : decode cX4_member 10 = .ok (.aload_n 0, 1) := by decide +kernel
theorem dX4_member_11 : decode cX4_member 11 = .ok (.getfield 15, 3) := by decide +kernel
theorem dX4_member_14 : decode cX4_member 14 = .ok (.iload_n 1, 1) := by decide +kernel
theorem dX4_member_15 : decode cX4_member 15 = .ok (.bipush 9, 2) := by decide +kernel
theorem dX4_member_17 : decode cX4_member 17 = .ok (.imul, 1) := by decide +kernel
theorem dX4_member_18 : decode cX4_member 18 = .ok (.iload_n 2, 1) := by decide +kernel
theorem dX4_member_19 : decode cX4_member 19 = .ok (.iadd, 1) := by decide +kernel
theorem dX4_member_20 : decode cX4_member 20 = .ok (.iaload, 1) := by decide +kernel
theorem dX4_member_21 : decode cX4_member 21 = .ok (.goto 5, 3) := by decide +kernel
theorem dX4_member_24 : decode cX4_member 24 = .ok (.bipush (-2), 2) := by decide +kernel
theorem dX4_member_26 : decode cX4_member 26 = .ok (.ireturn, 1) := by decide +kernel
theorem dX4_countThrough_0 : decode cX4_countThrough 0 = .ok (.iconst 0, 1) := by decide +kernel
theorem dX4_countThrough_1 : decode cX4_countThrough 1 = .ok (.istore_n 2, 1) := by decide +kernel
theorem dX4_countThrough_2 : decode cX4_countThrough 2 = .ok (.iconst 0, 1) := by decide +kernel
theorem dX4_countThrough_3 : decode cX4_countThrough 3 = .ok (.istore_n 3, 1) := by decide +kernel
theorem dX4_countThrough_4 : decode cX4_countThrough 4 = .ok (.iload_n 3, 1) := by decide +kernel
theorem dX4_countThrough_5 : decode cX4_countThrough 5 = .ok (.aload_n 0, 1) := by decide +kernel
theorem dX4_countThrough_6 : decode cX4_countThrough 6 = .ok (.getfield 24, 3) := by decide +kernel
theorem dX4_countThrough_9 : decode cX4_countThrough 9 = .ok (.if_icmp .ge 48, 3) := by decide +kernel
theorem dX4_countThrough_12 : decode cX4_countThrough 12 = .ok (.iconst 0, 1) := by decide +kernel
theorem dX4_countThrough_13 : decode cX4_countThrough 13 = .ok (.istore 4, 2) := by decide +kernel
theorem dX4_countThrough_15 : decode cX4_countThrough 15 = .ok (.iload 4, 2) := by decide +kernel
theorem dX4_countThrough_17 : decode cX4_countThrough 17 = .ok (.aload_n 0, 1) := by decide +kernel
theorem dX4_countThrough_18 : decode cX4_countThrough 18 = .ok (.getfield 9, 3) := by decide +kernel
theorem dX4_countThrough_21 : decode cX4_countThrough 21 = .ok (.iload_n 3, 1) := by decide +kernel
theorem dX4_countThrough_22 : decode cX4_countThrough 22 = .ok (.iaload, 1) := by decide +kernel
theorem dX4_countThrough_23 : decode cX4_countThrough 23 = .ok (.if_icmp .ge 28, 3) := by decide +kernel
theorem dX4_countThrough_26 : decode cX4_countThrough 26 = .ok (.aload_n 0, 1) := by decide +kernel
theorem dX4_countThrough_27 : decode cX4_countThrough 27 = .ok (.getfield 15, 3) := by decide +kernel
theorem dX4_countThrough_30 : decode cX4_countThrough 30 = .ok (.iload_n 3, 1) := by decide +kernel
theorem dX4_countThrough_31 : decode cX4_countThrough 31 = .ok (.bipush 9, 2) := by decide +kernel
theorem dX4_countThrough_33 : decode cX4_countThrough 33 = .ok (.imul, 1) := by decide +kernel
theorem dX4_countThrough_34 : decode cX4_countThrough 34 = .ok (.iload 4, 2) := by decide +kernel
theorem dX4_countThrough_36 : decode cX4_countThrough 36 = .ok (.iadd, 1) := by decide +kernel
theorem dX4_countThrough_37 : decode cX4_countThrough 37 = .ok (.iaload, 1) := by decide +kernel
theorem dX4_countThrough_38 : decode cX4_countThrough 38 = .ok (.iload_n 1, 1) := by decide +kernel
theorem dX4_countThrough_39 : decode cX4_countThrough 39 = .ok (.if_icmp .ne 6, 3) := by decide +kernel
theorem dX4_countThrough_42 : decode cX4_countThrough 42 = .ok (.iinc 2 1, 3) := by decide +kernel
theorem dX4_countThrough_45 : decode cX4_countThrough 45 = .ok (.iinc 4 1, 3) := by decide +kernel
theorem dX4_countThrough_48 : decode cX4_countThrough 48 = .ok (.goto (-33), 3) := by decide +kernel
theorem dX4_countThrough_51 : decode cX4_countThrough 51 = .ok (.iinc 3 1, 3) := by decide +kernel
theorem dX4_countThrough_54 : decode cX4_countThrough 54 = .ok (.goto (-50), 3) := by decide +kernel
theorem dX4_countThrough_57 : decode cX4_countThrough 57 = .ok (.iload_n 2, 1) := by decide +kernel
theorem dX4_countThrough_58 : decode cX4_countThrough 58 = .ok (.ireturn, 1) := by decide +kernel
end
section
theorem dX5_init_0 : decode cX5_init 0 = .ok (.aload_n 0, 1) := by decide +kernel
theorem dX5_init_1 : decode cX5_init 1 = .ok (.invokespecial 3, 3) := by decide +kernel
theorem dX5_init_4 : decode cX5_init 4 = .ok (.aload_n 0, 1) := by decide +kernel
theorem dX5_init_5 : decode cX5_init 5 = .ok (.bipush 9, 2) := by decide +kernel
theorem dX5_init_7 : decode cX5_init 7 = .ok (.newarray .int, 2) := by decide +kernel
theorem dX5_init_9 : decode cX5_init 9 = .ok (.putfield 9, 3) := by decide +kernel
theorem dX5_init_12 : decode cX5_init 12 = .ok (.aload_n 0, 1) := by decide +kernel
theorem dX5_init_13 : decode cX5_init 13 = .ok (.bipush 9, 2) := by decide +kernel
theorem dX5_init_15 : decode cX5_init 15 = .ok (.newarray .int, 2) := by decide +kernel
theorem dX5_init_17 : decode cX5_init 17 = .ok (.putfield 15, 3) := by decide +kernel
theorem dX5_init_20 : decode cX5_init 20 = .ok (.aload_n 0, 1) := by decide +kernel
theorem dX5_init_21 : decode cX5_init 21 = .ok (.bipush 9, 2) := by decide +kernel
theorem dX5_init_23 : decode cX5_init 23 = .ok (.newarray .int, 2) := by decide +kernel
theorem dX5_init_25 : decode cX5_init 25 = .ok (.putfield 18, 3) := by decide +kernel
theorem dX5_init_28 : decode cX5_init 28 = .ok (.aload_n 0, 1) := by decide +kernel
theorem dX5_init_29 : decode cX5_init 29 = .ok (.bipush 9, 2) := by decide +kernel
theorem dX5_init_31 : decode cX5_init 31 = .ok (.newarray .int, 2) := by decide +kernel
theorem dX5_init_33 : decode cX5_init 33 = .ok (.putfield 21, 3) := by decide +kernel
theorem dX5_init_36 : decode cX5_init 36 = .ok (.aload_n 0, 1) := by decide +kernel
theorem dX5_init_37 : decode cX5_init 37 = .ok (.bipush 9, 2) := by decide +kernel
theorem dX5_init_39 : decode cX5_init 39 = .ok (.newarray .int, 2) := by decide +kernel
theorem dX5_init_41 : decode cX5_init 41 = .ok (.putfield 24, 3) := by decide +kernel
theorem dX5_init_44 : decode cX5_init 44 = .ok (.return_, 1) := by decide +kernel
theorem dX5_plant_0 : decode cX5_plant 0 = .ok (.aload_n 0, 1) := by decide +kernel
theorem dX5_plant_1 : decode cX5_plant 1 = .ok (.getfield 18, 3) := by decide +kernel
theorem dX5_plant_4 : decode cX5_plant 4 = .ok (.bipush (-2), 2) := by decide +kernel
theorem dX5_plant_6 : decode cX5_plant 6 = .ok (.invokestatic 27, 3) := by decide +kernel
theorem dX5_plant_9 : decode cX5_plant 9 = .ok (.aload_n 0, 1) := by decide +kernel
theorem dX5_plant_10 : decode cX5_plant 10 = .ok (.getfield 15, 3) := by decide +kernel
theorem dX5_plant_13 : decode cX5_plant 13 = .ok (.iconst 0, 1) := by decide +kernel
theorem dX5_plant_14 : decode cX5_plant 14 = .ok (.invokestatic 27, 3) := by decide +kernel
theorem dX5_plant_17 : decode cX5_plant 17 = .ok (.aload_n 0, 1) := by decide +kernel
theorem dX5_plant_18 : decode cX5_plant 18 = .ok (.getfield 24, 3) := by decide +kernel
theorem dX5_plant_21 : decode cX5_plant 21 = .ok (.iconst 0, 1) := by decide +kernel
theorem dX5_plant_22 : decode cX5_plant 22 = .ok (.invokestatic 27, 3) := by decide +kernel
theorem dX5_plant_25 : decode cX5_plant 25 = .ok (.aload_n 0, 1) := by decide +kernel
theorem dX5_plant_26 : decode cX5_plant 26 = .ok (.iconst 1, 1) := by decide +kernel
theorem dX5_plant_27 : decode cX5_plant 27 = .ok (.putfield 33, 3) := by decide +kernel
theorem dX5_plant_30 : decode cX5_plant 30 = .ok (.aload_n 0, 1) := by decide +kernel
theorem dX5_plant_31 : decode cX5_plant 31 = .ok (.iconst 0, 1) := by decide +kernel
theorem dX5_plant_32 : decode cX5_plant 32 = .ok (.putfield 37, 3) := by decide +kernel
theorem dX5_plant_35 : decode cX5_plant 35 = .ok (.aload_n 0, 1) := by decide +kernel
theorem dX5_plant_36 : decode cX5_plant 36 = .ok (.getfield 9, 3) := by decide +kernel
theorem dX5_plant_39 : decode cX5_plant 39 = .ok (.iconst 0, 1) := by decide +kernel
theorem dX5_plant_40 : decode cX5_plant 40 = .ok (.iconst 0, 1) := by decide +kernel
theorem dX5_plant_41 : decode cX5_plant 41 = .ok (.iastore, 1) := by decide +kernel
theorem dX5_plant_42 : decode cX5_plant 42 = .ok (.aload_n 0, 1) := by decide +kernel
theorem dX5_plant_43 : decode cX5_plant 43 = .ok (.iconst 1, 1) := by decide +kernel
theorem dX5_plant_44 : decode cX5_plant 44 = .ok (.putfield 40, 3) := by decide +kernel
theorem dX5_plant_47 : decode cX5_plant 47 = .ok (.iconst 0, 1) := by decide +kernel
theorem dX5_plant_48 : decode cX5_plant 48 = .ok (.istore_n 3, 1) := by decide +kernel
theorem dX5_plant_49 : decode cX5_plant 49 = .ok (.iload_n 3, 1) := by decide +kernel
theorem dX5_plant_50 : decode cX5_plant 50 = .ok (.aload_n 0, 1) := by decide +kernel
theorem dX5_plant_51 : decode cX5_plant 51 = .ok (.getfield 40, 3) := by decide +kernel
theorem dX5_plant_54 : decode cX5_plant 54 = .ok (.if_icmp .ge 27, 3) := by decide +kernel
theorem dX5_plant_57 : decode cX5_plant 57 = .ok (.iload_n 3, 1) := by decide +kernel
theorem dX5_plant_58 : decode cX5_plant 58 = .ok (.bipush 9, 2) := by decide +kernel
theorem dX5_plant_60 : decode cX5_plant 60 = .ok (.if_icmp .ge 21, 3) := by decide +kernel
theorem dX5_plant_63 : decode cX5_plant 63 = .ok (.aload_n 0, 1) := by decide +kernel
theorem dX5_plant_64 : decode cX5_plant 64 = .ok (.aload_n 0, 1) := by decide +kernel
theorem dX5_plant_65 : decode cX5_plant 65 = .ok (.getfield 9, 3) := by decide +kernel
theorem dX5_plant_68 : decode cX5_plant 68 = .ok (.iload_n 3, 1) := by decide +kernel
theorem dX5_plant_69 : decode cX5_plant 69 = .ok (.iaload, 1) := by decide +kernel
theorem dX5_plant_70 : decode cX5_plant 70 = .ok (.aload_n 1, 1) := by decide +kernel
theorem dX5_plant_71 : decode cX5_plant 71 = .ok (.iload_n 2, 1) := by decide +kernel
theorem dX5_plant_72 : decode cX5_plant 72 = .ok (.invokevirtual 43, 3) := by decide +kernel
theorem dX5_plant_75 : decode cX5_plant 75 = .ok (.iinc 3 1, 3) := by decide +kernel
theorem dX5_plant_78 : decode cX5_plant 78 = .ok (.goto (-29), 3) := by decide +kernel
theorem dX5_plant_81 : decode cX5_plant 81 = .ok (.return_, 1) := by decide +kernel
theorem dX5_spreadFrom_0 : decode cX5_spreadFrom 0 = .ok (.iconst 0, 1) := by decide +kernel
theorem dX5_spreadFrom_1 : decode cX5_spreadFrom 1 = .ok (.istore 4, 2) := by decide +kernel
theorem dX5_spreadFrom_3 : decode cX5_spreadFrom 3 = .ok (.iload 4, 2) := by decide +kernel
theorem dX5_spreadFrom_5 : decode cX5_spreadFrom 5 = .ok (.aload_n 2, 1) := by decide +kernel
theorem dX5_spreadFrom_6 : decode cX5_spreadFrom 6 = .ok (.getfield 47, 3) := by decide +kernel
theorem dX5_spreadFrom_9 : decode cX5_spreadFrom 9 = .ok (.if_icmp .ge 161, 3) := by decide +kernel
theorem dX5_spreadFrom_12 : decode cX5_spreadFrom 12 = .ok (.iload_n 3, 1) := by decide +kernel
theorem dX5_spreadFrom_13 : decode cX5_spreadFrom 13 = .ok (.iload 4, 2) := by decide +kernel
theorem dX5_spreadFrom_15 : decode cX5_spreadFrom 15 = .ok (.invokestatic 50, 3) := by decide +kernel
theorem dX5_spreadFrom_18 : decode cX5_spreadFrom 18 = .ok (.ifCond .ne 7, 3) := by decide +kernel
theorem dX5_spreadFrom_21 : decode cX5_spreadFrom 21 = .ok (.iconst (-1), 1) := by decide +kernel
theorem dX5_spreadFrom_22 : decode cX5_spreadFrom 22 = .ok (.goto 10, 3) := by decide +kernel
theorem dX5_spreadFrom_25 : decode cX5_spreadFrom 25 = .ok (.aload_n 2, 1) := by decide +kernel
theorem dX5_spreadFrom_26 : decode cX5_spreadFrom 26 = .ok (.iload 4, 2) := by decide +kernel
theorem dX5_spreadFrom_28 : decode cX5_spreadFrom 28 = .ok (.iload_n 1, 1) := by decide +kernel
theorem dX5_spreadFrom_29 : decode cX5_spreadFrom 29 = .ok (.invokevirtual 54, 3) := by decide +kernel
theorem dX5_spreadFrom_32 : decode cX5_spreadFrom 32 = .ok (.istore 5, 2) := by decide +kernel
theorem dX5_spreadFrom_34 : decode cX5_spreadFrom 34 = .ok (.iload 5, 2) := by decide +kernel
theorem dX5_spreadFrom_36 : decode cX5_spreadFrom 36 = .ok (.iconst (-1), 1) := by decide +kernel
theorem dX5_spreadFrom_37 : decode cX5_spreadFrom 37 = .ok (.if_icmp .eq 127, 3) := by decide +kernel
theorem dX5_spreadFrom_40 : decode cX5_spreadFrom 40 = .ok (.aload_n 0, 1) := by decide +kernel
theorem dX5_spreadFrom_41 : decode cX5_spreadFrom 41 = .ok (.getfield 33, 3) := by decide +kernel
theorem dX5_spreadFrom_44 : decode cX5_spreadFrom 44 = .ok (.iload 5, 2) := by decide +kernel
theorem dX5_spreadFrom_46 : decode cX5_spreadFrom 46 = .ok (.invokestatic 50, 3) := by decide +kernel
theorem dX5_spreadFrom_49 : decode cX5_spreadFrom 49 = .ok (.ifCond .ne 115, 3) := by decide +kernel
theorem dX5_spreadFrom_52 : decode cX5_spreadFrom 52 = .ok (.aload_n 0, 1) := by decide +kernel
theorem dX5_spreadFrom_53 : decode cX5_spreadFrom 53 = .ok (.getfield 40, 3) := by decide +kernel
theorem dX5_spreadFrom_56 : decode cX5_spreadFrom 56 = .ok (.bipush 9, 2) := by decide +kernel
theorem dX5_spreadFrom_58 : decode cX5_spreadFrom 58 = .ok (.if_icmp .ge 106, 3) := by decide +kernel
theorem dX5_spreadFrom_61 : decode cX5_spreadFrom 61 = .ok (.aload_n 0, 1) := by decide +kernel
theorem dX5_spreadFrom_62 : decode cX5_spreadFrom 62 = .ok (.dup, 1) := by decide +kernel
theorem dX5_spreadFrom_63 : decode cX5_spreadFrom 63 = .ok (.getfield 33, 3) := by decide +kernel
theorem dX5_spreadFrom_66 : decode cX5_spreadFrom 66 = .ok (.iconst 1, 1) := by decide +kernel
theorem dX5_spreadFrom_67 : decode cX5_spreadFrom 67 = .ok (.iload 5, 2) := by decide +kernel
theorem dX5_spreadFrom_69 : decode cX5_spreadFrom 69 = .ok (.ishl, 1) := by decide +kernel
theorem dX5_spreadFrom_70 : decode cX5_spreadFrom 70 = .ok (.ior, 1) := by decide +kernel
theorem dX5_spreadFrom_71 : decode cX5_spreadFrom 71 = .ok (.putfield 33, 3) := by decide +kernel
theorem dX5_spreadFrom_74 : decode cX5_spreadFrom 74 = .ok (.aload_n 0, 1) := by decide +kernel
theorem dX5_spreadFrom_75 : decode cX5_spreadFrom 75 = .ok (.dup, 1) := by decide +kernel
theorem dX5_spreadFrom_76 : decode cX5_spreadFrom 76 = .ok (.getfield 37, 3) := by decide +kernel
theorem dX5_spreadFrom_79 : decode cX5_spreadFrom 79 = .ok (.iconst 1, 1) := by decide +kernel
theorem dX5_spreadFrom_80 : decode cX5_spreadFrom 80 = .ok (.iload 4, 2) := by decide +kernel
theorem dX5_spreadFrom_82 : decode cX5_spreadFrom 82 = .ok (.ishl, 1) := by decide +kernel
theorem dX5_spreadFrom_83 : decode cX5_spreadFrom 83 = .ok (.ior, 1) := by decide +kernel
theorem dX5_spreadFrom_84 : decode cX5_spreadFrom 84 = .ok (.putfield 37, 3) := by decide +kernel
theorem dX5_spreadFrom_87 : decode cX5_spreadFrom 87 = .ok (.aload_n 0, 1) := by decide +kernel
theorem dX5_spreadFrom_88 : decode cX5_spreadFrom 88 = .ok (.getfield 15, 3) := by decide +kernel
theorem dX5_spreadFrom_91 : decode cX5_spreadFrom 91 = .ok (.iload 5, 2) := by decide +kernel
theorem dX5_spreadFrom_93 : decode cX5_spreadFrom 93 = .ok (.iload_n 1, 1) := by decide +kernel
theorem dX5_spreadFrom_94 : decode cX5_spreadFrom 94 = .ok (.iastore, 1) := by decide +kernel
theorem dX5_spreadFrom_95 : decode cX5_spreadFrom 95 = .ok (.aload_n 0, 1) := by decide +kernel
theorem dX5_spreadFrom_96 : decode cX5_spreadFrom 96 = .ok (.getfield 18, 3) := by decide +kernel
theorem dX5_spreadFrom_99 : decode cX5_spreadFrom 99 = .ok (.iload 5, 2) := by decide +kernel
theorem dX5_spreadFrom_101 : decode cX5_spreadFrom 101 = .ok (.iload 4, 2) := by decide +kernel
theorem dX5_spreadFrom_103 : decode cX5_spreadFrom 103 = .ok (.iastore, 1) := by decide +kernel
theorem dX5_spreadFrom_104 : decode cX5_spreadFrom 104 = .ok (.aload_n 0, 1) := by decide +kernel
theorem dX5_spreadFrom_105 : decode cX5_spreadFrom 105 = .ok (.getfield 21, 3) := by decide +kernel
theorem dX5_spreadFrom_108 : decode cX5_spreadFrom 108 = .ok (.iload 5, 2) := by decide +kernel
theorem dX5_spreadFrom_110 : decode cX5_spreadFrom 110 = .ok (.aload_n 2, 1) := by decide +kernel
theorem dX5_spreadFrom_111 : decode cX5_spreadFrom 111 = .ok (.getfield 57, 3) := by decide +kernel
theorem dX5_spreadFrom_114 : decode cX5_spreadFrom 114 = .ok (.iload 4, 2) := by decide +kernel
theorem dX5_spreadFrom_116 : decode cX5_spreadFrom 116 = .ok (.iaload, 1) := by decide +kernel
theorem dX5_spreadFrom_117 : decode cX5_spreadFrom 117 = .ok (.iload 5, 2) := by decide +kernel
theorem dX5_spreadFrom_119 : decode cX5_spreadFrom 119 = .ok (.if_icmp .ne 7, 3) := by decide +kernel
theorem dX5_spreadFrom_122 : decode cX5_spreadFrom 122 = .ok (.iconst 1, 1) := by decide +kernel
theorem dX5_spreadFrom_123 : decode cX5_spreadFrom 123 = .ok (.goto 4, 3) := by decide +kernel
theorem dX5_spreadFrom_126 : decode cX5_spreadFrom 126 = .ok (.iconst (-1), 1) := by decide +kernel
theorem dX5_spreadFrom_127 : decode cX5_spreadFrom 127 = .ok (.iastore, 1) := by decide +kernel
theorem dX5_spreadFrom_128 : decode cX5_spreadFrom 128 = .ok (.aload_n 0, 1) := by decide +kernel
theorem dX5_spreadFrom_129 : decode cX5_spreadFrom 129 = .ok (.getfield 24, 3) := by decide +kernel
theorem dX5_spreadFrom_132 : decode cX5_spreadFrom 132 = .ok (.iload 5, 2) := by decide +kernel
theorem dX5_spreadFrom_134 : decode cX5_spreadFrom 134 = .ok (.aload_n 0, 1) := by decide +kernel
theorem dX5_spreadFrom_135 : decode cX5_spreadFrom 135 = .ok (.getfield 24, 3) := by decide +kernel
theorem dX5_spreadFrom_138 : decode cX5_spreadFrom 138 = .ok (.iload_n 1, 1) := by decide +kernel
theorem dX5_spreadFrom_139 : decode cX5_spreadFrom 139 = .ok (.iaload, 1) := by decide +kernel
theorem dX5_spreadFrom_140 : decode cX5_spreadFrom 140 = .ok (.iconst 1, 1) := by decide +kernel
theorem dX5_spreadFrom_141 : decode cX5_spreadFrom 141 = .ok (.iadd, 1) := by decide +kernel
theorem dX5_spreadFrom_142 : decode cX5_spreadFrom 142 = .ok (.iastore, 1) := by decide +kernel
theorem dX5_spreadFrom_143 : decode cX5_spreadFrom 143 = .ok (.aload_n 0, 1) := by decide +kernel
theorem dX5_spreadFrom_144 : decode cX5_spreadFrom 144 = .ok (.getfield 9, 3) := by decide +kernel
theorem dX5_spreadFrom_147 : decode cX5_spreadFrom 147 = .ok (.aload_n 0, 1) := by decide +kernel
theorem dX5_spreadFrom_148 : decode cX5_spreadFrom 148 = .ok (.getfield 40, 3) := by decide +kernel
theorem dX5_spreadFrom_151 : decode cX5_spreadFrom 151 = .ok (.iload 5, 2) := by decide +kernel
theorem dX5_spreadFrom_153 : decode cX5_spreadFrom 153 = .ok (.iastore, 1) := by decide +kernel
theorem dX5_spreadFrom_154 : decode cX5_spreadFrom 154 = .ok (.aload_n 0, 1) := by decide +kernel
theorem dX5_spreadFrom_155 : decode cX5_spreadFrom 155 = .ok (.dup, 1) := by decide +kernel
theorem dX5_spreadFrom_156 : decode cX5_spreadFrom 156 = .ok (.getfield 40, 3) := by decide +kernel
theorem dX5_spreadFrom_159 : decode cX5_spreadFrom 159 = .ok (.iconst 1, 1) := by decide +kernel
theorem dX5_spreadFrom_160 : decode cX5_spreadFrom 160 = .ok (.iadd, 1) := by decide +kernel
theorem dX5_spreadFrom_161 : decode cX5_spreadFrom 161 = .ok (.putfield 40, 3) := by decide +kernel
theorem dX5_spreadFrom_164 : decode cX5_spreadFrom 164 = .ok (.iinc 4 1, 3) := by decide +kernel
theorem dX5_spreadFrom_167 : decode cX5_spreadFrom 167 = .ok (.goto (-164), 3) := by decide +kernel
theorem dX5_spreadFrom_170 : decode cX5_spreadFrom 170 = .ok (.return_, 1) := by decide +kernel
theorem dX5_countBehind_0 : decode cX5_countBehind 0 = .ok (.iconst 0, 1) := by decide +kernel
theorem dX5_countBehind_1 : decode cX5_countBehind 1 = .ok (.istore_n 2, 1) := by decide +kernel
theorem dX5_countBehind_2 : decode cX5_countBehind 2 = .ok (.iconst 0, 1) := by decide +kernel
theorem dX5_countBehind_3 : decode cX5_countBehind 3 = .ok (.istore_n 3, 1) := by decide +kernel
theorem dX5_countBehind_4 : decode cX5_countBehind 4 = .ok (.iload_n 3, 1) := by decide +kernel
theorem dX5_countBehind_5 : decode cX5_countBehind 5 = .ok (.aload_n 0, 1) := by decide +kernel
theorem dX5_countBehind_6 : decode cX5_countBehind 6 = .ok (.getfield 40, 3) := by decide +kernel
theorem dX5_countBehind_9 : decode cX5_countBehind 9 = .ok (.if_icmp .ge 55, 3) := by decide +kernel
theorem dX5_countBehind_12 : decode cX5_countBehind 12 = .ok (.aload_n 0, 1) := by decide +kernel
theorem dX5_countBehind_13 : decode cX5_countBehind 13 = .ok (.getfield 9, 3) := by decide +kernel
theorem dX5_countBehind_16 : decode cX5_countBehind 16 = .ok (.iload_n 3, 1) := by decide +kernel
theorem dX5_countBehind_17 : decode cX5_countBehind 17 = .ok (.iaload, 1) := by decide +kernel
theorem dX5_countBehind_18 : decode cX5_countBehind 18 = .ok (.istore 4, 2) := by decide +kernel
theorem dX5_countBehind_20 : decode cX5_countBehind 20 = .ok (.aload_n 0, 1) := by decide +kernel
theorem dX5_countBehind_21 : decode cX5_countBehind 21 = .ok (.getfield 24, 3) := by decide +kernel
theorem dX5_countBehind_24 : decode cX5_countBehind 24 = .ok (.iload 4, 2) := by decide +kernel
theorem dX5_countBehind_26 : decode cX5_countBehind 26 = .ok (.iaload, 1) := by decide +kernel
theorem dX5_countBehind_27 : decode cX5_countBehind 27 = .ok (.istore 5, 2) := by decide +kernel
theorem dX5_countBehind_29 : decode cX5_countBehind 29 = .ok (.iload 5, 2) := by decide +kernel
theorem dX5_countBehind_31 : decode cX5_countBehind 31 = .ok (.ifCond .le 27, 3) := by decide +kernel
theorem dX5_countBehind_34 : decode cX5_countBehind 34 = .ok (.aload_n 0, 1) := by decide +kernel
theorem dX5_countBehind_35 : decode cX5_countBehind 35 = .ok (.getfield 15, 3) := by decide +kernel
theorem dX5_countBehind_38 : decode cX5_countBehind 38 = .ok (.iload 4, 2) := by decide +kernel
theorem dX5_countBehind_40 : decode cX5_countBehind 40 = .ok (.iaload, 1) := by decide +kernel
theorem dX5_countBehind_41 : decode cX5_countBehind 41 = .ok (.istore 4, 2) := by decide +kernel
theorem dX5_countBehind_43 : decode cX5_countBehind 43 = .ok (.iload 4, 2) := by decide +kernel
theorem dX5_countBehind_45 : decode cX5_countBehind 45 = .ok (.iload_n 1, 1) := by decide +kernel
theorem dX5_countBehind_46 : decode cX5_countBehind 46 = .ok (.if_icmp .ne 6, 3) := by decide +kernel
theorem dX5_countBehind_49 : decode cX5_countBehind 49 = .ok (.iinc 2 1, 3) := by decide +kernel
theorem dX5_countBehind_52 : decode cX5_countBehind 52 = .ok (.iinc 5 (-1), 3) := by decide +kernel
theorem dX5_countBehind_55 : decode cX5_countBehind 55 = .ok (.goto (-26), 3) := by decide +kernel
theorem dX5_countBehind_58 : decode cX5_countBehind 58 = .ok (.iinc 3 1, 3) := by decide +kernel
theorem dX5_countBehind_61 : decode cX5_countBehind 61 = .ok (.goto (-57), 3) := by decide +kernel
theorem dX5_countBehind_64 : decode cX5_countBehind 64 = .ok (.iload_n 2, 1) := by decide +kernel
theorem dX5_countBehind_65 : decode cX5_countBehind 65 = .ok (.ireturn, 1) := by decide +kernel
end
section
theorem dX6_init_0 : decode cX6_init 0 = .ok (.aload_n 0, 1) := by decide +kernel
theorem dX6_init_1 : decode cX6_init 1 = .ok (.invokespecial 3, 3) := by decide +kernel
theorem dX6_init_4 : decode cX6_init 4 = .ok (.aload_n 0, 1) := by decide +kernel
theorem dX6_init_5 : decode cX6_init 5 = .ok (.new 9, 3) := by decide +kernel
theorem dX6_init_8 : decode cX6_init 8 = .ok (.dup, 1) := by decide +kernel
theorem dX6_init_9 : decode cX6_init 9 = .ok (.invokespecial 11, 3) := by decide +kernel
theorem dX6_init_12 : decode cX6_init 12 = .ok (.putfield 12, 3) := by decide +kernel
theorem dX6_init_15 : decode cX6_init 15 = .ok (.aload_n 0, 1) := by decide +kernel
theorem dX6_init_16 : decode cX6_init 16 = .ok (.new 18, 3) := by decide +kernel
theorem dX6_init_19 : decode cX6_init 19 = .ok (.dup, 1) := by decide +kernel
theorem dX6_init_20 : decode cX6_init 20 = .ok (.invokespecial 20, 3) := by decide +kernel
theorem dX6_init_23 : decode cX6_init 23 = .ok (.putfield 21, 3) := by decide +kernel
theorem dX6_init_26 : decode cX6_init 26 = .ok (.aload_n 0, 1) := by decide +kernel
theorem dX6_init_27 : decode cX6_init 27 = .ok (.new 25, 3) := by decide +kernel
theorem dX6_init_30 : decode cX6_init 30 = .ok (.dup, 1) := by decide +kernel
theorem dX6_init_31 : decode cX6_init 31 = .ok (.invokespecial 27, 3) := by decide +kernel
theorem dX6_init_34 : decode cX6_init 34 = .ok (.putfield 28, 3) := by decide +kernel
theorem dX6_init_37 : decode cX6_init 37 = .ok (.aload_n 0, 1) := by decide +kernel
theorem dX6_init_38 : decode cX6_init 38 = .ok (.bipush 14, 2) := by decide +kernel
theorem dX6_init_40 : decode cX6_init 40 = .ok (.newarray .long, 2) := by decide +kernel
theorem dX6_init_42 : decode cX6_init 42 = .ok (.putfield 32, 3) := by decide +kernel
theorem dX6_init_45 : decode cX6_init 45 = .ok (.aload_n 0, 1) := by decide +kernel
theorem dX6_init_46 : decode cX6_init 46 = .ok (.bipush 9, 2) := by decide +kernel
theorem dX6_init_48 : decode cX6_init 48 = .ok (.newarray .long, 2) := by decide +kernel
theorem dX6_init_50 : decode cX6_init 50 = .ok (.putfield 36, 3) := by decide +kernel
theorem dX6_init_53 : decode cX6_init 53 = .ok (.aload_n 0, 1) := by decide +kernel
theorem dX6_init_54 : decode cX6_init 54 = .ok (.bipush 9, 2) := by decide +kernel
theorem dX6_init_56 : decode cX6_init 56 = .ok (.newarray .long, 2) := by decide +kernel
theorem dX6_init_58 : decode cX6_init 58 = .ok (.putfield 39, 3) := by decide +kernel
theorem dX6_init_61 : decode cX6_init 61 = .ok (.aload_n 0, 1) := by decide +kernel
theorem dX6_init_62 : decode cX6_init 62 = .ok (.bipush 14, 2) := by decide +kernel
theorem dX6_init_64 : decode cX6_init 64 = .ok (.newarray .long, 2) := by decide +kernel
theorem dX6_init_66 : decode cX6_init 66 = .ok (.putfield 42, 3) := by decide +kernel
theorem dX6_init_69 : decode cX6_init 69 = .ok (.aload_n 0, 1) := by decide +kernel
theorem dX6_init_70 : decode cX6_init 70 = .ok (.bipush 21, 2) := by decide +kernel
theorem dX6_init_72 : decode cX6_init 72 = .ok (.newarray .int, 2) := by decide +kernel
theorem dX6_init_74 : decode cX6_init 74 = .ok (.putfield 45, 3) := by decide +kernel
theorem dX6_init_77 : decode cX6_init 77 = .ok (.return_, 1) := by decide +kernel
theorem dX6_solve_0 : decode cX6_solve 0 = .ok (.aload_n 0, 1) := by decide +kernel
theorem dX6_solve_1 : decode cX6_solve 1 = .ok (.iconst 0, 1) := by decide +kernel
theorem dX6_solve_2 : decode cX6_solve 2 = .ok (.putfield 49, 3) := by decide +kernel
theorem dX6_solve_5 : decode cX6_solve 5 = .ok (.aload_n 0, 1) := by decide +kernel
theorem dX6_solve_6 : decode cX6_solve 6 = .ok (.iconst 0, 1) := by decide +kernel
theorem dX6_solve_7 : decode cX6_solve 7 = .ok (.putfield 53, 3) := by decide +kernel
theorem dX6_solve_10 : decode cX6_solve 10 = .ok (.aload_n 0, 1) := by decide +kernel
theorem dX6_solve_11 : decode cX6_solve 11 = .ok (.iconst 0, 1) := by decide +kernel
theorem dX6_solve_12 : decode cX6_solve 12 = .ok (.putfield 56, 3) := by decide +kernel
theorem dX6_solve_15 : decode cX6_solve 15 = .ok (.aload_n 0, 1) := by decide +kernel
theorem dX6_solve_16 : decode cX6_solve 16 = .ok (.getfield 45, 3) := by decide +kernel
theorem dX6_solve_19 : decode cX6_solve 19 = .ok (.iconst (-1), 1) := by decide +kernel
theorem dX6_solve_20 : decode cX6_solve 20 = .ok (.invokestatic 60, 3) := by decide +kernel
theorem dX6_solve_23 : decode cX6_solve 23 = .ok (.aload_n 0, 1) := by decide +kernel
theorem dX6_solve_24 : decode cX6_solve 24 = .ok (.getfield 56, 3) := by decide +kernel
theorem dX6_solve_27 : decode cX6_solve 27 = .ok (.ifCond .ne 104, 3) := by decide +kernel
theorem dX6_solve_30 : decode cX6_solve 30 = .ok (.aload_n 0, 1) := by decide +kernel
theorem dX6_solve_31 : decode cX6_solve 31 = .ok (.getfield 53, 3) := by decide +kernel
theorem dX6_solve_34 : decode cX6_solve 34 = .ok (.bipush 20, 2) := by decide +kernel
theorem dX6_solve_36 : decode cX6_solve 36 = .ok (.if_icmp .ge 95, 3) := by decide +kernel
theorem dX6_solve_39 : decode cX6_solve 39 = .ok (.aload_n 0, 1) := by decide +kernel
theorem dX6_solve_40 : decode cX6_solve 40 = .ok (.dup, 1) := by decide +kernel
theorem dX6_solve_41 : decode cX6_solve 41 = .ok (.getfield 53, 3) := by decide +kernel
theorem dX6_solve_44 : decode cX6_solve 44 = .ok (.iconst 1, 1) := by decide +kernel
theorem dX6_solve_45 : decode cX6_solve 45 = .ok (.iadd, 1) := by decide +kernel
theorem dX6_solve_46 : decode cX6_solve 46 = .ok (.putfield 53, 3) := by decide +kernel
theorem dX6_solve_49 : decode cX6_solve 49 = .ok (.aload_n 0, 1) := by decide +kernel
theorem dX6_solve_50 : decode cX6_solve 50 = .ok (.getfield 45, 3) := by decide +kernel
theorem dX6_solve_53 : decode cX6_solve 53 = .ok (.aload_n 0, 1) := by decide +kernel
theorem dX6_solve_54 : decode cX6_solve 54 = .ok (.getfield 53, 3) := by decide +kernel
theorem dX6_solve_57 : decode cX6_solve 57 = .ok (.aload_n 0, 1) := by decide +kernel
theorem dX6_solve_58 : decode cX6_solve 58 = .ok (.getfield 49, 3) := by decide +kernel
theorem dX6_solve_61 : decode cX6_solve 61 = .ok (.iastore, 1) := by decide +kernel
theorem dX6_solve_62 : decode cX6_solve 62 = .ok (.aload_n 0, 1) := by decide +kernel
theorem dX6_solve_63 : decode cX6_solve 63 = .ok (.invokevirtual 66, 3) := by decide +kernel
theorem dX6_solve_66 : decode cX6_solve 66 = .ok (.aload_n 0, 1) := by decide +kernel
theorem dX6_solve_67 : decode cX6_solve 67 = .ok (.bipush 60, 2) := by decide +kernel
theorem dX6_solve_69 : decode cX6_solve 69 = .ok (.invokevirtual 69, 3) := by decide +kernel
theorem dX6_solve_72 : decode cX6_solve 72 = .ok (.aload_n 0, 1) := by decide +kernel
theorem dX6_solve_73 : decode cX6_solve 73 = .ok (.invokevirtual 73, 3) := by decide +kernel
theorem dX6_solve_76 : decode cX6_solve 76 = .ok (.aload_n 0, 1) := by decide +kernel
theorem dX6_solve_77 : decode cX6_solve 77 = .ok (.invokevirtual 76, 3) := by decide +kernel
theorem dX6_solve_80 : decode cX6_solve 80 = .ok (.istore_n 1, 1) := by decide +kernel
theorem dX6_solve_81 : decode cX6_solve 81 = .ok (.iload_n 1, 1) := by decide +kernel
theorem dX6_solve_82 : decode cX6_solve 82 = .ok (.iconst (-1), 1) := by decide +kernel
theorem dX6_solve_83 : decode cX6_solve 83 = .ok (.if_icmp .ne 11, 3) := by decide +kernel
theorem dX6_solve_86 : decode cX6_solve 86 = .ok (.aload_n 0, 1) := by decide +kernel
theorem dX6_solve_87 : decode cX6_solve 87 = .ok (.iconst 1, 1) := by decide +kernel
theorem dX6_solve_88 : decode cX6_solve 88 = .ok (.putfield 56, 3) := by decide +kernel
theorem dX6_solve_91 : decode cX6_solve 91 = .ok (.goto 37, 3) := by decide +kernel
theorem dX6_solve_94 : decode cX6_solve 94 = .ok (.aload_n 0, 1) := by decide +kernel
theorem dX6_solve_95 : decode cX6_solve 95 = .ok (.getfield 53, 3) := by decide +kernel
theorem dX6_solve_98 : decode cX6_solve 98 = .ok (.bipush 20, 2) := by decide +kernel
theorem dX6_solve_100 : decode cX6_solve 100 = .ok (.if_icmp .ge 28, 3) := by decide +kernel
theorem dX6_solve_103 : decode cX6_solve 103 = .ok (.aload_n 0, 1) := by decide +kernel
theorem dX6_solve_104 : decode cX6_solve 104 = .ok (.dup, 1) := by decide +kernel
theorem dX6_solve_105 : decode cX6_solve 105 = .ok (.getfield 49, 3) := by decide +kernel
theorem dX6_solve_108 : decode cX6_solve 108 = .ok (.iconst 1, 1) := by decide +kernel
theorem dX6_solve_109 : decode cX6_solve 109 = .ok (.iload_n 1, 1) := by decide +kernel
theorem dX6_solve_110 : decode cX6_solve 110 = .ok (.ishl, 1) := by decide +kernel
theorem dX6_solve_111 : decode cX6_solve 111 = .ok (.ixor, 1) := by decide +kernel
theorem dX6_solve_112 : decode cX6_solve 112 = .ok (.putfield 49, 3) := by decide +kernel
theorem dX6_solve_115 : decode cX6_solve 115 = .ok (.aload_n 0, 1) := by decide +kernel
theorem dX6_solve_116 : decode cX6_solve 116 = .ok (.dup, 1) := by decide +kernel
theorem dX6_solve_117 : decode cX6_solve 117 = .ok (.getfield 53, 3) := by decide +kernel
theorem dX6_solve_120 : decode cX6_solve 120 = .ok (.aload_n 0, 1) := by decide +kernel
theorem dX6_solve_121 : decode cX6_solve 121 = .ok (.invokevirtual 80, 3) := by decide +kernel
theorem dX6_solve_124 : decode cX6_solve 124 = .ok (.iadd, 1) := by decide +kernel
theorem dX6_solve_125 : decode cX6_solve 125 = .ok (.putfield 53, 3) := by decide +kernel
theorem dX6_solve_128 : decode cX6_solve 128 = .ok (.goto (-105), 3) := by decide +kernel
theorem dX6_solve_131 : decode cX6_solve 131 = .ok (.return_, 1) := by decide +kernel
theorem dX6_roundsToLeaveOut_0 : decode cX6_roundsToLeaveOut 0 = .ok (.iconst 1, 1) := by decide +kernel
theorem dX6_roundsToLeaveOut_1 : decode cX6_roundsToLeaveOut 1 = .ok (.istore_n 1, 1) := by decide +kernel
theorem dX6_roundsToLeaveOut_2 : decode cX6_roundsToLeaveOut 2 = .ok (.iload_n 1, 1) := by decide +kernel
theorem dX6_roundsToLeaveOut_3 : decode cX6_roundsToLeaveOut 3 = .ok (.aload_n 0, 1) := by decide +kernel
theorem dX6_roundsToLeaveOut_4 : decode cX6_roundsToLeaveOut 4 = .ok (.getfield 53, 3) := by decide +kernel
theorem dX6_roundsToLeaveOut_7 : decode cX6_roundsToLeaveOut 7 = .ok (.if_icmp .gt 49, 3) := by decide +kernel
theorem dX6_roundsToLeaveOut_10 : decode cX6_roundsToLeaveOut 10 = .ok (.aload_n 0, 1) := by decide +kernel
theorem dX6_roundsToLeaveOut_11 : decode cX6_roundsToLeaveOut 11 = .ok (.getfield 53, 3) := by decide +kernel
theorem dX6_roundsToLeaveOut_14 : decode cX6_roundsToLeaveOut 14 = .ok (.iconst 1, 1) := by decide +kernel
theorem dX6_roundsToLeaveOut_15 : decode cX6_roundsToLeaveOut 15 = .ok (.iadd, 1) := by decide +kernel
theorem dX6_roundsToLeaveOut_16 : decode cX6_roundsToLeaveOut 16 = .ok (.iload_n 1, 1) := by decide +kernel
theorem dX6_roundsToLeaveOut_17 : decode cX6_roundsToLeaveOut 17 = .ok (.isub, 1) := by decide +kernel
theorem dX6_roundsToLeaveOut_18 : decode cX6_roundsToLeaveOut 18 = .ok (.istore_n 2, 1) := by decide +kernel
theorem dX6_roundsToLeaveOut_19 : decode cX6_roundsToLeaveOut 19 = .ok (.aload_n 0, 1) := by decide +kernel
theorem dX6_roundsToLeaveOut_20 : decode cX6_roundsToLeaveOut 20 = .ok (.getfield 45, 3) := by decide +kernel
theorem dX6_roundsToLeaveOut_23 : decode cX6_roundsToLeaveOut 23 = .ok (.iload_n 1, 1) := by decide +kernel
theorem dX6_roundsToLeaveOut_24 : decode cX6_roundsToLeaveOut 24 = .ok (.iaload, 1) := by decide +kernel
theorem dX6_roundsToLeaveOut_25 : decode cX6_roundsToLeaveOut 25 = .ok (.aload_n 0, 1) := by decide +kernel
theorem dX6_roundsToLeaveOut_26 : decode cX6_roundsToLeaveOut 26 = .ok (.getfield 49, 3) := by decide +kernel
theorem dX6_roundsToLeaveOut_29 : decode cX6_roundsToLeaveOut 29 = .ok (.if_icmp .ne 21, 3) := by decide +kernel
theorem dX6_roundsToLeaveOut_32 : decode cX6_roundsToLeaveOut 32 = .ok (.iload_n 2, 1) := by decide +kernel
theorem dX6_roundsToLeaveOut_33 : decode cX6_roundsToLeaveOut 33 = .ok (.ifCond .le 17, 3) := by decide +kernel
theorem dX6_roundsToLeaveOut_36 : decode cX6_roundsToLeaveOut 36 = .ok (.bipush 20, 2) := by decide +kernel
theorem dX6_roundsToLeaveOut_38 : decode cX6_roundsToLeaveOut 38 = .ok (.aload_n 0, 1) := by decide +kernel
theorem dX6_roundsToLeaveOut_39 : decode cX6_roundsToLeaveOut 39 = .ok (.getfield 53, 3) := by decide +kernel
theorem dX6_roundsToLeaveOut_42 : decode cX6_roundsToLeaveOut 42 = .ok (.isub, 1) := by decide +kernel
theorem dX6_roundsToLeaveOut_43 : decode cX6_roundsToLeaveOut 43 = .ok (.iconst 1, 1) := by decide +kernel
theorem dX6_roundsToLeaveOut_44 : decode cX6_roundsToLeaveOut 44 = .ok (.isub, 1) := by decide +kernel
theorem dX6_roundsToLeaveOut_45 : decode cX6_roundsToLeaveOut 45 = .ok (.iload_n 2, 1) := by decide +kernel
theorem dX6_roundsToLeaveOut_46 : decode cX6_roundsToLeaveOut 46 = .ok (.idiv, 1) := by decide +kernel
theorem dX6_roundsToLeaveOut_47 : decode cX6_roundsToLeaveOut 47 = .ok (.iload_n 2, 1) := by decide +kernel
theorem dX6_roundsToLeaveOut_48 : decode cX6_roundsToLeaveOut 48 = .ok (.imul, 1) := by decide +kernel
theorem dX6_roundsToLeaveOut_49 : decode cX6_roundsToLeaveOut 49 = .ok (.ireturn, 1) := by decide +kernel
theorem dX6_roundsToLeaveOut_50 : decode cX6_roundsToLeaveOut 50 = .ok (.iinc 1 1, 3) := by decide +kernel
theorem dX6_roundsToLeaveOut_53 : decode cX6_roundsToLeaveOut 53 = .ok (.goto (-51), 3) := by decide +kernel
theorem dX6_roundsToLeaveOut_56 : decode cX6_roundsToLeaveOut 56 = .ok (.iconst 0, 1) := by decide +kernel
theorem dX6_roundsToLeaveOut_57 : decode cX6_roundsToLeaveOut 57 = .ok (.ireturn, 1) := by decide +kernel
theorem dX6_sweepFirstRound_0 : decode cX6_sweepFirstRound 0 = .ok (.aload_n 0, 1) := by decide +kernel
theorem dX6_sweepFirstRound_1 : decode cX6_sweepFirstRound 1 = .ok (.iconst 0, 1) := by decide +kernel
theorem dX6_sweepFirstRound_2 : decode cX6_sweepFirstRound 2 = .ok (.putfield 49, 3) := by decide +kernel
theorem dX6_sweepFirstRound_5 : decode cX6_sweepFirstRound 5 = .ok (.aload_n 0, 1) := by decide +kernel
theorem dX6_sweepFirstRound_6 : decode cX6_sweepFirstRound 6 = .ok (.invokevirtual 66, 3) := by decide +kernel
theorem dX6_sweepFirstRound_9 : decode cX6_sweepFirstRound 9 = .ok (.aload_n 0, 1) := by decide +kernel
theorem dX6_sweepFirstRound_10 : decode cX6_sweepFirstRound 10 = .ok (.iload_n 1, 1) := by decide +kernel
theorem dX6_sweepFirstRound_11 : decode cX6_sweepFirstRound 11 = .ok (.invokevirtual 69, 3) := by decide +kernel
theorem dX6_sweepFirstRound_14 : decode cX6_sweepFirstRound 14 = .ok (.return_, 1) := by decide +kernel
theorem dX6_beginRound_0 : decode cX6_beginRound 0 = .ok (.iconst 1, 1) := by decide +kernel
theorem dX6_beginRound_1 : decode cX6_beginRound 1 = .ok (.aload_n 0, 1) := by decide +kernel
theorem dX6_beginRound_2 : decode cX6_beginRound 2 = .ok (.getfield 12, 3) := by decide +kernel
theorem dX6_beginRound_5 : decode cX6_beginRound 5 = .ok (.getfield 83, 3) := by decide +kernel
theorem dX6_beginRound_8 : decode cX6_beginRound 8 = .ok (.ishl, 1) := by decide +kernel
theorem dX6_beginRound_9 : decode cX6_beginRound 9 = .ok (.iconst 1, 1) := by decide +kernel
theorem dX6_beginRound_10 : decode cX6_beginRound 10 = .ok (.isub, 1) := by decide +kernel
theorem dX6_beginRound_11 : decode cX6_beginRound 11 = .ok (.aload_n 0, 1) := by decide +kernel
theorem dX6_beginRound_12 : decode cX6_beginRound 12 = .ok (.getfield 12, 3) := by decide +kernel
theorem dX6_beginRound_15 : decode cX6_beginRound 15 = .ok (.getfield 86, 3) := by decide +kernel
theorem dX6_beginRound_18 : decode cX6_beginRound 18 = .ok (.iconst (-1), 1) := by decide +kernel
theorem dX6_beginRound_19 : decode cX6_beginRound 19 = .ok (.ixor, 1) := by decide +kernel
theorem dX6_beginRound_20 : decode cX6_beginRound 20 = .ok (.iand, 1) := by decide +kernel
theorem dX6_beginRound_21 : decode cX6_beginRound 21 = .ok (.aload_n 0, 1) := by decide +kernel
theorem dX6_beginRound_22 : decode cX6_beginRound 22 = .ok (.getfield 49, 3) := by decide +kernel
theorem dX6_beginRound_25 : decode cX6_beginRound 25 = .ok (.iconst (-1), 1) := by decide +kernel
theorem dX6_beginRound_26 : decode cX6_beginRound 26 = .ok (.ixor, 1) := by decide +kernel
theorem dX6_beginRound_27 : decode cX6_beginRound 27 = .ok (.iand, 1) := by decide +kernel
theorem dX6_beginRound_28 : decode cX6_beginRound 28 = .ok (.istore_n 1, 1) := by decide +kernel
theorem dX6_beginRound_29 : decode cX6_beginRound 29 = .ok (.aload_n 0, 1) := by decide +kernel
theorem dX6_beginRound_30 : decode cX6_beginRound 30 = .ok (.getfield 21, 3) := by decide +kernel
theorem dX6_beginRound_33 : decode cX6_beginRound 33 = .ok (.aload_n 0, 1) := by decide +kernel
theorem dX6_beginRound_34 : decode cX6_beginRound 34 = .ok (.getfield 12, 3) := by decide +kernel
theorem dX6_beginRound_37 : decode cX6_beginRound 37 = .ok (.iload_n 1, 1) := by decide +kernel
theorem dX6_beginRound_38 : decode cX6_beginRound 38 = .ok (.invokevirtual 89, 3) := by decide +kernel
theorem dX6_beginRound_41 : decode cX6_beginRound 41 = .ok (.aload_n 0, 1) := by decide +kernel
theorem dX6_beginRound_42 : decode cX6_beginRound 42 = .ok (.getfield 28, 3) := by decide +kernel
theorem dX6_beginRound_45 : decode cX6_beginRound 45 = .ok (.aload_n 0, 1) := by decide +kernel
theorem dX6_beginRound_46 : decode cX6_beginRound 46 = .ok (.getfield 12, 3) := by decide +kernel
theorem dX6_beginRound_49 : decode cX6_beginRound 49 = .ok (.aload_n 0, 1) := by decide +kernel
theorem dX6_beginRound_50 : decode cX6_beginRound 50 = .ok (.getfield 21, 3) := by decide +kernel
theorem dX6_beginRound_53 : decode cX6_beginRound 53 = .ok (.iload_n 1, 1) := by decide +kernel
theorem dX6_beginRound_54 : decode cX6_beginRound 54 = .ok (.invokevirtual 93, 3) := by decide +kernel
theorem dX6_beginRound_57 : decode cX6_beginRound 57 = .ok (.aload_n 0, 1) := by decide +kernel
theorem dX6_beginRound_58 : decode cX6_beginRound 58 = .ok (.getfield 32, 3) := by decide +kernel
theorem dX6_beginRound_61 : decode cX6_beginRound 61 = .ok (.lconst 0, 1) := by decide +kernel
theorem dX6_beginRound_62 : decode cX6_beginRound 62 = .ok (.invokestatic 97, 3) := by decide +kernel
theorem dX6_beginRound_65 : decode cX6_beginRound 65 = .ok (.aload_n 0, 1) := by decide +kernel
theorem dX6_beginRound_66 : decode cX6_beginRound 66 = .ok (.getfield 39, 3) := by decide +kernel
theorem dX6_beginRound_69 : decode cX6_beginRound 69 = .ok (.lconst 0, 1) := by decide +kernel
theorem dX6_beginRound_70 : decode cX6_beginRound 70 = .ok (.invokestatic 97, 3) := by decide +kernel
theorem dX6_beginRound_73 : decode cX6_beginRound 73 = .ok (.aload_n 0, 1) := by decide +kernel
theorem dX6_beginRound_74 : decode cX6_beginRound 74 = .ok (.getfield 21, 3) := by decide +kernel
theorem dX6_beginRound_77 : decode cX6_beginRound 77 = .ok (.getfield 100, 3) := by decide +kernel
theorem dX6_beginRound_80 : decode cX6_beginRound 80 = .ok (.iconst 1, 1) := by decide +kernel
theorem dX6_beginRound_81 : decode cX6_beginRound 81 = .ok (.isub, 1) := by decide +kernel
theorem dX6_beginRound_82 : decode cX6_beginRound 82 = .ok (.istore_n 2, 1) := by decide +kernel
theorem dX6_beginRound_83 : decode cX6_beginRound 83 = .ok (.iload_n 2, 1) := by decide +kernel
theorem dX6_beginRound_84 : decode cX6_beginRound 84 = .ok (.ifCond .le 101, 3) := by decide +kernel
theorem dX6_beginRound_87 : decode cX6_beginRound 87 = .ok (.aload_n 0, 1) := by decide +kernel
theorem dX6_beginRound_88 : decode cX6_beginRound 88 = .ok (.getfield 21, 3) := by decide +kernel
theorem dX6_beginRound_91 : decode cX6_beginRound 91 = .ok (.getfield 103, 3) := by decide +kernel
theorem dX6_beginRound_94 : decode cX6_beginRound 94 = .ok (.iload_n 2, 1) := by decide +kernel
theorem dX6_beginRound_95 : decode cX6_beginRound 95 = .ok (.iaload, 1) := by decide +kernel
theorem dX6_beginRound_96 : decode cX6_beginRound 96 = .ok (.istore_n 3, 1) := by decide +kernel
theorem dX6_beginRound_97 : decode cX6_beginRound 97 = .ok (.aload_n 0, 1) := by decide +kernel
theorem dX6_beginRound_98 : decode cX6_beginRound 98 = .ok (.getfield 21, 3) := by decide +kernel
theorem dX6_beginRound_101 : decode cX6_beginRound 101 = .ok (.getfield 106, 3) := by decide +kernel
theorem dX6_beginRound_104 : decode cX6_beginRound 104 = .ok (.iload_n 3, 1) := by decide +kernel
theorem dX6_beginRound_105 : decode cX6_beginRound 105 = .ok (.iaload, 1) := by decide +kernel
theorem dX6_beginRound_106 : decode cX6_beginRound 106 = .ok (.istore 4, 2) := by decide +kernel
theorem dX6_beginRound_108 : decode cX6_beginRound 108 = .ok (.aload_n 0, 1) := by decide +kernel
theorem dX6_beginRound_109 : decode cX6_beginRound 109 = .ok (.getfield 39, 3) := by decide +kernel
theorem dX6_beginRound_112 : decode cX6_beginRound 112 = .ok (.iload_n 3, 1) := by decide +kernel
theorem dX6_beginRound_113 : decode cX6_beginRound 113 = .ok (.dup2, 1) := by decide +kernel
theorem dX6_beginRound_114 : decode cX6_beginRound 114 = .ok (.laload, 1) := by decide +kernel
theorem dX6_beginRound_115 : decode cX6_beginRound 115 = .ok (.aload_n 0, 1) := by decide +kernel
theorem dX6_beginRound_116 : decode cX6_beginRound 116 = .ok (.getfield 12, 3) := by decide +kernel
theorem dX6_beginRound_119 : decode cX6_beginRound 119 = .ok (.getfield 109, 3) := by decide +kernel
theorem dX6_beginRound_122 : decode cX6_beginRound 122 = .ok (.iload_n 3, 1) := by decide +kernel
theorem dX6_beginRound_123 : decode cX6_beginRound 123 = .ok (.iaload, 1) := by decide +kernel
theorem dX6_beginRound_124 : decode cX6_beginRound 124 = .ok (.i2l, 1) := by decide +kernel
theorem dX6_beginRound_125 : decode cX6_beginRound 125 = .ok (.ladd, 1) := by decide +kernel
theorem dX6_beginRound_126 : decode cX6_beginRound 126 = .ok (.lastore, 1) := by decide +kernel
theorem dX6_beginRound_127 : decode cX6_beginRound 127 = .ok (.aload_n 0, 1) := by decide +kernel
theorem dX6_beginRound_128 : decode cX6_beginRound 128 = .ok (.getfield 39, 3) := by decide +kernel
theorem dX6_beginRound_131 : decode cX6_beginRound 131 = .ok (.aload_n 0, 1) := by decide +kernel
theorem dX6_beginRound_132 : decode cX6_beginRound 132 = .ok (.getfield 21, 3) := by decide +kernel
theorem dX6_beginRound_135 : decode cX6_beginRound 135 = .ok (.getfield 112, 3) := by decide +kernel
theorem dX6_beginRound_138 : decode cX6_beginRound 138 = .ok (.iload_n 3, 1) := by decide +kernel
theorem dX6_beginRound_139 : decode cX6_beginRound 139 = .ok (.iaload, 1) := by decide +kernel
theorem dX6_beginRound_140 : decode cX6_beginRound 140 = .ok (.dup2, 1) := by decide +kernel
theorem dX6_beginRound_141 : decode cX6_beginRound 141 = .ok (.laload, 1) := by decide +kernel
theorem dX6_beginRound_142 : decode cX6_beginRound 142 = .ok (.aload_n 0, 1) := by decide +kernel
theorem dX6_beginRound_143 : decode cX6_beginRound 143 = .ok (.getfield 39, 3) := by decide +kernel
theorem dX6_beginRound_146 : decode cX6_beginRound 146 = .ok (.iload_n 3, 1) := by decide +kernel
theorem dX6_beginRound_147 : decode cX6_beginRound 147 = .ok (.laload, 1) := by decide +kernel
theorem dX6_beginRound_148 : decode cX6_beginRound 148 = .ok (.ladd, 1) := by decide +kernel
theorem dX6_beginRound_149 : decode cX6_beginRound 149 = .ok (.lastore, 1) := by decide +kernel
theorem dX6_beginRound_150 : decode cX6_beginRound 150 = .ok (.iload 4, 2) := by decide +kernel
theorem dX6_beginRound_152 : decode cX6_beginRound 152 = .ok (.ifCond .lt 27, 3) := by decide +kernel
theorem dX6_beginRound_155 : decode cX6_beginRound 155 = .ok (.aload_n 0, 1) := by decide +kernel
theorem dX6_beginRound_156 : decode cX6_beginRound 156 = .ok (.getfield 32, 3) := by decide +kernel
theorem dX6_beginRound_159 : decode cX6_beginRound 159 = .ok (.iload 4, 2) := by decide +kernel
theorem dX6_beginRound_161 : decode cX6_beginRound 161 = .ok (.aload_n 0, 1) := by decide +kernel
theorem dX6_beginRound_162 : decode cX6_beginRound 162 = .ok (.getfield 21, 3) := by decide +kernel
theorem dX6_beginRound_165 : decode cX6_beginRound 165 = .ok (.getfield 115, 3) := by decide +kernel
theorem dX6_beginRound_168 : decode cX6_beginRound 168 = .ok (.iload_n 3, 1) := by decide +kernel
theorem dX6_beginRound_169 : decode cX6_beginRound 169 = .ok (.iaload, 1) := by decide +kernel
theorem dX6_beginRound_170 : decode cX6_beginRound 170 = .ok (.i2l, 1) := by decide +kernel
theorem dX6_beginRound_171 : decode cX6_beginRound 171 = .ok (.aload_n 0, 1) := by decide +kernel
theorem dX6_beginRound_172 : decode cX6_beginRound 172 = .ok (.getfield 39, 3) := by decide +kernel
theorem dX6_beginRound_175 : decode cX6_beginRound 175 = .ok (.iload_n 3, 1) := by decide +kernel
theorem dX6_beginRound_176 : decode cX6_beginRound 176 = .ok (.laload, 1) := by decide +kernel
theorem dX6_beginRound_177 : decode cX6_beginRound 177 = .ok (.lmul, 1) := by decide +kernel
theorem dX6_beginRound_178 : decode cX6_beginRound 178 = .ok (.lastore, 1) := by decide +kernel
theorem dX6_beginRound_179 : decode cX6_beginRound 179 = .ok (.iinc 2 (-1), 3) := by decide +kernel
theorem dX6_beginRound_182 : decode cX6_beginRound 182 = .ok (.goto (-99), 3) := by decide +kernel
theorem dX6_beginRound_185 : decode cX6_beginRound 185 = .ok (.return_, 1) := by decide +kernel
theorem dX6_sweepUpTo_0 : decode cX6_sweepUpTo 0 = .ok (.aload_n 0, 1) := by decide +kernel
theorem dX6_sweepUpTo_1 : decode cX6_sweepUpTo 1 = .ok (.iconst 0, 1) := by decide +kernel
theorem dX6_sweepUpTo_2 : decode cX6_sweepUpTo 2 = .ok (.putfield 118, 3) := by decide +kernel
theorem dX6_sweepUpTo_5 : decode cX6_sweepUpTo 5 = .ok (.aload_n 0, 1) := by decide +kernel
theorem dX6_sweepUpTo_6 : decode cX6_sweepUpTo 6 = .ok (.invokevirtual 121, 3) := by decide +kernel
theorem dX6_sweepUpTo_9 : decode cX6_sweepUpTo 9 = .ok (.iconst 1, 1) := by decide +kernel
theorem dX6_sweepUpTo_10 : decode cX6_sweepUpTo 10 = .ok (.istore_n 2, 1) := by decide +kernel
theorem dX6_sweepUpTo_11 : decode cX6_sweepUpTo 11 = .ok (.iload_n 2, 1) := by decide +kernel
theorem dX6_sweepUpTo_12 : decode cX6_sweepUpTo 12 = .ok (.ifCond .eq 110, 3) := by decide +kernel
theorem dX6_sweepUpTo_15 : decode cX6_sweepUpTo 15 = .ok (.aload_n 0, 1) := by decide +kernel
theorem dX6_sweepUpTo_16 : decode cX6_sweepUpTo 16 = .ok (.getfield 118, 3) := by decide +kernel
theorem dX6_sweepUpTo_19 : decode cX6_sweepUpTo 19 = .ok (.iload_n 1, 1) := by decide +kernel
theorem dX6_sweepUpTo_20 : decode cX6_sweepUpTo 20 = .ok (.if_icmp .ge 102, 3) := by decide +kernel
theorem dX6_sweepUpTo_23 : decode cX6_sweepUpTo 23 = .ok (.iconst 0, 1) := by decide +kernel
theorem dX6_sweepUpTo_24 : decode cX6_sweepUpTo 24 = .ok (.istore_n 2, 1) := by decide +kernel
theorem dX6_sweepUpTo_25 : decode cX6_sweepUpTo 25 = .ok (.iconst 0, 1) := by decide +kernel
theorem dX6_sweepUpTo_26 : decode cX6_sweepUpTo 26 = .ok (.istore_n 3, 1) := by decide +kernel
theorem dX6_sweepUpTo_27 : decode cX6_sweepUpTo 27 = .ok (.iload_n 3, 1) := by decide +kernel
theorem dX6_sweepUpTo_28 : decode cX6_sweepUpTo 28 = .ok (.aload_n 0, 1) := by decide +kernel
theorem dX6_sweepUpTo_29 : decode cX6_sweepUpTo 29 = .ok (.getfield 28, 3) := by decide +kernel
theorem dX6_sweepUpTo_32 : decode cX6_sweepUpTo 32 = .ok (.getfield 124, 3) := by decide +kernel
theorem dX6_sweepUpTo_35 : decode cX6_sweepUpTo 35 = .ok (.if_icmp .ge 52, 3) := by decide +kernel
theorem dX6_sweepUpTo_38 : decode cX6_sweepUpTo 38 = .ok (.aload_n 0, 1) := by decide +kernel
theorem dX6_sweepUpTo_39 : decode cX6_sweepUpTo 39 = .ok (.iload_n 3, 1) := by decide +kernel
theorem dX6_sweepUpTo_40 : decode cX6_sweepUpTo 40 = .ok (.invokevirtual 125, 3) := by decide +kernel
theorem dX6_sweepUpTo_43 : decode cX6_sweepUpTo 43 = .ok (.aload_n 0, 1) := by decide +kernel
theorem dX6_sweepUpTo_44 : decode cX6_sweepUpTo 44 = .ok (.iload_n 3, 1) := by decide +kernel
theorem dX6_sweepUpTo_45 : decode cX6_sweepUpTo 45 = .ok (.invokevirtual 129, 3) := by decide +kernel
theorem dX6_sweepUpTo_48 : decode cX6_sweepUpTo 48 = .ok (.invokestatic 132, 3) := by decide +kernel
theorem dX6_sweepUpTo_51 : decode cX6_sweepUpTo 51 = .ok (.lstore 4, 2) := by decide +kernel
theorem dX6_sweepUpTo_53 : decode cX6_sweepUpTo 53 = .ok (.lload 4, 2) := by decide +kernel
theorem dX6_sweepUpTo_55 : decode cX6_sweepUpTo 55 = .ok (.lconst 0, 1) := by decide +kernel
theorem dX6_sweepUpTo_56 : decode cX6_sweepUpTo 56 = .ok (.lcmp, 1) := by decide +kernel
theorem dX6_sweepUpTo_57 : decode cX6_sweepUpTo 57 = .ok (.ifCond .eq 24, 3) := by decide +kernel
theorem dX6_sweepUpTo_60 : decode cX6_sweepUpTo 60 = .ok (.iconst 1, 1) := by decide +kernel
theorem dX6_sweepUpTo_61 : decode cX6_sweepUpTo 61 = .ok (.istore_n 2, 1) := by decide +kernel
theorem dX6_sweepUpTo_62 : decode cX6_sweepUpTo 62 = .ok (.aload_n 0, 1) := by decide +kernel
theorem dX6_sweepUpTo_63 : decode cX6_sweepUpTo 63 = .ok (.iload_n 3, 1) := by decide +kernel
theorem dX6_sweepUpTo_64 : decode cX6_sweepUpTo 64 = .ok (.ldc2_w 136, 3) := by decide +kernel
theorem dX6_sweepUpTo_67 : decode cX6_sweepUpTo 67 = .ok (.ldc2_w 138, 3) := by decide +kernel
theorem dX6_sweepUpTo_70 : decode cX6_sweepUpTo 70 = .ok (.lload 4, 2) := by decide +kernel
theorem dX6_sweepUpTo_72 : decode cX6_sweepUpTo 72 = .ok (.invokestatic 140, 3) := by decide +kernel
theorem dX6_sweepUpTo_75 : decode cX6_sweepUpTo 75 = .ok (.invokestatic 145, 3) := by decide +kernel
theorem dX6_sweepUpTo_78 : decode cX6_sweepUpTo 78 = .ok (.invokevirtual 148, 3) := by decide +kernel
theorem dX6_sweepUpTo_81 : decode cX6_sweepUpTo 81 = .ok (.iinc 3 1, 3) := by decide +kernel
theorem dX6_sweepUpTo_84 : decode cX6_sweepUpTo 84 = .ok (.goto (-57), 3) := by decide +kernel
theorem dX6_sweepUpTo_87 : decode cX6_sweepUpTo 87 = .ok (.aload_n 0, 1) := by decide +kernel
theorem dX6_sweepUpTo_88 : decode cX6_sweepUpTo 88 = .ok (.dup, 1) := by decide +kernel
theorem dX6_sweepUpTo_89 : decode cX6_sweepUpTo 89 = .ok (.getfield 118, 3) := by decide +kernel
theorem dX6_sweepUpTo_92 : decode cX6_sweepUpTo 92 = .ok (.iconst 1, 1) := by decide +kernel
theorem dX6_sweepUpTo_93 : decode cX6_sweepUpTo 93 = .ok (.iadd, 1) := by decide +kernel
theorem dX6_sweepUpTo_94 : decode cX6_sweepUpTo 94 = .ok (.putfield 118, 3) := by decide +kernel
theorem dX6_sweepUpTo_97 : decode cX6_sweepUpTo 97 = .ok (.aload_n 0, 1) := by decide +kernel
theorem dX6_sweepUpTo_98 : decode cX6_sweepUpTo 98 = .ok (.dup, 1) := by decide +kernel
theorem dX6_sweepUpTo_99 : decode cX6_sweepUpTo 99 = .ok (.getfield 118, 3) := by decide +kernel
theorem dX6_sweepUpTo_102 : decode cX6_sweepUpTo 102 = .ok (.iload_n 2, 1) := by decide +kernel
theorem dX6_sweepUpTo_103 : decode cX6_sweepUpTo 103 = .ok (.ifCond .eq 11, 3) := by decide +kernel
theorem dX6_sweepUpTo_106 : decode cX6_sweepUpTo 106 = .ok (.aload_n 0, 1) := by decide +kernel
theorem dX6_sweepUpTo_107 : decode cX6_sweepUpTo 107 = .ok (.iload_n 1, 1) := by decide +kernel
theorem dX6_sweepUpTo_108 : decode cX6_sweepUpTo 108 = .ok (.invokevirtual 152, 3) := by decide +kernel
theorem dX6_sweepUpTo_111 : decode cX6_sweepUpTo 111 = .ok (.goto 4, 3) := by decide +kernel
theorem dX6_sweepUpTo_114 : decode cX6_sweepUpTo 114 = .ok (.iconst 0, 1) := by decide +kernel
theorem dX6_sweepUpTo_115 : decode cX6_sweepUpTo 115 = .ok (.iadd, 1) := by decide +kernel
theorem dX6_sweepUpTo_116 : decode cX6_sweepUpTo 116 = .ok (.putfield 118, 3) := by decide +kernel
theorem dX6_sweepUpTo_119 : decode cX6_sweepUpTo 119 = .ok (.goto (-108), 3) := by decide +kernel
theorem dX6_sweepUpTo_122 : decode cX6_sweepUpTo 122 = .ok (.return_, 1) := by decide +kernel
theorem dX6_sweepsToLeaveOut_0 : decode cX6_sweepsToLeaveOut 0 = .ok (.aload_n 0, 1) := by decide +kernel
theorem dX6_sweepsToLeaveOut_1 : decode cX6_sweepsToLeaveOut 1 = .ok (.getfield 118, 3) := by decide +kernel
theorem dX6_sweepsToLeaveOut_4 : decode cX6_sweepsToLeaveOut 4 = .ok (.aload_n 0, 1) := by decide +kernel
theorem dX6_sweepsToLeaveOut_5 : decode cX6_sweepsToLeaveOut 5 = .ok (.getfield 156, 3) := by decide +kernel
theorem dX6_sweepsToLeaveOut_8 : decode cX6_sweepsToLeaveOut 8 = .ok (.isub, 1) := by decide +kernel
theorem dX6_sweepsToLeaveOut_9 : decode cX6_sweepsToLeaveOut 9 = .ok (.istore_n 2, 1) := by decide +kernel
theorem dX6_sweepsToLeaveOut_10 : decode cX6_sweepsToLeaveOut 10 = .ok (.iload_n 2, 1) := by decide +kernel
theorem dX6_sweepsToLeaveOut_11 : decode cX6_sweepsToLeaveOut 11 = .ok (.ifCond .le 21, 3) := by decide +kernel
theorem dX6_sweepsToLeaveOut_14 : decode cX6_sweepsToLeaveOut 14 = .ok (.aload_n 0, 1) := by decide +kernel
theorem dX6_sweepsToLeaveOut_15 : decode cX6_sweepsToLeaveOut 15 = .ok (.invokevirtual 159, 3) := by decide +kernel
theorem dX6_sweepsToLeaveOut_18 : decode cX6_sweepsToLeaveOut 18 = .ok (.ifCond .eq 14, 3) := by decide +kernel
theorem dX6_sweepsToLeaveOut_21 : decode cX6_sweepsToLeaveOut 21 = .ok (.iload_n 1, 1) := by decide +kernel
theorem dX6_sweepsToLeaveOut_22 : decode cX6_sweepsToLeaveOut 22 = .ok (.aload_n 0, 1) := by decide +kernel
theorem dX6_sweepsToLeaveOut_23 : decode cX6_sweepsToLeaveOut 23 = .ok (.getfield 118, 3) := by decide +kernel
theorem dX6_sweepsToLeaveOut_26 : decode cX6_sweepsToLeaveOut 26 = .ok (.isub, 1) := by decide +kernel
theorem dX6_sweepsToLeaveOut_27 : decode cX6_sweepsToLeaveOut 27 = .ok (.iload_n 2, 1) := by decide +kernel
theorem dX6_sweepsToLeaveOut_28 : decode cX6_sweepsToLeaveOut 28 = .ok (.idiv, 1) := by decide +kernel
theorem dX6_sweepsToLeaveOut_29 : decode cX6_sweepsToLeaveOut 29 = .ok (.iload_n 2, 1) := by decide +kernel
theorem dX6_sweepsToLeaveOut_30 : decode cX6_sweepsToLeaveOut 30 = .ok (.imul, 1) := by decide +kernel
theorem dX6_sweepsToLeaveOut_31 : decode cX6_sweepsToLeaveOut 31 = .ok (.ireturn, 1) := by decide +kernel
theorem dX6_sweepsToLeaveOut_32 : decode cX6_sweepsToLeaveOut 32 = .ok (.aload_n 0, 1) := by decide +kernel
theorem dX6_sweepsToLeaveOut_33 : decode cX6_sweepsToLeaveOut 33 = .ok (.getfield 118, 3) := by decide +kernel
theorem dX6_sweepsToLeaveOut_36 : decode cX6_sweepsToLeaveOut 36 = .ok (.aload_n 0, 1) := by decide +kernel
theorem dX6_sweepsToLeaveOut_37 : decode cX6_sweepsToLeaveOut 37 = .ok (.getfield 118, 3) := by decide +kernel
theorem dX6_sweepsToLeaveOut_40 : decode cX6_sweepsToLeaveOut 40 = .ok (.iconst 1, 1) := by decide +kernel
theorem dX6_sweepsToLeaveOut_41 : decode cX6_sweepsToLeaveOut 41 = .ok (.isub, 1) := by decide +kernel
theorem dX6_sweepsToLeaveOut_42 : decode cX6_sweepsToLeaveOut 42 = .ok (.iand, 1) := by decide +kernel
theorem dX6_sweepsToLeaveOut_43 : decode cX6_sweepsToLeaveOut 43 = .ok (.ifCond .ne 7, 3) := by decide +kernel
theorem dX6_sweepsToLeaveOut_46 : decode cX6_sweepsToLeaveOut 46 = .ok (.aload_n 0, 1) := by decide +kernel
theorem dX6_sweepsToLeaveOut_47 : decode cX6_sweepsToLeaveOut 47 = .ok (.invokevirtual 121, 3) := by decide +kernel
theorem dX6_sweepsToLeaveOut_50 : decode cX6_sweepsToLeaveOut 50 = .ok (.iconst 0, 1) := by decide +kernel
theorem dX6_sweepsToLeaveOut_51 : decode cX6_sweepsToLeaveOut 51 = .ok (.ireturn, 1) := by decide +kernel
theorem dX6_keepFlows_0 : decode cX6_keepFlows 0 = .ok (.aload_n 0, 1) := by decide +kernel
theorem dX6_keepFlows_1 : decode cX6_keepFlows 1 = .ok (.getfield 32, 3) := by decide +kernel
theorem dX6_keepFlows_4 : decode cX6_keepFlows 4 = .ok (.iconst 0, 1) := by decide +kernel
theorem dX6_keepFlows_5 : decode cX6_keepFlows 5 = .ok (.aload_n 0, 1) := by decide +kernel
theorem dX6_keepFlows_6 : decode cX6_keepFlows 6 = .ok (.getfield 42, 3) := by decide +kernel
theorem dX6_keepFlows_9 : decode cX6_keepFlows 9 = .ok (.iconst 0, 1) := by decide +kernel
theorem dX6_keepFlows_10 : decode cX6_keepFlows 10 = .ok (.bipush 14, 2) := by decide +kernel
theorem dX6_keepFlows_12 : decode cX6_keepFlows 12 = .ok (.invokestatic 163, 3) := by decide +kernel
theorem dX6_keepFlows_15 : decode cX6_keepFlows 15 = .ok (.aload_n 0, 1) := by decide +kernel
theorem dX6_keepFlows_16 : decode cX6_keepFlows 16 = .ok (.aload_n 0, 1) := by decide +kernel
theorem dX6_keepFlows_17 : decode cX6_keepFlows 17 = .ok (.getfield 118, 3) := by decide +kernel
theorem dX6_keepFlows_20 : decode cX6_keepFlows 20 = .ok (.putfield 156, 3) := by decide +kernel
theorem dX6_keepFlows_23 : decode cX6_keepFlows 23 = .ok (.return_, 1) := by decide +kernel
theorem dX6_areFlowsAsKept_0 : decode cX6_areFlowsAsKept 0 = .ok (.iconst 0, 1) := by decide +kernel
theorem dX6_areFlowsAsKept_1 : decode cX6_areFlowsAsKept 1 = .ok (.istore_n 1, 1) := by decide +kernel
theorem dX6_areFlowsAsKept_2 : decode cX6_areFlowsAsKept 2 = .ok (.iload_n 1, 1) := by decide +kernel
theorem dX6_areFlowsAsKept_3 : decode cX6_areFlowsAsKept 3 = .ok (.aload_n 0, 1) := by decide +kernel
theorem dX6_areFlowsAsKept_4 : decode cX6_areFlowsAsKept 4 = .ok (.getfield 12, 3) := by decide +kernel
theorem dX6_areFlowsAsKept_7 : decode cX6_areFlowsAsKept 7 = .ok (.getfield 83, 3) := by decide +kernel
theorem dX6_areFlowsAsKept_10 : decode cX6_areFlowsAsKept 10 = .ok (.if_icmp .ge 27, 3) := by decide +kernel
theorem dX6_areFlowsAsKept_13 : decode cX6_areFlowsAsKept 13 = .ok (.aload_n 0, 1) := by decide +kernel
theorem dX6_areFlowsAsKept_14 : decode cX6_areFlowsAsKept 14 = .ok (.getfield 32, 3) := by decide +kernel
theorem dX6_areFlowsAsKept_17 : decode cX6_areFlowsAsKept 17 = .ok (.iload_n 1, 1) := by decide +kernel
theorem dX6_areFlowsAsKept_18 : decode cX6_areFlowsAsKept 18 = .ok (.laload, 1) := by decide +kernel
theorem dX6_areFlowsAsKept_19 : decode cX6_areFlowsAsKept 19 = .ok (.aload_n 0, 1) := by decide +kernel
theorem dX6_areFlowsAsKept_20 : decode cX6_areFlowsAsKept 20 = .ok (.getfield 42, 3) := by decide +kernel
theorem dX6_areFlowsAsKept_23 : decode cX6_areFlowsAsKept 23 = .ok (.iload_n 1, 1) := by decide +kernel
theorem dX6_areFlowsAsKept_24 : decode cX6_areFlowsAsKept 24 = .ok (.laload, 1) := by decide +kernel
theorem dX6_areFlowsAsKept_25 : decode cX6_areFlowsAsKept 25 = .ok (.lcmp, 1) := by decide +kernel
theorem dX6_areFlowsAsKept_26 : decode cX6_areFlowsAsKept 26 = .ok (.ifCond .eq 5, 3) := by decide +kernel
theorem dX6_areFlowsAsKept_29 : decode cX6_areFlowsAsKept 29 = .ok (.iconst 0, 1) := by decide +kernel
theorem dX6_areFlowsAsKept_30 : decode cX6_areFlowsAsKept 30 = .ok (.ireturn, 1) := by decide +kernel
theorem dX6_areFlowsAsKept_31 : decode cX6_areFlowsAsKept 31 = .ok (.iinc 1 1, 3) := by decide +kernel
theorem dX6_areFlowsAsKept_34 : decode cX6_areFlowsAsKept 34 = .ok (.goto (-32), 3) := by decide +kernel
theorem dX6_areFlowsAsKept_37 : decode cX6_areFlowsAsKept 37 = .ok (.iconst 1, 1) := by decide +kernel
theorem dX6_areFlowsAsKept_38 : decode cX6_areFlowsAsKept 38 = .ok (.ireturn, 1) := by decide +kernel
theorem dX6_lessen_0 : decode cX6_lessen 0 = .ok (.iload_n 1, 1) := by decide +kernel
theorem dX6_lessen_1 : decode cX6_lessen 1 = .ok (.bipush 9, 2) := by decide +kernel
theorem dX6_lessen_3 : decode cX6_lessen 3 = .ok (.imul, 1) := by decide +kernel
theorem dX6_lessen_4 : decode cX6_lessen 4 = .ok (.istore 4, 2) := by decide +kernel
theorem dX6_lessen_6 : decode cX6_lessen 6 = .ok (.iload 4, 2) := by decide +kernel
theorem dX6_lessen_8 : decode cX6_lessen 8 = .ok (.istore 5, 2) := by decide +kernel
theorem dX6_lessen_10 : decode cX6_lessen 10 = .ok (.iload 5, 2) := by decide +kernel
theorem dX6_lessen_12 : decode cX6_lessen 12 = .ok (.iload 4, 2) := by decide +kernel
theorem dX6_lessen_14 : decode cX6_lessen 14 = .ok (.aload_n 0, 1) := by decide +kernel
theorem dX6_lessen_15 : decode cX6_lessen 15 = .ok (.getfield 28, 3) := by decide +kernel
theorem dX6_lessen_18 : decode cX6_lessen 18 = .ok (.getfield 169, 3) := by decide +kernel
theorem dX6_lessen_21 : decode cX6_lessen 21 = .ok (.iload_n 1, 1) := by decide +kernel
theorem dX6_lessen_22 : decode cX6_lessen 22 = .ok (.iaload, 1) := by decide +kernel
theorem dX6_lessen_23 : decode cX6_lessen 23 = .ok (.iadd, 1) := by decide +kernel
theorem dX6_lessen_24 : decode cX6_lessen 24 = .ok (.if_icmp .ge 40, 3) := by decide +kernel
theorem dX6_lessen_27 : decode cX6_lessen 27 = .ok (.aload_n 0, 1) := by decide +kernel
theorem dX6_lessen_28 : decode cX6_lessen 28 = .ok (.getfield 32, 3) := by decide +kernel
theorem dX6_lessen_31 : decode cX6_lessen 31 = .ok (.aload_n 0, 1) := by decide +kernel
theorem dX6_lessen_32 : decode cX6_lessen 32 = .ok (.getfield 28, 3) := by decide +kernel
theorem dX6_lessen_35 : decode cX6_lessen 35 = .ok (.getfield 172, 3) := by decide +kernel
theorem dX6_lessen_38 : decode cX6_lessen 38 = .ok (.iload 5, 2) := by decide +kernel
theorem dX6_lessen_40 : decode cX6_lessen 40 = .ok (.iaload, 1) := by decide +kernel
theorem dX6_lessen_41 : decode cX6_lessen 41 = .ok (.dup2, 1) := by decide +kernel
theorem dX6_lessen_42 : decode cX6_lessen 42 = .ok (.laload, 1) := by decide +kernel
theorem dX6_lessen_43 : decode cX6_lessen 43 = .ok (.aload_n 0, 1) := by decide +kernel
theorem dX6_lessen_44 : decode cX6_lessen 44 = .ok (.getfield 28, 3) := by decide +kernel
theorem dX6_lessen_47 : decode cX6_lessen 47 = .ok (.getfield 175, 3) := by decide +kernel
theorem dX6_lessen_50 : decode cX6_lessen 50 = .ok (.iload 5, 2) := by decide +kernel
theorem dX6_lessen_52 : decode cX6_lessen 52 = .ok (.iaload, 1) := by decide +kernel
theorem dX6_lessen_53 : decode cX6_lessen 53 = .ok (.i2l, 1) := by decide +kernel
theorem dX6_lessen_54 : decode cX6_lessen 54 = .ok (.lload_n 2, 1) := by decide +kernel
theorem dX6_lessen_55 : decode cX6_lessen 55 = .ok (.lmul, 1) := by decide +kernel
theorem dX6_lessen_56 : decode cX6_lessen 56 = .ok (.lsub, 1) := by decide +kernel
theorem dX6_lessen_57 : decode cX6_lessen 57 = .ok (.lastore, 1) := by decide +kernel
theorem dX6_lessen_58 : decode cX6_lessen 58 = .ok (.iinc 5 1, 3) := by decide +kernel
theorem dX6_lessen_61 : decode cX6_lessen 61 = .ok (.goto (-51), 3) := by decide +kernel
theorem dX6_lessen_64 : decode cX6_lessen 64 = .ok (.return_, 1) := by decide +kernel
theorem dX6_ringSum_0 : decode cX6_ringSum 0 = .ok (.lconst 0, 1) := by decide +kernel
theorem dX6_ringSum_1 : decode cX6_ringSum 1 = .ok (.lstore_n 2, 1) := by decide +kernel
theorem dX6_ringSum_2 : decode cX6_ringSum 2 = .ok (.iload_n 1, 1) := by decide +kernel
theorem dX6_ringSum_3 : decode cX6_ringSum 3 = .ok (.bipush 9, 2) := by decide +kernel
theorem dX6_ringSum_5 : decode cX6_ringSum 5 = .ok (.imul, 1) := by decide +kernel
theorem dX6_ringSum_6 : decode cX6_ringSum 6 = .ok (.istore 4, 2) := by decide +kernel
theorem dX6_ringSum_8 : decode cX6_ringSum 8 = .ok (.iload 4, 2) := by decide +kernel
theorem dX6_ringSum_10 : decode cX6_ringSum 10 = .ok (.istore 5, 2) := by decide +kernel
theorem dX6_ringSum_12 : decode cX6_ringSum 12 = .ok (.iload 5, 2) := by decide +kernel
theorem dX6_ringSum_14 : decode cX6_ringSum 14 = .ok (.iload 4, 2) := by decide +kernel
theorem dX6_ringSum_16 : decode cX6_ringSum 16 = .ok (.aload_n 0, 1) := by decide +kernel
theorem dX6_ringSum_17 : decode cX6_ringSum 17 = .ok (.getfield 28, 3) := by decide +kernel
theorem dX6_ringSum_20 : decode cX6_ringSum 20 = .ok (.getfield 169, 3) := by decide +kernel
theorem dX6_ringSum_23 : decode cX6_ringSum 23 = .ok (.iload_n 1, 1) := by decide +kernel
theorem dX6_ringSum_24 : decode cX6_ringSum 24 = .ok (.iaload, 1) := by decide +kernel
theorem dX6_ringSum_25 : decode cX6_ringSum 25 = .ok (.iadd, 1) := by decide +kernel
theorem dX6_ringSum_26 : decode cX6_ringSum 26 = .ok (.if_icmp .ge 52, 3) := by decide +kernel
theorem dX6_ringSum_29 : decode cX6_ringSum 29 = .ok (.aload_n 0, 1) := by decide +kernel
theorem dX6_ringSum_30 : decode cX6_ringSum 30 = .ok (.getfield 28, 3) := by decide +kernel
theorem dX6_ringSum_33 : decode cX6_ringSum 33 = .ok (.getfield 172, 3) := by decide +kernel
theorem dX6_ringSum_36 : decode cX6_ringSum 36 = .ok (.iload 5, 2) := by decide +kernel
theorem dX6_ringSum_38 : decode cX6_ringSum 38 = .ok (.iaload, 1) := by decide +kernel
theorem dX6_ringSum_39 : decode cX6_ringSum 39 = .ok (.istore 6, 2) := by decide +kernel
theorem dX6_ringSum_41 : decode cX6_ringSum 41 = .ok (.lload_n 2, 1) := by decide +kernel
theorem dX6_ringSum_42 : decode cX6_ringSum 42 = .ok (.aload_n 0, 1) := by decide +kernel
theorem dX6_ringSum_43 : decode cX6_ringSum 43 = .ok (.getfield 28, 3) := by decide +kernel
theorem dX6_ringSum_46 : decode cX6_ringSum 46 = .ok (.getfield 175, 3) := by decide +kernel
theorem dX6_ringSum_49 : decode cX6_ringSum 49 = .ok (.iload 5, 2) := by decide +kernel
theorem dX6_ringSum_51 : decode cX6_ringSum 51 = .ok (.iaload, 1) := by decide +kernel
theorem dX6_ringSum_52 : decode cX6_ringSum 52 = .ok (.i2l, 1) := by decide +kernel
theorem dX6_ringSum_53 : decode cX6_ringSum 53 = .ok (.aload_n 0, 1) := by decide +kernel
theorem dX6_ringSum_54 : decode cX6_ringSum 54 = .ok (.getfield 12, 3) := by decide +kernel
theorem dX6_ringSum_57 : decode cX6_ringSum 57 = .ok (.iload 6, 2) := by decide +kernel
theorem dX6_ringSum_59 : decode cX6_ringSum 59 = .ok (.aload_n 0, 1) := by decide +kernel
theorem dX6_ringSum_60 : decode cX6_ringSum 60 = .ok (.getfield 32, 3) := by decide +kernel
theorem dX6_ringSum_63 : decode cX6_ringSum 63 = .ok (.iload 6, 2) := by decide +kernel
theorem dX6_ringSum_65 : decode cX6_ringSum 65 = .ok (.laload, 1) := by decide +kernel
theorem dX6_ringSum_66 : decode cX6_ringSum 66 = .ok (.invokevirtual 176, 3) := by decide +kernel
theorem dX6_ringSum_69 : decode cX6_ringSum 69 = .ok (.lmul, 1) := by decide +kernel
theorem dX6_ringSum_70 : decode cX6_ringSum 70 = .ok (.ladd, 1) := by decide +kernel
theorem dX6_ringSum_71 : decode cX6_ringSum 71 = .ok (.lstore_n 2, 1) := by decide +kernel
theorem dX6_ringSum_72 : decode cX6_ringSum 72 = .ok (.iinc 5 1, 3) := by decide +kernel
theorem dX6_ringSum_75 : decode cX6_ringSum 75 = .ok (.goto (-63), 3) := by decide +kernel
theorem dX6_ringSum_78 : decode cX6_ringSum 78 = .ok (.lload_n 2, 1) := by decide +kernel
theorem dX6_ringSum_79 : decode cX6_ringSum 79 = .ok (.lreturn, 1) := by decide +kernel
theorem dX6_ringSteep_0 : decode cX6_ringSteep 0 = .ok (.lconst 0, 1) := by decide +kernel
theorem dX6_ringSteep_1 : decode cX6_ringSteep 1 = .ok (.lstore_n 2, 1) := by decide +kernel
theorem dX6_ringSteep_2 : decode cX6_ringSteep 2 = .ok (.iload_n 1, 1) := by decide +kernel
theorem dX6_ringSteep_3 : decode cX6_ringSteep 3 = .ok (.bipush 9, 2) := by decide +kernel
theorem dX6_ringSteep_5 : decode cX6_ringSteep 5 = .ok (.imul, 1) := by decide +kernel
theorem dX6_ringSteep_6 : decode cX6_ringSteep 6 = .ok (.istore 4, 2) := by decide +kernel
theorem dX6_ringSteep_8 : decode cX6_ringSteep 8 = .ok (.iload 4, 2) := by decide +kernel
theorem dX6_ringSteep_10 : decode cX6_ringSteep 10 = .ok (.istore 5, 2) := by decide +kernel
theorem dX6_ringSteep_12 : decode cX6_ringSteep 12 = .ok (.iload 5, 2) := by decide +kernel
theorem dX6_ringSteep_14 : decode cX6_ringSteep 14 = .ok (.iload 4, 2) := by decide +kernel
theorem dX6_ringSteep_16 : decode cX6_ringSteep 16 = .ok (.aload_n 0, 1) := by decide +kernel
theorem dX6_ringSteep_17 : decode cX6_ringSteep 17 = .ok (.getfield 28, 3) := by decide +kernel
theorem dX6_ringSteep_20 : decode cX6_ringSteep 20 = .ok (.getfield 169, 3) := by decide +kernel
theorem dX6_ringSteep_23 : decode cX6_ringSteep 23 = .ok (.iload_n 1, 1) := by decide +kernel
theorem dX6_ringSteep_24 : decode cX6_ringSteep 24 = .ok (.iaload, 1) := by decide +kernel
theorem dX6_ringSteep_25 : decode cX6_ringSteep 25 = .ok (.iadd, 1) := by decide +kernel
theorem dX6_ringSteep_26 : decode cX6_ringSteep 26 = .ok (.if_icmp .ge 40, 3) := by decide +kernel
theorem dX6_ringSteep_29 : decode cX6_ringSteep 29 = .ok (.aload_n 0, 1) := by decide +kernel
theorem dX6_ringSteep_30 : decode cX6_ringSteep 30 = .ok (.getfield 28, 3) := by decide +kernel
theorem dX6_ringSteep_33 : decode cX6_ringSteep 33 = .ok (.getfield 172, 3) := by decide +kernel
theorem dX6_ringSteep_36 : decode cX6_ringSteep 36 = .ok (.iload 5, 2) := by decide +kernel
theorem dX6_ringSteep_38 : decode cX6_ringSteep 38 = .ok (.iaload, 1) := by decide +kernel
theorem dX6_ringSteep_39 : decode cX6_ringSteep 39 = .ok (.istore 6, 2) := by decide +kernel
theorem dX6_ringSteep_41 : decode cX6_ringSteep 41 = .ok (.lload_n 2, 1) := by decide +kernel
theorem dX6_ringSteep_42 : decode cX6_ringSteep 42 = .ok (.aload_n 0, 1) := by decide +kernel
theorem dX6_ringSteep_43 : decode cX6_ringSteep 43 = .ok (.getfield 12, 3) := by decide +kernel
theorem dX6_ringSteep_46 : decode cX6_ringSteep 46 = .ok (.iload 6, 2) := by decide +kernel
theorem dX6_ringSteep_48 : decode cX6_ringSteep 48 = .ok (.aload_n 0, 1) := by decide +kernel
theorem dX6_ringSteep_49 : decode cX6_ringSteep 49 = .ok (.getfield 32, 3) := by decide +kernel
theorem dX6_ringSteep_52 : decode cX6_ringSteep 52 = .ok (.iload 6, 2) := by decide +kernel
theorem dX6_ringSteep_54 : decode cX6_ringSteep 54 = .ok (.laload, 1) := by decide +kernel
theorem dX6_ringSteep_55 : decode cX6_ringSteep 55 = .ok (.invokevirtual 180, 3) := by decide +kernel
theorem dX6_ringSteep_58 : decode cX6_ringSteep 58 = .ok (.ladd, 1) := by decide +kernel
theorem dX6_ringSteep_59 : decode cX6_ringSteep 59 = .ok (.lstore_n 2, 1) := by decide +kernel
theorem dX6_ringSteep_60 : decode cX6_ringSteep 60 = .ok (.iinc 5 1, 3) := by decide +kernel
theorem dX6_ringSteep_63 : decode cX6_ringSteep 63 = .ok (.goto (-51), 3) := by decide +kernel
theorem dX6_ringSteep_66 : decode cX6_ringSteep 66 = .ok (.lload_n 2, 1) := by decide +kernel
theorem dX6_ringSteep_67 : decode cX6_ringSteep 67 = .ok (.lreturn, 1) := by decide +kernel
theorem dX6_nearest_0 : decode cX6_nearest 0 = .ok (.lload_n 2, 1) := by decide +kernel
theorem dX6_nearest_1 : decode cX6_nearest 1 = .ok (.lconst 0, 1) := by decide +kernel
theorem dX6_nearest_2 : decode cX6_nearest 2 = .ok (.lcmp, 1) := by decide +kernel
theorem dX6_nearest_3 : decode cX6_nearest 3 = .ok (.ifCond .gt 5, 3) := by decide +kernel
theorem dX6_nearest_6 : decode cX6_nearest 6 = .ok (.lconst 0, 1) := by decide +kernel
theorem dX6_nearest_7 : decode cX6_nearest 7 = .ok (.lreturn, 1) := by decide +kernel
theorem dX6_nearest_8 : decode cX6_nearest 8 = .ok (.ldc2_w 183, 3) := by decide +kernel
theorem dX6_nearest_11 : decode cX6_nearest 11 = .ok (.lload_n 0, 1) := by decide +kernel
theorem dX6_nearest_12 : decode cX6_nearest 12 = .ok (.invokestatic 185, 3) := by decide +kernel
theorem dX6_nearest_15 : decode cX6_nearest 15 = .ok (.lmul, 1) := by decide +kernel
theorem dX6_nearest_16 : decode cX6_nearest 16 = .ok (.lload_n 2, 1) := by decide +kernel
theorem dX6_nearest_17 : decode cX6_nearest 17 = .ok (.ladd, 1) := by decide +kernel
theorem dX6_nearest_18 : decode cX6_nearest 18 = .ok (.lconst 1, 1) := by decide +kernel
theorem dX6_nearest_19 : decode cX6_nearest 19 = .ok (.lsub, 1) := by decide +kernel
theorem dX6_nearest_20 : decode cX6_nearest 20 = .ok (.ldc2_w 183, 3) := by decide +kernel
theorem dX6_nearest_23 : decode cX6_nearest 23 = .ok (.lload_n 2, 1) := by decide +kernel
theorem dX6_nearest_24 : decode cX6_nearest 24 = .ok (.lmul, 1) := by decide +kernel
theorem dX6_nearest_25 : decode cX6_nearest 25 = .ok (.ldiv, 1) := by decide +kernel
theorem dX6_nearest_26 : decode cX6_nearest 26 = .ok (.lstore 4, 2) := by decide +kernel
theorem dX6_nearest_28 : decode cX6_nearest 28 = .ok (.lload_n 0, 1) := by decide +kernel
theorem dX6_nearest_29 : decode cX6_nearest 29 = .ok (.lconst 0, 1) := by decide +kernel
theorem dX6_nearest_30 : decode cX6_nearest 30 = .ok (.lcmp, 1) := by decide +kernel
theorem dX6_nearest_31 : decode cX6_nearest 31 = .ok (.ifCond .ge 9, 3) := by decide +kernel
theorem dX6_nearest_34 : decode cX6_nearest 34 = .ok (.lload 4, 2) := by decide +kernel
theorem dX6_nearest_36 : decode cX6_nearest 36 = .ok (.lneg, 1) := by decide +kernel
theorem dX6_nearest_37 : decode cX6_nearest 37 = .ok (.goto 5, 3) := by decide +kernel
theorem dX6_nearest_40 : decode cX6_nearest 40 = .ok (.lload 4, 2) := by decide +kernel
theorem dX6_nearest_42 : decode cX6_nearest 42 = .ok (.lreturn, 1) := by decide +kernel
theorem dX6_findHeads_0 : decode cX6_findHeads 0 = .ok (.aload_n 0, 1) := by decide +kernel
theorem dX6_findHeads_1 : decode cX6_findHeads 1 = .ok (.getfield 36, 3) := by decide +kernel
theorem dX6_findHeads_4 : decode cX6_findHeads 4 = .ok (.iconst 0, 1) := by decide +kernel
theorem dX6_findHeads_5 : decode cX6_findHeads 5 = .ok (.ldc2_w 189, 3) := by decide +kernel
theorem dX6_findHeads_8 : decode cX6_findHeads 8 = .ok (.aload_n 0, 1) := by decide +kernel
theorem dX6_findHeads_9 : decode cX6_findHeads 9 = .ok (.getfield 12, 3) := by decide +kernel
theorem dX6_findHeads_12 : decode cX6_findHeads 12 = .ok (.getfield 191, 3) := by decide +kernel
theorem dX6_findHeads_15 : decode cX6_findHeads 15 = .ok (.i2l, 1) := by decide +kernel
theorem dX6_findHeads_16 : decode cX6_findHeads 16 = .ok (.lmul, 1) := by decide +kernel
theorem dX6_findHeads_17 : decode cX6_findHeads 17 = .ok (.lastore, 1) := by decide +kernel
theorem dX6_findHeads_18 : decode cX6_findHeads 18 = .ok (.iconst 1, 1) := by decide +kernel
theorem dX6_findHeads_19 : decode cX6_findHeads 19 = .ok (.istore_n 1, 1) := by decide +kernel
theorem dX6_findHeads_20 : decode cX6_findHeads 20 = .ok (.iload_n 1, 1) := by decide +kernel
theorem dX6_findHeads_21 : decode cX6_findHeads 21 = .ok (.aload_n 0, 1) := by decide +kernel
theorem dX6_findHeads_22 : decode cX6_findHeads 22 = .ok (.getfield 21, 3) := by decide +kernel
theorem dX6_findHeads_25 : decode cX6_findHeads 25 = .ok (.getfield 100, 3) := by decide +kernel
theorem dX6_findHeads_28 : decode cX6_findHeads 28 = .ok (.if_icmp .ge 79, 3) := by decide +kernel
theorem dX6_findHeads_31 : decode cX6_findHeads 31 = .ok (.aload_n 0, 1) := by decide +kernel
theorem dX6_findHeads_32 : decode cX6_findHeads 32 = .ok (.getfield 21, 3) := by decide +kernel
theorem dX6_findHeads_35 : decode cX6_findHeads 35 = .ok (.getfield 103, 3) := by decide +kernel
theorem dX6_findHeads_38 : decode cX6_findHeads 38 = .ok (.iload_n 1, 1) := by decide +kernel
theorem dX6_findHeads_39 : decode cX6_findHeads 39 = .ok (.iaload, 1) := by decide +kernel
theorem dX6_findHeads_40 : decode cX6_findHeads 40 = .ok (.istore_n 2, 1) := by decide +kernel
theorem dX6_findHeads_41 : decode cX6_findHeads 41 = .ok (.aload_n 0, 1) := by decide +kernel
theorem dX6_findHeads_42 : decode cX6_findHeads 42 = .ok (.getfield 21, 3) := by decide +kernel
theorem dX6_findHeads_45 : decode cX6_findHeads 45 = .ok (.getfield 106, 3) := by decide +kernel
theorem dX6_findHeads_48 : decode cX6_findHeads 48 = .ok (.iload_n 2, 1) := by decide +kernel
theorem dX6_findHeads_49 : decode cX6_findHeads 49 = .ok (.iaload, 1) := by decide +kernel
theorem dX6_findHeads_50 : decode cX6_findHeads 50 = .ok (.istore_n 3, 1) := by decide +kernel
theorem dX6_findHeads_51 : decode cX6_findHeads 51 = .ok (.iload_n 3, 1) := by decide +kernel
theorem dX6_findHeads_52 : decode cX6_findHeads 52 = .ok (.ifCond .lt 49, 3) := by decide +kernel
theorem dX6_findHeads_55 : decode cX6_findHeads 55 = .ok (.aload_n 0, 1) := by decide +kernel
theorem dX6_findHeads_56 : decode cX6_findHeads 56 = .ok (.getfield 36, 3) := by decide +kernel
theorem dX6_findHeads_59 : decode cX6_findHeads 59 = .ok (.iload_n 2, 1) := by decide +kernel
theorem dX6_findHeads_60 : decode cX6_findHeads 60 = .ok (.aload_n 0, 1) := by decide +kernel
theorem dX6_findHeads_61 : decode cX6_findHeads 61 = .ok (.getfield 36, 3) := by decide +kernel
theorem dX6_findHeads_64 : decode cX6_findHeads 64 = .ok (.aload_n 0, 1) := by decide +kernel
theorem dX6_findHeads_65 : decode cX6_findHeads 65 = .ok (.getfield 21, 3) := by decide +kernel
theorem dX6_findHeads_68 : decode cX6_findHeads 68 = .ok (.getfield 112, 3) := by decide +kernel
theorem dX6_findHeads_71 : decode cX6_findHeads 71 = .ok (.iload_n 2, 1) := by decide +kernel
theorem dX6_findHeads_72 : decode cX6_findHeads 72 = .ok (.iaload, 1) := by decide +kernel
theorem dX6_findHeads_73 : decode cX6_findHeads 73 = .ok (.laload, 1) := by decide +kernel
theorem dX6_findHeads_74 : decode cX6_findHeads 74 = .ok (.aload_n 0, 1) := by decide +kernel
theorem dX6_findHeads_75 : decode cX6_findHeads 75 = .ok (.getfield 21, 3) := by decide +kernel
theorem dX6_findHeads_78 : decode cX6_findHeads 78 = .ok (.getfield 115, 3) := by decide +kernel
theorem dX6_findHeads_81 : decode cX6_findHeads 81 = .ok (.iload_n 2, 1) := by decide +kernel
theorem dX6_findHeads_82 : decode cX6_findHeads 82 = .ok (.iaload, 1) := by decide +kernel
theorem dX6_findHeads_83 : decode cX6_findHeads 83 = .ok (.i2l, 1) := by decide +kernel
theorem dX6_findHeads_84 : decode cX6_findHeads 84 = .ok (.aload_n 0, 1) := by decide +kernel
theorem dX6_findHeads_85 : decode cX6_findHeads 85 = .ok (.getfield 12, 3) := by decide +kernel
theorem dX6_findHeads_88 : decode cX6_findHeads 88 = .ok (.iload_n 3, 1) := by decide +kernel
theorem dX6_findHeads_89 : decode cX6_findHeads 89 = .ok (.aload_n 0, 1) := by decide +kernel
theorem dX6_findHeads_90 : decode cX6_findHeads 90 = .ok (.getfield 32, 3) := by decide +kernel
theorem dX6_findHeads_93 : decode cX6_findHeads 93 = .ok (.iload_n 3, 1) := by decide +kernel
theorem dX6_findHeads_94 : decode cX6_findHeads 94 = .ok (.laload, 1) := by decide +kernel
theorem dX6_findHeads_95 : decode cX6_findHeads 95 = .ok (.invokevirtual 176, 3) := by decide +kernel
theorem dX6_findHeads_98 : decode cX6_findHeads 98 = .ok (.lmul, 1) := by decide +kernel
theorem dX6_findHeads_99 : decode cX6_findHeads 99 = .ok (.lsub, 1) := by decide +kernel
theorem dX6_findHeads_100 : decode cX6_findHeads 100 = .ok (.lastore, 1) := by decide +kernel
theorem dX6_findHeads_101 : decode cX6_findHeads 101 = .ok (.iinc 1 1, 3) := by decide +kernel
theorem dX6_findHeads_104 : decode cX6_findHeads 104 = .ok (.goto (-84), 3) := by decide +kernel
theorem dX6_findHeads_107 : decode cX6_findHeads 107 = .ok (.return_, 1) := by decide +kernel
theorem dX6_edgeToTurn_0 : decode cX6_edgeToTurn 0 = .ok (.iconst 0, 1) := by decide +kernel
theorem dX6_edgeToTurn_1 : decode cX6_edgeToTurn 1 = .ok (.istore_n 1, 1) := by decide +kernel
theorem dX6_edgeToTurn_2 : decode cX6_edgeToTurn 2 = .ok (.iload_n 1, 1) := by decide +kernel
theorem dX6_edgeToTurn_3 : decode cX6_edgeToTurn 3 = .ok (.aload_n 0, 1) := by decide +kernel
theorem dX6_edgeToTurn_4 : decode cX6_edgeToTurn 4 = .ok (.getfield 12, 3) := by decide +kernel
theorem dX6_edgeToTurn_7 : decode cX6_edgeToTurn 7 = .ok (.getfield 83, 3) := by decide +kernel
theorem dX6_edgeToTurn_10 : decode cX6_edgeToTurn 10 = .ok (.if_icmp .ge 34, 3) := by decide +kernel
theorem dX6_edgeToTurn_13 : decode cX6_edgeToTurn 13 = .ok (.aload_n 0, 1) := by decide +kernel
theorem dX6_edgeToTurn_14 : decode cX6_edgeToTurn 14 = .ok (.getfield 12, 3) := by decide +kernel
theorem dX6_edgeToTurn_17 : decode cX6_edgeToTurn 17 = .ok (.getfield 194, 3) := by decide +kernel
theorem dX6_edgeToTurn_20 : decode cX6_edgeToTurn 20 = .ok (.iload_n 1, 1) := by decide +kernel
theorem dX6_edgeToTurn_21 : decode cX6_edgeToTurn 21 = .ok (.iaload, 1) := by decide +kernel
theorem dX6_edgeToTurn_22 : decode cX6_edgeToTurn 22 = .ok (.ifCond .eq 16, 3) := by decide +kernel
theorem dX6_edgeToTurn_25 : decode cX6_edgeToTurn 25 = .ok (.aload_n 0, 1) := by decide +kernel
theorem dX6_edgeToTurn_26 : decode cX6_edgeToTurn 26 = .ok (.getfield 32, 3) := by decide +kernel
theorem dX6_edgeToTurn_29 : decode cX6_edgeToTurn 29 = .ok (.iload_n 1, 1) := by decide +kernel
theorem dX6_edgeToTurn_30 : decode cX6_edgeToTurn 30 = .ok (.laload, 1) := by decide +kernel
theorem dX6_edgeToTurn_31 : decode cX6_edgeToTurn 31 = .ok (.lconst 0, 1) := by decide +kernel
theorem dX6_edgeToTurn_32 : decode cX6_edgeToTurn 32 = .ok (.lcmp, 1) := by decide +kernel
theorem dX6_edgeToTurn_33 : decode cX6_edgeToTurn 33 = .ok (.ifCond .ge 5, 3) := by decide +kernel
theorem dX6_edgeToTurn_36 : decode cX6_edgeToTurn 36 = .ok (.iload_n 1, 1) := by decide +kernel
theorem dX6_edgeToTurn_37 : decode cX6_edgeToTurn 37 = .ok (.ireturn, 1) := by decide +kernel
theorem dX6_edgeToTurn_38 : decode cX6_edgeToTurn 38 = .ok (.iinc 1 1, 3) := by decide +kernel
theorem dX6_edgeToTurn_41 : decode cX6_edgeToTurn 41 = .ok (.goto (-39), 3) := by decide +kernel
theorem dX6_edgeToTurn_44 : decode cX6_edgeToTurn 44 = .ok (.iconst 0, 1) := by decide +kernel
theorem dX6_edgeToTurn_45 : decode cX6_edgeToTurn 45 = .ok (.istore_n 1, 1) := by decide +kernel
theorem dX6_edgeToTurn_46 : decode cX6_edgeToTurn 46 = .ok (.iload_n 1, 1) := by decide +kernel
theorem dX6_edgeToTurn_47 : decode cX6_edgeToTurn 47 = .ok (.aload_n 0, 1) := by decide +kernel
theorem dX6_edgeToTurn_48 : decode cX6_edgeToTurn 48 = .ok (.getfield 12, 3) := by decide +kernel
theorem dX6_edgeToTurn_51 : decode cX6_edgeToTurn 51 = .ok (.getfield 83, 3) := by decide +kernel
theorem dX6_edgeToTurn_54 : decode cX6_edgeToTurn 54 = .ok (.if_icmp .ge 31, 3) := by decide +kernel
theorem dX6_edgeToTurn_57 : decode cX6_edgeToTurn 57 = .ok (.aload_n 0, 1) := by decide +kernel
theorem dX6_edgeToTurn_58 : decode cX6_edgeToTurn 58 = .ok (.getfield 49, 3) := by decide +kernel
theorem dX6_edgeToTurn_61 : decode cX6_edgeToTurn 61 = .ok (.iload_n 1, 1) := by decide +kernel
theorem dX6_edgeToTurn_62 : decode cX6_edgeToTurn 62 = .ok (.invokestatic 197, 3) := by decide +kernel
theorem dX6_edgeToTurn_65 : decode cX6_edgeToTurn 65 = .ok (.iconst 1, 1) := by decide +kernel
theorem dX6_edgeToTurn_66 : decode cX6_edgeToTurn 66 = .ok (.if_icmp .ne 13, 3) := by decide +kernel
theorem dX6_edgeToTurn_69 : decode cX6_edgeToTurn 69 = .ok (.aload_n 0, 1) := by decide +kernel
theorem dX6_edgeToTurn_70 : decode cX6_edgeToTurn 70 = .ok (.iload_n 1, 1) := by decide +kernel
theorem dX6_edgeToTurn_71 : decode cX6_edgeToTurn 71 = .ok (.invokevirtual 201, 3) := by decide +kernel
theorem dX6_edgeToTurn_74 : decode cX6_edgeToTurn 74 = .ok (.ifCond .eq 5, 3) := by decide +kernel
theorem dX6_edgeToTurn_77 : decode cX6_edgeToTurn 77 = .ok (.iload_n 1, 1) := by decide +kernel
theorem dX6_edgeToTurn_78 : decode cX6_edgeToTurn 78 = .ok (.ireturn, 1) := by decide +kernel
theorem dX6_edgeToTurn_79 : decode cX6_edgeToTurn 79 = .ok (.iinc 1 1, 3) := by decide +kernel
theorem dX6_edgeToTurn_82 : decode cX6_edgeToTurn 82 = .ok (.goto (-36), 3) := by decide +kernel
theorem dX6_edgeToTurn_85 : decode cX6_edgeToTurn 85 = .ok (.iconst (-1), 1) := by decide +kernel
theorem dX6_edgeToTurn_86 : decode cX6_edgeToTurn 86 = .ok (.ireturn, 1) := by decide +kernel
theorem dX6_wouldFlow_0 : decode cX6_wouldFlow 0 = .ok (.aload_n 0, 1) := by decide +kernel
theorem dX6_wouldFlow_1 : decode cX6_wouldFlow 1 = .ok (.getfield 12, 3) := by decide +kernel
theorem dX6_wouldFlow_4 : decode cX6_wouldFlow 4 = .ok (.getfield 205, 3) := by decide +kernel
theorem dX6_wouldFlow_7 : decode cX6_wouldFlow 7 = .ok (.iload_n 1, 1) := by decide +kernel
theorem dX6_wouldFlow_8 : decode cX6_wouldFlow 8 = .ok (.iaload, 1) := by decide +kernel
theorem dX6_wouldFlow_9 : decode cX6_wouldFlow 9 = .ok (.istore_n 2, 1) := by decide +kernel
theorem dX6_wouldFlow_10 : decode cX6_wouldFlow 10 = .ok (.aload_n 0, 1) := by decide +kernel
theorem dX6_wouldFlow_11 : decode cX6_wouldFlow 11 = .ok (.getfield 12, 3) := by decide +kernel
theorem dX6_wouldFlow_14 : decode cX6_wouldFlow 14 = .ok (.getfield 208, 3) := by decide +kernel
theorem dX6_wouldFlow_17 : decode cX6_wouldFlow 17 = .ok (.iload_n 1, 1) := by decide +kernel
theorem dX6_wouldFlow_18 : decode cX6_wouldFlow 18 = .ok (.iaload, 1) := by decide +kernel
theorem dX6_wouldFlow_19 : decode cX6_wouldFlow 19 = .ok (.istore_n 3, 1) := by decide +kernel
theorem dX6_wouldFlow_20 : decode cX6_wouldFlow 20 = .ok (.aload_n 0, 1) := by decide +kernel
theorem dX6_wouldFlow_21 : decode cX6_wouldFlow 21 = .ok (.getfield 21, 3) := by decide +kernel
theorem dX6_wouldFlow_24 : decode cX6_wouldFlow 24 = .ok (.getfield 211, 3) := by decide +kernel
theorem dX6_wouldFlow_27 : decode cX6_wouldFlow 27 = .ok (.iload_n 2, 1) := by decide +kernel
theorem dX6_wouldFlow_28 : decode cX6_wouldFlow 28 = .ok (.invokestatic 197, 3) := by decide +kernel
theorem dX6_wouldFlow_31 : decode cX6_wouldFlow 31 = .ok (.ifCond .ne 5, 3) := by decide +kernel
theorem dX6_wouldFlow_34 : decode cX6_wouldFlow 34 = .ok (.iconst 0, 1) := by decide +kernel
theorem dX6_wouldFlow_35 : decode cX6_wouldFlow 35 = .ok (.ireturn, 1) := by decide +kernel
theorem dX6_wouldFlow_36 : decode cX6_wouldFlow 36 = .ok (.aload_n 0, 1) := by decide +kernel
theorem dX6_wouldFlow_37 : decode cX6_wouldFlow 37 = .ok (.getfield 21, 3) := by decide +kernel
theorem dX6_wouldFlow_40 : decode cX6_wouldFlow 40 = .ok (.getfield 211, 3) := by decide +kernel
theorem dX6_wouldFlow_43 : decode cX6_wouldFlow 43 = .ok (.iload_n 3, 1) := by decide +kernel
theorem dX6_wouldFlow_44 : decode cX6_wouldFlow 44 = .ok (.invokestatic 197, 3) := by decide +kernel
theorem dX6_wouldFlow_47 : decode cX6_wouldFlow 47 = .ok (.ifCond .eq 29, 3) := by decide +kernel
theorem dX6_wouldFlow_50 : decode cX6_wouldFlow 50 = .ok (.aload_n 0, 1) := by decide +kernel
theorem dX6_wouldFlow_51 : decode cX6_wouldFlow 51 = .ok (.getfield 36, 3) := by decide +kernel
theorem dX6_wouldFlow_54 : decode cX6_wouldFlow 54 = .ok (.iload_n 3, 1) := by decide +kernel
theorem dX6_wouldFlow_55 : decode cX6_wouldFlow 55 = .ok (.laload, 1) := by decide +kernel
theorem dX6_wouldFlow_56 : decode cX6_wouldFlow 56 = .ok (.aload_n 0, 1) := by decide +kernel
theorem dX6_wouldFlow_57 : decode cX6_wouldFlow 57 = .ok (.getfield 36, 3) := by decide +kernel
theorem dX6_wouldFlow_60 : decode cX6_wouldFlow 60 = .ok (.iload_n 2, 1) := by decide +kernel
theorem dX6_wouldFlow_61 : decode cX6_wouldFlow 61 = .ok (.laload, 1) := by decide +kernel
theorem dX6_wouldFlow_62 : decode cX6_wouldFlow 62 = .ok (.aload_n 0, 1) := by decide +kernel
theorem dX6_wouldFlow_63 : decode cX6_wouldFlow 63 = .ok (.getfield 12, 3) := by decide +kernel
theorem dX6_wouldFlow_66 : decode cX6_wouldFlow 66 = .ok (.iload_n 1, 1) := by decide +kernel
theorem dX6_wouldFlow_67 : decode cX6_wouldFlow 67 = .ok (.lconst 0, 1) := by decide +kernel
theorem dX6_wouldFlow_68 : decode cX6_wouldFlow 68 = .ok (.invokevirtual 176, 3) := by decide +kernel
theorem dX6_wouldFlow_71 : decode cX6_wouldFlow 71 = .ok (.lsub, 1) := by decide +kernel
theorem dX6_wouldFlow_72 : decode cX6_wouldFlow 72 = .ok (.lcmp, 1) := by decide +kernel
theorem dX6_wouldFlow_73 : decode cX6_wouldFlow 73 = .ok (.ifCond .ge 7, 3) := by decide +kernel
theorem dX6_wouldFlow_76 : decode cX6_wouldFlow 76 = .ok (.iconst 1, 1) := by decide +kernel
theorem dX6_wouldFlow_77 : decode cX6_wouldFlow 77 = .ok (.goto 4, 3) := by decide +kernel
theorem dX6_wouldFlow_80 : decode cX6_wouldFlow 80 = .ok (.iconst 0, 1) := by decide +kernel
theorem dX6_wouldFlow_81 : decode cX6_wouldFlow 81 = .ok (.ireturn, 1) := by decide +kernel
theorem dX6_dryJoints_0 : decode cX6_dryJoints 0 = .ok (.iconst 1, 1) := by decide +kernel
theorem dX6_dryJoints_1 : decode cX6_dryJoints 1 = .ok (.aload_n 0, 1) := by decide +kernel
theorem dX6_dryJoints_2 : decode cX6_dryJoints 2 = .ok (.getfield 12, 3) := by decide +kernel
theorem dX6_dryJoints_5 : decode cX6_dryJoints 5 = .ok (.getfield 214, 3) := by decide +kernel
theorem dX6_dryJoints_8 : decode cX6_dryJoints 8 = .ok (.ishl, 1) := by decide +kernel
theorem dX6_dryJoints_9 : decode cX6_dryJoints 9 = .ok (.iconst 1, 1) := by decide +kernel
theorem dX6_dryJoints_10 : decode cX6_dryJoints 10 = .ok (.isub, 1) := by decide +kernel
theorem dX6_dryJoints_11 : decode cX6_dryJoints 11 = .ok (.aload_n 0, 1) := by decide +kernel
theorem dX6_dryJoints_12 : decode cX6_dryJoints 12 = .ok (.getfield 21, 3) := by decide +kernel
theorem dX6_dryJoints_15 : decode cX6_dryJoints 15 = .ok (.getfield 211, 3) := by decide +kernel
theorem dX6_dryJoints_18 : decode cX6_dryJoints 18 = .ok (.iconst (-1), 1) := by decide +kernel
theorem dX6_dryJoints_19 : decode cX6_dryJoints 19 = .ok (.ixor, 1) := by decide +kernel
theorem dX6_dryJoints_20 : decode cX6_dryJoints 20 = .ok (.iand, 1) := by decide +kernel
theorem dX6_dryJoints_21 : decode cX6_dryJoints 21 = .ok (.ireturn, 1) := by decide +kernel
theorem dX6_given_0 : decode cX6_given 0 = .ok (.iconst 0, 1) := by decide +kernel
theorem dX6_given_1 : decode cX6_given 1 = .ok (.istore_n 1, 1) := by decide +kernel
theorem dX6_given_2 : decode cX6_given 2 = .ok (.iconst 0, 1) := by decide +kernel
theorem dX6_given_3 : decode cX6_given 3 = .ok (.istore_n 2, 1) := by decide +kernel
theorem dX6_given_4 : decode cX6_given 4 = .ok (.iload_n 2, 1) := by decide +kernel
end
section
theorem dX6_given_5 : decode cX6_given 5 = .ok (.aload_n 0, 1) := by decide +kernel
theorem dX6_given_6 : decode cX6_given 6 = .ok (.getfield 21, 3) := by decide +kernel
theorem dX6_given_9 : decode cX6_given 9 = .ok (.getfield 100, 3) := by decide +kernel
theorem dX6_given_12 : decode cX6_given 12 = .ok (.if_icmp .ge 29, 3) := by decide +kernel
theorem dX6_given_15 : decode cX6_given 15 = .ok (.iload_n 1, 1) := by decide +kernel
theorem dX6_given_16 : decode cX6_given 16 = .ok (.aload_n 0, 1) := by decide +kernel
theorem dX6_given_17 : decode cX6_given 17 = .ok (.getfield 12, 3) := by decide +kernel
theorem dX6_given_20 : decode cX6_given 20 = .ok (.getfield 109, 3) := by decide +kernel
theorem dX6_given_23 : decode cX6_given 23 = .ok (.aload_n 0, 1) := by decide +kernel
theorem dX6_given_24 : decode cX6_given 24 = .ok (.getfield 21, 3) := by decide +kernel
theorem dX6_given_27 : decode cX6_given 27 = .ok (.getfield 103, 3) := by decide +kernel
theorem dX6_given_30 : decode cX6_given 30 = .ok (.iload_n 2, 1) := by decide +kernel
theorem dX6_given_31 : decode cX6_given 31 = .ok (.iaload, 1) := by decide +kernel
theorem dX6_given_32 : decode cX6_given 32 = .ok (.iaload, 1) := by decide +kernel
theorem dX6_given_33 : decode cX6_given 33 = .ok (.iadd, 1) := by decide +kernel
theorem dX6_given_34 : decode cX6_given 34 = .ok (.istore_n 1, 1) := by decide +kernel
theorem dX6_given_35 : decode cX6_given 35 = .ok (.iinc 2 1, 3) := by decide +kernel
theorem dX6_given_38 : decode cX6_given 38 = .ok (.goto (-34), 3) := by decide +kernel
theorem dX6_given_41 : decode cX6_given 41 = .ok (.iload_n 1, 1) := by decide +kernel
theorem dX6_given_42 : decode cX6_given 42 = .ok (.ireturn, 1) := by decide +kernel
theorem dX6_pressureAt_0 : decode cX6_pressureAt 0 = .ok (.iload_n 1, 1) := by decide +kernel
theorem dX6_pressureAt_1 : decode cX6_pressureAt 1 = .ok (.ifCond .ne 7, 3) := by decide +kernel
theorem dX6_pressureAt_4 : decode cX6_pressureAt 4 = .ok (.lconst 0, 1) := by decide +kernel
theorem dX6_pressureAt_5 : decode cX6_pressureAt 5 = .ok (.goto 24, 3) := by decide +kernel
theorem dX6_pressureAt_8 : decode cX6_pressureAt 8 = .ok (.aload_n 0, 1) := by decide +kernel
theorem dX6_pressureAt_9 : decode cX6_pressureAt 9 = .ok (.getfield 36, 3) := by decide +kernel
theorem dX6_pressureAt_12 : decode cX6_pressureAt 12 = .ok (.iload_n 1, 1) := by decide +kernel
theorem dX6_pressureAt_13 : decode cX6_pressureAt 13 = .ok (.laload, 1) := by decide +kernel
theorem dX6_pressureAt_14 : decode cX6_pressureAt 14 = .ok (.ldc2_w 189, 3) := by decide +kernel
theorem dX6_pressureAt_17 : decode cX6_pressureAt 17 = .ok (.aload_n 0, 1) := by decide +kernel
theorem dX6_pressureAt_18 : decode cX6_pressureAt 18 = .ok (.getfield 12, 3) := by decide +kernel
theorem dX6_pressureAt_21 : decode cX6_pressureAt 21 = .ok (.getfield 217, 3) := by decide +kernel
theorem dX6_pressureAt_24 : decode cX6_pressureAt 24 = .ok (.iload_n 1, 1) := by decide +kernel
theorem dX6_pressureAt_25 : decode cX6_pressureAt 25 = .ok (.iaload, 1) := by decide +kernel
theorem dX6_pressureAt_26 : decode cX6_pressureAt 26 = .ok (.i2l, 1) := by decide +kernel
theorem dX6_pressureAt_27 : decode cX6_pressureAt 27 = .ok (.lmul, 1) := by decide +kernel
theorem dX6_pressureAt_28 : decode cX6_pressureAt 28 = .ok (.lsub, 1) := by decide +kernel
theorem dX6_pressureAt_29 : decode cX6_pressureAt 29 = .ok (.lreturn, 1) := by decide +kernel
theorem dX6_weakestJoint_0 : decode cX6_weakestJoint 0 = .ok (.bipush (-2), 2) := by decide +kernel
theorem dX6_weakestJoint_2 : decode cX6_weakestJoint 2 = .ok (.istore_n 1, 1) := by decide +kernel
theorem dX6_weakestJoint_3 : decode cX6_weakestJoint 3 = .ok (.iconst 1, 1) := by decide +kernel
theorem dX6_weakestJoint_4 : decode cX6_weakestJoint 4 = .ok (.istore_n 2, 1) := by decide +kernel
theorem dX6_weakestJoint_5 : decode cX6_weakestJoint 5 = .ok (.iload_n 2, 1) := by decide +kernel
theorem dX6_weakestJoint_6 : decode cX6_weakestJoint 6 = .ok (.aload_n 0, 1) := by decide +kernel
theorem dX6_weakestJoint_7 : decode cX6_weakestJoint 7 = .ok (.getfield 12, 3) := by decide +kernel
theorem dX6_weakestJoint_10 : decode cX6_weakestJoint 10 = .ok (.getfield 214, 3) := by decide +kernel
theorem dX6_weakestJoint_13 : decode cX6_weakestJoint 13 = .ok (.if_icmp .ge 46, 3) := by decide +kernel
theorem dX6_weakestJoint_16 : decode cX6_weakestJoint 16 = .ok (.aload_n 0, 1) := by decide +kernel
theorem dX6_weakestJoint_17 : decode cX6_weakestJoint 17 = .ok (.getfield 21, 3) := by decide +kernel
theorem dX6_weakestJoint_20 : decode cX6_weakestJoint 20 = .ok (.getfield 211, 3) := by decide +kernel
theorem dX6_weakestJoint_23 : decode cX6_weakestJoint 23 = .ok (.iload_n 2, 1) := by decide +kernel
theorem dX6_weakestJoint_24 : decode cX6_weakestJoint 24 = .ok (.invokestatic 197, 3) := by decide +kernel
theorem dX6_weakestJoint_27 : decode cX6_weakestJoint 27 = .ok (.iconst 1, 1) := by decide +kernel
theorem dX6_weakestJoint_28 : decode cX6_weakestJoint 28 = .ok (.if_icmp .ne 25, 3) := by decide +kernel
theorem dX6_weakestJoint_31 : decode cX6_weakestJoint 31 = .ok (.iload_n 1, 1) := by decide +kernel
theorem dX6_weakestJoint_32 : decode cX6_weakestJoint 32 = .ok (.bipush (-2), 2) := by decide +kernel
theorem dX6_weakestJoint_34 : decode cX6_weakestJoint 34 = .ok (.if_icmp .eq 17, 3) := by decide +kernel
theorem dX6_weakestJoint_37 : decode cX6_weakestJoint 37 = .ok (.aload_n 0, 1) := by decide +kernel
theorem dX6_weakestJoint_38 : decode cX6_weakestJoint 38 = .ok (.iload_n 2, 1) := by decide +kernel
theorem dX6_weakestJoint_39 : decode cX6_weakestJoint 39 = .ok (.invokevirtual 220, 3) := by decide +kernel
theorem dX6_weakestJoint_42 : decode cX6_weakestJoint 42 = .ok (.aload_n 0, 1) := by decide +kernel
theorem dX6_weakestJoint_43 : decode cX6_weakestJoint 43 = .ok (.iload_n 1, 1) := by decide +kernel
theorem dX6_weakestJoint_44 : decode cX6_weakestJoint 44 = .ok (.invokevirtual 220, 3) := by decide +kernel
theorem dX6_weakestJoint_47 : decode cX6_weakestJoint 47 = .ok (.lcmp, 1) := by decide +kernel
theorem dX6_weakestJoint_48 : decode cX6_weakestJoint 48 = .ok (.ifCond .ge 5, 3) := by decide +kernel
theorem dX6_weakestJoint_51 : decode cX6_weakestJoint 51 = .ok (.iload_n 2, 1) := by decide +kernel
theorem dX6_weakestJoint_52 : decode cX6_weakestJoint 52 = .ok (.istore_n 1, 1) := by decide +kernel
theorem dX6_weakestJoint_53 : decode cX6_weakestJoint 53 = .ok (.iinc 2 1, 3) := by decide +kernel
theorem dX6_weakestJoint_56 : decode cX6_weakestJoint 56 = .ok (.goto (-51), 3) := by decide +kernel
theorem dX6_weakestJoint_59 : decode cX6_weakestJoint 59 = .ok (.iload_n 1, 1) := by decide +kernel
theorem dX6_weakestJoint_60 : decode cX6_weakestJoint 60 = .ok (.ireturn, 1) := by decide +kernel
theorem dX6_leastPressure_0 : decode cX6_leastPressure 0 = .ok (.aload_n 0, 1) := by decide +kernel
theorem dX6_leastPressure_1 : decode cX6_leastPressure 1 = .ok (.invokevirtual 223, 3) := by decide +kernel
theorem dX6_leastPressure_4 : decode cX6_leastPressure 4 = .ok (.istore_n 1, 1) := by decide +kernel
theorem dX6_leastPressure_5 : decode cX6_leastPressure 5 = .ok (.iload_n 1, 1) := by decide +kernel
theorem dX6_leastPressure_6 : decode cX6_leastPressure 6 = .ok (.bipush (-2), 2) := by decide +kernel
theorem dX6_leastPressure_8 : decode cX6_leastPressure 8 = .ok (.if_icmp .ne 9, 3) := by decide +kernel
theorem dX6_leastPressure_11 : decode cX6_leastPressure 11 = .ok (.ldc2_w 226, 3) := by decide +kernel
theorem dX6_leastPressure_14 : decode cX6_leastPressure 14 = .ok (.goto 8, 3) := by decide +kernel
theorem dX6_leastPressure_17 : decode cX6_leastPressure 17 = .ok (.aload_n 0, 1) := by decide +kernel
theorem dX6_leastPressure_18 : decode cX6_leastPressure 18 = .ok (.iload_n 1, 1) := by decide +kernel
theorem dX6_leastPressure_19 : decode cX6_leastPressure 19 = .ok (.invokevirtual 220, 3) := by decide +kernel
theorem dX6_leastPressure_22 : decode cX6_leastPressure 22 = .ok (.lreturn, 1) := by decide +kernel
theorem dX6_leastPressureOfAll_0 : decode cX6_leastPressureOfAll 0 = .ok (.aload_n 0, 1) := by decide +kernel
theorem dX6_leastPressureOfAll_1 : decode cX6_leastPressureOfAll 1 = .ok (.invokevirtual 228, 3) := by decide +kernel
theorem dX6_leastPressureOfAll_4 : decode cX6_leastPressureOfAll 4 = .ok (.ifCond .ne 10, 3) := by decide +kernel
theorem dX6_leastPressureOfAll_7 : decode cX6_leastPressureOfAll 7 = .ok (.aload_n 0, 1) := by decide +kernel
theorem dX6_leastPressureOfAll_8 : decode cX6_leastPressureOfAll 8 = .ok (.invokevirtual 231, 3) := by decide +kernel
theorem dX6_leastPressureOfAll_11 : decode cX6_leastPressureOfAll 11 = .ok (.goto 6, 3) := by decide +kernel
theorem dX6_leastPressureOfAll_14 : decode cX6_leastPressureOfAll 14 = .ok (.ldc2_w 226, 3) := by decide +kernel
theorem dX6_leastPressureOfAll_17 : decode cX6_leastPressureOfAll 17 = .ok (.lreturn, 1) := by decide +kernel
theorem dX6_greatestRingSum_0 : decode cX6_greatestRingSum 0 = .ok (.lconst 0, 1) := by decide +kernel
theorem dX6_greatestRingSum_1 : decode cX6_greatestRingSum 1 = .ok (.lstore_n 1, 1) := by decide +kernel
theorem dX6_greatestRingSum_2 : decode cX6_greatestRingSum 2 = .ok (.iconst 0, 1) := by decide +kernel
theorem dX6_greatestRingSum_3 : decode cX6_greatestRingSum 3 = .ok (.istore_n 3, 1) := by decide +kernel
theorem dX6_greatestRingSum_4 : decode cX6_greatestRingSum 4 = .ok (.iload_n 3, 1) := by decide +kernel
theorem dX6_greatestRingSum_5 : decode cX6_greatestRingSum 5 = .ok (.aload_n 0, 1) := by decide +kernel
theorem dX6_greatestRingSum_6 : decode cX6_greatestRingSum 6 = .ok (.getfield 28, 3) := by decide +kernel
theorem dX6_greatestRingSum_9 : decode cX6_greatestRingSum 9 = .ok (.getfield 124, 3) := by decide +kernel
theorem dX6_greatestRingSum_12 : decode cX6_greatestRingSum 12 = .ok (.if_icmp .ge 22, 3) := by decide +kernel
theorem dX6_greatestRingSum_15 : decode cX6_greatestRingSum 15 = .ok (.lload_n 1, 1) := by decide +kernel
theorem dX6_greatestRingSum_16 : decode cX6_greatestRingSum 16 = .ok (.aload_n 0, 1) := by decide +kernel
theorem dX6_greatestRingSum_17 : decode cX6_greatestRingSum 17 = .ok (.iload_n 3, 1) := by decide +kernel
theorem dX6_greatestRingSum_18 : decode cX6_greatestRingSum 18 = .ok (.invokevirtual 125, 3) := by decide +kernel
theorem dX6_greatestRingSum_21 : decode cX6_greatestRingSum 21 = .ok (.invokestatic 185, 3) := by decide +kernel
theorem dX6_greatestRingSum_24 : decode cX6_greatestRingSum 24 = .ok (.invokestatic 145, 3) := by decide +kernel
theorem dX6_greatestRingSum_27 : decode cX6_greatestRingSum 27 = .ok (.lstore_n 1, 1) := by decide +kernel
theorem dX6_greatestRingSum_28 : decode cX6_greatestRingSum 28 = .ok (.iinc 3 1, 3) := by decide +kernel
theorem dX6_greatestRingSum_31 : decode cX6_greatestRingSum 31 = .ok (.goto (-27), 3) := by decide +kernel
theorem dX6_greatestRingSum_34 : decode cX6_greatestRingSum 34 = .ok (.lload_n 1, 1) := by decide +kernel
theorem dX6_greatestRingSum_35 : decode cX6_greatestRingSum 35 = .ok (.lreturn, 1) := by decide +kernel
theorem dX6_pumpWork_0 : decode cX6_pumpWork 0 = .ok (.lconst 0, 1) := by decide +kernel
theorem dX6_pumpWork_1 : decode cX6_pumpWork 1 = .ok (.lstore_n 1, 1) := by decide +kernel
theorem dX6_pumpWork_2 : decode cX6_pumpWork 2 = .ok (.iconst 0, 1) := by decide +kernel
theorem dX6_pumpWork_3 : decode cX6_pumpWork 3 = .ok (.istore_n 3, 1) := by decide +kernel
theorem dX6_pumpWork_4 : decode cX6_pumpWork 4 = .ok (.iload_n 3, 1) := by decide +kernel
theorem dX6_pumpWork_5 : decode cX6_pumpWork 5 = .ok (.aload_n 0, 1) := by decide +kernel
theorem dX6_pumpWork_6 : decode cX6_pumpWork 6 = .ok (.getfield 12, 3) := by decide +kernel
theorem dX6_pumpWork_9 : decode cX6_pumpWork 9 = .ok (.getfield 83, 3) := by decide +kernel
theorem dX6_pumpWork_12 : decode cX6_pumpWork 12 = .ok (.if_icmp .ge 46, 3) := by decide +kernel
theorem dX6_pumpWork_15 : decode cX6_pumpWork 15 = .ok (.aload_n 0, 1) := by decide +kernel
theorem dX6_pumpWork_16 : decode cX6_pumpWork 16 = .ok (.getfield 12, 3) := by decide +kernel
theorem dX6_pumpWork_19 : decode cX6_pumpWork 19 = .ok (.getfield 194, 3) := by decide +kernel
theorem dX6_pumpWork_22 : decode cX6_pumpWork 22 = .ok (.iload_n 3, 1) := by decide +kernel
theorem dX6_pumpWork_23 : decode cX6_pumpWork 23 = .ok (.iaload, 1) := by decide +kernel
theorem dX6_pumpWork_24 : decode cX6_pumpWork 24 = .ok (.iconst 2, 1) := by decide +kernel
theorem dX6_pumpWork_25 : decode cX6_pumpWork 25 = .ok (.if_icmp .ne 27, 3) := by decide +kernel
theorem dX6_pumpWork_28 : decode cX6_pumpWork 28 = .ok (.lload_n 1, 1) := by decide +kernel
theorem dX6_pumpWork_29 : decode cX6_pumpWork 29 = .ok (.aload_n 0, 1) := by decide +kernel
theorem dX6_pumpWork_30 : decode cX6_pumpWork 30 = .ok (.getfield 32, 3) := by decide +kernel
theorem dX6_pumpWork_33 : decode cX6_pumpWork 33 = .ok (.iload_n 3, 1) := by decide +kernel
theorem dX6_pumpWork_34 : decode cX6_pumpWork 34 = .ok (.laload, 1) := by decide +kernel
theorem dX6_pumpWork_35 : decode cX6_pumpWork 35 = .ok (.aload_n 0, 1) := by decide +kernel
theorem dX6_pumpWork_36 : decode cX6_pumpWork 36 = .ok (.getfield 12, 3) := by decide +kernel
theorem dX6_pumpWork_39 : decode cX6_pumpWork 39 = .ok (.iload_n 3, 1) := by decide +kernel
theorem dX6_pumpWork_40 : decode cX6_pumpWork 40 = .ok (.aload_n 0, 1) := by decide +kernel
theorem dX6_pumpWork_41 : decode cX6_pumpWork 41 = .ok (.getfield 32, 3) := by decide +kernel
theorem dX6_pumpWork_44 : decode cX6_pumpWork 44 = .ok (.iload_n 3, 1) := by decide +kernel
theorem dX6_pumpWork_45 : decode cX6_pumpWork 45 = .ok (.laload, 1) := by decide +kernel
theorem dX6_pumpWork_46 : decode cX6_pumpWork 46 = .ok (.invokevirtual 176, 3) := by decide +kernel
theorem dX6_pumpWork_49 : decode cX6_pumpWork 49 = .ok (.lmul, 1) := by decide +kernel
theorem dX6_pumpWork_50 : decode cX6_pumpWork 50 = .ok (.lsub, 1) := by decide +kernel
theorem dX6_pumpWork_51 : decode cX6_pumpWork 51 = .ok (.lstore_n 1, 1) := by decide +kernel
theorem dX6_pumpWork_52 : decode cX6_pumpWork 52 = .ok (.iinc 3 1, 3) := by decide +kernel
theorem dX6_pumpWork_55 : decode cX6_pumpWork 55 = .ok (.goto (-51), 3) := by decide +kernel
theorem dX6_pumpWork_58 : decode cX6_pumpWork 58 = .ok (.lload_n 1, 1) := by decide +kernel
theorem dX6_pumpWork_59 : decode cX6_pumpWork 59 = .ok (.lreturn, 1) := by decide +kernel
theorem dX6_leftOverAt_0 : decode cX6_leftOverAt 0 = .ok (.aload_n 0, 1) := by decide +kernel
theorem dX6_leftOverAt_1 : decode cX6_leftOverAt 1 = .ok (.getfield 21, 3) := by decide +kernel
theorem dX6_leftOverAt_4 : decode cX6_leftOverAt 4 = .ok (.getfield 211, 3) := by decide +kernel
theorem dX6_leftOverAt_7 : decode cX6_leftOverAt 7 = .ok (.iload_n 1, 1) := by decide +kernel
theorem dX6_leftOverAt_8 : decode cX6_leftOverAt 8 = .ok (.invokestatic 197, 3) := by decide +kernel
theorem dX6_leftOverAt_11 : decode cX6_leftOverAt 11 = .ok (.iconst 1, 1) := by decide +kernel
theorem dX6_leftOverAt_12 : decode cX6_leftOverAt 12 = .ok (.if_icmp .ne 17, 3) := by decide +kernel
theorem dX6_leftOverAt_15 : decode cX6_leftOverAt 15 = .ok (.aload_n 0, 1) := by decide +kernel
theorem dX6_leftOverAt_16 : decode cX6_leftOverAt 16 = .ok (.getfield 12, 3) := by decide +kernel
theorem dX6_leftOverAt_19 : decode cX6_leftOverAt 19 = .ok (.getfield 109, 3) := by decide +kernel
theorem dX6_leftOverAt_22 : decode cX6_leftOverAt 22 = .ok (.iload_n 1, 1) := by decide +kernel
theorem dX6_leftOverAt_23 : decode cX6_leftOverAt 23 = .ok (.iaload, 1) := by decide +kernel
theorem dX6_leftOverAt_24 : decode cX6_leftOverAt 24 = .ok (.ineg, 1) := by decide +kernel
theorem dX6_leftOverAt_25 : decode cX6_leftOverAt 25 = .ok (.i2l, 1) := by decide +kernel
theorem dX6_leftOverAt_26 : decode cX6_leftOverAt 26 = .ok (.goto 4, 3) := by decide +kernel
theorem dX6_leftOverAt_29 : decode cX6_leftOverAt 29 = .ok (.lconst 0, 1) := by decide +kernel
theorem dX6_leftOverAt_30 : decode cX6_leftOverAt 30 = .ok (.lstore_n 2, 1) := by decide +kernel
theorem dX6_leftOverAt_31 : decode cX6_leftOverAt 31 = .ok (.iconst 0, 1) := by decide +kernel
theorem dX6_leftOverAt_32 : decode cX6_leftOverAt 32 = .ok (.istore 4, 2) := by decide +kernel
theorem dX6_leftOverAt_34 : decode cX6_leftOverAt 34 = .ok (.iload 4, 2) := by decide +kernel
theorem dX6_leftOverAt_36 : decode cX6_leftOverAt 36 = .ok (.aload_n 0, 1) := by decide +kernel
theorem dX6_leftOverAt_37 : decode cX6_leftOverAt 37 = .ok (.getfield 12, 3) := by decide +kernel
theorem dX6_leftOverAt_40 : decode cX6_leftOverAt 40 = .ok (.getfield 83, 3) := by decide +kernel
theorem dX6_leftOverAt_43 : decode cX6_leftOverAt 43 = .ok (.if_icmp .ge 60, 3) := by decide +kernel
theorem dX6_leftOverAt_46 : decode cX6_leftOverAt 46 = .ok (.aload_n 0, 1) := by decide +kernel
theorem dX6_leftOverAt_47 : decode cX6_leftOverAt 47 = .ok (.getfield 12, 3) := by decide +kernel
theorem dX6_leftOverAt_50 : decode cX6_leftOverAt 50 = .ok (.getfield 208, 3) := by decide +kernel
theorem dX6_leftOverAt_53 : decode cX6_leftOverAt 53 = .ok (.iload 4, 2) := by decide +kernel
theorem dX6_leftOverAt_55 : decode cX6_leftOverAt 55 = .ok (.iaload, 1) := by decide +kernel
theorem dX6_leftOverAt_56 : decode cX6_leftOverAt 56 = .ok (.iload_n 1, 1) := by decide +kernel
theorem dX6_leftOverAt_57 : decode cX6_leftOverAt 57 = .ok (.if_icmp .ne 16, 3) := by decide +kernel
theorem dX6_leftOverAt_60 : decode cX6_leftOverAt 60 = .ok (.lload_n 2, 1) := by decide +kernel
theorem dX6_leftOverAt_61 : decode cX6_leftOverAt 61 = .ok (.aload_n 0, 1) := by decide +kernel
theorem dX6_leftOverAt_62 : decode cX6_leftOverAt 62 = .ok (.getfield 32, 3) := by decide +kernel
theorem dX6_leftOverAt_65 : decode cX6_leftOverAt 65 = .ok (.iload 4, 2) := by decide +kernel
theorem dX6_leftOverAt_67 : decode cX6_leftOverAt 67 = .ok (.laload, 1) := by decide +kernel
theorem dX6_leftOverAt_68 : decode cX6_leftOverAt 68 = .ok (.ladd, 1) := by decide +kernel
theorem dX6_leftOverAt_69 : decode cX6_leftOverAt 69 = .ok (.lstore_n 2, 1) := by decide +kernel
theorem dX6_leftOverAt_70 : decode cX6_leftOverAt 70 = .ok (.goto 27, 3) := by decide +kernel
theorem dX6_leftOverAt_73 : decode cX6_leftOverAt 73 = .ok (.aload_n 0, 1) := by decide +kernel
theorem dX6_leftOverAt_74 : decode cX6_leftOverAt 74 = .ok (.getfield 12, 3) := by decide +kernel
theorem dX6_leftOverAt_77 : decode cX6_leftOverAt 77 = .ok (.getfield 205, 3) := by decide +kernel
theorem dX6_leftOverAt_80 : decode cX6_leftOverAt 80 = .ok (.iload 4, 2) := by decide +kernel
theorem dX6_leftOverAt_82 : decode cX6_leftOverAt 82 = .ok (.iaload, 1) := by decide +kernel
theorem dX6_leftOverAt_83 : decode cX6_leftOverAt 83 = .ok (.iload_n 1, 1) := by decide +kernel
theorem dX6_leftOverAt_84 : decode cX6_leftOverAt 84 = .ok (.if_icmp .ne 13, 3) := by decide +kernel
theorem dX6_leftOverAt_87 : decode cX6_leftOverAt 87 = .ok (.lload_n 2, 1) := by decide +kernel
theorem dX6_leftOverAt_88 : decode cX6_leftOverAt 88 = .ok (.aload_n 0, 1) := by decide +kernel
theorem dX6_leftOverAt_89 : decode cX6_leftOverAt 89 = .ok (.getfield 32, 3) := by decide +kernel
theorem dX6_leftOverAt_92 : decode cX6_leftOverAt 92 = .ok (.iload 4, 2) := by decide +kernel
theorem dX6_leftOverAt_94 : decode cX6_leftOverAt 94 = .ok (.laload, 1) := by decide +kernel
theorem dX6_leftOverAt_95 : decode cX6_leftOverAt 95 = .ok (.lsub, 1) := by decide +kernel
theorem dX6_leftOverAt_96 : decode cX6_leftOverAt 96 = .ok (.lstore_n 2, 1) := by decide +kernel
theorem dX6_leftOverAt_97 : decode cX6_leftOverAt 97 = .ok (.iinc 4 1, 3) := by decide +kernel
theorem dX6_leftOverAt_100 : decode cX6_leftOverAt 100 = .ok (.goto (-66), 3) := by decide +kernel
theorem dX6_leftOverAt_103 : decode cX6_leftOverAt 103 = .ok (.lload_n 2, 1) := by decide +kernel
theorem dX6_leftOverAt_104 : decode cX6_leftOverAt 104 = .ok (.lreturn, 1) := by decide +kernel
end
section
theorem dX7_init_0 : decode cX7_init 0 = .ok (.aload_n 0, 1) := by decide +kernel
theorem dX7_init_1 : decode cX7_init 1 = .ok (.invokespecial 3, 3) := by decide +kernel
theorem dX7_init_4 : decode cX7_init 4 = .ok (.aload_n 0, 1) := by decide +kernel
theorem dX7_init_5 : decode cX7_init 5 = .ok (.sipush 600, 3) := by decide +kernel
theorem dX7_init_8 : decode cX7_init 8 = .ok (.newarray .byte, 2) := by decide +kernel
theorem dX7_init_10 : decode cX7_init 10 = .ok (.putfield 11, 3) := by decide +kernel
theorem dX7_init_13 : decode cX7_init 13 = .ok (.aload_n 0, 1) := by decide +kernel
theorem dX7_init_14 : decode cX7_init 14 = .ok (.iconst (-1), 1) := by decide +kernel
theorem dX7_init_15 : decode cX7_init 15 = .ok (.putfield 15, 3) := by decide +kernel
theorem dX7_init_18 : decode cX7_init 18 = .ok (.aload_n 0, 1) := by decide +kernel
theorem dX7_init_19 : decode cX7_init 19 = .ok (.new 19, 3) := by decide +kernel
theorem dX7_init_22 : decode cX7_init 22 = .ok (.dup, 1) := by decide +kernel
theorem dX7_init_23 : decode cX7_init 23 = .ok (.invokespecial 21, 3) := by decide +kernel
theorem dX7_init_26 : decode cX7_init 26 = .ok (.putfield 22, 3) := by decide +kernel
theorem dX7_init_29 : decode cX7_init 29 = .ok (.aload_n 0, 1) := by decide +kernel
theorem dX7_init_30 : decode cX7_init 30 = .ok (.new 26, 3) := by decide +kernel
theorem dX7_init_33 : decode cX7_init 33 = .ok (.dup, 1) := by decide +kernel
theorem dX7_init_34 : decode cX7_init 34 = .ok (.invokespecial 28, 3) := by decide +kernel
theorem dX7_init_37 : decode cX7_init 37 = .ok (.putfield 29, 3) := by decide +kernel
theorem dX7_init_40 : decode cX7_init 40 = .ok (.aload_n 0, 1) := by decide +kernel
theorem dX7_init_41 : decode cX7_init 41 = .ok (.aload_n 0, 1) := by decide +kernel
theorem dX7_init_42 : decode cX7_init 42 = .ok (.getfield 29, 3) := by decide +kernel
theorem dX7_init_45 : decode cX7_init 45 = .ok (.getfield 33, 3) := by decide +kernel
theorem dX7_init_48 : decode cX7_init 48 = .ok (.putfield 37, 3) := by decide +kernel
theorem dX7_init_51 : decode cX7_init 51 = .ok (.aload_n 0, 1) := by decide +kernel
theorem dX7_init_52 : decode cX7_init 52 = .ok (.new 26, 3) := by decide +kernel
theorem dX7_init_55 : decode cX7_init 55 = .ok (.dup, 1) := by decide +kernel
theorem dX7_init_56 : decode cX7_init 56 = .ok (.invokespecial 28, 3) := by decide +kernel
theorem dX7_init_59 : decode cX7_init 59 = .ok (.putfield 38, 3) := by decide +kernel
theorem dX7_init_62 : decode cX7_init 62 = .ok (.aload_n 0, 1) := by decide +kernel
theorem dX7_init_63 : decode cX7_init 63 = .ok (.aload_n 0, 1) := by decide +kernel
theorem dX7_init_64 : decode cX7_init 64 = .ok (.getfield 38, 3) := by decide +kernel
theorem dX7_init_67 : decode cX7_init 67 = .ok (.getfield 33, 3) := by decide +kernel
theorem dX7_init_70 : decode cX7_init 70 = .ok (.putfield 41, 3) := by decide +kernel
theorem dX7_init_73 : decode cX7_init 73 = .ok (.aload_n 0, 1) := by decide +kernel
theorem dX7_init_74 : decode cX7_init 74 = .ok (.new 44, 3) := by decide +kernel
theorem dX7_init_77 : decode cX7_init 77 = .ok (.dup, 1) := by decide +kernel
theorem dX7_init_78 : decode cX7_init 78 = .ok (.invokespecial 46, 3) := by decide +kernel
theorem dX7_init_81 : decode cX7_init 81 = .ok (.putfield 47, 3) := by decide +kernel
theorem dX7_init_84 : decode cX7_init 84 = .ok (.aload_n 0, 1) := by decide +kernel
theorem dX7_init_85 : decode cX7_init 85 = .ok (.new 51, 3) := by decide +kernel
theorem dX7_init_88 : decode cX7_init 88 = .ok (.dup, 1) := by decide +kernel
theorem dX7_init_89 : decode cX7_init 89 = .ok (.invokespecial 53, 3) := by decide +kernel
theorem dX7_init_92 : decode cX7_init 92 = .ok (.putfield 54, 3) := by decide +kernel
theorem dX7_init_95 : decode cX7_init 95 = .ok (.return_, 1) := by decide +kernel
theorem dX7_feed_0 : decode cX7_feed 0 = .ok (.aload_n 0, 1) := by decide +kernel
theorem dX7_feed_1 : decode cX7_feed 1 = .ok (.getfield 58, 3) := by decide +kernel
theorem dX7_feed_4 : decode cX7_feed 4 = .ok (.bipush 20, 2) := by decide +kernel
theorem dX7_feed_6 : decode cX7_feed 6 = .ok (.iadd, 1) := by decide +kernel
theorem dX7_feed_7 : decode cX7_feed 7 = .ok (.sipush 600, 3) := by decide +kernel
theorem dX7_feed_10 : decode cX7_feed 10 = .ok (.if_icmp .le 5, 3) := by decide +kernel
theorem dX7_feed_13 : decode cX7_feed 13 = .ok (.iconst (-1), 1) := by decide +kernel
theorem dX7_feed_14 : decode cX7_feed 14 = .ok (.ireturn, 1) := by decide +kernel
theorem dX7_feed_15 : decode cX7_feed 15 = .ok (.aload_n 0, 1) := by decide +kernel
theorem dX7_feed_16 : decode cX7_feed 16 = .ok (.iload_n 1, 1) := by decide +kernel
theorem dX7_feed_17 : decode cX7_feed 17 = .ok (.invokevirtual 61, 3) := by decide +kernel
theorem dX7_feed_20 : decode cX7_feed 20 = .ok (.aload_n 0, 1) := by decide +kernel
theorem dX7_feed_21 : decode cX7_feed 21 = .ok (.iload_n 2, 1) := by decide +kernel
theorem dX7_feed_22 : decode cX7_feed 22 = .ok (.invokevirtual 61, 3) := by decide +kernel
theorem dX7_feed_25 : decode cX7_feed 25 = .ok (.aload_n 0, 1) := by decide +kernel
theorem dX7_feed_26 : decode cX7_feed 26 = .ok (.iload_n 3, 1) := by decide +kernel
theorem dX7_feed_27 : decode cX7_feed 27 = .ok (.invokevirtual 61, 3) := by decide +kernel
theorem dX7_feed_30 : decode cX7_feed 30 = .ok (.aload_n 0, 1) := by decide +kernel
theorem dX7_feed_31 : decode cX7_feed 31 = .ok (.iload 4, 2) := by decide +kernel
theorem dX7_feed_33 : decode cX7_feed 33 = .ok (.invokevirtual 61, 3) := by decide +kernel
theorem dX7_feed_36 : decode cX7_feed 36 = .ok (.aload_n 0, 1) := by decide +kernel
theorem dX7_feed_37 : decode cX7_feed 37 = .ok (.iload 5, 2) := by decide +kernel
theorem dX7_feed_39 : decode cX7_feed 39 = .ok (.invokevirtual 61, 3) := by decide +kernel
theorem dX7_feed_42 : decode cX7_feed 42 = .ok (.aload_n 0, 1) := by decide +kernel
theorem dX7_feed_43 : decode cX7_feed 43 = .ok (.getfield 58, 3) := by decide +kernel
theorem dX7_feed_46 : decode cX7_feed 46 = .ok (.ireturn, 1) := by decide +kernel
theorem dX7_text_0 : decode cX7_text 0 = .ok (.iload_n 1, 1) := by decide +kernel
theorem dX7_text_1 : decode cX7_text 1 = .ok (.ifCond .lt 11, 3) := by decide +kernel
theorem dX7_text_4 : decode cX7_text 4 = .ok (.iload_n 1, 1) := by decide +kernel
theorem dX7_text_5 : decode cX7_text 5 = .ok (.aload_n 0, 1) := by decide +kernel
theorem dX7_text_6 : decode cX7_text 6 = .ok (.getfield 58, 3) := by decide +kernel
theorem dX7_text_9 : decode cX7_text 9 = .ok (.if_icmp .le 9, 3) := by decide +kernel
theorem dX7_text_12 : decode cX7_text 12 = .ok (.aload_n 0, 1) := by decide +kernel
theorem dX7_text_13 : decode cX7_text 13 = .ok (.iconst 2, 1) := by decide +kernel
theorem dX7_text_14 : decode cX7_text 14 = .ok (.invokevirtual 65, 3) := by decide +kernel
theorem dX7_text_17 : decode cX7_text 17 = .ok (.ireturn, 1) := by decide +kernel
theorem dX7_text_18 : decode cX7_text 18 = .ok (.aload_n 0, 1) := by decide +kernel
theorem dX7_text_19 : decode cX7_text 19 = .ok (.aload_n 0, 1) := by decide +kernel
theorem dX7_text_20 : decode cX7_text 20 = .ok (.getfield 22, 3) := by decide +kernel
theorem dX7_text_23 : decode cX7_text 23 = .ok (.aload_n 0, 1) := by decide +kernel
theorem dX7_text_24 : decode cX7_text 24 = .ok (.getfield 11, 3) := by decide +kernel
theorem dX7_text_27 : decode cX7_text 27 = .ok (.iload_n 1, 1) := by decide +kernel
theorem dX7_text_28 : decode cX7_text 28 = .ok (.invokevirtual 69, 3) := by decide +kernel
theorem dX7_text_31 : decode cX7_text 31 = .ok (.putfield 73, 3) := by decide +kernel
theorem dX7_text_34 : decode cX7_text 34 = .ok (.aload_n 0, 1) := by decide +kernel
theorem dX7_text_35 : decode cX7_text 35 = .ok (.iconst 0, 1) := by decide +kernel
theorem dX7_text_36 : decode cX7_text 36 = .ok (.putfield 58, 3) := by decide +kernel
theorem dX7_text_39 : decode cX7_text 39 = .ok (.aload_n 0, 1) := by decide +kernel
theorem dX7_text_40 : decode cX7_text 40 = .ok (.getfield 73, 3) := by decide +kernel
theorem dX7_text_43 : decode cX7_text 43 = .ok (.ifCond .eq 22, 3) := by decide +kernel
theorem dX7_text_46 : decode cX7_text 46 = .ok (.aload_n 0, 1) := by decide +kernel
theorem dX7_text_47 : decode cX7_text 47 = .ok (.iconst 4, 1) := by decide +kernel
theorem dX7_text_48 : decode cX7_text 48 = .ok (.invokevirtual 65, 3) := by decide +kernel
theorem dX7_text_51 : decode cX7_text 51 = .ok (.pop, 1) := by decide +kernel
theorem dX7_text_52 : decode cX7_text 52 = .ok (.aload_n 0, 1) := by decide +kernel
theorem dX7_text_53 : decode cX7_text 53 = .ok (.aload_n 0, 1) := by decide +kernel
theorem dX7_text_54 : decode cX7_text 54 = .ok (.getfield 22, 3) := by decide +kernel
theorem dX7_text_57 : decode cX7_text 57 = .ok (.getfield 76, 3) := by decide +kernel
theorem dX7_text_60 : decode cX7_text 60 = .ok (.putfield 15, 3) := by decide +kernel
theorem dX7_text_63 : decode cX7_text 63 = .ok (.iconst (-1), 1) := by decide +kernel
theorem dX7_text_64 : decode cX7_text 64 = .ok (.ireturn, 1) := by decide +kernel
theorem dX7_text_65 : decode cX7_text 65 = .ok (.aload_n 0, 1) := by decide +kernel
theorem dX7_text_66 : decode cX7_text 66 = .ok (.invokevirtual 79, 3) := by decide +kernel
theorem dX7_text_69 : decode cX7_text 69 = .ok (.aload_n 0, 1) := by decide +kernel
theorem dX7_text_70 : decode cX7_text 70 = .ok (.getfield 37, 3) := by decide +kernel
theorem dX7_text_73 : decode cX7_text 73 = .ok (.aload_n 0, 1) := by decide +kernel
theorem dX7_text_74 : decode cX7_text 74 = .ok (.getfield 22, 3) := by decide +kernel
theorem dX7_text_77 : decode cX7_text 77 = .ok (.getfield 82, 3) := by decide +kernel
theorem dX7_text_80 : decode cX7_text 80 = .ok (.invokevirtual 83, 3) := by decide +kernel
theorem dX7_text_83 : decode cX7_text 83 = .ok (.aload_n 0, 1) := by decide +kernel
theorem dX7_text_84 : decode cX7_text 84 = .ok (.getfield 47, 3) := by decide +kernel
theorem dX7_text_87 : decode cX7_text 87 = .ok (.iconst 0, 1) := by decide +kernel
theorem dX7_text_88 : decode cX7_text 88 = .ok (.putfield 89, 3) := by decide +kernel
theorem dX7_text_91 : decode cX7_text 91 = .ok (.aload_n 0, 1) := by decide +kernel
theorem dX7_text_92 : decode cX7_text 92 = .ok (.getfield 54, 3) := by decide +kernel
theorem dX7_text_95 : decode cX7_text 95 = .ok (.invokevirtual 92, 3) := by decide +kernel
theorem dX7_text_98 : decode cX7_text 98 = .ok (.aload_n 0, 1) := by decide +kernel
theorem dX7_text_99 : decode cX7_text 99 = .ok (.invokevirtual 95, 3) := by decide +kernel
theorem dX7_text_102 : decode cX7_text 102 = .ok (.aload_n 0, 1) := by decide +kernel
theorem dX7_text_103 : decode cX7_text 103 = .ok (.getfield 37, 3) := by decide +kernel
theorem dX7_text_106 : decode cX7_text 106 = .ok (.getfield 98, 3) := by decide +kernel
theorem dX7_text_109 : decode cX7_text 109 = .ok (.ireturn, 1) := by decide +kernel
theorem dX7_fault_0 : decode cX7_fault 0 = .ok (.aload_n 0, 1) := by decide +kernel
theorem dX7_fault_1 : decode cX7_fault 1 = .ok (.getfield 73, 3) := by decide +kernel
theorem dX7_fault_4 : decode cX7_fault 4 = .ok (.ireturn, 1) := by decide +kernel
theorem dX7_where_0 : decode cX7_where 0 = .ok (.aload_n 0, 1) := by decide +kernel
theorem dX7_where_1 : decode cX7_where 1 = .ok (.getfield 15, 3) := by decide +kernel
theorem dX7_where_4 : decode cX7_where 4 = .ok (.ireturn, 1) := by decide +kernel
theorem dX7_about_0 : decode cX7_about 0 = .ok (.aload_n 0, 1) := by decide +kernel
theorem dX7_about_1 : decode cX7_about 1 = .ok (.invokevirtual 101, 3) := by decide +kernel
theorem dX7_about_4 : decode cX7_about 4 = .ok (.ifCond .eq 13, 3) := by decide +kernel
theorem dX7_about_7 : decode cX7_about 7 = .ok (.iload_n 1, 1) := by decide +kernel
theorem dX7_about_8 : decode cX7_about 8 = .ok (.ifCond .lt 9, 3) := by decide +kernel
theorem dX7_about_11 : decode cX7_about 11 = .ok (.iload_n 1, 1) := by decide +kernel
theorem dX7_about_12 : decode cX7_about 12 = .ok (.bipush 10, 2) := by decide +kernel
theorem dX7_about_14 : decode cX7_about 14 = .ok (.if_icmp .le 9, 3) := by decide +kernel
theorem dX7_about_17 : decode cX7_about 17 = .ok (.aload_n 0, 1) := by decide +kernel
theorem dX7_about_18 : decode cX7_about 18 = .ok (.iconst 1, 1) := by decide +kernel
theorem dX7_about_19 : decode cX7_about 19 = .ok (.invokevirtual 65, 3) := by decide +kernel
theorem dX7_about_22 : decode cX7_about 22 = .ok (.ireturn, 1) := by decide +kernel
theorem dX7_about_23 : decode cX7_about 23 = .ok (.aload_n 0, 1) := by decide +kernel
theorem dX7_about_24 : decode cX7_about 24 = .ok (.invokevirtual 79, 3) := by decide +kernel
theorem dX7_about_27 : decode cX7_about 27 = .ok (.iload_n 1, 1) := by decide +kernel
theorem dX7_about_28 : decode cX7_about 28 = .ok (.tableswitch 147 0 9 #[56, 64, 72, 83, 99, 107, 115, 123, 131, 139], 56) := by decide +kernel
theorem dX7_about_84 : decode cX7_about 84 = .ok (.aload_n 0, 1) := by decide +kernel
theorem dX7_about_85 : decode cX7_about 85 = .ok (.getfield 37, 3) := by decide +kernel
theorem dX7_about_88 : decode cX7_about 88 = .ok (.getfield 98, 3) := by decide +kernel
theorem dX7_about_91 : decode cX7_about 91 = .ok (.ireturn, 1) := by decide +kernel
theorem dX7_about_92 : decode cX7_about 92 = .ok (.aload_n 0, 1) := by decide +kernel
theorem dX7_about_93 : decode cX7_about 93 = .ok (.getfield 37, 3) := by decide +kernel
theorem dX7_about_96 : decode cX7_about 96 = .ok (.getfield 105, 3) := by decide +kernel
theorem dX7_about_99 : decode cX7_about 99 = .ok (.ireturn, 1) := by decide +kernel
theorem dX7_about_100 : decode cX7_about 100 = .ok (.aload_n 0, 1) := by decide +kernel
theorem dX7_about_101 : decode cX7_about 101 = .ok (.getfield 29, 3) := by decide +kernel
theorem dX7_about_104 : decode cX7_about 104 = .ok (.getfield 108, 3) := by decide +kernel
theorem dX7_about_107 : decode cX7_about 107 = .ok (.getfield 112, 3) := by decide +kernel
theorem dX7_about_110 : decode cX7_about 110 = .ok (.ireturn, 1) := by decide +kernel
theorem dX7_about_111 : decode cX7_about 111 = .ok (.aload_n 0, 1) := by decide +kernel
theorem dX7_about_112 : decode cX7_about 112 = .ok (.getfield 29, 3) := by decide +kernel
theorem dX7_about_115 : decode cX7_about 115 = .ok (.getfield 115, 3) := by decide +kernel
theorem dX7_about_118 : decode cX7_about 118 = .ok (.ifCond .eq 7, 3) := by decide +kernel
theorem dX7_about_121 : decode cX7_about 121 = .ok (.iconst 1, 1) := by decide +kernel
theorem dX7_about_122 : decode cX7_about 122 = .ok (.goto 4, 3) := by decide +kernel
theorem dX7_about_125 : decode cX7_about 125 = .ok (.iconst 0, 1) := by decide +kernel
theorem dX7_about_126 : decode cX7_about 126 = .ok (.ireturn, 1) := by decide +kernel
theorem dX7_about_127 : decode cX7_about 127 = .ok (.aload_n 0, 1) := by decide +kernel
theorem dX7_about_128 : decode cX7_about 128 = .ok (.getfield 29, 3) := by decide +kernel
theorem dX7_about_131 : decode cX7_about 131 = .ok (.getfield 119, 3) := by decide +kernel
theorem dX7_about_134 : decode cX7_about 134 = .ok (.ireturn, 1) := by decide +kernel
theorem dX7_about_135 : decode cX7_about 135 = .ok (.aload_n 0, 1) := by decide +kernel
theorem dX7_about_136 : decode cX7_about 136 = .ok (.getfield 29, 3) := by decide +kernel
theorem dX7_about_139 : decode cX7_about 139 = .ok (.getfield 122, 3) := by decide +kernel
theorem dX7_about_142 : decode cX7_about 142 = .ok (.ireturn, 1) := by decide +kernel
theorem dX7_about_143 : decode cX7_about 143 = .ok (.aload_n 0, 1) := by decide +kernel
theorem dX7_about_144 : decode cX7_about 144 = .ok (.getfield 29, 3) := by decide +kernel
theorem dX7_about_147 : decode cX7_about 147 = .ok (.invokevirtual 125, 3) := by decide +kernel
theorem dX7_about_150 : decode cX7_about 150 = .ok (.ireturn, 1) := by decide +kernel
theorem dX7_about_151 : decode cX7_about 151 = .ok (.aload_n 0, 1) := by decide +kernel
theorem dX7_about_152 : decode cX7_about 152 = .ok (.getfield 47, 3) := by decide +kernel
theorem dX7_about_155 : decode cX7_about 155 = .ok (.getfield 89, 3) := by decide +kernel
theorem dX7_about_158 : decode cX7_about 158 = .ok (.ireturn, 1) := by decide +kernel
theorem dX7_about_159 : decode cX7_about 159 = .ok (.aload_n 0, 1) := by decide +kernel
theorem dX7_about_160 : decode cX7_about 160 = .ok (.getfield 29, 3) := by decide +kernel
theorem dX7_about_163 : decode cX7_about 163 = .ok (.invokevirtual 129, 3) := by decide +kernel
theorem dX7_about_166 : decode cX7_about 166 = .ok (.ireturn, 1) := by decide +kernel
theorem dX7_about_167 : decode cX7_about 167 = .ok (.aload_n 0, 1) := by decide +kernel
theorem dX7_about_168 : decode cX7_about 168 = .ok (.getfield 29, 3) := by decide +kernel
theorem dX7_about_171 : decode cX7_about 171 = .ok (.getfield 132, 3) := by decide +kernel
theorem dX7_about_174 : decode cX7_about 174 = .ok (.ireturn, 1) := by decide +kernel
theorem dX7_about_175 : decode cX7_about 175 = .ok (.aload_n 0, 1) := by decide +kernel
theorem dX7_about_176 : decode cX7_about 176 = .ok (.getfield 54, 3) := by decide +kernel
theorem dX7_about_179 : decode cX7_about 179 = .ok (.invokevirtual 135, 3) := by decide +kernel
theorem dX7_about_182 : decode cX7_about 182 = .ok (.ireturn, 1) := by decide +kernel
theorem dX7_edge_0 : decode cX7_edge 0 = .ok (.aload_n 0, 1) := by decide +kernel
theorem dX7_edge_1 : decode cX7_edge 1 = .ok (.getfield 37, 3) := by decide +kernel
theorem dX7_edge_4 : decode cX7_edge 4 = .ok (.iload_n 1, 1) := by decide +kernel
theorem dX7_edge_5 : decode cX7_edge 5 = .ok (.invokevirtual 137, 3) := by decide +kernel
theorem dX7_edge_8 : decode cX7_edge 8 = .ok (.ifCond .eq 13, 3) := by decide +kernel
theorem dX7_edge_11 : decode cX7_edge 11 = .ok (.iload_n 2, 1) := by decide +kernel
theorem dX7_edge_12 : decode cX7_edge 12 = .ok (.ifCond .lt 9, 3) := by decide +kernel
theorem dX7_edge_15 : decode cX7_edge 15 = .ok (.iload_n 2, 1) := by decide +kernel
theorem dX7_edge_16 : decode cX7_edge 16 = .ok (.bipush 7, 2) := by decide +kernel
theorem dX7_edge_18 : decode cX7_edge 18 = .ok (.if_icmp .le 9, 3) := by decide +kernel
theorem dX7_edge_21 : decode cX7_edge 21 = .ok (.aload_n 0, 1) := by decide +kernel
theorem dX7_edge_22 : decode cX7_edge 22 = .ok (.iconst 1, 1) := by decide +kernel
theorem dX7_edge_23 : decode cX7_edge 23 = .ok (.invokevirtual 65, 3) := by decide +kernel
theorem dX7_edge_26 : decode cX7_edge 26 = .ok (.ireturn, 1) := by decide +kernel
theorem dX7_edge_27 : decode cX7_edge 27 = .ok (.aload_n 0, 1) := by decide +kernel
theorem dX7_edge_28 : decode cX7_edge 28 = .ok (.invokevirtual 79, 3) := by decide +kernel
theorem dX7_edge_31 : decode cX7_edge 31 = .ok (.iload_n 2, 1) := by decide +kernel
theorem dX7_edge_32 : decode cX7_edge 32 = .ok (.tableswitch 141 0 6 #[44, 54, 64, 74, 102, 114, 126], 44) := by decide +kernel
theorem dX7_edge_76 : decode cX7_edge 76 = .ok (.aload_n 0, 1) := by decide +kernel
theorem dX7_edge_77 : decode cX7_edge 77 = .ok (.getfield 37, 3) := by decide +kernel
theorem dX7_edge_80 : decode cX7_edge 80 = .ok (.getfield 141, 3) := by decide +kernel
theorem dX7_edge_83 : decode cX7_edge 83 = .ok (.iload_n 1, 1) := by decide +kernel
theorem dX7_edge_84 : decode cX7_edge 84 = .ok (.iaload, 1) := by decide +kernel
theorem dX7_edge_85 : decode cX7_edge 85 = .ok (.ireturn, 1) := by decide +kernel
theorem dX7_edge_86 : decode cX7_edge 86 = .ok (.aload_n 0, 1) := by decide +kernel
theorem dX7_edge_87 : decode cX7_edge 87 = .ok (.getfield 37, 3) := by decide +kernel
theorem dX7_edge_90 : decode cX7_edge 90 = .ok (.getfield 145, 3) := by decide +kernel
theorem dX7_edge_93 : decode cX7_edge 93 = .ok (.iload_n 1, 1) := by decide +kernel
theorem dX7_edge_94 : decode cX7_edge 94 = .ok (.iaload, 1) := by decide +kernel
theorem dX7_edge_95 : decode cX7_edge 95 = .ok (.ireturn, 1) := by decide +kernel
theorem dX7_edge_96 : decode cX7_edge 96 = .ok (.aload_n 0, 1) := by decide +kernel
theorem dX7_edge_97 : decode cX7_edge 97 = .ok (.getfield 37, 3) := by decide +kernel
theorem dX7_edge_100 : decode cX7_edge 100 = .ok (.getfield 148, 3) := by decide +kernel
theorem dX7_edge_103 : decode cX7_edge 103 = .ok (.iload_n 1, 1) := by decide +kernel
theorem dX7_edge_104 : decode cX7_edge 104 = .ok (.iaload, 1) := by decide +kernel
theorem dX7_edge_105 : decode cX7_edge 105 = .ok (.ireturn, 1) := by decide +kernel
theorem dX7_edge_106 : decode cX7_edge 106 = .ok (.aload_n 0, 1) := by decide +kernel
theorem dX7_edge_107 : decode cX7_edge 107 = .ok (.getfield 37, 3) := by decide +kernel
theorem dX7_edge_110 : decode cX7_edge 110 = .ok (.getfield 148, 3) := by decide +kernel
theorem dX7_edge_113 : decode cX7_edge 113 = .ok (.iload_n 1, 1) := by decide +kernel
theorem dX7_edge_114 : decode cX7_edge 114 = .ok (.iaload, 1) := by decide +kernel
theorem dX7_edge_115 : decode cX7_edge 115 = .ok (.iconst 2, 1) := by decide +kernel
theorem dX7_edge_116 : decode cX7_edge 116 = .ok (.if_icmp .ne 8, 3) := by decide +kernel
theorem dX7_edge_119 : decode cX7_edge 119 = .ok (.bipush (-2), 2) := by decide +kernel
theorem dX7_edge_121 : decode cX7_edge 121 = .ok (.goto 12, 3) := by decide +kernel
theorem dX7_edge_124 : decode cX7_edge 124 = .ok (.aload_n 0, 1) := by decide +kernel
theorem dX7_edge_125 : decode cX7_edge 125 = .ok (.getfield 37, 3) := by decide +kernel
theorem dX7_edge_128 : decode cX7_edge 128 = .ok (.getfield 151, 3) := by decide +kernel
theorem dX7_edge_131 : decode cX7_edge 131 = .ok (.iload_n 1, 1) := by decide +kernel
theorem dX7_edge_132 : decode cX7_edge 132 = .ok (.iaload, 1) := by decide +kernel
theorem dX7_edge_133 : decode cX7_edge 133 = .ok (.ireturn, 1) := by decide +kernel
theorem dX7_edge_134 : decode cX7_edge 134 = .ok (.aload_n 0, 1) := by decide +kernel
theorem dX7_edge_135 : decode cX7_edge 135 = .ok (.getfield 37, 3) := by decide +kernel
theorem dX7_edge_138 : decode cX7_edge 138 = .ok (.getfield 154, 3) := by decide +kernel
theorem dX7_edge_141 : decode cX7_edge 141 = .ok (.iload_n 1, 1) := by decide +kernel
theorem dX7_edge_142 : decode cX7_edge 142 = .ok (.invokestatic 157, 3) := by decide +kernel
theorem dX7_edge_145 : decode cX7_edge 145 = .ok (.ireturn, 1) := by decide +kernel
theorem dX7_edge_146 : decode cX7_edge 146 = .ok (.aload_n 0, 1) := by decide +kernel
theorem dX7_edge_147 : decode cX7_edge 147 = .ok (.getfield 29, 3) := by decide +kernel
theorem dX7_edge_150 : decode cX7_edge 150 = .ok (.getfield 132, 3) := by decide +kernel
theorem dX7_edge_153 : decode cX7_edge 153 = .ok (.iload_n 1, 1) := by decide +kernel
theorem dX7_edge_154 : decode cX7_edge 154 = .ok (.invokestatic 157, 3) := by decide +kernel
theorem dX7_edge_157 : decode cX7_edge 157 = .ok (.ireturn, 1) := by decide +kernel
theorem dX7_edge_158 : decode cX7_edge 158 = .ok (.aload_n 0, 1) := by decide +kernel
theorem dX7_edge_159 : decode cX7_edge 159 = .ok (.getfield 29, 3) := by decide +kernel
theorem dX7_edge_162 : decode cX7_edge 162 = .ok (.getfield 161, 3) := by decide +kernel
theorem dX7_edge_165 : decode cX7_edge 165 = .ok (.getfield 165, 3) := by decide +kernel
theorem dX7_edge_168 : decode cX7_edge 168 = .ok (.iload_n 1, 1) := by decide +kernel
theorem dX7_edge_169 : decode cX7_edge 169 = .ok (.invokestatic 157, 3) := by decide +kernel
theorem dX7_edge_172 : decode cX7_edge 172 = .ok (.ireturn, 1) := by decide +kernel
theorem dX7_edge_173 : decode cX7_edge 173 = .ok (.aload_n 0, 1) := by decide +kernel
theorem dX7_edge_174 : decode cX7_edge 174 = .ok (.getfield 29, 3) := by decide +kernel
theorem dX7_edge_177 : decode cX7_edge 177 = .ok (.getfield 108, 3) := by decide +kernel
theorem dX7_edge_180 : decode cX7_edge 180 = .ok (.iload_n 1, 1) := by decide +kernel
theorem dX7_edge_181 : decode cX7_edge 181 = .ok (.invokevirtual 168, 3) := by decide +kernel
theorem dX7_edge_184 : decode cX7_edge 184 = .ok (.ireturn, 1) := by decide +kernel
theorem dX7_flow_0 : decode cX7_flow 0 = .ok (.aload_n 0, 1) := by decide +kernel
theorem dX7_flow_1 : decode cX7_flow 1 = .ok (.getfield 37, 3) := by decide +kernel
theorem dX7_flow_4 : decode cX7_flow 4 = .ok (.iload_n 1, 1) := by decide +kernel
theorem dX7_flow_5 : decode cX7_flow 5 = .ok (.invokevirtual 137, 3) := by decide +kernel
theorem dX7_flow_8 : decode cX7_flow 8 = .ok (.ifCond .ne 9, 3) := by decide +kernel
theorem dX7_flow_11 : decode cX7_flow 11 = .ok (.aload_n 0, 1) := by decide +kernel
theorem dX7_flow_12 : decode cX7_flow 12 = .ok (.iconst 1, 1) := by decide +kernel
theorem dX7_flow_13 : decode cX7_flow 13 = .ok (.invokevirtual 171, 3) := by decide +kernel
theorem dX7_flow_16 : decode cX7_flow 16 = .ok (.lreturn, 1) := by decide +kernel
theorem dX7_flow_17 : decode cX7_flow 17 = .ok (.aload_n 0, 1) := by decide +kernel
theorem dX7_flow_18 : decode cX7_flow 18 = .ok (.invokevirtual 79, 3) := by decide +kernel
theorem dX7_flow_21 : decode cX7_flow 21 = .ok (.aload_n 0, 1) := by decide +kernel
theorem dX7_flow_22 : decode cX7_flow 22 = .ok (.getfield 29, 3) := by decide +kernel
theorem dX7_flow_25 : decode cX7_flow 25 = .ok (.getfield 175, 3) := by decide +kernel
theorem dX7_flow_28 : decode cX7_flow 28 = .ok (.iload_n 1, 1) := by decide +kernel
theorem dX7_flow_29 : decode cX7_flow 29 = .ok (.laload, 1) := by decide +kernel
theorem dX7_flow_30 : decode cX7_flow 30 = .ok (.lreturn, 1) := by decide +kernel
theorem dX7_loss_0 : decode cX7_loss 0 = .ok (.aload_n 0, 1) := by decide +kernel
theorem dX7_loss_1 : decode cX7_loss 1 = .ok (.getfield 37, 3) := by decide +kernel
theorem dX7_loss_4 : decode cX7_loss 4 = .ok (.iload_n 1, 1) := by decide +kernel
theorem dX7_loss_5 : decode cX7_loss 5 = .ok (.invokevirtual 137, 3) := by decide +kernel
theorem dX7_loss_8 : decode cX7_loss 8 = .ok (.ifCond .ne 9, 3) := by decide +kernel
theorem dX7_loss_11 : decode cX7_loss 11 = .ok (.aload_n 0, 1) := by decide +kernel
theorem dX7_loss_12 : decode cX7_loss 12 = .ok (.iconst 1, 1) := by decide +kernel
theorem dX7_loss_13 : decode cX7_loss 13 = .ok (.invokevirtual 171, 3) := by decide +kernel
theorem dX7_loss_16 : decode cX7_loss 16 = .ok (.lreturn, 1) := by decide +kernel
theorem dX7_loss_17 : decode cX7_loss 17 = .ok (.aload_n 0, 1) := by decide +kernel
theorem dX7_loss_18 : decode cX7_loss 18 = .ok (.invokevirtual 79, 3) := by decide +kernel
theorem dX7_loss_21 : decode cX7_loss 21 = .ok (.aload_n 0, 1) := by decide +kernel
theorem dX7_loss_22 : decode cX7_loss 22 = .ok (.getfield 37, 3) := by decide +kernel
theorem dX7_loss_25 : decode cX7_loss 25 = .ok (.iload_n 1, 1) := by decide +kernel
theorem dX7_loss_26 : decode cX7_loss 26 = .ok (.aload_n 0, 1) := by decide +kernel
theorem dX7_loss_27 : decode cX7_loss 27 = .ok (.getfield 29, 3) := by decide +kernel
theorem dX7_loss_30 : decode cX7_loss 30 = .ok (.getfield 175, 3) := by decide +kernel
theorem dX7_loss_33 : decode cX7_loss 33 = .ok (.iload_n 1, 1) := by decide +kernel
theorem dX7_loss_34 : decode cX7_loss 34 = .ok (.laload, 1) := by decide +kernel
theorem dX7_loss_35 : decode cX7_loss 35 = .ok (.invokevirtual 179, 3) := by decide +kernel
theorem dX7_loss_38 : decode cX7_loss 38 = .ok (.lreturn, 1) := by decide +kernel
theorem dX7_joint_0 : decode cX7_joint 0 = .ok (.aload_n 0, 1) := by decide +kernel
theorem dX7_joint_1 : decode cX7_joint 1 = .ok (.getfield 37, 3) := by decide +kernel
theorem dX7_joint_4 : decode cX7_joint 4 = .ok (.iload_n 1, 1) := by decide +kernel
theorem dX7_joint_5 : decode cX7_joint 5 = .ok (.invokevirtual 183, 3) := by decide +kernel
theorem dX7_joint_8 : decode cX7_joint 8 = .ok (.ifCond .eq 12, 3) := by decide +kernel
theorem dX7_joint_11 : decode cX7_joint 11 = .ok (.iload_n 2, 1) := by decide +kernel
theorem dX7_joint_12 : decode cX7_joint 12 = .ok (.ifCond .lt 8, 3) := by decide +kernel
theorem dX7_joint_15 : decode cX7_joint 15 = .ok (.iload_n 2, 1) := by decide +kernel
theorem dX7_joint_16 : decode cX7_joint 16 = .ok (.iconst 3, 1) := by decide +kernel
theorem dX7_joint_17 : decode cX7_joint 17 = .ok (.if_icmp .le 9, 3) := by decide +kernel
theorem dX7_joint_20 : decode cX7_joint 20 = .ok (.aload_n 0, 1) := by decide +kernel
theorem dX7_joint_21 : decode cX7_joint 21 = .ok (.iconst 1, 1) := by decide +kernel
theorem dX7_joint_22 : decode cX7_joint 22 = .ok (.invokevirtual 65, 3) := by decide +kernel
theorem dX7_joint_25 : decode cX7_joint 25 = .ok (.ireturn, 1) := by decide +kernel
theorem dX7_joint_26 : decode cX7_joint 26 = .ok (.aload_n 0, 1) := by decide +kernel
theorem dX7_joint_27 : decode cX7_joint 27 = .ok (.invokevirtual 79, 3) := by decide +kernel
theorem dX7_joint_30 : decode cX7_joint 30 = .ok (.iload_n 2, 1) := by decide +kernel
theorem dX7_joint_31 : decode cX7_joint 31 = .ok (.tableswitch 61 0 2 #[25, 35, 48], 25) := by decide +kernel
theorem dX7_joint_56 : decode cX7_joint 56 = .ok (.aload_n 0, 1) := by decide +kernel
theorem dX7_joint_57 : decode cX7_joint 57 = .ok (.getfield 37, 3) := by decide +kernel
theorem dX7_joint_60 : decode cX7_joint 60 = .ok (.getfield 186, 3) := by decide +kernel
theorem dX7_joint_63 : decode cX7_joint 63 = .ok (.iload_n 1, 1) := by decide +kernel
theorem dX7_joint_64 : decode cX7_joint 64 = .ok (.iaload, 1) := by decide +kernel
theorem dX7_joint_65 : decode cX7_joint 65 = .ok (.ireturn, 1) := by decide +kernel
theorem dX7_joint_66 : decode cX7_joint 66 = .ok (.bipush 100, 2) := by decide +kernel
theorem dX7_joint_68 : decode cX7_joint 68 = .ok (.aload_n 0, 1) := by decide +kernel
theorem dX7_joint_69 : decode cX7_joint 69 = .ok (.getfield 37, 3) := by decide +kernel
theorem dX7_joint_72 : decode cX7_joint 72 = .ok (.getfield 189, 3) := by decide +kernel
theorem dX7_joint_75 : decode cX7_joint 75 = .ok (.iload_n 1, 1) := by decide +kernel
theorem dX7_joint_76 : decode cX7_joint 76 = .ok (.iaload, 1) := by decide +kernel
theorem dX7_joint_77 : decode cX7_joint 77 = .ok (.imul, 1) := by decide +kernel
theorem dX7_joint_78 : decode cX7_joint 78 = .ok (.ireturn, 1) := by decide +kernel
theorem dX7_joint_79 : decode cX7_joint 79 = .ok (.aload_n 0, 1) := by decide +kernel
theorem dX7_joint_80 : decode cX7_joint 80 = .ok (.getfield 29, 3) := by decide +kernel
theorem dX7_joint_83 : decode cX7_joint 83 = .ok (.getfield 161, 3) := by decide +kernel
theorem dX7_joint_86 : decode cX7_joint 86 = .ok (.getfield 192, 3) := by decide +kernel
theorem dX7_joint_89 : decode cX7_joint 89 = .ok (.iload_n 1, 1) := by decide +kernel
theorem dX7_joint_90 : decode cX7_joint 90 = .ok (.iaload, 1) := by decide +kernel
theorem dX7_joint_91 : decode cX7_joint 91 = .ok (.ireturn, 1) := by decide +kernel
theorem dX7_joint_92 : decode cX7_joint 92 = .ok (.aload_n 0, 1) := by decide +kernel
theorem dX7_joint_93 : decode cX7_joint 93 = .ok (.getfield 37, 3) := by decide +kernel
theorem dX7_joint_96 : decode cX7_joint 96 = .ok (.iload_n 1, 1) := by decide +kernel
theorem dX7_joint_97 : decode cX7_joint 97 = .ok (.invokevirtual 195, 3) := by decide +kernel
theorem dX7_joint_100 : decode cX7_joint 100 = .ok (.ireturn, 1) := by decide +kernel
theorem dX7_head_0 : decode cX7_head 0 = .ok (.aload_n 0, 1) := by decide +kernel
theorem dX7_head_1 : decode cX7_head 1 = .ok (.iload_n 1, 1) := by decide +kernel
theorem dX7_head_2 : decode cX7_head 2 = .ok (.invokevirtual 198, 3) := by decide +kernel
theorem dX7_head_5 : decode cX7_head 5 = .ok (.istore_n 2, 1) := by decide +kernel
theorem dX7_head_6 : decode cX7_head 6 = .ok (.iload_n 2, 1) := by decide +kernel
theorem dX7_head_7 : decode cX7_head 7 = .ok (.ifCond .eq 9, 3) := by decide +kernel
theorem dX7_head_10 : decode cX7_head 10 = .ok (.aload_n 0, 1) := by decide +kernel
theorem dX7_head_11 : decode cX7_head 11 = .ok (.iload_n 2, 1) := by decide +kernel
theorem dX7_head_12 : decode cX7_head 12 = .ok (.invokevirtual 171, 3) := by decide +kernel
theorem dX7_head_15 : decode cX7_head 15 = .ok (.lreturn, 1) := by decide +kernel
theorem dX7_head_16 : decode cX7_head 16 = .ok (.aload_n 0, 1) := by decide +kernel
theorem dX7_head_17 : decode cX7_head 17 = .ok (.invokevirtual 79, 3) := by decide +kernel
theorem dX7_head_20 : decode cX7_head 20 = .ok (.aload_n 0, 1) := by decide +kernel
theorem dX7_head_21 : decode cX7_head 21 = .ok (.getfield 29, 3) := by decide +kernel
theorem dX7_head_24 : decode cX7_head 24 = .ok (.getfield 201, 3) := by decide +kernel
theorem dX7_head_27 : decode cX7_head 27 = .ok (.iload_n 1, 1) := by decide +kernel
theorem dX7_head_28 : decode cX7_head 28 = .ok (.laload, 1) := by decide +kernel
theorem dX7_head_29 : decode cX7_head 29 = .ok (.lreturn, 1) := by decide +kernel
theorem dX7_pressure_0 : decode cX7_pressure 0 = .ok (.aload_n 0, 1) := by decide +kernel
theorem dX7_pressure_1 : decode cX7_pressure 1 = .ok (.iload_n 1, 1) := by decide +kernel
theorem dX7_pressure_2 : decode cX7_pressure 2 = .ok (.invokevirtual 198, 3) := by decide +kernel
theorem dX7_pressure_5 : decode cX7_pressure 5 = .ok (.istore_n 2, 1) := by decide +kernel
theorem dX7_pressure_6 : decode cX7_pressure 6 = .ok (.iload_n 2, 1) := by decide +kernel
theorem dX7_pressure_7 : decode cX7_pressure 7 = .ok (.ifCond .eq 9, 3) := by decide +kernel
theorem dX7_pressure_10 : decode cX7_pressure 10 = .ok (.aload_n 0, 1) := by decide +kernel
theorem dX7_pressure_11 : decode cX7_pressure 11 = .ok (.iload_n 2, 1) := by decide +kernel
theorem dX7_pressure_12 : decode cX7_pressure 12 = .ok (.invokevirtual 171, 3) := by decide +kernel
theorem dX7_pressure_15 : decode cX7_pressure 15 = .ok (.lreturn, 1) := by decide +kernel
theorem dX7_pressure_16 : decode cX7_pressure 16 = .ok (.aload_n 0, 1) := by decide +kernel
theorem dX7_pressure_17 : decode cX7_pressure 17 = .ok (.invokevirtual 79, 3) := by decide +kernel
theorem dX7_pressure_20 : decode cX7_pressure 20 = .ok (.aload_n 0, 1) := by decide +kernel
theorem dX7_pressure_21 : decode cX7_pressure 21 = .ok (.getfield 29, 3) := by decide +kernel
theorem dX7_pressure_24 : decode cX7_pressure 24 = .ok (.iload_n 1, 1) := by decide +kernel
theorem dX7_pressure_25 : decode cX7_pressure 25 = .ok (.invokevirtual 204, 3) := by decide +kernel
theorem dX7_pressure_28 : decode cX7_pressure 28 = .ok (.lreturn, 1) := by decide +kernel
theorem dX7_weakest_0 : decode cX7_weakest 0 = .ok (.aload_n 0, 1) := by decide +kernel
theorem dX7_weakest_1 : decode cX7_weakest 1 = .ok (.invokevirtual 101, 3) := by decide +kernel
theorem dX7_weakest_4 : decode cX7_weakest 4 = .ok (.ifCond .ne 9, 3) := by decide +kernel
theorem dX7_weakest_7 : decode cX7_weakest 7 = .ok (.aload_n 0, 1) := by decide +kernel
theorem dX7_weakest_8 : decode cX7_weakest 8 = .ok (.iconst 1, 1) := by decide +kernel
theorem dX7_weakest_9 : decode cX7_weakest 9 = .ok (.invokevirtual 65, 3) := by decide +kernel
theorem dX7_weakest_12 : decode cX7_weakest 12 = .ok (.ireturn, 1) := by decide +kernel
theorem dX7_weakest_13 : decode cX7_weakest 13 = .ok (.aload_n 0, 1) := by decide +kernel
theorem dX7_weakest_14 : decode cX7_weakest 14 = .ok (.invokevirtual 79, 3) := by decide +kernel
theorem dX7_weakest_17 : decode cX7_weakest 17 = .ok (.aload_n 0, 1) := by decide +kernel
theorem dX7_weakest_18 : decode cX7_weakest 18 = .ok (.getfield 29, 3) := by decide +kernel
theorem dX7_weakest_21 : decode cX7_weakest 21 = .ok (.invokevirtual 207, 3) := by decide +kernel
theorem dX7_weakest_24 : decode cX7_weakest 24 = .ok (.ireturn, 1) := by decide +kernel
theorem dX7_ring_0 : decode cX7_ring 0 = .ok (.aload_n 0, 1) := by decide +kernel
theorem dX7_ring_1 : decode cX7_ring 1 = .ok (.iload_n 1, 1) := by decide +kernel
theorem dX7_ring_2 : decode cX7_ring 2 = .ok (.invokevirtual 210, 3) := by decide +kernel
theorem dX7_ring_5 : decode cX7_ring 5 = .ok (.ifCond .eq 7, 3) := by decide +kernel
theorem dX7_ring_8 : decode cX7_ring 8 = .ok (.iload_n 2, 1) := by decide +kernel
theorem dX7_ring_9 : decode cX7_ring 9 = .ok (.ifCond .ge 9, 3) := by decide +kernel
theorem dX7_ring_12 : decode cX7_ring 12 = .ok (.aload_n 0, 1) := by decide +kernel
theorem dX7_ring_13 : decode cX7_ring 13 = .ok (.iconst 1, 1) := by decide +kernel
theorem dX7_ring_14 : decode cX7_ring 14 = .ok (.invokevirtual 65, 3) := by decide +kernel
theorem dX7_ring_17 : decode cX7_ring 17 = .ok (.ireturn, 1) := by decide +kernel
theorem dX7_ring_18 : decode cX7_ring 18 = .ok (.aload_n 0, 1) := by decide +kernel
theorem dX7_ring_19 : decode cX7_ring 19 = .ok (.invokevirtual 79, 3) := by decide +kernel
theorem dX7_ring_22 : decode cX7_ring 22 = .ok (.aload_n 0, 1) := by decide +kernel
theorem dX7_ring_23 : decode cX7_ring 23 = .ok (.getfield 29, 3) := by decide +kernel
theorem dX7_ring_26 : decode cX7_ring 26 = .ok (.getfield 108, 3) := by decide +kernel
theorem dX7_ring_29 : decode cX7_ring 29 = .ok (.iload_n 1, 1) := by decide +kernel
theorem dX7_ring_30 : decode cX7_ring 30 = .ok (.iload_n 2, 1) := by decide +kernel
theorem dX7_ring_31 : decode cX7_ring 31 = .ok (.invokevirtual 213, 3) := by decide +kernel
theorem dX7_ring_34 : decode cX7_ring 34 = .ok (.ireturn, 1) := by decide +kernel
theorem dX7_sum_0 : decode cX7_sum 0 = .ok (.aload_n 0, 1) := by decide +kernel
theorem dX7_sum_1 : decode cX7_sum 1 = .ok (.iload_n 1, 1) := by decide +kernel
theorem dX7_sum_2 : decode cX7_sum 2 = .ok (.invokevirtual 210, 3) := by decide +kernel
theorem dX7_sum_5 : decode cX7_sum 5 = .ok (.ifCond .eq 12, 3) := by decide +kernel
theorem dX7_sum_8 : decode cX7_sum 8 = .ok (.iload_n 2, 1) := by decide +kernel
theorem dX7_sum_9 : decode cX7_sum 9 = .ok (.ifCond .lt 8, 3) := by decide +kernel
theorem dX7_sum_12 : decode cX7_sum 12 = .ok (.iload_n 2, 1) := by decide +kernel
theorem dX7_sum_13 : decode cX7_sum 13 = .ok (.iconst 1, 1) := by decide +kernel
theorem dX7_sum_14 : decode cX7_sum 14 = .ok (.if_icmp .le 9, 3) := by decide +kernel
theorem dX7_sum_17 : decode cX7_sum 17 = .ok (.aload_n 0, 1) := by decide +kernel
theorem dX7_sum_18 : decode cX7_sum 18 = .ok (.iconst 1, 1) := by decide +kernel
theorem dX7_sum_19 : decode cX7_sum 19 = .ok (.invokevirtual 171, 3) := by decide +kernel
theorem dX7_sum_22 : decode cX7_sum 22 = .ok (.lreturn, 1) := by decide +kernel
theorem dX7_sum_23 : decode cX7_sum 23 = .ok (.aload_n 0, 1) := by decide +kernel
theorem dX7_sum_24 : decode cX7_sum 24 = .ok (.invokevirtual 79, 3) := by decide +kernel
theorem dX7_sum_27 : decode cX7_sum 27 = .ok (.iload_n 2, 1) := by decide +kernel
theorem dX7_sum_28 : decode cX7_sum 28 = .ok (.ifCond .ne 14, 3) := by decide +kernel
theorem dX7_sum_31 : decode cX7_sum 31 = .ok (.aload_n 0, 1) := by decide +kernel
theorem dX7_sum_32 : decode cX7_sum 32 = .ok (.getfield 29, 3) := by decide +kernel
theorem dX7_sum_35 : decode cX7_sum 35 = .ok (.iload_n 1, 1) := by decide +kernel
theorem dX7_sum_36 : decode cX7_sum 36 = .ok (.invokevirtual 216, 3) := by decide +kernel
theorem dX7_sum_39 : decode cX7_sum 39 = .ok (.goto 11, 3) := by decide +kernel
theorem dX7_sum_42 : decode cX7_sum 42 = .ok (.aload_n 0, 1) := by decide +kernel
theorem dX7_sum_43 : decode cX7_sum 43 = .ok (.getfield 29, 3) := by decide +kernel
theorem dX7_sum_46 : decode cX7_sum 46 = .ok (.iload_n 1, 1) := by decide +kernel
theorem dX7_sum_47 : decode cX7_sum 47 = .ok (.invokevirtual 219, 3) := by decide +kernel
theorem dX7_sum_50 : decode cX7_sum 50 = .ok (.lreturn, 1) := by decide +kernel
theorem dX7_early_0 : decode cX7_early 0 = .ok (.aload_n 0, 1) := by decide +kernel
theorem dX7_early_1 : decode cX7_early 1 = .ok (.getfield 37, 3) := by decide +kernel
theorem dX7_early_4 : decode cX7_early 4 = .ok (.iload_n 1, 1) := by decide +kernel
theorem dX7_early_5 : decode cX7_early 5 = .ok (.invokevirtual 137, 3) := by decide +kernel
theorem dX7_early_8 : decode cX7_early 8 = .ok (.ifCond .ne 9, 3) := by decide +kernel
theorem dX7_early_11 : decode cX7_early 11 = .ok (.aload_n 0, 1) := by decide +kernel
theorem dX7_early_12 : decode cX7_early 12 = .ok (.iconst 1, 1) := by decide +kernel
theorem dX7_early_13 : decode cX7_early 13 = .ok (.invokevirtual 171, 3) := by decide +kernel
theorem dX7_early_16 : decode cX7_early 16 = .ok (.lreturn, 1) := by decide +kernel
theorem dX7_early_17 : decode cX7_early 17 = .ok (.iload_n 2, 1) := by decide +kernel
theorem dX7_early_18 : decode cX7_early 18 = .ok (.ifCond .lt 9, 3) := by decide +kernel
theorem dX7_early_21 : decode cX7_early 21 = .ok (.iload_n 2, 1) := by decide +kernel
theorem dX7_early_22 : decode cX7_early 22 = .ok (.bipush 60, 2) := by decide +kernel
theorem dX7_early_24 : decode cX7_early 24 = .ok (.if_icmp .le 9, 3) := by decide +kernel
theorem dX7_early_27 : decode cX7_early 27 = .ok (.aload_n 0, 1) := by decide +kernel
theorem dX7_early_28 : decode cX7_early 28 = .ok (.iconst 2, 1) := by decide +kernel
theorem dX7_early_29 : decode cX7_early 29 = .ok (.invokevirtual 171, 3) := by decide +kernel
theorem dX7_early_32 : decode cX7_early 32 = .ok (.lreturn, 1) := by decide +kernel
theorem dX7_early_33 : decode cX7_early 33 = .ok (.aload_n 0, 1) := by decide +kernel
theorem dX7_early_34 : decode cX7_early 34 = .ok (.invokevirtual 79, 3) := by decide +kernel
theorem dX7_early_37 : decode cX7_early 37 = .ok (.aload_n 0, 1) := by decide +kernel
theorem dX7_early_38 : decode cX7_early 38 = .ok (.getfield 41, 3) := by decide +kernel
theorem dX7_early_41 : decode cX7_early 41 = .ok (.aload_n 0, 1) := by decide +kernel
theorem dX7_early_42 : decode cX7_early 42 = .ok (.getfield 37, 3) := by decide +kernel
theorem dX7_early_45 : decode cX7_early 45 = .ok (.invokevirtual 83, 3) := by decide +kernel
theorem dX7_early_48 : decode cX7_early 48 = .ok (.aload_n 0, 1) := by decide +kernel
theorem dX7_early_49 : decode cX7_early 49 = .ok (.getfield 38, 3) := by decide +kernel
theorem dX7_early_52 : decode cX7_early 52 = .ok (.iload_n 2, 1) := by decide +kernel
theorem dX7_early_53 : decode cX7_early 53 = .ok (.invokevirtual 222, 3) := by decide +kernel
theorem dX7_early_56 : decode cX7_early 56 = .ok (.aload_n 0, 1) := by decide +kernel
theorem dX7_early_57 : decode cX7_early 57 = .ok (.getfield 38, 3) := by decide +kernel
theorem dX7_early_60 : decode cX7_early 60 = .ok (.getfield 175, 3) := by decide +kernel
theorem dX7_early_63 : decode cX7_early 63 = .ok (.iload_n 1, 1) := by decide +kernel
theorem dX7_early_64 : decode cX7_early 64 = .ok (.laload, 1) := by decide +kernel
theorem dX7_early_65 : decode cX7_early 65 = .ok (.lreturn, 1) := by decide +kernel
theorem dX7_work_0 : decode cX7_work 0 = .ok (.aload_n 0, 1) := by decide +kernel
theorem dX7_work_1 : decode cX7_work 1 = .ok (.invokevirtual 101, 3) := by decide +kernel
theorem dX7_work_4 : decode cX7_work 4 = .ok (.ifCond .ne 9, 3) := by decide +kernel
theorem dX7_work_7 : decode cX7_work 7 = .ok (.aload_n 0, 1) := by decide +kernel
theorem dX7_work_8 : decode cX7_work 8 = .ok (.iconst 1, 1) := by decide +kernel
theorem dX7_work_9 : decode cX7_work 9 = .ok (.invokevirtual 171, 3) := by decide +kernel
theorem dX7_work_12 : decode cX7_work 12 = .ok (.lreturn, 1) := by decide +kernel
theorem dX7_work_13 : decode cX7_work 13 = .ok (.aload_n 0, 1) := by decide +kernel
theorem dX7_work_14 : decode cX7_work 14 = .ok (.invokevirtual 79, 3) := by decide +kernel
theorem dX7_work_17 : decode cX7_work 17 = .ok (.aload_n 0, 1) := by decide +kernel
theorem dX7_work_18 : decode cX7_work 18 = .ok (.getfield 29, 3) := by decide +kernel
theorem dX7_work_21 : decode cX7_work 21 = .ok (.invokevirtual 225, 3) := by decide +kernel
theorem dX7_work_24 : decode cX7_work 24 = .ok (.lreturn, 1) := by decide +kernel
theorem dX7_gap_0 : decode cX7_gap 0 = .ok (.aload_n 0, 1) := by decide +kernel
theorem dX7_gap_1 : decode cX7_gap 1 = .ok (.invokevirtual 101, 3) := by decide +kernel
theorem dX7_gap_4 : decode cX7_gap 4 = .ok (.ifCond .ne 9, 3) := by decide +kernel
theorem dX7_gap_7 : decode cX7_gap 7 = .ok (.aload_n 0, 1) := by decide +kernel
theorem dX7_gap_8 : decode cX7_gap 8 = .ok (.iconst 1, 1) := by decide +kernel
theorem dX7_gap_9 : decode cX7_gap 9 = .ok (.invokevirtual 171, 3) := by decide +kernel
theorem dX7_gap_12 : decode cX7_gap 12 = .ok (.lreturn, 1) := by decide +kernel
theorem dX7_gap_13 : decode cX7_gap 13 = .ok (.iload_n 1, 1) := by decide +kernel
theorem dX7_gap_14 : decode cX7_gap 14 = .ok (.ifCond .lt 9, 3) := by decide +kernel
theorem dX7_gap_17 : decode cX7_gap 17 = .ok (.iload_n 1, 1) := by decide +kernel
theorem dX7_gap_18 : decode cX7_gap 18 = .ok (.bipush 60, 2) := by decide +kernel
theorem dX7_gap_20 : decode cX7_gap 20 = .ok (.if_icmp .le 9, 3) := by decide +kernel
theorem dX7_gap_23 : decode cX7_gap 23 = .ok (.aload_n 0, 1) := by decide +kernel
theorem dX7_gap_24 : decode cX7_gap 24 = .ok (.iconst 2, 1) := by decide +kernel
theorem dX7_gap_25 : decode cX7_gap 25 = .ok (.invokevirtual 171, 3) := by decide +kernel
theorem dX7_gap_28 : decode cX7_gap 28 = .ok (.lreturn, 1) := by decide +kernel
theorem dX7_gap_29 : decode cX7_gap 29 = .ok (.aload_n 0, 1) := by decide +kernel
theorem dX7_gap_30 : decode cX7_gap 30 = .ok (.invokevirtual 79, 3) := by decide +kernel
theorem dX7_gap_33 : decode cX7_gap 33 = .ok (.aload_n 0, 1) := by decide +kernel
theorem dX7_gap_34 : decode cX7_gap 34 = .ok (.getfield 41, 3) := by decide +kernel
theorem dX7_gap_37 : decode cX7_gap 37 = .ok (.aload_n 0, 1) := by decide +kernel
theorem dX7_gap_38 : decode cX7_gap 38 = .ok (.getfield 37, 3) := by decide +kernel
theorem dX7_gap_41 : decode cX7_gap 41 = .ok (.invokevirtual 83, 3) := by decide +kernel
theorem dX7_gap_44 : decode cX7_gap 44 = .ok (.aload_n 0, 1) := by decide +kernel
theorem dX7_gap_45 : decode cX7_gap 45 = .ok (.getfield 38, 3) := by decide +kernel
theorem dX7_gap_48 : decode cX7_gap 48 = .ok (.iload_n 1, 1) := by decide +kernel
theorem dX7_gap_49 : decode cX7_gap 49 = .ok (.invokevirtual 222, 3) := by decide +kernel
theorem dX7_gap_52 : decode cX7_gap 52 = .ok (.aload_n 0, 1) := by decide +kernel
theorem dX7_gap_53 : decode cX7_gap 53 = .ok (.getfield 38, 3) := by decide +kernel
theorem dX7_gap_56 : decode cX7_gap 56 = .ok (.invokevirtual 229, 3) := by decide +kernel
theorem dX7_gap_59 : decode cX7_gap 59 = .ok (.lreturn, 1) := by decide +kernel
theorem dX7_balance_0 : decode cX7_balance 0 = .ok (.aload_n 0, 1) := by decide +kernel
theorem dX7_balance_1 : decode cX7_balance 1 = .ok (.iload_n 1, 1) := by decide +kernel
theorem dX7_balance_2 : decode cX7_balance 2 = .ok (.invokevirtual 232, 3) := by decide +kernel
theorem dX7_balance_5 : decode cX7_balance 5 = .ok (.ifCond .ne 9, 3) := by decide +kernel
theorem dX7_balance_8 : decode cX7_balance 8 = .ok (.aload_n 0, 1) := by decide +kernel
theorem dX7_balance_9 : decode cX7_balance 9 = .ok (.iconst 1, 1) := by decide +kernel
theorem dX7_balance_10 : decode cX7_balance 10 = .ok (.invokevirtual 171, 3) := by decide +kernel
theorem dX7_balance_13 : decode cX7_balance 13 = .ok (.lreturn, 1) := by decide +kernel
theorem dX7_balance_14 : decode cX7_balance 14 = .ok (.aload_n 0, 1) := by decide +kernel
theorem dX7_balance_15 : decode cX7_balance 15 = .ok (.invokevirtual 79, 3) := by decide +kernel
theorem dX7_balance_18 : decode cX7_balance 18 = .ok (.aload_n 0, 1) := by decide +kernel
theorem dX7_balance_19 : decode cX7_balance 19 = .ok (.getfield 29, 3) := by decide +kernel
theorem dX7_balance_22 : decode cX7_balance 22 = .ok (.iload_n 1, 1) := by decide +kernel
theorem dX7_balance_23 : decode cX7_balance 23 = .ok (.invokevirtual 235, 3) := by decide +kernel
theorem dX7_balance_26 : decode cX7_balance 26 = .ok (.lreturn, 1) := by decide +kernel
theorem dX7_lossAt_0 : decode cX7_lossAt 0 = .ok (.aload_n 0, 1) := by decide +kernel
theorem dX7_lossAt_1 : decode cX7_lossAt 1 = .ok (.getfield 37, 3) := by decide +kernel
theorem dX7_lossAt_4 : decode cX7_lossAt 4 = .ok (.iload_n 1, 1) := by decide +kernel
theorem dX7_lossAt_5 : decode cX7_lossAt 5 = .ok (.invokevirtual 137, 3) := by decide +kernel
theorem dX7_lossAt_8 : decode cX7_lossAt 8 = .ok (.ifCond .eq 12, 3) := by decide +kernel
theorem dX7_lossAt_11 : decode cX7_lossAt 11 = .ok (.iload_n 3, 1) := by decide +kernel
theorem dX7_lossAt_12 : decode cX7_lossAt 12 = .ok (.ifCond .lt 8, 3) := by decide +kernel
theorem dX7_lossAt_15 : decode cX7_lossAt 15 = .ok (.iload_n 3, 1) := by decide +kernel
theorem dX7_lossAt_16 : decode cX7_lossAt 16 = .ok (.iconst 1, 1) := by decide +kernel
theorem dX7_lossAt_17 : decode cX7_lossAt 17 = .ok (.if_icmp .le 9, 3) := by decide +kernel
theorem dX7_lossAt_20 : decode cX7_lossAt 20 = .ok (.aload_n 0, 1) := by decide +kernel
theorem dX7_lossAt_21 : decode cX7_lossAt 21 = .ok (.iconst 1, 1) := by decide +kernel
theorem dX7_lossAt_22 : decode cX7_lossAt 22 = .ok (.invokevirtual 171, 3) := by decide +kernel
theorem dX7_lossAt_25 : decode cX7_lossAt 25 = .ok (.lreturn, 1) := by decide +kernel
theorem dX7_lossAt_26 : decode cX7_lossAt 26 = .ok (.iload_n 2, 1) := by decide +kernel
theorem dX7_lossAt_27 : decode cX7_lossAt 27 = .ok (.sipush (-10000), 3) := by decide +kernel
theorem dX7_lossAt_30 : decode cX7_lossAt 30 = .ok (.if_icmp .lt 10, 3) := by decide +kernel
theorem dX7_lossAt_33 : decode cX7_lossAt 33 = .ok (.iload_n 2, 1) := by decide +kernel
theorem dX7_lossAt_34 : decode cX7_lossAt 34 = .ok (.sipush 10000, 3) := by decide +kernel
theorem dX7_lossAt_37 : decode cX7_lossAt 37 = .ok (.if_icmp .le 9, 3) := by decide +kernel
theorem dX7_lossAt_40 : decode cX7_lossAt 40 = .ok (.aload_n 0, 1) := by decide +kernel
theorem dX7_lossAt_41 : decode cX7_lossAt 41 = .ok (.iconst 2, 1) := by decide +kernel
theorem dX7_lossAt_42 : decode cX7_lossAt 42 = .ok (.invokevirtual 171, 3) := by decide +kernel
theorem dX7_lossAt_45 : decode cX7_lossAt 45 = .ok (.lreturn, 1) := by decide +kernel
theorem dX7_lossAt_46 : decode cX7_lossAt 46 = .ok (.aload_n 0, 1) := by decide +kernel
theorem dX7_lossAt_47 : decode cX7_lossAt 47 = .ok (.invokevirtual 79, 3) := by decide +kernel
theorem dX7_lossAt_50 : decode cX7_lossAt 50 = .ok (.iload_n 3, 1) := by decide +kernel
theorem dX7_lossAt_51 : decode cX7_lossAt 51 = .ok (.ifCond .ne 16, 3) := by decide +kernel
theorem dX7_lossAt_54 : decode cX7_lossAt 54 = .ok (.aload_n 0, 1) := by decide +kernel
theorem dX7_lossAt_55 : decode cX7_lossAt 55 = .ok (.getfield 37, 3) := by decide +kernel
theorem dX7_lossAt_58 : decode cX7_lossAt 58 = .ok (.iload_n 1, 1) := by decide +kernel
theorem dX7_lossAt_59 : decode cX7_lossAt 59 = .ok (.iload_n 2, 1) := by decide +kernel
theorem dX7_lossAt_60 : decode cX7_lossAt 60 = .ok (.i2l, 1) := by decide +kernel
theorem dX7_lossAt_61 : decode cX7_lossAt 61 = .ok (.invokevirtual 179, 3) := by decide +kernel
theorem dX7_lossAt_64 : decode cX7_lossAt 64 = .ok (.goto 13, 3) := by decide +kernel
theorem dX7_lossAt_67 : decode cX7_lossAt 67 = .ok (.aload_n 0, 1) := by decide +kernel
theorem dX7_lossAt_68 : decode cX7_lossAt 68 = .ok (.getfield 37, 3) := by decide +kernel
theorem dX7_lossAt_71 : decode cX7_lossAt 71 = .ok (.iload_n 1, 1) := by decide +kernel
theorem dX7_lossAt_72 : decode cX7_lossAt 72 = .ok (.iload_n 2, 1) := by decide +kernel
theorem dX7_lossAt_73 : decode cX7_lossAt 73 = .ok (.i2l, 1) := by decide +kernel
theorem dX7_lossAt_74 : decode cX7_lossAt 74 = .ok (.invokevirtual 238, 3) := by decide +kernel
theorem dX7_lossAt_77 : decode cX7_lossAt 77 = .ok (.lreturn, 1) := by decide +kernel
theorem dX7_behind_0 : decode cX7_behind 0 = .ok (.aload_n 0, 1) := by decide +kernel
theorem dX7_behind_1 : decode cX7_behind 1 = .ok (.getfield 37, 3) := by decide +kernel
theorem dX7_behind_4 : decode cX7_behind 4 = .ok (.iload_n 1, 1) := by decide +kernel
theorem dX7_behind_5 : decode cX7_behind 5 = .ok (.invokevirtual 183, 3) := by decide +kernel
theorem dX7_behind_8 : decode cX7_behind 8 = .ok (.ifCond .ne 9, 3) := by decide +kernel
theorem dX7_behind_11 : decode cX7_behind 11 = .ok (.aload_n 0, 1) := by decide +kernel
theorem dX7_behind_12 : decode cX7_behind 12 = .ok (.iconst 1, 1) := by decide +kernel
theorem dX7_behind_13 : decode cX7_behind 13 = .ok (.invokevirtual 65, 3) := by decide +kernel
theorem dX7_behind_16 : decode cX7_behind 16 = .ok (.ireturn, 1) := by decide +kernel
theorem dX7_behind_17 : decode cX7_behind 17 = .ok (.aload_n 0, 1) := by decide +kernel
theorem dX7_behind_18 : decode cX7_behind 18 = .ok (.invokevirtual 79, 3) := by decide +kernel
theorem dX7_behind_21 : decode cX7_behind 21 = .ok (.aload_n 0, 1) := by decide +kernel
theorem dX7_behind_22 : decode cX7_behind 22 = .ok (.getfield 29, 3) := by decide +kernel
theorem dX7_behind_25 : decode cX7_behind 25 = .ok (.getfield 161, 3) := by decide +kernel
theorem dX7_behind_28 : decode cX7_behind 28 = .ok (.iload_n 1, 1) := by decide +kernel
theorem dX7_behind_29 : decode cX7_behind 29 = .ok (.invokevirtual 241, 3) := by decide +kernel
theorem dX7_behind_32 : decode cX7_behind 32 = .ok (.ireturn, 1) := by decide +kernel
theorem dX7_scaled_0 : decode cX7_scaled 0 = .ok (.aload_n 0, 1) := by decide +kernel
theorem dX7_scaled_1 : decode cX7_scaled 1 = .ok (.invokevirtual 101, 3) := by decide +kernel
theorem dX7_scaled_4 : decode cX7_scaled 4 = .ok (.ifCond .ne 9, 3) := by decide +kernel
theorem dX7_scaled_7 : decode cX7_scaled 7 = .ok (.aload_n 0, 1) := by decide +kernel
theorem dX7_scaled_8 : decode cX7_scaled 8 = .ok (.iconst 1, 1) := by decide +kernel
theorem dX7_scaled_9 : decode cX7_scaled 9 = .ok (.invokevirtual 171, 3) := by decide +kernel
theorem dX7_scaled_12 : decode cX7_scaled 12 = .ok (.lreturn, 1) := by decide +kernel
theorem dX7_scaled_13 : decode cX7_scaled 13 = .ok (.iload_n 1, 1) := by decide +kernel
theorem dX7_scaled_14 : decode cX7_scaled 14 = .ok (.ifCond .lt 10, 3) := by decide +kernel
theorem dX7_scaled_17 : decode cX7_scaled 17 = .ok (.iload_n 1, 1) := by decide +kernel
theorem dX7_scaled_18 : decode cX7_scaled 18 = .ok (.sipush 300, 3) := by decide +kernel
theorem dX7_scaled_21 : decode cX7_scaled 21 = .ok (.if_icmp .le 9, 3) := by decide +kernel
theorem dX7_scaled_24 : decode cX7_scaled 24 = .ok (.aload_n 0, 1) := by decide +kernel
theorem dX7_scaled_25 : decode cX7_scaled 25 = .ok (.iconst 2, 1) := by decide +kernel
theorem dX7_scaled_26 : decode cX7_scaled 26 = .ok (.invokevirtual 171, 3) := by decide +kernel
theorem dX7_scaled_29 : decode cX7_scaled 29 = .ok (.lreturn, 1) := by decide +kernel
theorem dX7_scaled_30 : decode cX7_scaled 30 = .ok (.aload_n 0, 1) := by decide +kernel
theorem dX7_scaled_31 : decode cX7_scaled 31 = .ok (.getfield 41, 3) := by decide +kernel
theorem dX7_scaled_34 : decode cX7_scaled 34 = .ok (.aload_n 0, 1) := by decide +kernel
theorem dX7_scaled_35 : decode cX7_scaled 35 = .ok (.getfield 37, 3) := by decide +kernel
theorem dX7_scaled_38 : decode cX7_scaled 38 = .ok (.invokevirtual 83, 3) := by decide +kernel
theorem dX7_scaled_41 : decode cX7_scaled 41 = .ok (.aload_n 0, 1) := by decide +kernel
theorem dX7_scaled_42 : decode cX7_scaled 42 = .ok (.getfield 41, 3) := by decide +kernel
theorem dX7_scaled_45 : decode cX7_scaled 45 = .ok (.aload_n 0, 1) := by decide +kernel
theorem dX7_scaled_46 : decode cX7_scaled 46 = .ok (.getfield 37, 3) := by decide +kernel
theorem dX7_scaled_49 : decode cX7_scaled 49 = .ok (.iload_n 1, 1) := by decide +kernel
theorem dX7_scaled_50 : decode cX7_scaled 50 = .ok (.invokevirtual 244, 3) := by decide +kernel
theorem dX7_scaled_53 : decode cX7_scaled 53 = .ok (.pop, 1) := by decide +kernel
theorem dX7_scaled_54 : decode cX7_scaled 54 = .ok (.aload_n 0, 1) := by decide +kernel
theorem dX7_scaled_55 : decode cX7_scaled 55 = .ok (.getfield 38, 3) := by decide +kernel
theorem dX7_scaled_58 : decode cX7_scaled 58 = .ok (.invokevirtual 248, 3) := by decide +kernel
theorem dX7_scaled_61 : decode cX7_scaled 61 = .ok (.aload_n 0, 1) := by decide +kernel
theorem dX7_scaled_62 : decode cX7_scaled 62 = .ok (.getfield 38, 3) := by decide +kernel
theorem dX7_scaled_65 : decode cX7_scaled 65 = .ok (.invokevirtual 251, 3) := by decide +kernel
theorem dX7_scaled_68 : decode cX7_scaled 68 = .ok (.lstore_n 2, 1) := by decide +kernel
theorem dX7_scaled_69 : decode cX7_scaled 69 = .ok (.lload_n 2, 1) := by decide +kernel
theorem dX7_scaled_70 : decode cX7_scaled 70 = .ok (.ldc2_w 254, 3) := by decide +kernel
theorem dX7_scaled_73 : decode cX7_scaled 73 = .ok (.lcmp, 1) := by decide +kernel
theorem dX7_scaled_74 : decode cX7_scaled 74 = .ok (.ifCond .ne 9, 3) := by decide +kernel
theorem dX7_scaled_77 : decode cX7_scaled 77 = .ok (.aload_n 0, 1) := by decide +kernel
theorem dX7_scaled_78 : decode cX7_scaled 78 = .ok (.iconst 5, 1) := by decide +kernel
theorem dX7_scaled_79 : decode cX7_scaled 79 = .ok (.invokevirtual 171, 3) := by decide +kernel
theorem dX7_scaled_82 : decode cX7_scaled 82 = .ok (.lreturn, 1) := by decide +kernel
theorem dX7_scaled_83 : decode cX7_scaled 83 = .ok (.aload_n 0, 1) := by decide +kernel
theorem dX7_scaled_84 : decode cX7_scaled 84 = .ok (.invokevirtual 79, 3) := by decide +kernel
theorem dX7_scaled_87 : decode cX7_scaled 87 = .ok (.lload_n 2, 1) := by decide +kernel
theorem dX7_scaled_88 : decode cX7_scaled 88 = .ok (.lreturn, 1) := by decide +kernel
theorem dX7_most_0 : decode cX7_most 0 = .ok (.aload_n 0, 1) := by decide +kernel
theorem dX7_most_1 : decode cX7_most 1 = .ok (.invokevirtual 101, 3) := by decide +kernel
theorem dX7_most_4 : decode cX7_most 4 = .ok (.ifCond .ne 9, 3) := by decide +kernel
theorem dX7_most_7 : decode cX7_most 7 = .ok (.aload_n 0, 1) := by decide +kernel
theorem dX7_most_8 : decode cX7_most 8 = .ok (.iconst 1, 1) := by decide +kernel
theorem dX7_most_9 : decode cX7_most 9 = .ok (.invokevirtual 65, 3) := by decide +kernel
theorem dX7_most_12 : decode cX7_most 12 = .ok (.ireturn, 1) := by decide +kernel
theorem dX7_most_13 : decode cX7_most 13 = .ok (.iload_n 1, 1) := by decide +kernel
theorem dX7_most_14 : decode cX7_most 14 = .ok (.invokestatic 256, 3) := by decide +kernel
theorem dX7_most_17 : decode cX7_most 17 = .ok (.ifCond .ne 9, 3) := by decide +kernel
theorem dX7_most_20 : decode cX7_most 20 = .ok (.aload_n 0, 1) := by decide +kernel
theorem dX7_most_21 : decode cX7_most 21 = .ok (.iconst 2, 1) := by decide +kernel
theorem dX7_most_22 : decode cX7_most 22 = .ok (.invokevirtual 65, 3) := by decide +kernel
theorem dX7_most_25 : decode cX7_most 25 = .ok (.ireturn, 1) := by decide +kernel
theorem dX7_most_26 : decode cX7_most 26 = .ok (.aload_n 0, 1) := by decide +kernel
theorem dX7_most_27 : decode cX7_most 27 = .ok (.invokevirtual 79, 3) := by decide +kernel
theorem dX7_most_30 : decode cX7_most 30 = .ok (.aload_n 0, 1) := by decide +kernel
theorem dX7_most_31 : decode cX7_most 31 = .ok (.getfield 41, 3) := by decide +kernel
theorem dX7_most_34 : decode cX7_most 34 = .ok (.aload_n 0, 1) := by decide +kernel
theorem dX7_most_35 : decode cX7_most 35 = .ok (.getfield 37, 3) := by decide +kernel
theorem dX7_most_38 : decode cX7_most 38 = .ok (.invokevirtual 83, 3) := by decide +kernel
theorem dX7_most_41 : decode cX7_most 41 = .ok (.sipush 300, 3) := by decide +kernel
theorem dX7_most_44 : decode cX7_most 44 = .ok (.istore_n 2, 1) := by decide +kernel
theorem dX7_most_45 : decode cX7_most 45 = .ok (.iload_n 2, 1) := by decide +kernel
theorem dX7_most_46 : decode cX7_most 46 = .ok (.ifCond .lt 58, 3) := by decide +kernel
theorem dX7_most_49 : decode cX7_most 49 = .ok (.aload_n 0, 1) := by decide +kernel
theorem dX7_most_50 : decode cX7_most 50 = .ok (.getfield 41, 3) := by decide +kernel
theorem dX7_most_53 : decode cX7_most 53 = .ok (.aload_n 0, 1) := by decide +kernel
theorem dX7_most_54 : decode cX7_most 54 = .ok (.getfield 37, 3) := by decide +kernel
theorem dX7_most_57 : decode cX7_most 57 = .ok (.iload_n 2, 1) := by decide +kernel
theorem dX7_most_58 : decode cX7_most 58 = .ok (.invokevirtual 244, 3) := by decide +kernel
theorem dX7_most_61 : decode cX7_most 61 = .ok (.istore_n 3, 1) := by decide +kernel
theorem dX7_most_62 : decode cX7_most 62 = .ok (.iload_n 3, 1) := by decide +kernel
theorem dX7_most_63 : decode cX7_most 63 = .ok (.ifCond .ne 13, 3) := by decide +kernel
theorem dX7_most_66 : decode cX7_most 66 = .ok (.iload_n 2, 1) := by decide +kernel
theorem dX7_most_67 : decode cX7_most 67 = .ok (.sipush 300, 3) := by decide +kernel
theorem dX7_most_70 : decode cX7_most 70 = .ok (.if_icmp .ge 6, 3) := by decide +kernel
theorem dX7_most_73 : decode cX7_most 73 = .ok (.goto 25, 3) := by decide +kernel
theorem dX7_most_76 : decode cX7_most 76 = .ok (.aload_n 0, 1) := by decide +kernel
theorem dX7_most_77 : decode cX7_most 77 = .ok (.getfield 38, 3) := by decide +kernel
theorem dX7_most_80 : decode cX7_most 80 = .ok (.invokevirtual 248, 3) := by decide +kernel
theorem dX7_most_83 : decode cX7_most 83 = .ok (.aload_n 0, 1) := by decide +kernel
theorem dX7_most_84 : decode cX7_most 84 = .ok (.getfield 38, 3) := by decide +kernel
theorem dX7_most_87 : decode cX7_most 87 = .ok (.invokevirtual 251, 3) := by decide +kernel
theorem dX7_most_90 : decode cX7_most 90 = .ok (.iload_n 1, 1) := by decide +kernel
theorem dX7_most_91 : decode cX7_most 91 = .ok (.i2l, 1) := by decide +kernel
theorem dX7_most_92 : decode cX7_most 92 = .ok (.lcmp, 1) := by decide +kernel
theorem dX7_most_93 : decode cX7_most 93 = .ok (.ifCond .lt 5, 3) := by decide +kernel
theorem dX7_most_96 : decode cX7_most 96 = .ok (.iload_n 2, 1) := by decide +kernel
theorem dX7_most_97 : decode cX7_most 97 = .ok (.ireturn, 1) := by decide +kernel
theorem dX7_most_98 : decode cX7_most 98 = .ok (.iinc 2 (-1), 3) := by decide +kernel
theorem dX7_most_101 : decode cX7_most 101 = .ok (.goto (-56), 3) := by decide +kernel
theorem dX7_most_104 : decode cX7_most 104 = .ok (.bipush (-2), 2) := by decide +kernel
theorem dX7_most_106 : decode cX7_most 106 = .ok (.ireturn, 1) := by decide +kernel
theorem dX7_pairs_0 : decode cX7_pairs 0 = .ok (.aload_n 0, 1) := by decide +kernel
theorem dX7_pairs_1 : decode cX7_pairs 1 = .ok (.invokevirtual 101, 3) := by decide +kernel
theorem dX7_pairs_4 : decode cX7_pairs 4 = .ok (.ifCond .ne 9, 3) := by decide +kernel
theorem dX7_pairs_7 : decode cX7_pairs 7 = .ok (.aload_n 0, 1) := by decide +kernel
theorem dX7_pairs_8 : decode cX7_pairs 8 = .ok (.iconst 1, 1) := by decide +kernel
theorem dX7_pairs_9 : decode cX7_pairs 9 = .ok (.invokevirtual 65, 3) := by decide +kernel
theorem dX7_pairs_12 : decode cX7_pairs 12 = .ok (.ireturn, 1) := by decide +kernel
theorem dX7_pairs_13 : decode cX7_pairs 13 = .ok (.aload_n 0, 1) := by decide +kernel
theorem dX7_pairs_14 : decode cX7_pairs 14 = .ok (.invokevirtual 79, 3) := by decide +kernel
theorem dX7_pairs_17 : decode cX7_pairs 17 = .ok (.aload_n 0, 1) := by decide +kernel
theorem dX7_pairs_18 : decode cX7_pairs 18 = .ok (.getfield 37, 3) := by decide +kernel
theorem dX7_pairs_21 : decode cX7_pairs 21 = .ok (.getfield 154, 3) := by decide +kernel
theorem dX7_pairs_24 : decode cX7_pairs 24 = .ok (.aload_n 0, 1) := by decide +kernel
theorem dX7_pairs_25 : decode cX7_pairs 25 = .ok (.invokevirtual 259, 3) := by decide +kernel
theorem dX7_pairs_28 : decode cX7_pairs 28 = .ok (.ior, 1) := by decide +kernel
theorem dX7_pairs_29 : decode cX7_pairs 29 = .ok (.istore_n 1, 1) := by decide +kernel
end
section
theorem dX7_pairs_30 : decode cX7_pairs 30 = .ok (.aload_n 0, 1) := by decide +kernel
theorem dX7_pairs_31 : decode cX7_pairs 31 = .ok (.getfield 29, 3) := by decide +kernel
theorem dX7_pairs_34 : decode cX7_pairs 34 = .ok (.invokevirtual 129, 3) := by decide +kernel
theorem dX7_pairs_37 : decode cX7_pairs 37 = .ok (.istore_n 2, 1) := by decide +kernel
theorem dX7_pairs_38 : decode cX7_pairs 38 = .ok (.iconst 0, 1) := by decide +kernel
theorem dX7_pairs_39 : decode cX7_pairs 39 = .ok (.istore_n 3, 1) := by decide +kernel
theorem dX7_pairs_40 : decode cX7_pairs 40 = .ok (.iconst 0, 1) := by decide +kernel
theorem dX7_pairs_41 : decode cX7_pairs 41 = .ok (.istore 4, 2) := by decide +kernel
theorem dX7_pairs_43 : decode cX7_pairs 43 = .ok (.iload 4, 2) := by decide +kernel
theorem dX7_pairs_45 : decode cX7_pairs 45 = .ok (.aload_n 0, 1) := by decide +kernel
theorem dX7_pairs_46 : decode cX7_pairs 46 = .ok (.getfield 37, 3) := by decide +kernel
theorem dX7_pairs_49 : decode cX7_pairs 49 = .ok (.getfield 105, 3) := by decide +kernel
theorem dX7_pairs_52 : decode cX7_pairs 52 = .ok (.if_icmp .ge 67, 3) := by decide +kernel
theorem dX7_pairs_55 : decode cX7_pairs 55 = .ok (.iload 4, 2) := by decide +kernel
theorem dX7_pairs_57 : decode cX7_pairs 57 = .ok (.iconst 1, 1) := by decide +kernel
theorem dX7_pairs_58 : decode cX7_pairs 58 = .ok (.iadd, 1) := by decide +kernel
theorem dX7_pairs_59 : decode cX7_pairs 59 = .ok (.istore 5, 2) := by decide +kernel
theorem dX7_pairs_61 : decode cX7_pairs 61 = .ok (.iload 5, 2) := by decide +kernel
theorem dX7_pairs_63 : decode cX7_pairs 63 = .ok (.aload_n 0, 1) := by decide +kernel
theorem dX7_pairs_64 : decode cX7_pairs 64 = .ok (.getfield 37, 3) := by decide +kernel
theorem dX7_pairs_67 : decode cX7_pairs 67 = .ok (.getfield 105, 3) := by decide +kernel
theorem dX7_pairs_70 : decode cX7_pairs 70 = .ok (.if_icmp .ge 43, 3) := by decide +kernel
theorem dX7_pairs_73 : decode cX7_pairs 73 = .ok (.iconst 1, 1) := by decide +kernel
theorem dX7_pairs_74 : decode cX7_pairs 74 = .ok (.iload 4, 2) := by decide +kernel
theorem dX7_pairs_76 : decode cX7_pairs 76 = .ok (.ishl, 1) := by decide +kernel
theorem dX7_pairs_77 : decode cX7_pairs 77 = .ok (.iconst 1, 1) := by decide +kernel
theorem dX7_pairs_78 : decode cX7_pairs 78 = .ok (.iload 5, 2) := by decide +kernel
theorem dX7_pairs_80 : decode cX7_pairs 80 = .ok (.ishl, 1) := by decide +kernel
theorem dX7_pairs_81 : decode cX7_pairs 81 = .ok (.ior, 1) := by decide +kernel
theorem dX7_pairs_82 : decode cX7_pairs 82 = .ok (.istore 6, 2) := by decide +kernel
theorem dX7_pairs_84 : decode cX7_pairs 84 = .ok (.iload_n 1, 1) := by decide +kernel
theorem dX7_pairs_85 : decode cX7_pairs 85 = .ok (.iload 6, 2) := by decide +kernel
theorem dX7_pairs_87 : decode cX7_pairs 87 = .ok (.iand, 1) := by decide +kernel
theorem dX7_pairs_88 : decode cX7_pairs 88 = .ok (.ifCond .ne 19, 3) := by decide +kernel
theorem dX7_pairs_91 : decode cX7_pairs 91 = .ok (.aload_n 0, 1) := by decide +kernel
theorem dX7_pairs_92 : decode cX7_pairs 92 = .ok (.iload 6, 2) := by decide +kernel
theorem dX7_pairs_94 : decode cX7_pairs 94 = .ok (.invokevirtual 262, 3) := by decide +kernel
theorem dX7_pairs_97 : decode cX7_pairs 97 = .ok (.iload_n 2, 1) := by decide +kernel
theorem dX7_pairs_98 : decode cX7_pairs 98 = .ok (.iconst (-1), 1) := by decide +kernel
theorem dX7_pairs_99 : decode cX7_pairs 99 = .ok (.ixor, 1) := by decide +kernel
theorem dX7_pairs_100 : decode cX7_pairs 100 = .ok (.iand, 1) := by decide +kernel
theorem dX7_pairs_101 : decode cX7_pairs 101 = .ok (.ifCond .eq 6, 3) := by decide +kernel
theorem dX7_pairs_104 : decode cX7_pairs 104 = .ok (.iinc 3 1, 3) := by decide +kernel
theorem dX7_pairs_107 : decode cX7_pairs 107 = .ok (.iinc 5 1, 3) := by decide +kernel
theorem dX7_pairs_110 : decode cX7_pairs 110 = .ok (.goto (-49), 3) := by decide +kernel
theorem dX7_pairs_113 : decode cX7_pairs 113 = .ok (.iinc 4 1, 3) := by decide +kernel
theorem dX7_pairs_116 : decode cX7_pairs 116 = .ok (.goto (-73), 3) := by decide +kernel
theorem dX7_pairs_119 : decode cX7_pairs 119 = .ok (.iload_n 3, 1) := by decide +kernel
theorem dX7_pairs_120 : decode cX7_pairs 120 = .ok (.ireturn, 1) := by decide +kernel
theorem dX7_fire_0 : decode cX7_fire 0 = .ok (.aload_n 0, 1) := by decide +kernel
theorem dX7_fire_1 : decode cX7_fire 1 = .ok (.iload_n 1, 1) := by decide +kernel
theorem dX7_fire_2 : decode cX7_fire 2 = .ok (.invokevirtual 232, 3) := by decide +kernel
theorem dX7_fire_5 : decode cX7_fire 5 = .ok (.ifCond .ne 9, 3) := by decide +kernel
theorem dX7_fire_8 : decode cX7_fire 8 = .ok (.aload_n 0, 1) := by decide +kernel
theorem dX7_fire_9 : decode cX7_fire 9 = .ok (.iconst 1, 1) := by decide +kernel
theorem dX7_fire_10 : decode cX7_fire 10 = .ok (.invokevirtual 65, 3) := by decide +kernel
theorem dX7_fire_13 : decode cX7_fire 13 = .ok (.ireturn, 1) := by decide +kernel
theorem dX7_fire_14 : decode cX7_fire 14 = .ok (.iload_n 2, 1) := by decide +kernel
theorem dX7_fire_15 : decode cX7_fire 15 = .ok (.invokestatic 256, 3) := by decide +kernel
theorem dX7_fire_18 : decode cX7_fire 18 = .ok (.ifCond .ne 9, 3) := by decide +kernel
theorem dX7_fire_21 : decode cX7_fire 21 = .ok (.aload_n 0, 1) := by decide +kernel
theorem dX7_fire_22 : decode cX7_fire 22 = .ok (.iconst 2, 1) := by decide +kernel
theorem dX7_fire_23 : decode cX7_fire 23 = .ok (.invokevirtual 65, 3) := by decide +kernel
theorem dX7_fire_26 : decode cX7_fire 26 = .ok (.ireturn, 1) := by decide +kernel
theorem dX7_fire_27 : decode cX7_fire 27 = .ok (.aload_n 0, 1) := by decide +kernel
theorem dX7_fire_28 : decode cX7_fire 28 = .ok (.invokevirtual 79, 3) := by decide +kernel
theorem dX7_fire_31 : decode cX7_fire 31 = .ok (.bipush 60, 2) := by decide +kernel
theorem dX7_fire_33 : decode cX7_fire 33 = .ok (.istore_n 3, 1) := by decide +kernel
theorem dX7_fire_34 : decode cX7_fire 34 = .ok (.iload_n 3, 1) := by decide +kernel
theorem dX7_fire_35 : decode cX7_fire 35 = .ok (.ifCond .lt 30, 3) := by decide +kernel
theorem dX7_fire_38 : decode cX7_fire 38 = .ok (.aload_n 0, 1) := by decide +kernel
theorem dX7_fire_39 : decode cX7_fire 39 = .ok (.iload_n 1, 1) := by decide +kernel
theorem dX7_fire_40 : decode cX7_fire 40 = .ok (.iload_n 3, 1) := by decide +kernel
theorem dX7_fire_41 : decode cX7_fire 41 = .ok (.invokevirtual 265, 3) := by decide +kernel
theorem dX7_fire_44 : decode cX7_fire 44 = .ok (.aload_n 0, 1) := by decide +kernel
theorem dX7_fire_45 : decode cX7_fire 45 = .ok (.getfield 38, 3) := by decide +kernel
theorem dX7_fire_48 : decode cX7_fire 48 = .ok (.invokevirtual 251, 3) := by decide +kernel
theorem dX7_fire_51 : decode cX7_fire 51 = .ok (.iload_n 2, 1) := by decide +kernel
theorem dX7_fire_52 : decode cX7_fire 52 = .ok (.i2l, 1) := by decide +kernel
theorem dX7_fire_53 : decode cX7_fire 53 = .ok (.lcmp, 1) := by decide +kernel
theorem dX7_fire_54 : decode cX7_fire 54 = .ok (.ifCond .lt 5, 3) := by decide +kernel
theorem dX7_fire_57 : decode cX7_fire 57 = .ok (.iload_n 3, 1) := by decide +kernel
theorem dX7_fire_58 : decode cX7_fire 58 = .ok (.ireturn, 1) := by decide +kernel
theorem dX7_fire_59 : decode cX7_fire 59 = .ok (.iinc 3 (-1), 3) := by decide +kernel
theorem dX7_fire_62 : decode cX7_fire 62 = .ok (.goto (-28), 3) := by decide +kernel
theorem dX7_fire_65 : decode cX7_fire 65 = .ok (.bipush (-2), 2) := by decide +kernel
theorem dX7_fire_67 : decode cX7_fire 67 = .ok (.ireturn, 1) := by decide +kernel
theorem dX7_cut_0 : decode cX7_cut 0 = .ok (.aload_n 0, 1) := by decide +kernel
theorem dX7_cut_1 : decode cX7_cut 1 = .ok (.getfield 37, 3) := by decide +kernel
theorem dX7_cut_4 : decode cX7_cut 4 = .ok (.iload_n 1, 1) := by decide +kernel
theorem dX7_cut_5 : decode cX7_cut 5 = .ok (.invokevirtual 137, 3) := by decide +kernel
theorem dX7_cut_8 : decode cX7_cut 8 = .ok (.ifCond .ne 9, 3) := by decide +kernel
theorem dX7_cut_11 : decode cX7_cut 11 = .ok (.aload_n 0, 1) := by decide +kernel
theorem dX7_cut_12 : decode cX7_cut 12 = .ok (.iconst 1, 1) := by decide +kernel
theorem dX7_cut_13 : decode cX7_cut 13 = .ok (.invokevirtual 65, 3) := by decide +kernel
theorem dX7_cut_16 : decode cX7_cut 16 = .ok (.ireturn, 1) := by decide +kernel
theorem dX7_cut_17 : decode cX7_cut 17 = .ok (.aload_n 0, 1) := by decide +kernel
theorem dX7_cut_18 : decode cX7_cut 18 = .ok (.invokevirtual 79, 3) := by decide +kernel
theorem dX7_cut_21 : decode cX7_cut 21 = .ok (.aload_n 0, 1) := by decide +kernel
theorem dX7_cut_22 : decode cX7_cut 22 = .ok (.iconst 1, 1) := by decide +kernel
theorem dX7_cut_23 : decode cX7_cut 23 = .ok (.iload_n 1, 1) := by decide +kernel
theorem dX7_cut_24 : decode cX7_cut 24 = .ok (.ishl, 1) := by decide +kernel
theorem dX7_cut_25 : decode cX7_cut 25 = .ok (.invokevirtual 262, 3) := by decide +kernel
theorem dX7_cut_28 : decode cX7_cut 28 = .ok (.ireturn, 1) := by decide +kernel
theorem dX7_vital_0 : decode cX7_vital 0 = .ok (.aload_n 0, 1) := by decide +kernel
theorem dX7_vital_1 : decode cX7_vital 1 = .ok (.invokevirtual 101, 3) := by decide +kernel
theorem dX7_vital_4 : decode cX7_vital 4 = .ok (.ifCond .ne 9, 3) := by decide +kernel
theorem dX7_vital_7 : decode cX7_vital 7 = .ok (.aload_n 0, 1) := by decide +kernel
theorem dX7_vital_8 : decode cX7_vital 8 = .ok (.iconst 1, 1) := by decide +kernel
theorem dX7_vital_9 : decode cX7_vital 9 = .ok (.invokevirtual 65, 3) := by decide +kernel
theorem dX7_vital_12 : decode cX7_vital 12 = .ok (.ireturn, 1) := by decide +kernel
theorem dX7_vital_13 : decode cX7_vital 13 = .ok (.aload_n 0, 1) := by decide +kernel
theorem dX7_vital_14 : decode cX7_vital 14 = .ok (.invokevirtual 79, 3) := by decide +kernel
theorem dX7_vital_17 : decode cX7_vital 17 = .ok (.aload_n 0, 1) := by decide +kernel
theorem dX7_vital_18 : decode cX7_vital 18 = .ok (.invokevirtual 259, 3) := by decide +kernel
theorem dX7_vital_21 : decode cX7_vital 21 = .ok (.ireturn, 1) := by decide +kernel
theorem dX7_widen_0 : decode cX7_widen 0 = .ok (.aload_n 0, 1) := by decide +kernel
theorem dX7_widen_1 : decode cX7_widen 1 = .ok (.invokevirtual 101, 3) := by decide +kernel
theorem dX7_widen_4 : decode cX7_widen 4 = .ok (.ifCond .ne 9, 3) := by decide +kernel
theorem dX7_widen_7 : decode cX7_widen 7 = .ok (.aload_n 0, 1) := by decide +kernel
theorem dX7_widen_8 : decode cX7_widen 8 = .ok (.iconst 1, 1) := by decide +kernel
theorem dX7_widen_9 : decode cX7_widen 9 = .ok (.invokevirtual 65, 3) := by decide +kernel
theorem dX7_widen_12 : decode cX7_widen 12 = .ok (.ireturn, 1) := by decide +kernel
theorem dX7_widen_13 : decode cX7_widen 13 = .ok (.aload_n 0, 1) := by decide +kernel
theorem dX7_widen_14 : decode cX7_widen 14 = .ok (.invokevirtual 79, 3) := by decide +kernel
theorem dX7_widen_17 : decode cX7_widen 17 = .ok (.aload_n 0, 1) := by decide +kernel
theorem dX7_widen_18 : decode cX7_widen 18 = .ok (.invokevirtual 269, 3) := by decide +kernel
theorem dX7_widen_21 : decode cX7_widen 21 = .ok (.ireturn, 1) := by decide +kernel
theorem dX7_widened_0 : decode cX7_widened 0 = .ok (.aload_n 0, 1) := by decide +kernel
theorem dX7_widened_1 : decode cX7_widened 1 = .ok (.invokevirtual 101, 3) := by decide +kernel
theorem dX7_widened_4 : decode cX7_widened 4 = .ok (.ifCond .ne 9, 3) := by decide +kernel
theorem dX7_widened_7 : decode cX7_widened 7 = .ok (.aload_n 0, 1) := by decide +kernel
theorem dX7_widened_8 : decode cX7_widened 8 = .ok (.iconst 1, 1) := by decide +kernel
theorem dX7_widened_9 : decode cX7_widened 9 = .ok (.invokevirtual 171, 3) := by decide +kernel
theorem dX7_widened_12 : decode cX7_widened 12 = .ok (.lreturn, 1) := by decide +kernel
theorem dX7_widened_13 : decode cX7_widened 13 = .ok (.aload_n 0, 1) := by decide +kernel
theorem dX7_widened_14 : decode cX7_widened 14 = .ok (.invokevirtual 269, 3) := by decide +kernel
theorem dX7_widened_17 : decode cX7_widened 17 = .ok (.istore_n 1, 1) := by decide +kernel
theorem dX7_widened_18 : decode cX7_widened 18 = .ok (.iload_n 1, 1) := by decide +kernel
theorem dX7_widened_19 : decode cX7_widened 19 = .ok (.bipush (-2), 2) := by decide +kernel
theorem dX7_widened_21 : decode cX7_widened 21 = .ok (.if_icmp .ne 9, 3) := by decide +kernel
theorem dX7_widened_24 : decode cX7_widened 24 = .ok (.aload_n 0, 1) := by decide +kernel
theorem dX7_widened_25 : decode cX7_widened 25 = .ok (.iconst 5, 1) := by decide +kernel
theorem dX7_widened_26 : decode cX7_widened 26 = .ok (.invokevirtual 171, 3) := by decide +kernel
theorem dX7_widened_29 : decode cX7_widened 29 = .ok (.lreturn, 1) := by decide +kernel
theorem dX7_widened_30 : decode cX7_widened 30 = .ok (.aload_n 0, 1) := by decide +kernel
theorem dX7_widened_31 : decode cX7_widened 31 = .ok (.invokevirtual 79, 3) := by decide +kernel
theorem dX7_widened_34 : decode cX7_widened 34 = .ok (.aload_n 0, 1) := by decide +kernel
theorem dX7_widened_35 : decode cX7_widened 35 = .ok (.iload_n 1, 1) := by decide +kernel
theorem dX7_widened_36 : decode cX7_widened 36 = .ok (.invokevirtual 272, 3) := by decide +kernel
theorem dX7_widened_39 : decode cX7_widened 39 = .ok (.lreturn, 1) := by decide +kernel
theorem dX7_measure_0 : decode cX7_measure 0 = .ok (.aload_n 0, 1) := by decide +kernel
theorem dX7_measure_1 : decode cX7_measure 1 = .ok (.iload_n 1, 1) := by decide +kernel
theorem dX7_measure_2 : decode cX7_measure 2 = .ok (.invokevirtual 232, 3) := by decide +kernel
theorem dX7_measure_5 : decode cX7_measure 5 = .ok (.ifCond .ne 9, 3) := by decide +kernel
theorem dX7_measure_8 : decode cX7_measure 8 = .ok (.aload_n 0, 1) := by decide +kernel
theorem dX7_measure_9 : decode cX7_measure 9 = .ok (.iconst 1, 1) := by decide +kernel
theorem dX7_measure_10 : decode cX7_measure 10 = .ok (.invokevirtual 65, 3) := by decide +kernel
theorem dX7_measure_13 : decode cX7_measure 13 = .ok (.ireturn, 1) := by decide +kernel
theorem dX7_measure_14 : decode cX7_measure 14 = .ok (.iload_n 2, 1) := by decide +kernel
theorem dX7_measure_15 : decode cX7_measure 15 = .ok (.ldc_w 275, 3) := by decide +kernel
theorem dX7_measure_18 : decode cX7_measure 18 = .ok (.if_icmp .lt 10, 3) := by decide +kernel
theorem dX7_measure_21 : decode cX7_measure 21 = .ok (.iload_n 2, 1) := by decide +kernel
theorem dX7_measure_22 : decode cX7_measure 22 = .ok (.ldc_w 276, 3) := by decide +kernel
theorem dX7_measure_25 : decode cX7_measure 25 = .ok (.if_icmp .le 9, 3) := by decide +kernel
theorem dX7_measure_28 : decode cX7_measure 28 = .ok (.aload_n 0, 1) := by decide +kernel
theorem dX7_measure_29 : decode cX7_measure 29 = .ok (.iconst 2, 1) := by decide +kernel
theorem dX7_measure_30 : decode cX7_measure 30 = .ok (.invokevirtual 65, 3) := by decide +kernel
theorem dX7_measure_33 : decode cX7_measure 33 = .ok (.ireturn, 1) := by decide +kernel
theorem dX7_measure_34 : decode cX7_measure 34 = .ok (.aload_n 0, 1) := by decide +kernel
theorem dX7_measure_35 : decode cX7_measure 35 = .ok (.invokevirtual 79, 3) := by decide +kernel
theorem dX7_measure_38 : decode cX7_measure 38 = .ok (.aload_n 0, 1) := by decide +kernel
theorem dX7_measure_39 : decode cX7_measure 39 = .ok (.getfield 54, 3) := by decide +kernel
theorem dX7_measure_42 : decode cX7_measure 42 = .ok (.iload_n 1, 1) := by decide +kernel
theorem dX7_measure_43 : decode cX7_measure 43 = .ok (.iload_n 2, 1) := by decide +kernel
theorem dX7_measure_44 : decode cX7_measure 44 = .ok (.invokevirtual 277, 3) := by decide +kernel
theorem dX7_measure_47 : decode cX7_measure 47 = .ok (.aload_n 0, 1) := by decide +kernel
theorem dX7_measure_48 : decode cX7_measure 48 = .ok (.getfield 54, 3) := by decide +kernel
theorem dX7_measure_51 : decode cX7_measure 51 = .ok (.invokevirtual 135, 3) := by decide +kernel
theorem dX7_measure_54 : decode cX7_measure 54 = .ok (.ireturn, 1) := by decide +kernel
theorem dX7_forget_0 : decode cX7_forget 0 = .ok (.aload_n 0, 1) := by decide +kernel
theorem dX7_forget_1 : decode cX7_forget 1 = .ok (.invokevirtual 101, 3) := by decide +kernel
theorem dX7_forget_4 : decode cX7_forget 4 = .ok (.ifCond .ne 9, 3) := by decide +kernel
theorem dX7_forget_7 : decode cX7_forget 7 = .ok (.aload_n 0, 1) := by decide +kernel
theorem dX7_forget_8 : decode cX7_forget 8 = .ok (.iconst 1, 1) := by decide +kernel
theorem dX7_forget_9 : decode cX7_forget 9 = .ok (.invokevirtual 65, 3) := by decide +kernel
theorem dX7_forget_12 : decode cX7_forget 12 = .ok (.ireturn, 1) := by decide +kernel
theorem dX7_forget_13 : decode cX7_forget 13 = .ok (.aload_n 0, 1) := by decide +kernel
theorem dX7_forget_14 : decode cX7_forget 14 = .ok (.invokevirtual 79, 3) := by decide +kernel
theorem dX7_forget_17 : decode cX7_forget 17 = .ok (.aload_n 0, 1) := by decide +kernel
theorem dX7_forget_18 : decode cX7_forget 18 = .ok (.getfield 54, 3) := by decide +kernel
theorem dX7_forget_21 : decode cX7_forget 21 = .ok (.invokevirtual 135, 3) := by decide +kernel
theorem dX7_forget_24 : decode cX7_forget 24 = .ok (.istore_n 1, 1) := by decide +kernel
theorem dX7_forget_25 : decode cX7_forget 25 = .ok (.aload_n 0, 1) := by decide +kernel
theorem dX7_forget_26 : decode cX7_forget 26 = .ok (.getfield 54, 3) := by decide +kernel
theorem dX7_forget_29 : decode cX7_forget 29 = .ok (.invokevirtual 92, 3) := by decide +kernel
theorem dX7_forget_32 : decode cX7_forget 32 = .ok (.iload_n 1, 1) := by decide +kernel
theorem dX7_forget_33 : decode cX7_forget 33 = .ok (.ireturn, 1) := by decide +kernel
theorem dX7_off_0 : decode cX7_off 0 = .ok (.aload_n 0, 1) := by decide +kernel
theorem dX7_off_1 : decode cX7_off 1 = .ok (.iload_n 1, 1) := by decide +kernel
theorem dX7_off_2 : decode cX7_off 2 = .ok (.invokevirtual 232, 3) := by decide +kernel
theorem dX7_off_5 : decode cX7_off 5 = .ok (.ifCond .ne 9, 3) := by decide +kernel
theorem dX7_off_8 : decode cX7_off 8 = .ok (.aload_n 0, 1) := by decide +kernel
theorem dX7_off_9 : decode cX7_off 9 = .ok (.iconst 1, 1) := by decide +kernel
theorem dX7_off_10 : decode cX7_off 10 = .ok (.invokevirtual 171, 3) := by decide +kernel
theorem dX7_off_13 : decode cX7_off 13 = .ok (.lreturn, 1) := by decide +kernel
theorem dX7_off_14 : decode cX7_off 14 = .ok (.iload_n 2, 1) := by decide +kernel
theorem dX7_off_15 : decode cX7_off 15 = .ok (.ifCond .lt 9, 3) := by decide +kernel
theorem dX7_off_18 : decode cX7_off 18 = .ok (.iload_n 2, 1) := by decide +kernel
theorem dX7_off_19 : decode cX7_off 19 = .ok (.bipush 40, 2) := by decide +kernel
theorem dX7_off_21 : decode cX7_off 21 = .ok (.if_icmp .le 9, 3) := by decide +kernel
theorem dX7_off_24 : decode cX7_off 24 = .ok (.aload_n 0, 1) := by decide +kernel
theorem dX7_off_25 : decode cX7_off 25 = .ok (.iconst 2, 1) := by decide +kernel
theorem dX7_off_26 : decode cX7_off 26 = .ok (.invokevirtual 171, 3) := by decide +kernel
theorem dX7_off_29 : decode cX7_off 29 = .ok (.lreturn, 1) := by decide +kernel
theorem dX7_off_30 : decode cX7_off 30 = .ok (.aload_n 0, 1) := by decide +kernel
theorem dX7_off_31 : decode cX7_off 31 = .ok (.getfield 54, 3) := by decide +kernel
theorem dX7_off_34 : decode cX7_off 34 = .ok (.invokevirtual 135, 3) := by decide +kernel
theorem dX7_off_37 : decode cX7_off 37 = .ok (.ifCond .ne 9, 3) := by decide +kernel
theorem dX7_off_40 : decode cX7_off 40 = .ok (.aload_n 0, 1) := by decide +kernel
theorem dX7_off_41 : decode cX7_off 41 = .ok (.iconst 5, 1) := by decide +kernel
theorem dX7_off_42 : decode cX7_off 42 = .ok (.invokevirtual 171, 3) := by decide +kernel
theorem dX7_off_45 : decode cX7_off 45 = .ok (.lreturn, 1) := by decide +kernel
theorem dX7_off_46 : decode cX7_off 46 = .ok (.aload_n 0, 1) := by decide +kernel
theorem dX7_off_47 : decode cX7_off 47 = .ok (.invokevirtual 79, 3) := by decide +kernel
theorem dX7_off_50 : decode cX7_off 50 = .ok (.aload_n 0, 1) := by decide +kernel
theorem dX7_off_51 : decode cX7_off 51 = .ok (.iload_n 1, 1) := by decide +kernel
theorem dX7_off_52 : decode cX7_off 52 = .ok (.iload_n 2, 1) := by decide +kernel
theorem dX7_off_53 : decode cX7_off 53 = .ok (.invokevirtual 265, 3) := by decide +kernel
theorem dX7_off_56 : decode cX7_off 56 = .ok (.aload_n 0, 1) := by decide +kernel
theorem dX7_off_57 : decode cX7_off 57 = .ok (.getfield 54, 3) := by decide +kernel
theorem dX7_off_60 : decode cX7_off 60 = .ok (.aload_n 0, 1) := by decide +kernel
theorem dX7_off_61 : decode cX7_off 61 = .ok (.getfield 38, 3) := by decide +kernel
theorem dX7_off_64 : decode cX7_off 64 = .ok (.invokevirtual 280, 3) := by decide +kernel
theorem dX7_off_67 : decode cX7_off 67 = .ok (.lreturn, 1) := by decide +kernel
theorem dX7_leak_0 : decode cX7_leak 0 = .ok (.aload_n 0, 1) := by decide +kernel
theorem dX7_leak_1 : decode cX7_leak 1 = .ok (.invokevirtual 101, 3) := by decide +kernel
theorem dX7_leak_4 : decode cX7_leak 4 = .ok (.ifCond .eq 12, 3) := by decide +kernel
theorem dX7_leak_7 : decode cX7_leak 7 = .ok (.iload_n 1, 1) := by decide +kernel
theorem dX7_leak_8 : decode cX7_leak 8 = .ok (.ifCond .lt 8, 3) := by decide +kernel
theorem dX7_leak_11 : decode cX7_leak 11 = .ok (.iload_n 1, 1) := by decide +kernel
theorem dX7_leak_12 : decode cX7_leak 12 = .ok (.iconst 2, 1) := by decide +kernel
theorem dX7_leak_13 : decode cX7_leak 13 = .ok (.if_icmp .le 9, 3) := by decide +kernel
theorem dX7_leak_16 : decode cX7_leak 16 = .ok (.aload_n 0, 1) := by decide +kernel
theorem dX7_leak_17 : decode cX7_leak 17 = .ok (.iconst 1, 1) := by decide +kernel
theorem dX7_leak_18 : decode cX7_leak 18 = .ok (.invokevirtual 171, 3) := by decide +kernel
theorem dX7_leak_21 : decode cX7_leak 21 = .ok (.lreturn, 1) := by decide +kernel
theorem dX7_leak_22 : decode cX7_leak 22 = .ok (.aload_n 0, 1) := by decide +kernel
theorem dX7_leak_23 : decode cX7_leak 23 = .ok (.getfield 54, 3) := by decide +kernel
theorem dX7_leak_26 : decode cX7_leak 26 = .ok (.invokevirtual 135, 3) := by decide +kernel
theorem dX7_leak_29 : decode cX7_leak 29 = .ok (.ifCond .ne 9, 3) := by decide +kernel
theorem dX7_leak_32 : decode cX7_leak 32 = .ok (.aload_n 0, 1) := by decide +kernel
theorem dX7_leak_33 : decode cX7_leak 33 = .ok (.iconst 5, 1) := by decide +kernel
theorem dX7_leak_34 : decode cX7_leak 34 = .ok (.invokevirtual 171, 3) := by decide +kernel
theorem dX7_leak_37 : decode cX7_leak 37 = .ok (.lreturn, 1) := by decide +kernel
theorem dX7_leak_38 : decode cX7_leak 38 = .ok (.aload_n 0, 1) := by decide +kernel
theorem dX7_leak_39 : decode cX7_leak 39 = .ok (.invokevirtual 79, 3) := by decide +kernel
theorem dX7_leak_42 : decode cX7_leak 42 = .ok (.aload_n 0, 1) := by decide +kernel
theorem dX7_leak_43 : decode cX7_leak 43 = .ok (.getfield 54, 3) := by decide +kernel
theorem dX7_leak_46 : decode cX7_leak 46 = .ok (.getfield 284, 3) := by decide +kernel
theorem dX7_leak_49 : decode cX7_leak 49 = .ok (.ifCond .ne 7, 3) := by decide +kernel
theorem dX7_leak_52 : decode cX7_leak 52 = .ok (.aload_n 0, 1) := by decide +kernel
theorem dX7_leak_53 : decode cX7_leak 53 = .ok (.invokevirtual 287, 3) := by decide +kernel
theorem dX7_leak_56 : decode cX7_leak 56 = .ok (.iload_n 1, 1) := by decide +kernel
theorem dX7_leak_57 : decode cX7_leak 57 = .ok (.lookupswitch 45 #[(0, 27), (1, 36)], 27) := by decide +kernel
theorem dX7_leak_84 : decode cX7_leak 84 = .ok (.aload_n 0, 1) := by decide +kernel
theorem dX7_leak_85 : decode cX7_leak 85 = .ok (.getfield 54, 3) := by decide +kernel
theorem dX7_leak_88 : decode cX7_leak 88 = .ok (.getfield 290, 3) := by decide +kernel
theorem dX7_leak_91 : decode cX7_leak 91 = .ok (.i2l, 1) := by decide +kernel
theorem dX7_leak_92 : decode cX7_leak 92 = .ok (.lreturn, 1) := by decide +kernel
theorem dX7_leak_93 : decode cX7_leak 93 = .ok (.aload_n 0, 1) := by decide +kernel
theorem dX7_leak_94 : decode cX7_leak 94 = .ok (.getfield 54, 3) := by decide +kernel
theorem dX7_leak_97 : decode cX7_leak 97 = .ok (.getfield 293, 3) := by decide +kernel
theorem dX7_leak_100 : decode cX7_leak 100 = .ok (.i2l, 1) := by decide +kernel
theorem dX7_leak_101 : decode cX7_leak 101 = .ok (.lreturn, 1) := by decide +kernel
theorem dX7_leak_102 : decode cX7_leak 102 = .ok (.aload_n 0, 1) := by decide +kernel
theorem dX7_leak_103 : decode cX7_leak 103 = .ok (.getfield 54, 3) := by decide +kernel
theorem dX7_leak_106 : decode cX7_leak 106 = .ok (.getfield 296, 3) := by decide +kernel
theorem dX7_leak_109 : decode cX7_leak 109 = .ok (.lreturn, 1) := by decide +kernel
theorem dX7_valve_0 : decode cX7_valve 0 = .ok (.aload_n 0, 1) := by decide +kernel
theorem dX7_valve_1 : decode cX7_valve 1 = .ok (.getfield 37, 3) := by decide +kernel
theorem dX7_valve_4 : decode cX7_valve 4 = .ok (.iload_n 1, 1) := by decide +kernel
theorem dX7_valve_5 : decode cX7_valve 5 = .ok (.invokevirtual 137, 3) := by decide +kernel
theorem dX7_valve_8 : decode cX7_valve 8 = .ok (.ifCond .ne 9, 3) := by decide +kernel
theorem dX7_valve_11 : decode cX7_valve 11 = .ok (.aload_n 0, 1) := by decide +kernel
theorem dX7_valve_12 : decode cX7_valve 12 = .ok (.iconst 1, 1) := by decide +kernel
theorem dX7_valve_13 : decode cX7_valve 13 = .ok (.invokevirtual 65, 3) := by decide +kernel
theorem dX7_valve_16 : decode cX7_valve 16 = .ok (.ireturn, 1) := by decide +kernel
theorem dX7_valve_17 : decode cX7_valve 17 = .ok (.aload_n 0, 1) := by decide +kernel
theorem dX7_valve_18 : decode cX7_valve 18 = .ok (.getfield 37, 3) := by decide +kernel
theorem dX7_valve_21 : decode cX7_valve 21 = .ok (.getfield 154, 3) := by decide +kernel
theorem dX7_valve_24 : decode cX7_valve 24 = .ok (.iload_n 1, 1) := by decide +kernel
theorem dX7_valve_25 : decode cX7_valve 25 = .ok (.invokestatic 157, 3) := by decide +kernel
theorem dX7_valve_28 : decode cX7_valve 28 = .ok (.istore_n 3, 1) := by decide +kernel
theorem dX7_valve_29 : decode cX7_valve 29 = .ok (.iload_n 3, 1) := by decide +kernel
theorem dX7_valve_30 : decode cX7_valve 30 = .ok (.iload_n 2, 1) := by decide +kernel
theorem dX7_valve_31 : decode cX7_valve 31 = .ok (.ifCond .eq 7, 3) := by decide +kernel
theorem dX7_valve_34 : decode cX7_valve 34 = .ok (.iconst 1, 1) := by decide +kernel
theorem dX7_valve_35 : decode cX7_valve 35 = .ok (.goto 4, 3) := by decide +kernel
theorem dX7_valve_38 : decode cX7_valve 38 = .ok (.iconst 0, 1) := by decide +kernel
theorem dX7_valve_39 : decode cX7_valve 39 = .ok (.if_icmp .ne 9, 3) := by decide +kernel
theorem dX7_valve_42 : decode cX7_valve 42 = .ok (.aload_n 0, 1) := by decide +kernel
theorem dX7_valve_43 : decode cX7_valve 43 = .ok (.iconst 5, 1) := by decide +kernel
theorem dX7_valve_44 : decode cX7_valve 44 = .ok (.invokevirtual 65, 3) := by decide +kernel
theorem dX7_valve_47 : decode cX7_valve 47 = .ok (.ireturn, 1) := by decide +kernel
theorem dX7_valve_48 : decode cX7_valve 48 = .ok (.aload_n 0, 1) := by decide +kernel
theorem dX7_valve_49 : decode cX7_valve 49 = .ok (.invokevirtual 79, 3) := by decide +kernel
theorem dX7_valve_52 : decode cX7_valve 52 = .ok (.aload_n 0, 1) := by decide +kernel
theorem dX7_valve_53 : decode cX7_valve 53 = .ok (.getfield 47, 3) := by decide +kernel
theorem dX7_valve_56 : decode cX7_valve 56 = .ok (.iconst 0, 1) := by decide +kernel
theorem dX7_valve_57 : decode cX7_valve 57 = .ok (.iload_n 1, 1) := by decide +kernel
theorem dX7_valve_58 : decode cX7_valve 58 = .ok (.iload_n 3, 1) := by decide +kernel
theorem dX7_valve_59 : decode cX7_valve 59 = .ok (.invokevirtual 300, 3) := by decide +kernel
theorem dX7_valve_62 : decode cX7_valve 62 = .ok (.aload_n 0, 1) := by decide +kernel
theorem dX7_valve_63 : decode cX7_valve 63 = .ok (.getfield 37, 3) := by decide +kernel
theorem dX7_valve_66 : decode cX7_valve 66 = .ok (.dup, 1) := by decide +kernel
theorem dX7_valve_67 : decode cX7_valve 67 = .ok (.getfield 154, 3) := by decide +kernel
theorem dX7_valve_70 : decode cX7_valve 70 = .ok (.iconst 1, 1) := by decide +kernel
theorem dX7_valve_71 : decode cX7_valve 71 = .ok (.iload_n 1, 1) := by decide +kernel
theorem dX7_valve_72 : decode cX7_valve 72 = .ok (.ishl, 1) := by decide +kernel
theorem dX7_valve_73 : decode cX7_valve 73 = .ok (.ixor, 1) := by decide +kernel
theorem dX7_valve_74 : decode cX7_valve 74 = .ok (.putfield 154, 3) := by decide +kernel
theorem dX7_valve_77 : decode cX7_valve 77 = .ok (.aload_n 0, 1) := by decide +kernel
theorem dX7_valve_78 : decode cX7_valve 78 = .ok (.invokevirtual 95, 3) := by decide +kernel
theorem dX7_valve_81 : decode cX7_valve 81 = .ok (.aload_n 0, 1) := by decide +kernel
theorem dX7_valve_82 : decode cX7_valve 82 = .ok (.getfield 29, 3) := by decide +kernel
theorem dX7_valve_85 : decode cX7_valve 85 = .ok (.invokevirtual 129, 3) := by decide +kernel
theorem dX7_valve_88 : decode cX7_valve 88 = .ok (.invokestatic 303, 3) := by decide +kernel
theorem dX7_valve_91 : decode cX7_valve 91 = .ok (.ireturn, 1) := by decide +kernel
theorem dX7_draw_0 : decode cX7_draw 0 = .ok (.aload_n 0, 1) := by decide +kernel
theorem dX7_draw_1 : decode cX7_draw 1 = .ok (.iload_n 1, 1) := by decide +kernel
theorem dX7_draw_2 : decode cX7_draw 2 = .ok (.invokevirtual 232, 3) := by decide +kernel
theorem dX7_draw_5 : decode cX7_draw 5 = .ok (.ifCond .ne 9, 3) := by decide +kernel
theorem dX7_draw_8 : decode cX7_draw 8 = .ok (.aload_n 0, 1) := by decide +kernel
theorem dX7_draw_9 : decode cX7_draw 9 = .ok (.iconst 1, 1) := by decide +kernel
theorem dX7_draw_10 : decode cX7_draw 10 = .ok (.invokevirtual 65, 3) := by decide +kernel
theorem dX7_draw_13 : decode cX7_draw 13 = .ok (.ireturn, 1) := by decide +kernel
theorem dX7_draw_14 : decode cX7_draw 14 = .ok (.iload_n 2, 1) := by decide +kernel
theorem dX7_draw_15 : decode cX7_draw 15 = .ok (.ifCond .lt 9, 3) := by decide +kernel
theorem dX7_draw_18 : decode cX7_draw 18 = .ok (.iload_n 2, 1) := by decide +kernel
theorem dX7_draw_19 : decode cX7_draw 19 = .ok (.bipush 60, 2) := by decide +kernel
theorem dX7_draw_21 : decode cX7_draw 21 = .ok (.if_icmp .le 9, 3) := by decide +kernel
theorem dX7_draw_24 : decode cX7_draw 24 = .ok (.aload_n 0, 1) := by decide +kernel
theorem dX7_draw_25 : decode cX7_draw 25 = .ok (.iconst 2, 1) := by decide +kernel
theorem dX7_draw_26 : decode cX7_draw 26 = .ok (.invokevirtual 65, 3) := by decide +kernel
theorem dX7_draw_29 : decode cX7_draw 29 = .ok (.ireturn, 1) := by decide +kernel
theorem dX7_draw_30 : decode cX7_draw 30 = .ok (.aload_n 0, 1) := by decide +kernel
theorem dX7_draw_31 : decode cX7_draw 31 = .ok (.invokevirtual 79, 3) := by decide +kernel
theorem dX7_draw_34 : decode cX7_draw 34 = .ok (.aload_n 0, 1) := by decide +kernel
theorem dX7_draw_35 : decode cX7_draw 35 = .ok (.getfield 37, 3) := by decide +kernel
theorem dX7_draw_38 : decode cX7_draw 38 = .ok (.getfield 186, 3) := by decide +kernel
theorem dX7_draw_41 : decode cX7_draw 41 = .ok (.iload_n 1, 1) := by decide +kernel
theorem dX7_draw_42 : decode cX7_draw 42 = .ok (.iaload, 1) := by decide +kernel
theorem dX7_draw_43 : decode cX7_draw 43 = .ok (.istore_n 3, 1) := by decide +kernel
theorem dX7_draw_44 : decode cX7_draw 44 = .ok (.aload_n 0, 1) := by decide +kernel
theorem dX7_draw_45 : decode cX7_draw 45 = .ok (.getfield 47, 3) := by decide +kernel
theorem dX7_draw_48 : decode cX7_draw 48 = .ok (.iconst 1, 1) := by decide +kernel
theorem dX7_draw_49 : decode cX7_draw 49 = .ok (.iload_n 1, 1) := by decide +kernel
theorem dX7_draw_50 : decode cX7_draw 50 = .ok (.iload_n 3, 1) := by decide +kernel
theorem dX7_draw_51 : decode cX7_draw 51 = .ok (.invokevirtual 300, 3) := by decide +kernel
theorem dX7_draw_54 : decode cX7_draw 54 = .ok (.aload_n 0, 1) := by decide +kernel
theorem dX7_draw_55 : decode cX7_draw 55 = .ok (.getfield 37, 3) := by decide +kernel
theorem dX7_draw_58 : decode cX7_draw 58 = .ok (.getfield 186, 3) := by decide +kernel
theorem dX7_draw_61 : decode cX7_draw 61 = .ok (.iload_n 1, 1) := by decide +kernel
theorem dX7_draw_62 : decode cX7_draw 62 = .ok (.iload_n 2, 1) := by decide +kernel
theorem dX7_draw_63 : decode cX7_draw 63 = .ok (.iastore, 1) := by decide +kernel
theorem dX7_draw_64 : decode cX7_draw 64 = .ok (.aload_n 0, 1) := by decide +kernel
theorem dX7_draw_65 : decode cX7_draw 65 = .ok (.invokevirtual 95, 3) := by decide +kernel
theorem dX7_draw_68 : decode cX7_draw 68 = .ok (.iload_n 3, 1) := by decide +kernel
theorem dX7_draw_69 : decode cX7_draw 69 = .ok (.ireturn, 1) := by decide +kernel
theorem dX7_well_0 : decode cX7_well 0 = .ok (.aload_n 0, 1) := by decide +kernel
theorem dX7_well_1 : decode cX7_well 1 = .ok (.invokevirtual 101, 3) := by decide +kernel
theorem dX7_well_4 : decode cX7_well 4 = .ok (.ifCond .ne 9, 3) := by decide +kernel
theorem dX7_well_7 : decode cX7_well 7 = .ok (.aload_n 0, 1) := by decide +kernel
theorem dX7_well_8 : decode cX7_well 8 = .ok (.iconst 1, 1) := by decide +kernel
theorem dX7_well_9 : decode cX7_well 9 = .ok (.invokevirtual 65, 3) := by decide +kernel
theorem dX7_well_12 : decode cX7_well 12 = .ok (.ireturn, 1) := by decide +kernel
theorem dX7_well_13 : decode cX7_well 13 = .ok (.iload_n 1, 1) := by decide +kernel
theorem dX7_well_14 : decode cX7_well 14 = .ok (.ifCond .lt 10, 3) := by decide +kernel
theorem dX7_well_17 : decode cX7_well 17 = .ok (.iload_n 1, 1) := by decide +kernel
theorem dX7_well_18 : decode cX7_well 18 = .ok (.sipush 999, 3) := by decide +kernel
theorem dX7_well_21 : decode cX7_well 21 = .ok (.if_icmp .le 9, 3) := by decide +kernel
theorem dX7_well_24 : decode cX7_well 24 = .ok (.aload_n 0, 1) := by decide +kernel
theorem dX7_well_25 : decode cX7_well 25 = .ok (.iconst 2, 1) := by decide +kernel
theorem dX7_well_26 : decode cX7_well 26 = .ok (.invokevirtual 65, 3) := by decide +kernel
theorem dX7_well_29 : decode cX7_well 29 = .ok (.ireturn, 1) := by decide +kernel
theorem dX7_well_30 : decode cX7_well 30 = .ok (.aload_n 0, 1) := by decide +kernel
theorem dX7_well_31 : decode cX7_well 31 = .ok (.invokevirtual 79, 3) := by decide +kernel
theorem dX7_well_34 : decode cX7_well 34 = .ok (.aload_n 0, 1) := by decide +kernel
theorem dX7_well_35 : decode cX7_well 35 = .ok (.getfield 37, 3) := by decide +kernel
theorem dX7_well_38 : decode cX7_well 38 = .ok (.getfield 308, 3) := by decide +kernel
theorem dX7_well_41 : decode cX7_well 41 = .ok (.istore_n 2, 1) := by decide +kernel
theorem dX7_well_42 : decode cX7_well 42 = .ok (.aload_n 0, 1) := by decide +kernel
theorem dX7_well_43 : decode cX7_well 43 = .ok (.getfield 47, 3) := by decide +kernel
theorem dX7_well_46 : decode cX7_well 46 = .ok (.iconst 2, 1) := by decide +kernel
theorem dX7_well_47 : decode cX7_well 47 = .ok (.iconst 0, 1) := by decide +kernel
theorem dX7_well_48 : decode cX7_well 48 = .ok (.iload_n 2, 1) := by decide +kernel
theorem dX7_well_49 : decode cX7_well 49 = .ok (.invokevirtual 300, 3) := by decide +kernel
theorem dX7_well_52 : decode cX7_well 52 = .ok (.aload_n 0, 1) := by decide +kernel
theorem dX7_well_53 : decode cX7_well 53 = .ok (.getfield 37, 3) := by decide +kernel
theorem dX7_well_56 : decode cX7_well 56 = .ok (.iload_n 1, 1) := by decide +kernel
theorem dX7_well_57 : decode cX7_well 57 = .ok (.putfield 308, 3) := by decide +kernel
theorem dX7_well_60 : decode cX7_well 60 = .ok (.aload_n 0, 1) := by decide +kernel
theorem dX7_well_61 : decode cX7_well 61 = .ok (.invokevirtual 95, 3) := by decide +kernel
theorem dX7_well_64 : decode cX7_well 64 = .ok (.iload_n 2, 1) := by decide +kernel
theorem dX7_well_65 : decode cX7_well 65 = .ok (.ireturn, 1) := by decide +kernel
theorem dX7_resist_0 : decode cX7_resist 0 = .ok (.aload_n 0, 1) := by decide +kernel
theorem dX7_resist_1 : decode cX7_resist 1 = .ok (.getfield 37, 3) := by decide +kernel
theorem dX7_resist_4 : decode cX7_resist 4 = .ok (.iload_n 1, 1) := by decide +kernel
theorem dX7_resist_5 : decode cX7_resist 5 = .ok (.invokevirtual 137, 3) := by decide +kernel
theorem dX7_resist_8 : decode cX7_resist 8 = .ok (.ifCond .ne 9, 3) := by decide +kernel
theorem dX7_resist_11 : decode cX7_resist 11 = .ok (.aload_n 0, 1) := by decide +kernel
theorem dX7_resist_12 : decode cX7_resist 12 = .ok (.iconst 1, 1) := by decide +kernel
theorem dX7_resist_13 : decode cX7_resist 13 = .ok (.invokevirtual 65, 3) := by decide +kernel
theorem dX7_resist_16 : decode cX7_resist 16 = .ok (.ireturn, 1) := by decide +kernel
theorem dX7_resist_17 : decode cX7_resist 17 = .ok (.aload_n 0, 1) := by decide +kernel
theorem dX7_resist_18 : decode cX7_resist 18 = .ok (.getfield 37, 3) := by decide +kernel
theorem dX7_resist_21 : decode cX7_resist 21 = .ok (.getfield 148, 3) := by decide +kernel
theorem dX7_resist_24 : decode cX7_resist 24 = .ok (.iload_n 1, 1) := by decide +kernel
theorem dX7_resist_25 : decode cX7_resist 25 = .ok (.iaload, 1) := by decide +kernel
theorem dX7_resist_26 : decode cX7_resist 26 = .ok (.iconst 2, 1) := by decide +kernel
theorem dX7_resist_27 : decode cX7_resist 27 = .ok (.if_icmp .ne 9, 3) := by decide +kernel
theorem dX7_resist_30 : decode cX7_resist 30 = .ok (.aload_n 0, 1) := by decide +kernel
theorem dX7_resist_31 : decode cX7_resist 31 = .ok (.iconst 5, 1) := by decide +kernel
theorem dX7_resist_32 : decode cX7_resist 32 = .ok (.invokevirtual 65, 3) := by decide +kernel
theorem dX7_resist_35 : decode cX7_resist 35 = .ok (.ireturn, 1) := by decide +kernel
theorem dX7_resist_36 : decode cX7_resist 36 = .ok (.iload_n 2, 1) := by decide +kernel
theorem dX7_resist_37 : decode cX7_resist 37 = .ok (.iconst 1, 1) := by decide +kernel
theorem dX7_resist_38 : decode cX7_resist 38 = .ok (.if_icmp .lt 9, 3) := by decide +kernel
theorem dX7_resist_41 : decode cX7_resist 41 = .ok (.iload_n 2, 1) := by decide +kernel
theorem dX7_resist_42 : decode cX7_resist 42 = .ok (.bipush 20, 2) := by decide +kernel
theorem dX7_resist_44 : decode cX7_resist 44 = .ok (.if_icmp .le 9, 3) := by decide +kernel
theorem dX7_resist_47 : decode cX7_resist 47 = .ok (.aload_n 0, 1) := by decide +kernel
theorem dX7_resist_48 : decode cX7_resist 48 = .ok (.iconst 2, 1) := by decide +kernel
theorem dX7_resist_49 : decode cX7_resist 49 = .ok (.invokevirtual 65, 3) := by decide +kernel
theorem dX7_resist_52 : decode cX7_resist 52 = .ok (.ireturn, 1) := by decide +kernel
theorem dX7_resist_53 : decode cX7_resist 53 = .ok (.aload_n 0, 1) := by decide +kernel
theorem dX7_resist_54 : decode cX7_resist 54 = .ok (.invokevirtual 79, 3) := by decide +kernel
theorem dX7_resist_57 : decode cX7_resist 57 = .ok (.aload_n 0, 1) := by decide +kernel
theorem dX7_resist_58 : decode cX7_resist 58 = .ok (.getfield 37, 3) := by decide +kernel
theorem dX7_resist_61 : decode cX7_resist 61 = .ok (.getfield 151, 3) := by decide +kernel
theorem dX7_resist_64 : decode cX7_resist 64 = .ok (.iload_n 1, 1) := by decide +kernel
theorem dX7_resist_65 : decode cX7_resist 65 = .ok (.iaload, 1) := by decide +kernel
theorem dX7_resist_66 : decode cX7_resist 66 = .ok (.istore_n 3, 1) := by decide +kernel
theorem dX7_resist_67 : decode cX7_resist 67 = .ok (.aload_n 0, 1) := by decide +kernel
theorem dX7_resist_68 : decode cX7_resist 68 = .ok (.getfield 47, 3) := by decide +kernel
theorem dX7_resist_71 : decode cX7_resist 71 = .ok (.iconst 3, 1) := by decide +kernel
theorem dX7_resist_72 : decode cX7_resist 72 = .ok (.iload_n 1, 1) := by decide +kernel
theorem dX7_resist_73 : decode cX7_resist 73 = .ok (.iload_n 3, 1) := by decide +kernel
theorem dX7_resist_74 : decode cX7_resist 74 = .ok (.invokevirtual 300, 3) := by decide +kernel
theorem dX7_resist_77 : decode cX7_resist 77 = .ok (.aload_n 0, 1) := by decide +kernel
theorem dX7_resist_78 : decode cX7_resist 78 = .ok (.getfield 37, 3) := by decide +kernel
theorem dX7_resist_81 : decode cX7_resist 81 = .ok (.getfield 151, 3) := by decide +kernel
theorem dX7_resist_84 : decode cX7_resist 84 = .ok (.iload_n 1, 1) := by decide +kernel
theorem dX7_resist_85 : decode cX7_resist 85 = .ok (.iload_n 2, 1) := by decide +kernel
theorem dX7_resist_86 : decode cX7_resist 86 = .ok (.iastore, 1) := by decide +kernel
theorem dX7_resist_87 : decode cX7_resist 87 = .ok (.aload_n 0, 1) := by decide +kernel
theorem dX7_resist_88 : decode cX7_resist 88 = .ok (.invokevirtual 95, 3) := by decide +kernel
theorem dX7_resist_91 : decode cX7_resist 91 = .ok (.iload_n 3, 1) := by decide +kernel
theorem dX7_resist_92 : decode cX7_resist 92 = .ok (.ireturn, 1) := by decide +kernel
theorem dX7_undo_0 : decode cX7_undo 0 = .ok (.aload_n 0, 1) := by decide +kernel
theorem dX7_undo_1 : decode cX7_undo 1 = .ok (.invokevirtual 101, 3) := by decide +kernel
theorem dX7_undo_4 : decode cX7_undo 4 = .ok (.ifCond .ne 9, 3) := by decide +kernel
theorem dX7_undo_7 : decode cX7_undo 7 = .ok (.aload_n 0, 1) := by decide +kernel
theorem dX7_undo_8 : decode cX7_undo 8 = .ok (.iconst 1, 1) := by decide +kernel
theorem dX7_undo_9 : decode cX7_undo 9 = .ok (.invokevirtual 65, 3) := by decide +kernel
theorem dX7_undo_12 : decode cX7_undo 12 = .ok (.ireturn, 1) := by decide +kernel
theorem dX7_undo_13 : decode cX7_undo 13 = .ok (.aload_n 0, 1) := by decide +kernel
theorem dX7_undo_14 : decode cX7_undo 14 = .ok (.getfield 47, 3) := by decide +kernel
theorem dX7_undo_17 : decode cX7_undo 17 = .ok (.getfield 89, 3) := by decide +kernel
theorem dX7_undo_20 : decode cX7_undo 20 = .ok (.ifCond .ne 9, 3) := by decide +kernel
theorem dX7_undo_23 : decode cX7_undo 23 = .ok (.aload_n 0, 1) := by decide +kernel
theorem dX7_undo_24 : decode cX7_undo 24 = .ok (.iconst 5, 1) := by decide +kernel
theorem dX7_undo_25 : decode cX7_undo 25 = .ok (.invokevirtual 65, 3) := by decide +kernel
theorem dX7_undo_28 : decode cX7_undo 28 = .ok (.ireturn, 1) := by decide +kernel
theorem dX7_undo_29 : decode cX7_undo 29 = .ok (.aload_n 0, 1) := by decide +kernel
theorem dX7_undo_30 : decode cX7_undo 30 = .ok (.invokevirtual 79, 3) := by decide +kernel
theorem dX7_undo_33 : decode cX7_undo 33 = .ok (.aload_n 0, 1) := by decide +kernel
theorem dX7_undo_34 : decode cX7_undo 34 = .ok (.getfield 47, 3) := by decide +kernel
theorem dX7_undo_37 : decode cX7_undo 37 = .ok (.aload_n 0, 1) := by decide +kernel
theorem dX7_undo_38 : decode cX7_undo 38 = .ok (.getfield 37, 3) := by decide +kernel
theorem dX7_undo_41 : decode cX7_undo 41 = .ok (.invokevirtual 311, 3) := by decide +kernel
theorem dX7_undo_44 : decode cX7_undo 44 = .ok (.aload_n 0, 1) := by decide +kernel
theorem dX7_undo_45 : decode cX7_undo 45 = .ok (.invokevirtual 95, 3) := by decide +kernel
theorem dX7_undo_48 : decode cX7_undo 48 = .ok (.aload_n 0, 1) := by decide +kernel
theorem dX7_undo_49 : decode cX7_undo 49 = .ok (.getfield 47, 3) := by decide +kernel
theorem dX7_undo_52 : decode cX7_undo 52 = .ok (.getfield 89, 3) := by decide +kernel
theorem dX7_undo_55 : decode cX7_undo 55 = .ok (.ireturn, 1) := by decide +kernel
theorem dX7_named_0 : decode cX7_named 0 = .ok (.iload_n 1, 1) := by decide +kernel
theorem dX7_named_1 : decode cX7_named 1 = .ok (.ifCond .lt 11, 3) := by decide +kernel
theorem dX7_named_4 : decode cX7_named 4 = .ok (.iload_n 1, 1) := by decide +kernel
theorem dX7_named_5 : decode cX7_named 5 = .ok (.aload_n 0, 1) := by decide +kernel
theorem dX7_named_6 : decode cX7_named 6 = .ok (.getfield 58, 3) := by decide +kernel
theorem dX7_named_9 : decode cX7_named 9 = .ok (.if_icmp .le 7, 3) := by decide +kernel
theorem dX7_named_12 : decode cX7_named 12 = .ok (.iconst (-1), 1) := by decide +kernel
theorem dX7_named_13 : decode cX7_named 13 = .ok (.goto 18, 3) := by decide +kernel
theorem dX7_named_16 : decode cX7_named 16 = .ok (.aload_n 0, 1) := by decide +kernel
theorem dX7_named_17 : decode cX7_named 17 = .ok (.getfield 37, 3) := by decide +kernel
theorem dX7_named_20 : decode cX7_named 20 = .ok (.aload_n 0, 1) := by decide +kernel
theorem dX7_named_21 : decode cX7_named 21 = .ok (.getfield 11, 3) := by decide +kernel
theorem dX7_named_24 : decode cX7_named 24 = .ok (.iload_n 1, 1) := by decide +kernel
theorem dX7_named_25 : decode cX7_named 25 = .ok (.invokestatic 314, 3) := by decide +kernel
theorem dX7_named_28 : decode cX7_named 28 = .ok (.invokevirtual 318, 3) := by decide +kernel
theorem dX7_named_31 : decode cX7_named 31 = .ok (.istore_n 2, 1) := by decide +kernel
theorem dX7_named_32 : decode cX7_named 32 = .ok (.iload_n 2, 1) := by decide +kernel
theorem dX7_named_33 : decode cX7_named 33 = .ok (.iconst (-1), 1) := by decide +kernel
theorem dX7_named_34 : decode cX7_named 34 = .ok (.if_icmp .ne 11, 3) := by decide +kernel
theorem dX7_named_37 : decode cX7_named 37 = .ok (.new 322, 3) := by decide +kernel
theorem dX7_named_40 : decode cX7_named 40 = .ok (.dup, 1) := by decide +kernel
theorem dX7_named_41 : decode cX7_named 41 = .ok (.invokespecial 324, 3) := by decide +kernel
theorem dX7_named_44 : decode cX7_named 44 = .ok (.athrow, 1) := by decide +kernel
theorem dX7_named_45 : decode cX7_named 45 = .ok (.iload_n 2, 1) := by decide +kernel
theorem dX7_named_46 : decode cX7_named 46 = .ok (.ireturn, 1) := by decide +kernel
theorem dX7_size_0 : decode cX7_size 0 = .ok (.aload_n 0, 1) := by decide +kernel
theorem dX7_size_1 : decode cX7_size 1 = .ok (.getfield 58, 3) := by decide +kernel
theorem dX7_size_4 : decode cX7_size 4 = .ok (.ireturn, 1) := by decide +kernel
theorem dX7_trouble_0 : decode cX7_trouble 0 = .ok (.aload_n 0, 1) := by decide +kernel
theorem dX7_trouble_1 : decode cX7_trouble 1 = .ok (.getfield 325, 3) := by decide +kernel
theorem dX7_trouble_4 : decode cX7_trouble 4 = .ok (.ireturn, 1) := by decide +kernel
theorem dX7_refuse_0 : decode cX7_refuse 0 = .ok (.aload_n 0, 1) := by decide +kernel
theorem dX7_refuse_1 : decode cX7_refuse 1 = .ok (.iload_n 1, 1) := by decide +kernel
theorem dX7_refuse_2 : decode cX7_refuse 2 = .ok (.putfield 325, 3) := by decide +kernel
theorem dX7_refuse_5 : decode cX7_refuse 5 = .ok (.aload_n 0, 1) := by decide +kernel
theorem dX7_refuse_6 : decode cX7_refuse 6 = .ok (.iconst (-1), 1) := by decide +kernel
theorem dX7_refuse_7 : decode cX7_refuse 7 = .ok (.putfield 15, 3) := by decide +kernel
theorem dX7_refuse_10 : decode cX7_refuse 10 = .ok (.iconst (-1), 1) := by decide +kernel
theorem dX7_refuse_11 : decode cX7_refuse 11 = .ok (.ireturn, 1) := by decide +kernel
theorem dX7_refuseLong_0 : decode cX7_refuseLong 0 = .ok (.aload_n 0, 1) := by decide +kernel
theorem dX7_refuseLong_1 : decode cX7_refuseLong 1 = .ok (.iload_n 1, 1) := by decide +kernel
theorem dX7_refuseLong_2 : decode cX7_refuseLong 2 = .ok (.invokevirtual 65, 3) := by decide +kernel
theorem dX7_refuseLong_5 : decode cX7_refuseLong 5 = .ok (.pop, 1) := by decide +kernel
theorem dX7_refuseLong_6 : decode cX7_refuseLong 6 = .ok (.ldc2_w 254, 3) := by decide +kernel
theorem dX7_refuseLong_9 : decode cX7_refuseLong 9 = .ok (.lreturn, 1) := by decide +kernel
theorem dX7_allow_0 : decode cX7_allow 0 = .ok (.aload_n 0, 1) := by decide +kernel
theorem dX7_allow_1 : decode cX7_allow 1 = .ok (.iconst 0, 1) := by decide +kernel
theorem dX7_allow_2 : decode cX7_allow 2 = .ok (.putfield 325, 3) := by decide +kernel
theorem dX7_allow_5 : decode cX7_allow 5 = .ok (.aload_n 0, 1) := by decide +kernel
theorem dX7_allow_6 : decode cX7_allow 6 = .ok (.iconst (-1), 1) := by decide +kernel
theorem dX7_allow_7 : decode cX7_allow 7 = .ok (.putfield 15, 3) := by decide +kernel
theorem dX7_allow_10 : decode cX7_allow 10 = .ok (.return_, 1) := by decide +kernel
theorem dX7_hasText_0 : decode cX7_hasText 0 = .ok (.aload_n 0, 1) := by decide +kernel
theorem dX7_hasText_1 : decode cX7_hasText 1 = .ok (.getfield 37, 3) := by decide +kernel
theorem dX7_hasText_4 : decode cX7_hasText 4 = .ok (.getfield 98, 3) := by decide +kernel
theorem dX7_hasText_7 : decode cX7_hasText 7 = .ok (.ifCond .le 7, 3) := by decide +kernel
theorem dX7_hasText_10 : decode cX7_hasText 10 = .ok (.iconst 1, 1) := by decide +kernel
theorem dX7_hasText_11 : decode cX7_hasText 11 = .ok (.goto 4, 3) := by decide +kernel
theorem dX7_hasText_14 : decode cX7_hasText 14 = .ok (.iconst 0, 1) := by decide +kernel
theorem dX7_hasText_15 : decode cX7_hasText 15 = .ok (.ireturn, 1) := by decide +kernel
theorem dX7_isDrawingJoint_0 : decode cX7_isDrawingJoint 0 = .ok (.iload_n 1, 1) := by decide +kernel
theorem dX7_isDrawingJoint_1 : decode cX7_isDrawingJoint 1 = .ok (.ifCond .eq 18, 3) := by decide +kernel
theorem dX7_isDrawingJoint_4 : decode cX7_isDrawingJoint 4 = .ok (.aload_n 0, 1) := by decide +kernel
theorem dX7_isDrawingJoint_5 : decode cX7_isDrawingJoint 5 = .ok (.getfield 37, 3) := by decide +kernel
theorem dX7_isDrawingJoint_8 : decode cX7_isDrawingJoint 8 = .ok (.iload_n 1, 1) := by decide +kernel
theorem dX7_isDrawingJoint_9 : decode cX7_isDrawingJoint 9 = .ok (.invokevirtual 183, 3) := by decide +kernel
theorem dX7_isDrawingJoint_12 : decode cX7_isDrawingJoint 12 = .ok (.ifCond .eq 7, 3) := by decide +kernel
theorem dX7_isDrawingJoint_15 : decode cX7_isDrawingJoint 15 = .ok (.iconst 1, 1) := by decide +kernel
theorem dX7_isDrawingJoint_16 : decode cX7_isDrawingJoint 16 = .ok (.goto 4, 3) := by decide +kernel
theorem dX7_isDrawingJoint_19 : decode cX7_isDrawingJoint 19 = .ok (.iconst 0, 1) := by decide +kernel
theorem dX7_isDrawingJoint_20 : decode cX7_isDrawingJoint 20 = .ok (.ireturn, 1) := by decide +kernel
theorem dX7_hasRing_0 : decode cX7_hasRing 0 = .ok (.aload_n 0, 1) := by decide +kernel
theorem dX7_hasRing_1 : decode cX7_hasRing 1 = .ok (.invokevirtual 101, 3) := by decide +kernel
theorem dX7_hasRing_4 : decode cX7_hasRing 4 = .ok (.ifCond .eq 25, 3) := by decide +kernel
theorem dX7_hasRing_7 : decode cX7_hasRing 7 = .ok (.iload_n 1, 1) := by decide +kernel
theorem dX7_hasRing_8 : decode cX7_hasRing 8 = .ok (.ifCond .lt 21, 3) := by decide +kernel
theorem dX7_hasRing_11 : decode cX7_hasRing 11 = .ok (.iload_n 1, 1) := by decide +kernel
theorem dX7_hasRing_12 : decode cX7_hasRing 12 = .ok (.aload_n 0, 1) := by decide +kernel
theorem dX7_hasRing_13 : decode cX7_hasRing 13 = .ok (.getfield 29, 3) := by decide +kernel
theorem dX7_hasRing_16 : decode cX7_hasRing 16 = .ok (.getfield 108, 3) := by decide +kernel
theorem dX7_hasRing_19 : decode cX7_hasRing 19 = .ok (.getfield 112, 3) := by decide +kernel
theorem dX7_hasRing_22 : decode cX7_hasRing 22 = .ok (.if_icmp .ge 7, 3) := by decide +kernel
theorem dX7_hasRing_25 : decode cX7_hasRing 25 = .ok (.iconst 1, 1) := by decide +kernel
theorem dX7_hasRing_26 : decode cX7_hasRing 26 = .ok (.goto 4, 3) := by decide +kernel
theorem dX7_hasRing_29 : decode cX7_hasRing 29 = .ok (.iconst 0, 1) := by decide +kernel
theorem dX7_hasRing_30 : decode cX7_hasRing 30 = .ok (.ireturn, 1) := by decide +kernel
theorem dX7_whyNoWaterAt_0 : decode cX7_whyNoWaterAt 0 = .ok (.aload_n 0, 1) := by decide +kernel
theorem dX7_whyNoWaterAt_1 : decode cX7_whyNoWaterAt 1 = .ok (.getfield 37, 3) := by decide +kernel
theorem dX7_whyNoWaterAt_4 : decode cX7_whyNoWaterAt 4 = .ok (.iload_n 1, 1) := by decide +kernel
theorem dX7_whyNoWaterAt_5 : decode cX7_whyNoWaterAt 5 = .ok (.invokevirtual 183, 3) := by decide +kernel
theorem dX7_whyNoWaterAt_8 : decode cX7_whyNoWaterAt 8 = .ok (.ifCond .ne 5, 3) := by decide +kernel
theorem dX7_whyNoWaterAt_11 : decode cX7_whyNoWaterAt 11 = .ok (.iconst 1, 1) := by decide +kernel
theorem dX7_whyNoWaterAt_12 : decode cX7_whyNoWaterAt 12 = .ok (.ireturn, 1) := by decide +kernel
theorem dX7_whyNoWaterAt_13 : decode cX7_whyNoWaterAt 13 = .ok (.aload_n 0, 1) := by decide +kernel
theorem dX7_whyNoWaterAt_14 : decode cX7_whyNoWaterAt 14 = .ok (.getfield 29, 3) := by decide +kernel
theorem dX7_whyNoWaterAt_17 : decode cX7_whyNoWaterAt 17 = .ok (.getfield 161, 3) := by decide +kernel
theorem dX7_whyNoWaterAt_20 : decode cX7_whyNoWaterAt 20 = .ok (.getfield 328, 3) := by decide +kernel
theorem dX7_whyNoWaterAt_23 : decode cX7_whyNoWaterAt 23 = .ok (.iload_n 1, 1) := by decide +kernel
theorem dX7_whyNoWaterAt_24 : decode cX7_whyNoWaterAt 24 = .ok (.invokestatic 157, 3) := by decide +kernel
theorem dX7_whyNoWaterAt_27 : decode cX7_whyNoWaterAt 27 = .ok (.ifCond .ne 7, 3) := by decide +kernel
theorem dX7_whyNoWaterAt_30 : decode cX7_whyNoWaterAt 30 = .ok (.iconst 5, 1) := by decide +kernel
theorem dX7_whyNoWaterAt_31 : decode cX7_whyNoWaterAt 31 = .ok (.goto 4, 3) := by decide +kernel
theorem dX7_whyNoWaterAt_34 : decode cX7_whyNoWaterAt 34 = .ok (.iconst 0, 1) := by decide +kernel
theorem dX7_whyNoWaterAt_35 : decode cX7_whyNoWaterAt 35 = .ok (.ireturn, 1) := by decide +kernel
theorem dX7_isPressureAsked_0 : decode cX7_isPressureAsked 0 = .ok (.iload_n 0, 1) := by decide +kernel
theorem dX7_isPressureAsked_1 : decode cX7_isPressureAsked 1 = .ok (.sipush (-30000), 3) := by decide +kernel
theorem dX7_isPressureAsked_4 : decode cX7_isPressureAsked 4 = .ok (.if_icmp .lt 14, 3) := by decide +kernel
theorem dX7_isPressureAsked_7 : decode cX7_isPressureAsked 7 = .ok (.iload_n 0, 1) := by decide +kernel
theorem dX7_isPressureAsked_8 : decode cX7_isPressureAsked 8 = .ok (.ldc_w 331, 3) := by decide +kernel
theorem dX7_isPressureAsked_11 : decode cX7_isPressureAsked 11 = .ok (.if_icmp .gt 7, 3) := by decide +kernel
theorem dX7_isPressureAsked_14 : decode cX7_isPressureAsked 14 = .ok (.iconst 1, 1) := by decide +kernel
theorem dX7_isPressureAsked_15 : decode cX7_isPressureAsked 15 = .ok (.goto 4, 3) := by decide +kernel
theorem dX7_isPressureAsked_18 : decode cX7_isPressureAsked 18 = .ok (.iconst 0, 1) := by decide +kernel
theorem dX7_isPressureAsked_19 : decode cX7_isPressureAsked 19 = .ok (.ireturn, 1) := by decide +kernel
theorem dX7_bit_0 : decode cX7_bit 0 = .ok (.iload_n 0, 1) := by decide +kernel
theorem dX7_bit_1 : decode cX7_bit 1 = .ok (.iload_n 1, 1) := by decide +kernel
theorem dX7_bit_2 : decode cX7_bit 2 = .ok (.ishr, 1) := by decide +kernel
theorem dX7_bit_3 : decode cX7_bit 3 = .ok (.iconst 1, 1) := by decide +kernel
theorem dX7_bit_4 : decode cX7_bit 4 = .ok (.iand, 1) := by decide +kernel
theorem dX7_bit_5 : decode cX7_bit 5 = .ok (.ireturn, 1) := by decide +kernel
theorem dX7_putBytes_0 : decode cX7_putBytes 0 = .ok (.bipush 24, 2) := by decide +kernel
theorem dX7_putBytes_2 : decode cX7_putBytes 2 = .ok (.istore_n 2, 1) := by decide +kernel
theorem dX7_putBytes_3 : decode cX7_putBytes 3 = .ok (.iload_n 2, 1) := by decide +kernel
theorem dX7_putBytes_4 : decode cX7_putBytes 4 = .ok (.ifCond .lt 42, 3) := by decide +kernel
theorem dX7_putBytes_7 : decode cX7_putBytes 7 = .ok (.aload_n 0, 1) := by decide +kernel
theorem dX7_putBytes_8 : decode cX7_putBytes 8 = .ok (.getfield 58, 3) := by decide +kernel
theorem dX7_putBytes_11 : decode cX7_putBytes 11 = .ok (.sipush 600, 3) := by decide +kernel
theorem dX7_putBytes_14 : decode cX7_putBytes 14 = .ok (.if_icmp .ge 32, 3) := by decide +kernel
theorem dX7_putBytes_17 : decode cX7_putBytes 17 = .ok (.aload_n 0, 1) := by decide +kernel
theorem dX7_putBytes_18 : decode cX7_putBytes 18 = .ok (.getfield 11, 3) := by decide +kernel
theorem dX7_putBytes_21 : decode cX7_putBytes 21 = .ok (.aload_n 0, 1) := by decide +kernel
theorem dX7_putBytes_22 : decode cX7_putBytes 22 = .ok (.getfield 58, 3) := by decide +kernel
theorem dX7_putBytes_25 : decode cX7_putBytes 25 = .ok (.iload_n 1, 1) := by decide +kernel
theorem dX7_putBytes_26 : decode cX7_putBytes 26 = .ok (.iload_n 2, 1) := by decide +kernel
theorem dX7_putBytes_27 : decode cX7_putBytes 27 = .ok (.ishr, 1) := by decide +kernel
theorem dX7_putBytes_28 : decode cX7_putBytes 28 = .ok (.i2b, 1) := by decide +kernel
theorem dX7_putBytes_29 : decode cX7_putBytes 29 = .ok (.bastore, 1) := by decide +kernel
theorem dX7_putBytes_30 : decode cX7_putBytes 30 = .ok (.aload_n 0, 1) := by decide +kernel
theorem dX7_putBytes_31 : decode cX7_putBytes 31 = .ok (.dup, 1) := by decide +kernel
theorem dX7_putBytes_32 : decode cX7_putBytes 32 = .ok (.getfield 58, 3) := by decide +kernel
theorem dX7_putBytes_35 : decode cX7_putBytes 35 = .ok (.iconst 1, 1) := by decide +kernel
theorem dX7_putBytes_36 : decode cX7_putBytes 36 = .ok (.iadd, 1) := by decide +kernel
theorem dX7_putBytes_37 : decode cX7_putBytes 37 = .ok (.putfield 58, 3) := by decide +kernel
theorem dX7_putBytes_40 : decode cX7_putBytes 40 = .ok (.iinc 2 (-8), 3) := by decide +kernel
theorem dX7_putBytes_43 : decode cX7_putBytes 43 = .ok (.goto (-40), 3) := by decide +kernel
theorem dX7_putBytes_46 : decode cX7_putBytes 46 = .ok (.return_, 1) := by decide +kernel
theorem dX7_settle_0 : decode cX7_settle 0 = .ok (.aload_n 0, 1) := by decide +kernel
theorem dX7_settle_1 : decode cX7_settle 1 = .ok (.getfield 29, 3) := by decide +kernel
theorem dX7_settle_4 : decode cX7_settle 4 = .ok (.invokevirtual 248, 3) := by decide +kernel
theorem dX7_settle_7 : decode cX7_settle 7 = .ok (.aload_n 0, 1) := by decide +kernel
theorem dX7_settle_8 : decode cX7_settle 8 = .ok (.getfield 54, 3) := by decide +kernel
theorem dX7_settle_11 : decode cX7_settle 11 = .ok (.iconst 0, 1) := by decide +kernel
theorem dX7_settle_12 : decode cX7_settle 12 = .ok (.putfield 284, 3) := by decide +kernel
theorem dX7_settle_15 : decode cX7_settle 15 = .ok (.return_, 1) := by decide +kernel
theorem dX7_solveWithMore_0 : decode cX7_solveWithMore 0 = .ok (.aload_n 0, 1) := by decide +kernel
theorem dX7_solveWithMore_1 : decode cX7_solveWithMore 1 = .ok (.getfield 41, 3) := by decide +kernel
theorem dX7_solveWithMore_4 : decode cX7_solveWithMore 4 = .ok (.aload_n 0, 1) := by decide +kernel
theorem dX7_solveWithMore_5 : decode cX7_solveWithMore 5 = .ok (.getfield 37, 3) := by decide +kernel
theorem dX7_solveWithMore_8 : decode cX7_solveWithMore 8 = .ok (.invokevirtual 83, 3) := by decide +kernel
theorem dX7_solveWithMore_11 : decode cX7_solveWithMore 11 = .ok (.aload_n 0, 1) := by decide +kernel
theorem dX7_solveWithMore_12 : decode cX7_solveWithMore 12 = .ok (.getfield 41, 3) := by decide +kernel
theorem dX7_solveWithMore_15 : decode cX7_solveWithMore 15 = .ok (.getfield 186, 3) := by decide +kernel
theorem dX7_solveWithMore_18 : decode cX7_solveWithMore 18 = .ok (.iload_n 1, 1) := by decide +kernel
theorem dX7_solveWithMore_19 : decode cX7_solveWithMore 19 = .ok (.dup2, 1) := by decide +kernel
theorem dX7_solveWithMore_20 : decode cX7_solveWithMore 20 = .ok (.iaload, 1) := by decide +kernel
theorem dX7_solveWithMore_21 : decode cX7_solveWithMore 21 = .ok (.iload_n 2, 1) := by decide +kernel
theorem dX7_solveWithMore_22 : decode cX7_solveWithMore 22 = .ok (.iadd, 1) := by decide +kernel
theorem dX7_solveWithMore_23 : decode cX7_solveWithMore 23 = .ok (.iastore, 1) := by decide +kernel
theorem dX7_solveWithMore_24 : decode cX7_solveWithMore 24 = .ok (.aload_n 0, 1) := by decide +kernel
theorem dX7_solveWithMore_25 : decode cX7_solveWithMore 25 = .ok (.getfield 38, 3) := by decide +kernel
theorem dX7_solveWithMore_28 : decode cX7_solveWithMore 28 = .ok (.invokevirtual 248, 3) := by decide +kernel
theorem dX7_solveWithMore_31 : decode cX7_solveWithMore 31 = .ok (.return_, 1) := by decide +kernel
theorem dX7_dryIfClosed_0 : decode cX7_dryIfClosed 0 = .ok (.aload_n 0, 1) := by decide +kernel
theorem dX7_dryIfClosed_1 : decode cX7_dryIfClosed 1 = .ok (.getfield 41, 3) := by decide +kernel
theorem dX7_dryIfClosed_4 : decode cX7_dryIfClosed 4 = .ok (.aload_n 0, 1) := by decide +kernel
theorem dX7_dryIfClosed_5 : decode cX7_dryIfClosed 5 = .ok (.getfield 37, 3) := by decide +kernel
theorem dX7_dryIfClosed_8 : decode cX7_dryIfClosed 8 = .ok (.invokevirtual 83, 3) := by decide +kernel
theorem dX7_dryIfClosed_11 : decode cX7_dryIfClosed 11 = .ok (.aload_n 0, 1) := by decide +kernel
theorem dX7_dryIfClosed_12 : decode cX7_dryIfClosed 12 = .ok (.getfield 41, 3) := by decide +kernel
theorem dX7_dryIfClosed_15 : decode cX7_dryIfClosed 15 = .ok (.dup, 1) := by decide +kernel
theorem dX7_dryIfClosed_16 : decode cX7_dryIfClosed 16 = .ok (.getfield 154, 3) := by decide +kernel
theorem dX7_dryIfClosed_19 : decode cX7_dryIfClosed 19 = .ok (.iload_n 1, 1) := by decide +kernel
theorem dX7_dryIfClosed_20 : decode cX7_dryIfClosed 20 = .ok (.ior, 1) := by decide +kernel
theorem dX7_dryIfClosed_21 : decode cX7_dryIfClosed 21 = .ok (.putfield 154, 3) := by decide +kernel
theorem dX7_dryIfClosed_24 : decode cX7_dryIfClosed 24 = .ok (.aload_n 0, 1) := by decide +kernel
theorem dX7_dryIfClosed_25 : decode cX7_dryIfClosed 25 = .ok (.getfield 38, 3) := by decide +kernel
theorem dX7_dryIfClosed_28 : decode cX7_dryIfClosed 28 = .ok (.invokevirtual 248, 3) := by decide +kernel
theorem dX7_dryIfClosed_31 : decode cX7_dryIfClosed 31 = .ok (.aload_n 0, 1) := by decide +kernel
theorem dX7_dryIfClosed_32 : decode cX7_dryIfClosed 32 = .ok (.getfield 38, 3) := by decide +kernel
theorem dX7_dryIfClosed_35 : decode cX7_dryIfClosed 35 = .ok (.invokevirtual 129, 3) := by decide +kernel
theorem dX7_dryIfClosed_38 : decode cX7_dryIfClosed 38 = .ok (.ireturn, 1) := by decide +kernel
theorem dX7_vitalEdges_0 : decode cX7_vitalEdges 0 = .ok (.aload_n 0, 1) := by decide +kernel
theorem dX7_vitalEdges_1 : decode cX7_vitalEdges 1 = .ok (.getfield 29, 3) := by decide +kernel
theorem dX7_vitalEdges_4 : decode cX7_vitalEdges 4 = .ok (.invokevirtual 129, 3) := by decide +kernel
theorem dX7_vitalEdges_7 : decode cX7_vitalEdges 7 = .ok (.istore_n 1, 1) := by decide +kernel
theorem dX7_vitalEdges_8 : decode cX7_vitalEdges 8 = .ok (.iconst 0, 1) := by decide +kernel
theorem dX7_vitalEdges_9 : decode cX7_vitalEdges 9 = .ok (.istore_n 2, 1) := by decide +kernel
theorem dX7_vitalEdges_10 : decode cX7_vitalEdges 10 = .ok (.iconst 0, 1) := by decide +kernel
theorem dX7_vitalEdges_11 : decode cX7_vitalEdges 11 = .ok (.istore_n 3, 1) := by decide +kernel
theorem dX7_vitalEdges_12 : decode cX7_vitalEdges 12 = .ok (.iload_n 3, 1) := by decide +kernel
theorem dX7_vitalEdges_13 : decode cX7_vitalEdges 13 = .ok (.aload_n 0, 1) := by decide +kernel
theorem dX7_vitalEdges_14 : decode cX7_vitalEdges 14 = .ok (.getfield 37, 3) := by decide +kernel
theorem dX7_vitalEdges_17 : decode cX7_vitalEdges 17 = .ok (.getfield 105, 3) := by decide +kernel
theorem dX7_vitalEdges_20 : decode cX7_vitalEdges 20 = .ok (.if_icmp .ge 43, 3) := by decide +kernel
theorem dX7_vitalEdges_23 : decode cX7_vitalEdges 23 = .ok (.aload_n 0, 1) := by decide +kernel
theorem dX7_vitalEdges_24 : decode cX7_vitalEdges 24 = .ok (.getfield 37, 3) := by decide +kernel
theorem dX7_vitalEdges_27 : decode cX7_vitalEdges 27 = .ok (.getfield 154, 3) := by decide +kernel
theorem dX7_vitalEdges_30 : decode cX7_vitalEdges 30 = .ok (.iload_n 3, 1) := by decide +kernel
theorem dX7_vitalEdges_31 : decode cX7_vitalEdges 31 = .ok (.invokestatic 157, 3) := by decide +kernel
theorem dX7_vitalEdges_34 : decode cX7_vitalEdges 34 = .ok (.ifCond .ne 23, 3) := by decide +kernel
theorem dX7_vitalEdges_37 : decode cX7_vitalEdges 37 = .ok (.aload_n 0, 1) := by decide +kernel
theorem dX7_vitalEdges_38 : decode cX7_vitalEdges 38 = .ok (.iconst 1, 1) := by decide +kernel
theorem dX7_vitalEdges_39 : decode cX7_vitalEdges 39 = .ok (.iload_n 3, 1) := by decide +kernel
theorem dX7_vitalEdges_40 : decode cX7_vitalEdges 40 = .ok (.ishl, 1) := by decide +kernel
theorem dX7_vitalEdges_41 : decode cX7_vitalEdges 41 = .ok (.invokevirtual 262, 3) := by decide +kernel
theorem dX7_vitalEdges_44 : decode cX7_vitalEdges 44 = .ok (.iload_n 1, 1) := by decide +kernel
theorem dX7_vitalEdges_45 : decode cX7_vitalEdges 45 = .ok (.iconst (-1), 1) := by decide +kernel
theorem dX7_vitalEdges_46 : decode cX7_vitalEdges 46 = .ok (.ixor, 1) := by decide +kernel
theorem dX7_vitalEdges_47 : decode cX7_vitalEdges 47 = .ok (.iand, 1) := by decide +kernel
theorem dX7_vitalEdges_48 : decode cX7_vitalEdges 48 = .ok (.ifCond .eq 9, 3) := by decide +kernel
theorem dX7_vitalEdges_51 : decode cX7_vitalEdges 51 = .ok (.iload_n 2, 1) := by decide +kernel
theorem dX7_vitalEdges_52 : decode cX7_vitalEdges 52 = .ok (.iconst 1, 1) := by decide +kernel
theorem dX7_vitalEdges_53 : decode cX7_vitalEdges 53 = .ok (.iload_n 3, 1) := by decide +kernel
theorem dX7_vitalEdges_54 : decode cX7_vitalEdges 54 = .ok (.ishl, 1) := by decide +kernel
theorem dX7_vitalEdges_55 : decode cX7_vitalEdges 55 = .ok (.ior, 1) := by decide +kernel
theorem dX7_vitalEdges_56 : decode cX7_vitalEdges 56 = .ok (.istore_n 2, 1) := by decide +kernel
theorem dX7_vitalEdges_57 : decode cX7_vitalEdges 57 = .ok (.iinc 3 1, 3) := by decide +kernel
theorem dX7_vitalEdges_60 : decode cX7_vitalEdges 60 = .ok (.goto (-48), 3) := by decide +kernel
theorem dX7_vitalEdges_63 : decode cX7_vitalEdges 63 = .ok (.iload_n 2, 1) := by decide +kernel
theorem dX7_vitalEdges_64 : decode cX7_vitalEdges 64 = .ok (.ireturn, 1) := by decide +kernel
theorem dX7_bestToWiden_0 : decode cX7_bestToWiden 0 = .ok (.bipush (-2), 2) := by decide +kernel
theorem dX7_bestToWiden_2 : decode cX7_bestToWiden 2 = .ok (.istore_n 1, 1) := by decide +kernel
end
section
theorem dX7_bestToWiden_3 : decode cX7_bestToWiden 3 = .ok (.ldc2_w 254, 3) := by decide +kernel
theorem dX7_bestToWiden_6 : decode cX7_bestToWiden 6 = .ok (.lstore_n 2, 1) := by decide +kernel
theorem dX7_bestToWiden_7 : decode cX7_bestToWiden 7 = .ok (.iconst 0, 1) := by decide +kernel
theorem dX7_bestToWiden_8 : decode cX7_bestToWiden 8 = .ok (.istore 4, 2) := by decide +kernel
theorem dX7_bestToWiden_10 : decode cX7_bestToWiden 10 = .ok (.iload 4, 2) := by decide +kernel
theorem dX7_bestToWiden_12 : decode cX7_bestToWiden 12 = .ok (.aload_n 0, 1) := by decide +kernel
theorem dX7_bestToWiden_13 : decode cX7_bestToWiden 13 = .ok (.getfield 37, 3) := by decide +kernel
theorem dX7_bestToWiden_16 : decode cX7_bestToWiden 16 = .ok (.getfield 105, 3) := by decide +kernel
theorem dX7_bestToWiden_19 : decode cX7_bestToWiden 19 = .ok (.if_icmp .ge 77, 3) := by decide +kernel
theorem dX7_bestToWiden_22 : decode cX7_bestToWiden 22 = .ok (.aload_n 0, 1) := by decide +kernel
theorem dX7_bestToWiden_23 : decode cX7_bestToWiden 23 = .ok (.getfield 37, 3) := by decide +kernel
theorem dX7_bestToWiden_26 : decode cX7_bestToWiden 26 = .ok (.getfield 148, 3) := by decide +kernel
theorem dX7_bestToWiden_29 : decode cX7_bestToWiden 29 = .ok (.iload 4, 2) := by decide +kernel
theorem dX7_bestToWiden_31 : decode cX7_bestToWiden 31 = .ok (.iaload, 1) := by decide +kernel
theorem dX7_bestToWiden_32 : decode cX7_bestToWiden 32 = .ok (.iconst 2, 1) := by decide +kernel
theorem dX7_bestToWiden_33 : decode cX7_bestToWiden 33 = .ok (.if_icmp .eq 57, 3) := by decide +kernel
theorem dX7_bestToWiden_36 : decode cX7_bestToWiden 36 = .ok (.aload_n 0, 1) := by decide +kernel
theorem dX7_bestToWiden_37 : decode cX7_bestToWiden 37 = .ok (.getfield 37, 3) := by decide +kernel
theorem dX7_bestToWiden_40 : decode cX7_bestToWiden 40 = .ok (.getfield 151, 3) := by decide +kernel
theorem dX7_bestToWiden_43 : decode cX7_bestToWiden 43 = .ok (.iload 4, 2) := by decide +kernel
theorem dX7_bestToWiden_45 : decode cX7_bestToWiden 45 = .ok (.iaload, 1) := by decide +kernel
theorem dX7_bestToWiden_46 : decode cX7_bestToWiden 46 = .ok (.iconst 1, 1) := by decide +kernel
theorem dX7_bestToWiden_47 : decode cX7_bestToWiden 47 = .ok (.if_icmp .le 43, 3) := by decide +kernel
theorem dX7_bestToWiden_50 : decode cX7_bestToWiden 50 = .ok (.aload_n 0, 1) := by decide +kernel
theorem dX7_bestToWiden_51 : decode cX7_bestToWiden 51 = .ok (.getfield 37, 3) := by decide +kernel
theorem dX7_bestToWiden_54 : decode cX7_bestToWiden 54 = .ok (.getfield 154, 3) := by decide +kernel
theorem dX7_bestToWiden_57 : decode cX7_bestToWiden 57 = .ok (.iload 4, 2) := by decide +kernel
theorem dX7_bestToWiden_59 : decode cX7_bestToWiden 59 = .ok (.invokestatic 157, 3) := by decide +kernel
theorem dX7_bestToWiden_62 : decode cX7_bestToWiden 62 = .ok (.iconst 1, 1) := by decide +kernel
theorem dX7_bestToWiden_63 : decode cX7_bestToWiden 63 = .ok (.if_icmp .ne 6, 3) := by decide +kernel
theorem dX7_bestToWiden_66 : decode cX7_bestToWiden 66 = .ok (.goto 24, 3) := by decide +kernel
theorem dX7_bestToWiden_69 : decode cX7_bestToWiden 69 = .ok (.aload_n 0, 1) := by decide +kernel
theorem dX7_bestToWiden_70 : decode cX7_bestToWiden 70 = .ok (.iload 4, 2) := by decide +kernel
theorem dX7_bestToWiden_72 : decode cX7_bestToWiden 72 = .ok (.invokevirtual 272, 3) := by decide +kernel
theorem dX7_bestToWiden_75 : decode cX7_bestToWiden 75 = .ok (.lstore 5, 2) := by decide +kernel
theorem dX7_bestToWiden_77 : decode cX7_bestToWiden 77 = .ok (.lload 5, 2) := by decide +kernel
theorem dX7_bestToWiden_79 : decode cX7_bestToWiden 79 = .ok (.lload_n 2, 1) := by decide +kernel
theorem dX7_bestToWiden_80 : decode cX7_bestToWiden 80 = .ok (.lcmp, 1) := by decide +kernel
theorem dX7_bestToWiden_81 : decode cX7_bestToWiden 81 = .ok (.ifCond .le 9, 3) := by decide +kernel
theorem dX7_bestToWiden_84 : decode cX7_bestToWiden 84 = .ok (.lload 5, 2) := by decide +kernel
theorem dX7_bestToWiden_86 : decode cX7_bestToWiden 86 = .ok (.lstore_n 2, 1) := by decide +kernel
theorem dX7_bestToWiden_87 : decode cX7_bestToWiden 87 = .ok (.iload 4, 2) := by decide +kernel
theorem dX7_bestToWiden_89 : decode cX7_bestToWiden 89 = .ok (.istore_n 1, 1) := by decide +kernel
theorem dX7_bestToWiden_90 : decode cX7_bestToWiden 90 = .ok (.iinc 4 1, 3) := by decide +kernel
theorem dX7_bestToWiden_93 : decode cX7_bestToWiden 93 = .ok (.goto (-83), 3) := by decide +kernel
theorem dX7_bestToWiden_96 : decode cX7_bestToWiden 96 = .ok (.iload_n 1, 1) := by decide +kernel
theorem dX7_bestToWiden_97 : decode cX7_bestToWiden 97 = .ok (.ireturn, 1) := by decide +kernel
theorem dX7_leastIfWidened_0 : decode cX7_leastIfWidened 0 = .ok (.aload_n 0, 1) := by decide +kernel
theorem dX7_leastIfWidened_1 : decode cX7_leastIfWidened 1 = .ok (.getfield 41, 3) := by decide +kernel
theorem dX7_leastIfWidened_4 : decode cX7_leastIfWidened 4 = .ok (.aload_n 0, 1) := by decide +kernel
theorem dX7_leastIfWidened_5 : decode cX7_leastIfWidened 5 = .ok (.getfield 37, 3) := by decide +kernel
theorem dX7_leastIfWidened_8 : decode cX7_leastIfWidened 8 = .ok (.invokevirtual 83, 3) := by decide +kernel
theorem dX7_leastIfWidened_11 : decode cX7_leastIfWidened 11 = .ok (.aload_n 0, 1) := by decide +kernel
theorem dX7_leastIfWidened_12 : decode cX7_leastIfWidened 12 = .ok (.getfield 41, 3) := by decide +kernel
theorem dX7_leastIfWidened_15 : decode cX7_leastIfWidened 15 = .ok (.getfield 151, 3) := by decide +kernel
theorem dX7_leastIfWidened_18 : decode cX7_leastIfWidened 18 = .ok (.iload_n 1, 1) := by decide +kernel
theorem dX7_leastIfWidened_19 : decode cX7_leastIfWidened 19 = .ok (.dup2, 1) := by decide +kernel
theorem dX7_leastIfWidened_20 : decode cX7_leastIfWidened 20 = .ok (.iaload, 1) := by decide +kernel
theorem dX7_leastIfWidened_21 : decode cX7_leastIfWidened 21 = .ok (.iconst 1, 1) := by decide +kernel
theorem dX7_leastIfWidened_22 : decode cX7_leastIfWidened 22 = .ok (.isub, 1) := by decide +kernel
theorem dX7_leastIfWidened_23 : decode cX7_leastIfWidened 23 = .ok (.iastore, 1) := by decide +kernel
theorem dX7_leastIfWidened_24 : decode cX7_leastIfWidened 24 = .ok (.aload_n 0, 1) := by decide +kernel
theorem dX7_leastIfWidened_25 : decode cX7_leastIfWidened 25 = .ok (.getfield 38, 3) := by decide +kernel
theorem dX7_leastIfWidened_28 : decode cX7_leastIfWidened 28 = .ok (.invokevirtual 248, 3) := by decide +kernel
theorem dX7_leastIfWidened_31 : decode cX7_leastIfWidened 31 = .ok (.aload_n 0, 1) := by decide +kernel
theorem dX7_leastIfWidened_32 : decode cX7_leastIfWidened 32 = .ok (.getfield 38, 3) := by decide +kernel
theorem dX7_leastIfWidened_35 : decode cX7_leastIfWidened 35 = .ok (.invokevirtual 332, 3) := by decide +kernel
theorem dX7_leastIfWidened_38 : decode cX7_leastIfWidened 38 = .ok (.lreturn, 1) := by decide +kernel
theorem dX7_findLeak_0 : decode cX7_findLeak 0 = .ok (.aload_n 0, 1) := by decide +kernel
theorem dX7_findLeak_1 : decode cX7_findLeak 1 = .ok (.getfield 54, 3) := by decide +kernel
theorem dX7_findLeak_4 : decode cX7_findLeak 4 = .ok (.ldc2_w 335, 3) := by decide +kernel
theorem dX7_findLeak_7 : decode cX7_findLeak 7 = .ok (.putfield 296, 3) := by decide +kernel
theorem dX7_findLeak_10 : decode cX7_findLeak 10 = .ok (.iconst 1, 1) := by decide +kernel
theorem dX7_findLeak_11 : decode cX7_findLeak 11 = .ok (.istore_n 1, 1) := by decide +kernel
theorem dX7_findLeak_12 : decode cX7_findLeak 12 = .ok (.iload_n 1, 1) := by decide +kernel
theorem dX7_findLeak_13 : decode cX7_findLeak 13 = .ok (.aload_n 0, 1) := by decide +kernel
theorem dX7_findLeak_14 : decode cX7_findLeak 14 = .ok (.getfield 37, 3) := by decide +kernel
theorem dX7_findLeak_17 : decode cX7_findLeak 17 = .ok (.getfield 98, 3) := by decide +kernel
theorem dX7_findLeak_20 : decode cX7_findLeak 20 = .ok (.if_icmp .ge 49, 3) := by decide +kernel
theorem dX7_findLeak_23 : decode cX7_findLeak 23 = .ok (.iconst 1, 1) := by decide +kernel
theorem dX7_findLeak_24 : decode cX7_findLeak 24 = .ok (.istore_n 2, 1) := by decide +kernel
theorem dX7_findLeak_25 : decode cX7_findLeak 25 = .ok (.iload_n 2, 1) := by decide +kernel
theorem dX7_findLeak_26 : decode cX7_findLeak 26 = .ok (.bipush 40, 2) := by decide +kernel
theorem dX7_findLeak_28 : decode cX7_findLeak 28 = .ok (.if_icmp .gt 35, 3) := by decide +kernel
theorem dX7_findLeak_31 : decode cX7_findLeak 31 = .ok (.aload_n 0, 1) := by decide +kernel
theorem dX7_findLeak_32 : decode cX7_findLeak 32 = .ok (.iload_n 1, 1) := by decide +kernel
theorem dX7_findLeak_33 : decode cX7_findLeak 33 = .ok (.iload_n 2, 1) := by decide +kernel
theorem dX7_findLeak_34 : decode cX7_findLeak 34 = .ok (.invokevirtual 265, 3) := by decide +kernel
theorem dX7_findLeak_37 : decode cX7_findLeak 37 = .ok (.aload_n 0, 1) := by decide +kernel
theorem dX7_findLeak_38 : decode cX7_findLeak 38 = .ok (.getfield 54, 3) := by decide +kernel
theorem dX7_findLeak_41 : decode cX7_findLeak 41 = .ok (.iload_n 1, 1) := by decide +kernel
theorem dX7_findLeak_42 : decode cX7_findLeak 42 = .ok (.iload_n 2, 1) := by decide +kernel
theorem dX7_findLeak_43 : decode cX7_findLeak 43 = .ok (.aload_n 0, 1) := by decide +kernel
theorem dX7_findLeak_44 : decode cX7_findLeak 44 = .ok (.getfield 54, 3) := by decide +kernel
theorem dX7_findLeak_47 : decode cX7_findLeak 47 = .ok (.aload_n 0, 1) := by decide +kernel
theorem dX7_findLeak_48 : decode cX7_findLeak 48 = .ok (.getfield 38, 3) := by decide +kernel
theorem dX7_findLeak_51 : decode cX7_findLeak 51 = .ok (.invokevirtual 280, 3) := by decide +kernel
theorem dX7_findLeak_54 : decode cX7_findLeak 54 = .ok (.invokevirtual 337, 3) := by decide +kernel
theorem dX7_findLeak_57 : decode cX7_findLeak 57 = .ok (.iinc 2 1, 3) := by decide +kernel
theorem dX7_findLeak_60 : decode cX7_findLeak 60 = .ok (.goto (-35), 3) := by decide +kernel
theorem dX7_findLeak_63 : decode cX7_findLeak 63 = .ok (.iinc 1 1, 3) := by decide +kernel
theorem dX7_findLeak_66 : decode cX7_findLeak 66 = .ok (.goto (-54), 3) := by decide +kernel
theorem dX7_findLeak_69 : decode cX7_findLeak 69 = .ok (.aload_n 0, 1) := by decide +kernel
theorem dX7_findLeak_70 : decode cX7_findLeak 70 = .ok (.getfield 54, 3) := by decide +kernel
theorem dX7_findLeak_73 : decode cX7_findLeak 73 = .ok (.iconst 1, 1) := by decide +kernel
theorem dX7_findLeak_74 : decode cX7_findLeak 74 = .ok (.putfield 284, 3) := by decide +kernel
theorem dX7_findLeak_77 : decode cX7_findLeak 77 = .ok (.return_, 1) := by decide +kernel
end
section
theorem dX8_init_0 : decode cX8_init 0 = .ok (.aload_n 0, 1) := by decide +kernel
theorem dX8_init_1 : decode cX8_init 1 = .ok (.invokespecial 3, 3) := by decide +kernel
theorem dX8_init_4 : decode cX8_init 4 = .ok (.aload_n 0, 1) := by decide +kernel
theorem dX8_init_5 : decode cX8_init 5 = .ok (.iconst (-1), 1) := by decide +kernel
theorem dX8_init_6 : decode cX8_init 6 = .ok (.putfield 11, 3) := by decide +kernel
theorem dX8_init_9 : decode cX8_init 9 = .ok (.aload_n 0, 1) := by decide +kernel
theorem dX8_init_10 : decode cX8_init 10 = .ok (.sipush 600, 3) := by decide +kernel
theorem dX8_init_13 : decode cX8_init 13 = .ok (.newarray .int, 2) := by decide +kernel
theorem dX8_init_15 : decode cX8_init 15 = .ok (.putfield 15, 3) := by decide +kernel
theorem dX8_init_18 : decode cX8_init 18 = .ok (.aload_n 0, 1) := by decide +kernel
theorem dX8_init_19 : decode cX8_init 19 = .ok (.bipush 18, 2) := by decide +kernel
theorem dX8_init_21 : decode cX8_init 21 = .ok (.newarray .int, 2) := by decide +kernel
theorem dX8_init_23 : decode cX8_init 23 = .ok (.putfield 19, 3) := by decide +kernel
theorem dX8_init_26 : decode cX8_init 26 = .ok (.aload_n 0, 1) := by decide +kernel
theorem dX8_init_27 : decode cX8_init 27 = .ok (.bipush 18, 2) := by decide +kernel
theorem dX8_init_29 : decode cX8_init 29 = .ok (.newarray .int, 2) := by decide +kernel
theorem dX8_init_31 : decode cX8_init 31 = .ok (.putfield 22, 3) := by decide +kernel
theorem dX8_init_34 : decode cX8_init 34 = .ok (.aload_n 0, 1) := by decide +kernel
theorem dX8_init_35 : decode cX8_init 35 = .ok (.bipush 108, 2) := by decide +kernel
theorem dX8_init_37 : decode cX8_init 37 = .ok (.newarray .int, 2) := by decide +kernel
theorem dX8_init_39 : decode cX8_init 39 = .ok (.putfield 25, 3) := by decide +kernel
theorem dX8_init_42 : decode cX8_init 42 = .ok (.aload_n 0, 1) := by decide +kernel
theorem dX8_init_43 : decode cX8_init 43 = .ok (.bipush 28, 2) := by decide +kernel
theorem dX8_init_45 : decode cX8_init 45 = .ok (.newarray .int, 2) := by decide +kernel
theorem dX8_init_47 : decode cX8_init 47 = .ok (.putfield 28, 3) := by decide +kernel
theorem dX8_init_50 : decode cX8_init 50 = .ok (.aload_n 0, 1) := by decide +kernel
theorem dX8_init_51 : decode cX8_init 51 = .ok (.bipush 28, 2) := by decide +kernel
theorem dX8_init_53 : decode cX8_init 53 = .ok (.newarray .int, 2) := by decide +kernel
theorem dX8_init_55 : decode cX8_init 55 = .ok (.putfield 31, 3) := by decide +kernel
theorem dX8_init_58 : decode cX8_init 58 = .ok (.aload_n 0, 1) := by decide +kernel
theorem dX8_init_59 : decode cX8_init 59 = .ok (.bipush 28, 2) := by decide +kernel
theorem dX8_init_61 : decode cX8_init 61 = .ok (.newarray .int, 2) := by decide +kernel
theorem dX8_init_63 : decode cX8_init 63 = .ok (.putfield 34, 3) := by decide +kernel
theorem dX8_init_66 : decode cX8_init 66 = .ok (.aload_n 0, 1) := by decide +kernel
theorem dX8_init_67 : decode cX8_init 67 = .ok (.bipush 28, 2) := by decide +kernel
theorem dX8_init_69 : decode cX8_init 69 = .ok (.newarray .int, 2) := by decide +kernel
theorem dX8_init_71 : decode cX8_init 71 = .ok (.putfield 37, 3) := by decide +kernel
theorem dX8_init_74 : decode cX8_init 74 = .ok (.aload_n 0, 1) := by decide +kernel
theorem dX8_init_75 : decode cX8_init 75 = .ok (.sipush 168, 3) := by decide +kernel
theorem dX8_init_78 : decode cX8_init 78 = .ok (.newarray .int, 2) := by decide +kernel
theorem dX8_init_80 : decode cX8_init 80 = .ok (.putfield 40, 3) := by decide +kernel
theorem dX8_init_83 : decode cX8_init 83 = .ok (.aload_n 0, 1) := by decide +kernel
theorem dX8_init_84 : decode cX8_init 84 = .ok (.bipush 28, 2) := by decide +kernel
theorem dX8_init_86 : decode cX8_init 86 = .ok (.newarray .int, 2) := by decide +kernel
theorem dX8_init_88 : decode cX8_init 88 = .ok (.putfield 43, 3) := by decide +kernel
theorem dX8_init_91 : decode cX8_init 91 = .ok (.aload_n 0, 1) := by decide +kernel
theorem dX8_init_92 : decode cX8_init 92 = .ok (.bipush 9, 2) := by decide +kernel
theorem dX8_init_94 : decode cX8_init 94 = .ok (.newarray .int, 2) := by decide +kernel
theorem dX8_init_96 : decode cX8_init 96 = .ok (.putfield 46, 3) := by decide +kernel
theorem dX8_init_99 : decode cX8_init 99 = .ok (.aload_n 0, 1) := by decide +kernel
theorem dX8_init_100 : decode cX8_init 100 = .ok (.bipush 9, 2) := by decide +kernel
theorem dX8_init_102 : decode cX8_init 102 = .ok (.newarray .int, 2) := by decide +kernel
theorem dX8_init_104 : decode cX8_init 104 = .ok (.putfield 49, 3) := by decide +kernel
theorem dX8_init_107 : decode cX8_init 107 = .ok (.aload_n 0, 1) := by decide +kernel
theorem dX8_init_108 : decode cX8_init 108 = .ok (.bipush 14, 2) := by decide +kernel
theorem dX8_init_110 : decode cX8_init 110 = .ok (.newarray .long, 2) := by decide +kernel
theorem dX8_init_112 : decode cX8_init 112 = .ok (.putfield 52, 3) := by decide +kernel
theorem dX8_init_115 : decode cX8_init 115 = .ok (.aload_n 0, 1) := by decide +kernel
theorem dX8_init_116 : decode cX8_init 116 = .ok (.sipush 196, 3) := by decide +kernel
theorem dX8_init_119 : decode cX8_init 119 = .ok (.newarray .int, 2) := by decide +kernel
theorem dX8_init_121 : decode cX8_init 121 = .ok (.putfield 56, 3) := by decide +kernel
theorem dX8_init_124 : decode cX8_init 124 = .ok (.aload_n 0, 1) := by decide +kernel
theorem dX8_init_125 : decode cX8_init 125 = .ok (.sipush 196, 3) := by decide +kernel
theorem dX8_init_128 : decode cX8_init 128 = .ok (.newarray .int, 2) := by decide +kernel
theorem dX8_init_130 : decode cX8_init 130 = .ok (.putfield 59, 3) := by decide +kernel
theorem dX8_init_133 : decode cX8_init 133 = .ok (.aload_n 0, 1) := by decide +kernel
theorem dX8_init_134 : decode cX8_init 134 = .ok (.bipush 14, 2) := by decide +kernel
theorem dX8_init_136 : decode cX8_init 136 = .ok (.newarray .int, 2) := by decide +kernel
theorem dX8_init_138 : decode cX8_init 138 = .ok (.putfield 62, 3) := by decide +kernel
theorem dX8_init_141 : decode cX8_init 141 = .ok (.aload_n 0, 1) := by decide +kernel
theorem dX8_init_142 : decode cX8_init 142 = .ok (.bipush 9, 2) := by decide +kernel
theorem dX8_init_144 : decode cX8_init 144 = .ok (.newarray .long, 2) := by decide +kernel
theorem dX8_init_146 : decode cX8_init 146 = .ok (.putfield 65, 3) := by decide +kernel
theorem dX8_init_149 : decode cX8_init 149 = .ok (.aload_n 0, 1) := by decide +kernel
theorem dX8_init_150 : decode cX8_init 150 = .ok (.bipush 9, 2) := by decide +kernel
theorem dX8_init_152 : decode cX8_init 152 = .ok (.newarray .int, 2) := by decide +kernel
theorem dX8_init_154 : decode cX8_init 154 = .ok (.putfield 68, 3) := by decide +kernel
theorem dX8_init_157 : decode cX8_init 157 = .ok (.aload_n 0, 1) := by decide +kernel
theorem dX8_init_158 : decode cX8_init 158 = .ok (.bipush 9, 2) := by decide +kernel
theorem dX8_init_160 : decode cX8_init 160 = .ok (.newarray .long, 2) := by decide +kernel
theorem dX8_init_162 : decode cX8_init 162 = .ok (.putfield 71, 3) := by decide +kernel
theorem dX8_init_165 : decode cX8_init 165 = .ok (.aload_n 0, 1) := by decide +kernel
theorem dX8_init_166 : decode cX8_init 166 = .ok (.iconst (-1), 1) := by decide +kernel
theorem dX8_init_167 : decode cX8_init 167 = .ok (.putfield 74, 3) := by decide +kernel
theorem dX8_init_170 : decode cX8_init 170 = .ok (.aload_n 0, 1) := by decide +kernel
theorem dX8_init_171 : decode cX8_init 171 = .ok (.bipush 100, 2) := by decide +kernel
theorem dX8_init_173 : decode cX8_init 173 = .ok (.putfield 77, 3) := by decide +kernel
theorem dX8_init_176 : decode cX8_init 176 = .ok (.aload_n 0, 1) := by decide +kernel
theorem dX8_init_177 : decode cX8_init 177 = .ok (.bipush 9, 2) := by decide +kernel
theorem dX8_init_179 : decode cX8_init 179 = .ok (.newarray .boolean, 2) := by decide +kernel
theorem dX8_init_181 : decode cX8_init 181 = .ok (.putfield 80, 3) := by decide +kernel
theorem dX8_init_184 : decode cX8_init 184 = .ok (.aload_n 0, 1) := by decide +kernel
theorem dX8_init_185 : decode cX8_init 185 = .ok (.bipush 9, 2) := by decide +kernel
theorem dX8_init_187 : decode cX8_init 187 = .ok (.newarray .int, 2) := by decide +kernel
theorem dX8_init_189 : decode cX8_init 189 = .ok (.putfield 84, 3) := by decide +kernel
theorem dX8_init_192 : decode cX8_init 192 = .ok (.aload_n 0, 1) := by decide +kernel
theorem dX8_init_193 : decode cX8_init 193 = .ok (.bipush 108, 2) := by decide +kernel
theorem dX8_init_195 : decode cX8_init 195 = .ok (.newarray .int, 2) := by decide +kernel
theorem dX8_init_197 : decode cX8_init 197 = .ok (.putfield 87, 3) := by decide +kernel
theorem dX8_init_200 : decode cX8_init 200 = .ok (.aload_n 0, 1) := by decide +kernel
theorem dX8_init_201 : decode cX8_init 201 = .ok (.sipush 168, 3) := by decide +kernel
theorem dX8_init_204 : decode cX8_init 204 = .ok (.newarray .int, 2) := by decide +kernel
theorem dX8_init_206 : decode cX8_init 206 = .ok (.putfield 90, 3) := by decide +kernel
theorem dX8_init_209 : decode cX8_init 209 = .ok (.aload_n 0, 1) := by decide +kernel
theorem dX8_init_210 : decode cX8_init 210 = .ok (.bipush 12, 2) := by decide +kernel
theorem dX8_init_212 : decode cX8_init 212 = .ok (.newarray .int, 2) := by decide +kernel
theorem dX8_init_214 : decode cX8_init 214 = .ok (.putfield 93, 3) := by decide +kernel
theorem dX8_init_217 : decode cX8_init 217 = .ok (.return_, 1) := by decide +kernel
theorem dX8_thrown_0 : decode cX8_thrown 0 = .ok (.aload_n 0, 1) := by decide +kernel
theorem dX8_thrown_1 : decode cX8_thrown 1 = .ok (.getfield 96, 3) := by decide +kernel
theorem dX8_thrown_4 : decode cX8_thrown 4 = .ok (.ireturn, 1) := by decide +kernel
theorem dX8_in_0 : decode cX8_in 0 = .ok (.lload_n 0, 1) := by decide +kernel
theorem dX8_in_1 : decode cX8_in 1 = .ok (.lload_n 2, 1) := by decide +kernel
theorem dX8_in_2 : decode cX8_in 2 = .ok (.lcmp, 1) := by decide +kernel
theorem dX8_in_3 : decode cX8_in 3 = .ok (.ifCond .lt 14, 3) := by decide +kernel
theorem dX8_in_6 : decode cX8_in 6 = .ok (.lload_n 0, 1) := by decide +kernel
theorem dX8_in_7 : decode cX8_in 7 = .ok (.lload 4, 2) := by decide +kernel
theorem dX8_in_9 : decode cX8_in 9 = .ok (.lcmp, 1) := by decide +kernel
theorem dX8_in_10 : decode cX8_in 10 = .ok (.ifCond .gt 7, 3) := by decide +kernel
theorem dX8_in_13 : decode cX8_in 13 = .ok (.iconst 1, 1) := by decide +kernel
theorem dX8_in_14 : decode cX8_in 14 = .ok (.goto 4, 3) := by decide +kernel
theorem dX8_in_17 : decode cX8_in 17 = .ok (.iconst 0, 1) := by decide +kernel
theorem dX8_in_18 : decode cX8_in 18 = .ok (.ireturn, 1) := by decide +kernel
theorem dX8_no_0 : decode cX8_no 0 = .ok (.aload_n 0, 1) := by decide +kernel
theorem dX8_no_1 : decode cX8_no 1 = .ok (.iload_n 1, 1) := by decide +kernel
theorem dX8_no_2 : decode cX8_no 2 = .ok (.putfield 99, 3) := by decide +kernel
theorem dX8_no_5 : decode cX8_no 5 = .ok (.iconst (-1), 1) := by decide +kernel
theorem dX8_no_6 : decode cX8_no 6 = .ok (.ireturn, 1) := by decide +kernel
theorem dX8_nothing_0 : decode cX8_nothing 0 = .ok (.aload_n 0, 1) := by decide +kernel
theorem dX8_nothing_1 : decode cX8_nothing 1 = .ok (.iload_n 1, 1) := by decide +kernel
theorem dX8_nothing_2 : decode cX8_nothing 2 = .ok (.putfield 99, 3) := by decide +kernel
theorem dX8_nothing_5 : decode cX8_nothing 5 = .ok (.ldc2_w 102, 3) := by decide +kernel
theorem dX8_nothing_8 : decode cX8_nothing 8 = .ok (.lreturn, 1) := by decide +kernel
theorem dX8_isRefused_0 : decode cX8_isRefused 0 = .ok (.aload_n 0, 1) := by decide +kernel
theorem dX8_isRefused_1 : decode cX8_isRefused 1 = .ok (.iconst 0, 1) := by decide +kernel
theorem dX8_isRefused_2 : decode cX8_isRefused 2 = .ok (.putfield 96, 3) := by decide +kernel
theorem dX8_isRefused_5 : decode cX8_isRefused 5 = .ok (.aload_n 0, 1) := by decide +kernel
theorem dX8_isRefused_6 : decode cX8_isRefused 6 = .ok (.iconst (-1), 1) := by decide +kernel
theorem dX8_isRefused_7 : decode cX8_isRefused 7 = .ok (.putfield 11, 3) := by decide +kernel
theorem dX8_isRefused_10 : decode cX8_isRefused 10 = .ok (.aload_n 0, 1) := by decide +kernel
theorem dX8_isRefused_11 : decode cX8_isRefused 11 = .ok (.iload_n 1, 1) := by decide +kernel
theorem dX8_isRefused_12 : decode cX8_isRefused 12 = .ok (.putfield 99, 3) := by decide +kernel
theorem dX8_isRefused_15 : decode cX8_isRefused 15 = .ok (.iload_n 1, 1) := by decide +kernel
theorem dX8_isRefused_16 : decode cX8_isRefused 16 = .ok (.ifCond .eq 7, 3) := by decide +kernel
theorem dX8_isRefused_19 : decode cX8_isRefused 19 = .ok (.iconst 1, 1) := by decide +kernel
theorem dX8_isRefused_20 : decode cX8_isRefused 20 = .ok (.goto 4, 3) := by decide +kernel
theorem dX8_isRefused_23 : decode cX8_isRefused 23 = .ok (.iconst 0, 1) := by decide +kernel
theorem dX8_isRefused_24 : decode cX8_isRefused 24 = .ok (.ireturn, 1) := by decide +kernel
theorem dX8_unless_0 : decode cX8_unless 0 = .ok (.iload_n 0, 1) := by decide +kernel
theorem dX8_unless_1 : decode cX8_unless 1 = .ok (.ifCond .eq 7, 3) := by decide +kernel
theorem dX8_unless_4 : decode cX8_unless 4 = .ok (.iconst 0, 1) := by decide +kernel
theorem dX8_unless_5 : decode cX8_unless 5 = .ok (.goto 4, 3) := by decide +kernel
theorem dX8_unless_8 : decode cX8_unless 8 = .ok (.iconst 1, 1) := by decide +kernel
theorem dX8_unless_9 : decode cX8_unless 9 = .ok (.ireturn, 1) := by decide +kernel
theorem dX8_unless__0 : decode cX8_unless_ 0 = .ok (.iload_n 0, 1) := by decide +kernel
theorem dX8_unless__1 : decode cX8_unless_ 1 = .ok (.ifCond .ne 7, 3) := by decide +kernel
theorem dX8_unless__4 : decode cX8_unless_ 4 = .ok (.iconst 1, 1) := by decide +kernel
theorem dX8_unless__5 : decode cX8_unless_ 5 = .ok (.goto 12, 3) := by decide +kernel
theorem dX8_unless__8 : decode cX8_unless_ 8 = .ok (.iload_n 1, 1) := by decide +kernel
theorem dX8_unless__9 : decode cX8_unless_ 9 = .ok (.ifCond .eq 7, 3) := by decide +kernel
theorem dX8_unless__12 : decode cX8_unless_ 12 = .ok (.iconst 0, 1) := by decide +kernel
theorem dX8_unless__13 : decode cX8_unless_ 13 = .ok (.goto 4, 3) := by decide +kernel
theorem dX8_unless__16 : decode cX8_unless_ 16 = .ok (.iconst 2, 1) := by decide +kernel
theorem dX8_unless__17 : decode cX8_unless_ 17 = .ok (.ireturn, 1) := by decide +kernel
theorem dX8_feed_0 : decode cX8_feed 0 = .ok (.aload_n 0, 1) := by decide +kernel
theorem dX8_feed_1 : decode cX8_feed 1 = .ok (.iconst 0, 1) := by decide +kernel
theorem dX8_feed_2 : decode cX8_feed 2 = .ok (.putfield 96, 3) := by decide +kernel
theorem dX8_feed_5 : decode cX8_feed 5 = .ok (.aload_n 0, 1) := by decide +kernel
theorem dX8_feed_6 : decode cX8_feed 6 = .ok (.getfield 104, 3) := by decide +kernel
theorem dX8_feed_9 : decode cX8_feed 9 = .ok (.sipush 580, 3) := by decide +kernel
theorem dX8_feed_12 : decode cX8_feed 12 = .ok (.if_icmp .le 5, 3) := by decide +kernel
theorem dX8_feed_15 : decode cX8_feed 15 = .ok (.iconst (-1), 1) := by decide +kernel
theorem dX8_feed_16 : decode cX8_feed 16 = .ok (.ireturn, 1) := by decide +kernel
theorem dX8_feed_17 : decode cX8_feed 17 = .ok (.aload_n 0, 1) := by decide +kernel
theorem dX8_feed_18 : decode cX8_feed 18 = .ok (.iload_n 1, 1) := by decide +kernel
theorem dX8_feed_19 : decode cX8_feed 19 = .ok (.invokevirtual 107, 3) := by decide +kernel
theorem dX8_feed_22 : decode cX8_feed 22 = .ok (.aload_n 0, 1) := by decide +kernel
theorem dX8_feed_23 : decode cX8_feed 23 = .ok (.iload_n 2, 1) := by decide +kernel
theorem dX8_feed_24 : decode cX8_feed 24 = .ok (.invokevirtual 107, 3) := by decide +kernel
theorem dX8_feed_27 : decode cX8_feed 27 = .ok (.aload_n 0, 1) := by decide +kernel
theorem dX8_feed_28 : decode cX8_feed 28 = .ok (.iload_n 3, 1) := by decide +kernel
theorem dX8_feed_29 : decode cX8_feed 29 = .ok (.invokevirtual 107, 3) := by decide +kernel
theorem dX8_feed_32 : decode cX8_feed 32 = .ok (.aload_n 0, 1) := by decide +kernel
theorem dX8_feed_33 : decode cX8_feed 33 = .ok (.iload 4, 2) := by decide +kernel
theorem dX8_feed_35 : decode cX8_feed 35 = .ok (.invokevirtual 107, 3) := by decide +kernel
theorem dX8_feed_38 : decode cX8_feed 38 = .ok (.aload_n 0, 1) := by decide +kernel
theorem dX8_feed_39 : decode cX8_feed 39 = .ok (.iload 5, 2) := by decide +kernel
theorem dX8_feed_41 : decode cX8_feed 41 = .ok (.invokevirtual 107, 3) := by decide +kernel
theorem dX8_feed_44 : decode cX8_feed 44 = .ok (.aload_n 0, 1) := by decide +kernel
theorem dX8_feed_45 : decode cX8_feed 45 = .ok (.getfield 104, 3) := by decide +kernel
theorem dX8_feed_48 : decode cX8_feed 48 = .ok (.ireturn, 1) := by decide +kernel
theorem dX8_laysWord_0 : decode cX8_laysWord 0 = .ok (.iconst 0, 1) := by decide +kernel
theorem dX8_laysWord_1 : decode cX8_laysWord 1 = .ok (.istore_n 2, 1) := by decide +kernel
theorem dX8_laysWord_2 : decode cX8_laysWord 2 = .ok (.iload_n 2, 1) := by decide +kernel
theorem dX8_laysWord_3 : decode cX8_laysWord 3 = .ok (.iconst 4, 1) := by decide +kernel
theorem dX8_laysWord_4 : decode cX8_laysWord 4 = .ok (.if_icmp .ge 33, 3) := by decide +kernel
theorem dX8_laysWord_7 : decode cX8_laysWord 7 = .ok (.aload_n 0, 1) := by decide +kernel
theorem dX8_laysWord_8 : decode cX8_laysWord 8 = .ok (.getfield 15, 3) := by decide +kernel
theorem dX8_laysWord_11 : decode cX8_laysWord 11 = .ok (.aload_n 0, 1) := by decide +kernel
theorem dX8_laysWord_12 : decode cX8_laysWord 12 = .ok (.getfield 104, 3) := by decide +kernel
theorem dX8_laysWord_15 : decode cX8_laysWord 15 = .ok (.iload_n 2, 1) := by decide +kernel
theorem dX8_laysWord_16 : decode cX8_laysWord 16 = .ok (.iadd, 1) := by decide +kernel
theorem dX8_laysWord_17 : decode cX8_laysWord 17 = .ok (.iload_n 1, 1) := by decide +kernel
theorem dX8_laysWord_18 : decode cX8_laysWord 18 = .ok (.bipush 24, 2) := by decide +kernel
theorem dX8_laysWord_20 : decode cX8_laysWord 20 = .ok (.bipush 8, 2) := by decide +kernel
theorem dX8_laysWord_22 : decode cX8_laysWord 22 = .ok (.iload_n 2, 1) := by decide +kernel
theorem dX8_laysWord_23 : decode cX8_laysWord 23 = .ok (.imul, 1) := by decide +kernel
theorem dX8_laysWord_24 : decode cX8_laysWord 24 = .ok (.isub, 1) := by decide +kernel
theorem dX8_laysWord_25 : decode cX8_laysWord 25 = .ok (.ishr, 1) := by decide +kernel
theorem dX8_laysWord_26 : decode cX8_laysWord 26 = .ok (.sipush 255, 3) := by decide +kernel
theorem dX8_laysWord_29 : decode cX8_laysWord 29 = .ok (.iand, 1) := by decide +kernel
theorem dX8_laysWord_30 : decode cX8_laysWord 30 = .ok (.iastore, 1) := by decide +kernel
theorem dX8_laysWord_31 : decode cX8_laysWord 31 = .ok (.iinc 2 1, 3) := by decide +kernel
theorem dX8_laysWord_34 : decode cX8_laysWord 34 = .ok (.goto (-32), 3) := by decide +kernel
theorem dX8_laysWord_37 : decode cX8_laysWord 37 = .ok (.aload_n 0, 1) := by decide +kernel
theorem dX8_laysWord_38 : decode cX8_laysWord 38 = .ok (.dup, 1) := by decide +kernel
theorem dX8_laysWord_39 : decode cX8_laysWord 39 = .ok (.getfield 104, 3) := by decide +kernel
theorem dX8_laysWord_42 : decode cX8_laysWord 42 = .ok (.iconst 4, 1) := by decide +kernel
theorem dX8_laysWord_43 : decode cX8_laysWord 43 = .ok (.iadd, 1) := by decide +kernel
theorem dX8_laysWord_44 : decode cX8_laysWord 44 = .ok (.putfield 104, 3) := by decide +kernel
theorem dX8_laysWord_47 : decode cX8_laysWord 47 = .ok (.return_, 1) := by decide +kernel
theorem dX8_see_0 : decode cX8_see 0 = .ok (.iload_n 1, 1) := by decide +kernel
theorem dX8_see_1 : decode cX8_see 1 = .ok (.aload_n 0, 1) := by decide +kernel
theorem dX8_see_2 : decode cX8_see 2 = .ok (.getfield 111, 3) := by decide +kernel
theorem dX8_see_5 : decode cX8_see 5 = .ok (.if_icmp .ge 12, 3) := by decide +kernel
theorem dX8_see_8 : decode cX8_see 8 = .ok (.aload_n 0, 1) := by decide +kernel
theorem dX8_see_9 : decode cX8_see 9 = .ok (.getfield 15, 3) := by decide +kernel
theorem dX8_see_12 : decode cX8_see 12 = .ok (.iload_n 1, 1) := by decide +kernel
theorem dX8_see_13 : decode cX8_see 13 = .ok (.iaload, 1) := by decide +kernel
theorem dX8_see_14 : decode cX8_see 14 = .ok (.goto 4, 3) := by decide +kernel
theorem dX8_see_17 : decode cX8_see 17 = .ok (.iconst (-1), 1) := by decide +kernel
theorem dX8_see_18 : decode cX8_see 18 = .ok (.ireturn, 1) := by decide +kernel
theorem dX8_goesOn_0 : decode cX8_goesOn 0 = .ok (.aload_n 0, 1) := by decide +kernel
theorem dX8_goesOn_1 : decode cX8_goesOn 1 = .ok (.aload_n 0, 1) := by decide +kernel
theorem dX8_goesOn_2 : decode cX8_goesOn 2 = .ok (.getfield 114, 3) := by decide +kernel
theorem dX8_goesOn_5 : decode cX8_goesOn 5 = .ok (.invokevirtual 117, 3) := by decide +kernel
theorem dX8_goesOn_8 : decode cX8_goesOn 8 = .ok (.bipush 32, 2) := by decide +kernel
theorem dX8_goesOn_10 : decode cX8_goesOn 10 = .ok (.if_icmp .ne 16, 3) := by decide +kernel
theorem dX8_goesOn_13 : decode cX8_goesOn 13 = .ok (.aload_n 0, 1) := by decide +kernel
theorem dX8_goesOn_14 : decode cX8_goesOn 14 = .ok (.dup, 1) := by decide +kernel
theorem dX8_goesOn_15 : decode cX8_goesOn 15 = .ok (.getfield 114, 3) := by decide +kernel
theorem dX8_goesOn_18 : decode cX8_goesOn 18 = .ok (.iconst 1, 1) := by decide +kernel
theorem dX8_goesOn_19 : decode cX8_goesOn 19 = .ok (.iadd, 1) := by decide +kernel
theorem dX8_goesOn_20 : decode cX8_goesOn 20 = .ok (.putfield 114, 3) := by decide +kernel
theorem dX8_goesOn_23 : decode cX8_goesOn 23 = .ok (.goto (-23), 3) := by decide +kernel
theorem dX8_goesOn_26 : decode cX8_goesOn 26 = .ok (.aload_n 0, 1) := by decide +kernel
theorem dX8_goesOn_27 : decode cX8_goesOn 27 = .ok (.aload_n 0, 1) := by decide +kernel
theorem dX8_goesOn_28 : decode cX8_goesOn 28 = .ok (.getfield 114, 3) := by decide +kernel
theorem dX8_goesOn_31 : decode cX8_goesOn 31 = .ok (.putfield 121, 3) := by decide +kernel
theorem dX8_goesOn_34 : decode cX8_goesOn 34 = .ok (.aload_n 0, 1) := by decide +kernel
theorem dX8_goesOn_35 : decode cX8_goesOn 35 = .ok (.aload_n 0, 1) := by decide +kernel
theorem dX8_goesOn_36 : decode cX8_goesOn 36 = .ok (.getfield 114, 3) := by decide +kernel
theorem dX8_goesOn_39 : decode cX8_goesOn 39 = .ok (.invokevirtual 117, 3) := by decide +kernel
theorem dX8_goesOn_42 : decode cX8_goesOn 42 = .ok (.istore_n 1, 1) := by decide +kernel
theorem dX8_goesOn_43 : decode cX8_goesOn 43 = .ok (.iload_n 1, 1) := by decide +kernel
theorem dX8_goesOn_44 : decode cX8_goesOn 44 = .ok (.iconst (-1), 1) := by decide +kernel
theorem dX8_goesOn_45 : decode cX8_goesOn 45 = .ok (.if_icmp .ne 9, 3) := by decide +kernel
theorem dX8_goesOn_48 : decode cX8_goesOn 48 = .ok (.aload_n 0, 1) := by decide +kernel
theorem dX8_goesOn_49 : decode cX8_goesOn 49 = .ok (.iconst 0, 1) := by decide +kernel
theorem dX8_goesOn_50 : decode cX8_goesOn 50 = .ok (.putfield 124, 3) := by decide +kernel
theorem dX8_goesOn_53 : decode cX8_goesOn 53 = .ok (.return_, 1) := by decide +kernel
theorem dX8_goesOn_54 : decode cX8_goesOn 54 = .ok (.iload_n 1, 1) := by decide +kernel
theorem dX8_goesOn_55 : decode cX8_goesOn 55 = .ok (.i2l, 1) := by decide +kernel
theorem dX8_goesOn_56 : decode cX8_goesOn 56 = .ok (.ldc2_w 127, 3) := by decide +kernel
theorem dX8_goesOn_59 : decode cX8_goesOn 59 = .ok (.ldc2_w 129, 3) := by decide +kernel
theorem dX8_goesOn_62 : decode cX8_goesOn 62 = .ok (.invokestatic 131, 3) := by decide +kernel
theorem dX8_goesOn_65 : decode cX8_goesOn 65 = .ok (.ifCond .eq 61, 3) := by decide +kernel
theorem dX8_goesOn_68 : decode cX8_goesOn 68 = .ok (.aload_n 0, 1) := by decide +kernel
theorem dX8_goesOn_69 : decode cX8_goesOn 69 = .ok (.aload_n 0, 1) := by decide +kernel
theorem dX8_goesOn_70 : decode cX8_goesOn 70 = .ok (.getfield 114, 3) := by decide +kernel
theorem dX8_goesOn_73 : decode cX8_goesOn 73 = .ok (.invokevirtual 117, 3) := by decide +kernel
theorem dX8_goesOn_76 : decode cX8_goesOn 76 = .ok (.i2l, 1) := by decide +kernel
theorem dX8_goesOn_77 : decode cX8_goesOn 77 = .ok (.ldc2_w 127, 3) := by decide +kernel
theorem dX8_goesOn_80 : decode cX8_goesOn 80 = .ok (.ldc2_w 129, 3) := by decide +kernel
theorem dX8_goesOn_83 : decode cX8_goesOn 83 = .ok (.invokestatic 131, 3) := by decide +kernel
theorem dX8_goesOn_86 : decode cX8_goesOn 86 = .ok (.ifCond .eq 16, 3) := by decide +kernel
theorem dX8_goesOn_89 : decode cX8_goesOn 89 = .ok (.aload_n 0, 1) := by decide +kernel
theorem dX8_goesOn_90 : decode cX8_goesOn 90 = .ok (.dup, 1) := by decide +kernel
theorem dX8_goesOn_91 : decode cX8_goesOn 91 = .ok (.getfield 114, 3) := by decide +kernel
theorem dX8_goesOn_94 : decode cX8_goesOn 94 = .ok (.iconst 1, 1) := by decide +kernel
theorem dX8_goesOn_95 : decode cX8_goesOn 95 = .ok (.iadd, 1) := by decide +kernel
theorem dX8_goesOn_96 : decode cX8_goesOn 96 = .ok (.putfield 114, 3) := by decide +kernel
theorem dX8_goesOn_99 : decode cX8_goesOn 99 = .ok (.goto (-31), 3) := by decide +kernel
theorem dX8_goesOn_102 : decode cX8_goesOn 102 = .ok (.aload_n 0, 1) := by decide +kernel
theorem dX8_goesOn_103 : decode cX8_goesOn 103 = .ok (.aload_n 0, 1) := by decide +kernel
theorem dX8_goesOn_104 : decode cX8_goesOn 104 = .ok (.getfield 114, 3) := by decide +kernel
theorem dX8_goesOn_107 : decode cX8_goesOn 107 = .ok (.aload_n 0, 1) := by decide +kernel
theorem dX8_goesOn_108 : decode cX8_goesOn 108 = .ok (.getfield 121, 3) := by decide +kernel
theorem dX8_goesOn_111 : decode cX8_goesOn 111 = .ok (.isub, 1) := by decide +kernel
theorem dX8_goesOn_112 : decode cX8_goesOn 112 = .ok (.bipush 6, 2) := by decide +kernel
theorem dX8_goesOn_114 : decode cX8_goesOn 114 = .ok (.if_icmp .le 7, 3) := by decide +kernel
theorem dX8_goesOn_117 : decode cX8_goesOn 117 = .ok (.iconst 1, 1) := by decide +kernel
theorem dX8_goesOn_118 : decode cX8_goesOn 118 = .ok (.goto 4, 3) := by decide +kernel
theorem dX8_goesOn_121 : decode cX8_goesOn 121 = .ok (.iconst 2, 1) := by decide +kernel
theorem dX8_goesOn_122 : decode cX8_goesOn 122 = .ok (.putfield 124, 3) := by decide +kernel
theorem dX8_goesOn_125 : decode cX8_goesOn 125 = .ok (.return_, 1) := by decide +kernel
theorem dX8_goesOn_126 : decode cX8_goesOn 126 = .ok (.iload_n 1, 1) := by decide +kernel
theorem dX8_goesOn_127 : decode cX8_goesOn 127 = .ok (.i2l, 1) := by decide +kernel
theorem dX8_goesOn_128 : decode cX8_goesOn 128 = .ok (.ldc2_w 135, 3) := by decide +kernel
theorem dX8_goesOn_131 : decode cX8_goesOn 131 = .ok (.ldc2_w 137, 3) := by decide +kernel
theorem dX8_goesOn_134 : decode cX8_goesOn 134 = .ok (.invokestatic 131, 3) := by decide +kernel
theorem dX8_goesOn_137 : decode cX8_goesOn 137 = .ok (.ifCond .eq 108, 3) := by decide +kernel
theorem dX8_goesOn_140 : decode cX8_goesOn 140 = .ok (.aload_n 0, 1) := by decide +kernel
theorem dX8_goesOn_141 : decode cX8_goesOn 141 = .ok (.iconst 0, 1) := by decide +kernel
theorem dX8_goesOn_142 : decode cX8_goesOn 142 = .ok (.putfield 139, 3) := by decide +kernel
theorem dX8_goesOn_145 : decode cX8_goesOn 145 = .ok (.aload_n 0, 1) := by decide +kernel
theorem dX8_goesOn_146 : decode cX8_goesOn 146 = .ok (.aload_n 0, 1) := by decide +kernel
theorem dX8_goesOn_147 : decode cX8_goesOn 147 = .ok (.getfield 114, 3) := by decide +kernel
theorem dX8_goesOn_150 : decode cX8_goesOn 150 = .ok (.invokevirtual 117, 3) := by decide +kernel
theorem dX8_goesOn_153 : decode cX8_goesOn 153 = .ok (.i2l, 1) := by decide +kernel
theorem dX8_goesOn_154 : decode cX8_goesOn 154 = .ok (.ldc2_w 135, 3) := by decide +kernel
theorem dX8_goesOn_157 : decode cX8_goesOn 157 = .ok (.ldc2_w 137, 3) := by decide +kernel
theorem dX8_goesOn_160 : decode cX8_goesOn 160 = .ok (.invokestatic 131, 3) := by decide +kernel
theorem dX8_goesOn_163 : decode cX8_goesOn 163 = .ok (.ifCond .eq 59, 3) := by decide +kernel
theorem dX8_goesOn_166 : decode cX8_goesOn 166 = .ok (.aload_n 0, 1) := by decide +kernel
theorem dX8_goesOn_167 : decode cX8_goesOn 167 = .ok (.aload_n 0, 1) := by decide +kernel
theorem dX8_goesOn_168 : decode cX8_goesOn 168 = .ok (.getfield 114, 3) := by decide +kernel
theorem dX8_goesOn_171 : decode cX8_goesOn 171 = .ok (.aload_n 0, 1) := by decide +kernel
theorem dX8_goesOn_172 : decode cX8_goesOn 172 = .ok (.getfield 121, 3) := by decide +kernel
theorem dX8_goesOn_175 : decode cX8_goesOn 175 = .ok (.isub, 1) := by decide +kernel
theorem dX8_goesOn_176 : decode cX8_goesOn 176 = .ok (.iconst 3, 1) := by decide +kernel
theorem dX8_goesOn_177 : decode cX8_goesOn 177 = .ok (.if_icmp .ge 25, 3) := by decide +kernel
theorem dX8_goesOn_180 : decode cX8_goesOn 180 = .ok (.bipush 10, 2) := by decide +kernel
theorem dX8_goesOn_182 : decode cX8_goesOn 182 = .ok (.aload_n 0, 1) := by decide +kernel
theorem dX8_goesOn_183 : decode cX8_goesOn 183 = .ok (.getfield 139, 3) := by decide +kernel
theorem dX8_goesOn_186 : decode cX8_goesOn 186 = .ok (.imul, 1) := by decide +kernel
theorem dX8_goesOn_187 : decode cX8_goesOn 187 = .ok (.aload_n 0, 1) := by decide +kernel
theorem dX8_goesOn_188 : decode cX8_goesOn 188 = .ok (.aload_n 0, 1) := by decide +kernel
theorem dX8_goesOn_189 : decode cX8_goesOn 189 = .ok (.getfield 114, 3) := by decide +kernel
theorem dX8_goesOn_192 : decode cX8_goesOn 192 = .ok (.invokevirtual 117, 3) := by decide +kernel
theorem dX8_goesOn_195 : decode cX8_goesOn 195 = .ok (.iadd, 1) := by decide +kernel
theorem dX8_goesOn_196 : decode cX8_goesOn 196 = .ok (.bipush 48, 2) := by decide +kernel
theorem dX8_goesOn_198 : decode cX8_goesOn 198 = .ok (.isub, 1) := by decide +kernel
theorem dX8_goesOn_199 : decode cX8_goesOn 199 = .ok (.goto 7, 3) := by decide +kernel
theorem dX8_goesOn_202 : decode cX8_goesOn 202 = .ok (.aload_n 0, 1) := by decide +kernel
theorem dX8_goesOn_203 : decode cX8_goesOn 203 = .ok (.getfield 139, 3) := by decide +kernel
theorem dX8_goesOn_206 : decode cX8_goesOn 206 = .ok (.putfield 139, 3) := by decide +kernel
theorem dX8_goesOn_209 : decode cX8_goesOn 209 = .ok (.aload_n 0, 1) := by decide +kernel
theorem dX8_goesOn_210 : decode cX8_goesOn 210 = .ok (.dup, 1) := by decide +kernel
theorem dX8_goesOn_211 : decode cX8_goesOn 211 = .ok (.getfield 114, 3) := by decide +kernel
theorem dX8_goesOn_214 : decode cX8_goesOn 214 = .ok (.iconst 1, 1) := by decide +kernel
theorem dX8_goesOn_215 : decode cX8_goesOn 215 = .ok (.iadd, 1) := by decide +kernel
theorem dX8_goesOn_216 : decode cX8_goesOn 216 = .ok (.putfield 114, 3) := by decide +kernel
theorem dX8_goesOn_219 : decode cX8_goesOn 219 = .ok (.goto (-74), 3) := by decide +kernel
theorem dX8_goesOn_222 : decode cX8_goesOn 222 = .ok (.aload_n 0, 1) := by decide +kernel
theorem dX8_goesOn_223 : decode cX8_goesOn 223 = .ok (.aload_n 0, 1) := by decide +kernel
theorem dX8_goesOn_224 : decode cX8_goesOn 224 = .ok (.getfield 114, 3) := by decide +kernel
theorem dX8_goesOn_227 : decode cX8_goesOn 227 = .ok (.aload_n 0, 1) := by decide +kernel
theorem dX8_goesOn_228 : decode cX8_goesOn 228 = .ok (.getfield 121, 3) := by decide +kernel
theorem dX8_goesOn_231 : decode cX8_goesOn 231 = .ok (.isub, 1) := by decide +kernel
theorem dX8_goesOn_232 : decode cX8_goesOn 232 = .ok (.iconst 3, 1) := by decide +kernel
theorem dX8_goesOn_233 : decode cX8_goesOn 233 = .ok (.if_icmp .le 7, 3) := by decide +kernel
theorem dX8_goesOn_236 : decode cX8_goesOn 236 = .ok (.iconst 1, 1) := by decide +kernel
theorem dX8_goesOn_237 : decode cX8_goesOn 237 = .ok (.goto 4, 3) := by decide +kernel
theorem dX8_goesOn_240 : decode cX8_goesOn 240 = .ok (.iconst 3, 1) := by decide +kernel
theorem dX8_goesOn_241 : decode cX8_goesOn 241 = .ok (.putfield 124, 3) := by decide +kernel
theorem dX8_goesOn_244 : decode cX8_goesOn 244 = .ok (.return_, 1) := by decide +kernel
theorem dX8_goesOn_245 : decode cX8_goesOn 245 = .ok (.aload_n 0, 1) := by decide +kernel
theorem dX8_goesOn_246 : decode cX8_goesOn 246 = .ok (.dup, 1) := by decide +kernel
theorem dX8_goesOn_247 : decode cX8_goesOn 247 = .ok (.getfield 114, 3) := by decide +kernel
theorem dX8_goesOn_250 : decode cX8_goesOn 250 = .ok (.iconst 1, 1) := by decide +kernel
theorem dX8_goesOn_251 : decode cX8_goesOn 251 = .ok (.iadd, 1) := by decide +kernel
theorem dX8_goesOn_252 : decode cX8_goesOn 252 = .ok (.putfield 114, 3) := by decide +kernel
theorem dX8_goesOn_255 : decode cX8_goesOn 255 = .ok (.aload_n 0, 1) := by decide +kernel
theorem dX8_goesOn_256 : decode cX8_goesOn 256 = .ok (.iload_n 1, 1) := by decide +kernel
theorem dX8_goesOn_257 : decode cX8_goesOn 257 = .ok (.bipush 59, 2) := by decide +kernel
theorem dX8_goesOn_259 : decode cX8_goesOn 259 = .ok (.if_icmp .eq 9, 3) := by decide +kernel
theorem dX8_goesOn_262 : decode cX8_goesOn 262 = .ok (.iload_n 1, 1) := by decide +kernel
theorem dX8_goesOn_263 : decode cX8_goesOn 263 = .ok (.bipush 44, 2) := by decide +kernel
theorem dX8_goesOn_265 : decode cX8_goesOn 265 = .ok (.if_icmp .ne 7, 3) := by decide +kernel
theorem dX8_goesOn_268 : decode cX8_goesOn 268 = .ok (.iload_n 1, 1) := by decide +kernel
theorem dX8_goesOn_269 : decode cX8_goesOn 269 = .ok (.goto 4, 3) := by decide +kernel
theorem dX8_goesOn_272 : decode cX8_goesOn 272 = .ok (.iconst 1, 1) := by decide +kernel
theorem dX8_goesOn_273 : decode cX8_goesOn 273 = .ok (.putfield 124, 3) := by decide +kernel
theorem dX8_goesOn_276 : decode cX8_goesOn 276 = .ok (.return_, 1) := by decide +kernel
theorem dX8_isWord_0 : decode cX8_isWord 0 = .ok (.aload_n 0, 1) := by decide +kernel
theorem dX8_isWord_1 : decode cX8_isWord 1 = .ok (.getfield 124, 3) := by decide +kernel
theorem dX8_isWord_4 : decode cX8_isWord 4 = .ok (.iconst 2, 1) := by decide +kernel
theorem dX8_isWord_5 : decode cX8_isWord 5 = .ok (.if_icmp .ne 19, 3) := by decide +kernel
theorem dX8_isWord_8 : decode cX8_isWord 8 = .ok (.aload_n 0, 1) := by decide +kernel
theorem dX8_isWord_9 : decode cX8_isWord 9 = .ok (.getfield 114, 3) := by decide +kernel
theorem dX8_isWord_12 : decode cX8_isWord 12 = .ok (.aload_n 0, 1) := by decide +kernel
theorem dX8_isWord_13 : decode cX8_isWord 13 = .ok (.getfield 121, 3) := by decide +kernel
theorem dX8_isWord_16 : decode cX8_isWord 16 = .ok (.isub, 1) := by decide +kernel
theorem dX8_isWord_17 : decode cX8_isWord 17 = .ok (.aload_n 1, 1) := by decide +kernel
theorem dX8_isWord_18 : decode cX8_isWord 18 = .ok (.invokevirtual 142, 3) := by decide +kernel
theorem dX8_isWord_21 : decode cX8_isWord 21 = .ok (.if_icmp .eq 5, 3) := by decide +kernel
theorem dX8_isWord_24 : decode cX8_isWord 24 = .ok (.iconst 0, 1) := by decide +kernel
theorem dX8_isWord_25 : decode cX8_isWord 25 = .ok (.ireturn, 1) := by decide +kernel
theorem dX8_isWord_26 : decode cX8_isWord 26 = .ok (.iconst 0, 1) := by decide +kernel
theorem dX8_isWord_27 : decode cX8_isWord 27 = .ok (.istore_n 2, 1) := by decide +kernel
theorem dX8_isWord_28 : decode cX8_isWord 28 = .ok (.iload_n 2, 1) := by decide +kernel
theorem dX8_isWord_29 : decode cX8_isWord 29 = .ok (.aload_n 1, 1) := by decide +kernel
theorem dX8_isWord_30 : decode cX8_isWord 30 = .ok (.invokevirtual 142, 3) := by decide +kernel
theorem dX8_isWord_33 : decode cX8_isWord 33 = .ok (.if_icmp .ge 30, 3) := by decide +kernel
theorem dX8_isWord_36 : decode cX8_isWord 36 = .ok (.aload_n 0, 1) := by decide +kernel
theorem dX8_isWord_37 : decode cX8_isWord 37 = .ok (.getfield 15, 3) := by decide +kernel
theorem dX8_isWord_40 : decode cX8_isWord 40 = .ok (.aload_n 0, 1) := by decide +kernel
theorem dX8_isWord_41 : decode cX8_isWord 41 = .ok (.getfield 121, 3) := by decide +kernel
theorem dX8_isWord_44 : decode cX8_isWord 44 = .ok (.iload_n 2, 1) := by decide +kernel
theorem dX8_isWord_45 : decode cX8_isWord 45 = .ok (.iadd, 1) := by decide +kernel
theorem dX8_isWord_46 : decode cX8_isWord 46 = .ok (.iaload, 1) := by decide +kernel
theorem dX8_isWord_47 : decode cX8_isWord 47 = .ok (.aload_n 1, 1) := by decide +kernel
theorem dX8_isWord_48 : decode cX8_isWord 48 = .ok (.iload_n 2, 1) := by decide +kernel
theorem dX8_isWord_49 : decode cX8_isWord 49 = .ok (.invokevirtual 148, 3) := by decide +kernel
theorem dX8_isWord_52 : decode cX8_isWord 52 = .ok (.if_icmp .eq 5, 3) := by decide +kernel
theorem dX8_isWord_55 : decode cX8_isWord 55 = .ok (.iconst 0, 1) := by decide +kernel
theorem dX8_isWord_56 : decode cX8_isWord 56 = .ok (.ireturn, 1) := by decide +kernel
theorem dX8_isWord_57 : decode cX8_isWord 57 = .ok (.iinc 2 1, 3) := by decide +kernel
theorem dX8_isWord_60 : decode cX8_isWord 60 = .ok (.goto (-32), 3) := by decide +kernel
theorem dX8_isWord_63 : decode cX8_isWord 63 = .ok (.iconst 1, 1) := by decide +kernel
theorem dX8_isWord_64 : decode cX8_isWord 64 = .ok (.ireturn, 1) := by decide +kernel
theorem dX8_errs_0 : decode cX8_errs 0 = .ok (.aload_n 0, 1) := by decide +kernel
theorem dX8_errs_1 : decode cX8_errs 1 = .ok (.iload_n 1, 1) := by decide +kernel
theorem dX8_errs_2 : decode cX8_errs 2 = .ok (.putfield 152, 3) := by decide +kernel
theorem dX8_errs_5 : decode cX8_errs 5 = .ok (.aload_n 0, 1) := by decide +kernel
theorem dX8_errs_6 : decode cX8_errs 6 = .ok (.aload_n 0, 1) := by decide +kernel
theorem dX8_errs_7 : decode cX8_errs 7 = .ok (.getfield 121, 3) := by decide +kernel
theorem dX8_errs_10 : decode cX8_errs 10 = .ok (.putfield 155, 3) := by decide +kernel
theorem dX8_errs_13 : decode cX8_errs 13 = .ok (.iconst 0, 1) := by decide +kernel
theorem dX8_errs_14 : decode cX8_errs 14 = .ok (.ireturn, 1) := by decide +kernel
theorem dX8_isName_0 : decode cX8_isName 0 = .ok (.aload_n 0, 1) := by decide +kernel
theorem dX8_isName_1 : decode cX8_isName 1 = .ok (.getfield 124, 3) := by decide +kernel
theorem dX8_isName_4 : decode cX8_isName 4 = .ok (.iconst 2, 1) := by decide +kernel
theorem dX8_isName_5 : decode cX8_isName 5 = .ok (.if_icmp .ne 61, 3) := by decide +kernel
theorem dX8_isName_8 : decode cX8_isName 8 = .ok (.aload_n 0, 1) := by decide +kernel
theorem dX8_isName_9 : decode cX8_isName 9 = .ok (.ldc 158, 2) := by decide +kernel
theorem dX8_isName_11 : decode cX8_isName 11 = .ok (.invokevirtual 160, 3) := by decide +kernel
theorem dX8_isName_14 : decode cX8_isName 14 = .ok (.ifCond .ne 52, 3) := by decide +kernel
theorem dX8_isName_17 : decode cX8_isName 17 = .ok (.aload_n 0, 1) := by decide +kernel
theorem dX8_isName_18 : decode cX8_isName 18 = .ok (.ldc 164, 2) := by decide +kernel
theorem dX8_isName_20 : decode cX8_isName 20 = .ok (.invokevirtual 160, 3) := by decide +kernel
theorem dX8_isName_23 : decode cX8_isName 23 = .ok (.ifCond .ne 43, 3) := by decide +kernel
theorem dX8_isName_26 : decode cX8_isName 26 = .ok (.aload_n 0, 1) := by decide +kernel
theorem dX8_isName_27 : decode cX8_isName 27 = .ok (.ldc 166, 2) := by decide +kernel
theorem dX8_isName_29 : decode cX8_isName 29 = .ok (.invokevirtual 160, 3) := by decide +kernel
theorem dX8_isName_32 : decode cX8_isName 32 = .ok (.ifCond .ne 34, 3) := by decide +kernel
theorem dX8_isName_35 : decode cX8_isName 35 = .ok (.aload_n 0, 1) := by decide +kernel
theorem dX8_isName_36 : decode cX8_isName 36 = .ok (.ldc 168, 2) := by decide +kernel
theorem dX8_isName_38 : decode cX8_isName 38 = .ok (.invokevirtual 160, 3) := by decide +kernel
theorem dX8_isName_41 : decode cX8_isName 41 = .ok (.ifCond .ne 25, 3) := by decide +kernel
theorem dX8_isName_44 : decode cX8_isName 44 = .ok (.aload_n 0, 1) := by decide +kernel
theorem dX8_isName_45 : decode cX8_isName 45 = .ok (.ldc 170, 2) := by decide +kernel
theorem dX8_isName_47 : decode cX8_isName 47 = .ok (.invokevirtual 160, 3) := by decide +kernel
theorem dX8_isName_50 : decode cX8_isName 50 = .ok (.ifCond .ne 16, 3) := by decide +kernel
theorem dX8_isName_53 : decode cX8_isName 53 = .ok (.aload_n 0, 1) := by decide +kernel
theorem dX8_isName_54 : decode cX8_isName 54 = .ok (.ldc 172, 2) := by decide +kernel
theorem dX8_isName_56 : decode cX8_isName 56 = .ok (.invokevirtual 160, 3) := by decide +kernel
theorem dX8_isName_59 : decode cX8_isName 59 = .ok (.ifCond .ne 7, 3) := by decide +kernel
theorem dX8_isName_62 : decode cX8_isName 62 = .ok (.iconst 1, 1) := by decide +kernel
theorem dX8_isName_63 : decode cX8_isName 63 = .ok (.goto 4, 3) := by decide +kernel
theorem dX8_isName_66 : decode cX8_isName 66 = .ok (.iconst 0, 1) := by decide +kernel
theorem dX8_isName_67 : decode cX8_isName 67 = .ok (.ireturn, 1) := by decide +kernel
theorem dX8_isAt_0 : decode cX8_isAt 0 = .ok (.iload_n 3, 1) := by decide +kernel
theorem dX8_isAt_1 : decode cX8_isAt 1 = .ok (.iload_n 2, 1) := by decide +kernel
theorem dX8_isAt_2 : decode cX8_isAt 2 = .ok (.isub, 1) := by decide +kernel
theorem dX8_isAt_3 : decode cX8_isAt 3 = .ok (.bipush 6, 2) := by decide +kernel
theorem dX8_isAt_5 : decode cX8_isAt 5 = .ok (.if_icmp .gt 7, 3) := by decide +kernel
theorem dX8_isAt_8 : decode cX8_isAt 8 = .ok (.iconst 1, 1) := by decide +kernel
theorem dX8_isAt_9 : decode cX8_isAt 9 = .ok (.goto 4, 3) := by decide +kernel
theorem dX8_isAt_12 : decode cX8_isAt 12 = .ok (.iconst 0, 1) := by decide +kernel
theorem dX8_isAt_13 : decode cX8_isAt 13 = .ok (.istore 4, 2) := by decide +kernel
theorem dX8_isAt_15 : decode cX8_isAt 15 = .ok (.iconst 0, 1) := by decide +kernel
theorem dX8_isAt_16 : decode cX8_isAt 16 = .ok (.istore 5, 2) := by decide +kernel
theorem dX8_isAt_18 : decode cX8_isAt 18 = .ok (.iload 5, 2) := by decide +kernel
theorem dX8_isAt_20 : decode cX8_isAt 20 = .ok (.bipush 6, 2) := by decide +kernel
theorem dX8_isAt_22 : decode cX8_isAt 22 = .ok (.if_icmp .ge 74, 3) := by decide +kernel
theorem dX8_isAt_25 : decode cX8_isAt 25 = .ok (.iload 4, 2) := by decide +kernel
theorem dX8_isAt_27 : decode cX8_isAt 27 = .ok (.ifCond .eq 60, 3) := by decide +kernel
theorem dX8_isAt_30 : decode cX8_isAt 30 = .ok (.aload_n 0, 1) := by decide +kernel
theorem dX8_isAt_31 : decode cX8_isAt 31 = .ok (.getfield 25, 3) := by decide +kernel
theorem dX8_isAt_34 : decode cX8_isAt 34 = .ok (.iload_n 1, 1) := by decide +kernel
theorem dX8_isAt_35 : decode cX8_isAt 35 = .ok (.iload 5, 2) := by decide +kernel
theorem dX8_isAt_37 : decode cX8_isAt 37 = .ok (.iadd, 1) := by decide +kernel
theorem dX8_isAt_38 : decode cX8_isAt 38 = .ok (.iaload, 1) := by decide +kernel
theorem dX8_isAt_39 : decode cX8_isAt 39 = .ok (.iload_n 2, 1) := by decide +kernel
theorem dX8_isAt_40 : decode cX8_isAt 40 = .ok (.iload 5, 2) := by decide +kernel
theorem dX8_isAt_42 : decode cX8_isAt 42 = .ok (.iadd, 1) := by decide +kernel
theorem dX8_isAt_43 : decode cX8_isAt 43 = .ok (.iload_n 3, 1) := by decide +kernel
theorem dX8_isAt_44 : decode cX8_isAt 44 = .ok (.if_icmp .ge 15, 3) := by decide +kernel
theorem dX8_isAt_47 : decode cX8_isAt 47 = .ok (.aload_n 0, 1) := by decide +kernel
theorem dX8_isAt_48 : decode cX8_isAt 48 = .ok (.getfield 15, 3) := by decide +kernel
theorem dX8_isAt_51 : decode cX8_isAt 51 = .ok (.iload_n 2, 1) := by decide +kernel
theorem dX8_isAt_52 : decode cX8_isAt 52 = .ok (.iload 5, 2) := by decide +kernel
theorem dX8_isAt_54 : decode cX8_isAt 54 = .ok (.iadd, 1) := by decide +kernel
theorem dX8_isAt_55 : decode cX8_isAt 55 = .ok (.iaload, 1) := by decide +kernel
theorem dX8_isAt_56 : decode cX8_isAt 56 = .ok (.goto 4, 3) := by decide +kernel
theorem dX8_isAt_59 : decode cX8_isAt 59 = .ok (.iconst 0, 1) := by decide +kernel
theorem dX8_isAt_60 : decode cX8_isAt 60 = .ok (.if_icmp .ne 27, 3) := by decide +kernel
theorem dX8_isAt_63 : decode cX8_isAt 63 = .ok (.iload_n 2, 1) := by decide +kernel
theorem dX8_isAt_64 : decode cX8_isAt 64 = .ok (.iload 5, 2) := by decide +kernel
theorem dX8_isAt_66 : decode cX8_isAt 66 = .ok (.iadd, 1) := by decide +kernel
theorem dX8_isAt_67 : decode cX8_isAt 67 = .ok (.iload_n 3, 1) := by decide +kernel
theorem dX8_isAt_68 : decode cX8_isAt 68 = .ok (.if_icmp .ge 15, 3) := by decide +kernel
theorem dX8_isAt_71 : decode cX8_isAt 71 = .ok (.aload_n 0, 1) := by decide +kernel
theorem dX8_isAt_72 : decode cX8_isAt 72 = .ok (.getfield 15, 3) := by decide +kernel
theorem dX8_isAt_75 : decode cX8_isAt 75 = .ok (.iload_n 2, 1) := by decide +kernel
theorem dX8_isAt_76 : decode cX8_isAt 76 = .ok (.iload 5, 2) := by decide +kernel
theorem dX8_isAt_78 : decode cX8_isAt 78 = .ok (.iadd, 1) := by decide +kernel
theorem dX8_isAt_79 : decode cX8_isAt 79 = .ok (.iaload, 1) := by decide +kernel
theorem dX8_isAt_80 : decode cX8_isAt 80 = .ok (.ifCond .eq 7, 3) := by decide +kernel
theorem dX8_isAt_83 : decode cX8_isAt 83 = .ok (.iconst 1, 1) := by decide +kernel
theorem dX8_isAt_84 : decode cX8_isAt 84 = .ok (.goto 4, 3) := by decide +kernel
theorem dX8_isAt_87 : decode cX8_isAt 87 = .ok (.iconst 0, 1) := by decide +kernel
theorem dX8_isAt_88 : decode cX8_isAt 88 = .ok (.istore 4, 2) := by decide +kernel
theorem dX8_isAt_90 : decode cX8_isAt 90 = .ok (.iinc 5 1, 3) := by decide +kernel
theorem dX8_isAt_93 : decode cX8_isAt 93 = .ok (.goto (-75), 3) := by decide +kernel
theorem dX8_isAt_96 : decode cX8_isAt 96 = .ok (.iload 4, 2) := by decide +kernel
theorem dX8_isAt_98 : decode cX8_isAt 98 = .ok (.ireturn, 1) := by decide +kernel
theorem dX8_jointHere_0 : decode cX8_jointHere 0 = .ok (.iconst 0, 1) := by decide +kernel
theorem dX8_jointHere_1 : decode cX8_jointHere 1 = .ok (.istore_n 1, 1) := by decide +kernel
theorem dX8_jointHere_2 : decode cX8_jointHere 2 = .ok (.iload_n 1, 1) := by decide +kernel
theorem dX8_jointHere_3 : decode cX8_jointHere 3 = .ok (.aload_n 0, 1) := by decide +kernel
theorem dX8_jointHere_4 : decode cX8_jointHere 4 = .ok (.getfield 174, 3) := by decide +kernel
theorem dX8_jointHere_7 : decode cX8_jointHere 7 = .ok (.if_icmp .ge 33, 3) := by decide +kernel
theorem dX8_jointHere_10 : decode cX8_jointHere 10 = .ok (.aload_n 0, 1) := by decide +kernel
theorem dX8_jointHere_11 : decode cX8_jointHere 11 = .ok (.bipush 6, 2) := by decide +kernel
theorem dX8_jointHere_13 : decode cX8_jointHere 13 = .ok (.bipush 9, 2) := by decide +kernel
theorem dX8_jointHere_15 : decode cX8_jointHere 15 = .ok (.iload_n 1, 1) := by decide +kernel
theorem dX8_jointHere_16 : decode cX8_jointHere 16 = .ok (.iadd, 1) := by decide +kernel
theorem dX8_jointHere_17 : decode cX8_jointHere 17 = .ok (.imul, 1) := by decide +kernel
theorem dX8_jointHere_18 : decode cX8_jointHere 18 = .ok (.aload_n 0, 1) := by decide +kernel
theorem dX8_jointHere_19 : decode cX8_jointHere 19 = .ok (.getfield 121, 3) := by decide +kernel
theorem dX8_jointHere_22 : decode cX8_jointHere 22 = .ok (.aload_n 0, 1) := by decide +kernel
theorem dX8_jointHere_23 : decode cX8_jointHere 23 = .ok (.getfield 114, 3) := by decide +kernel
theorem dX8_jointHere_26 : decode cX8_jointHere 26 = .ok (.invokevirtual 177, 3) := by decide +kernel
theorem dX8_jointHere_29 : decode cX8_jointHere 29 = .ok (.ifCond .eq 5, 3) := by decide +kernel
theorem dX8_jointHere_32 : decode cX8_jointHere 32 = .ok (.iload_n 1, 1) := by decide +kernel
theorem dX8_jointHere_33 : decode cX8_jointHere 33 = .ok (.ireturn, 1) := by decide +kernel
theorem dX8_jointHere_34 : decode cX8_jointHere 34 = .ok (.iinc 1 1, 3) := by decide +kernel
theorem dX8_jointHere_37 : decode cX8_jointHere 37 = .ok (.goto (-35), 3) := by decide +kernel
theorem dX8_jointHere_40 : decode cX8_jointHere 40 = .ok (.iconst (-1), 1) := by decide +kernel
theorem dX8_jointHere_41 : decode cX8_jointHere 41 = .ok (.ireturn, 1) := by decide +kernel
theorem dX8_takesWhole_0 : decode cX8_takesWhole 0 = .ok (.aload_n 0, 1) := by decide +kernel
theorem dX8_takesWhole_1 : decode cX8_takesWhole 1 = .ok (.getfield 124, 3) := by decide +kernel
theorem dX8_takesWhole_4 : decode cX8_takesWhole 4 = .ok (.iconst 3, 1) := by decide +kernel
theorem dX8_takesWhole_5 : decode cX8_takesWhole 5 = .ok (.if_icmp .eq 9, 3) := by decide +kernel
theorem dX8_takesWhole_8 : decode cX8_takesWhole 8 = .ok (.aload_n 0, 1) := by decide +kernel
theorem dX8_takesWhole_9 : decode cX8_takesWhole 9 = .ok (.iconst 1, 1) := by decide +kernel
theorem dX8_takesWhole_10 : decode cX8_takesWhole 10 = .ok (.invokevirtual 181, 3) := by decide +kernel
theorem dX8_takesWhole_13 : decode cX8_takesWhole 13 = .ok (.ireturn, 1) := by decide +kernel
theorem dX8_takesWhole_14 : decode cX8_takesWhole 14 = .ok (.aload_n 0, 1) := by decide +kernel
theorem dX8_takesWhole_15 : decode cX8_takesWhole 15 = .ok (.getfield 139, 3) := by decide +kernel
theorem dX8_takesWhole_18 : decode cX8_takesWhole 18 = .ok (.i2l, 1) := by decide +kernel
theorem dX8_takesWhole_19 : decode cX8_takesWhole 19 = .ok (.iload_n 1, 1) := by decide +kernel
theorem dX8_takesWhole_20 : decode cX8_takesWhole 20 = .ok (.i2l, 1) := by decide +kernel
theorem dX8_takesWhole_21 : decode cX8_takesWhole 21 = .ok (.iload_n 2, 1) := by decide +kernel
theorem dX8_takesWhole_22 : decode cX8_takesWhole 22 = .ok (.i2l, 1) := by decide +kernel
theorem dX8_takesWhole_23 : decode cX8_takesWhole 23 = .ok (.invokestatic 131, 3) := by decide +kernel
theorem dX8_takesWhole_26 : decode cX8_takesWhole 26 = .ok (.ifCond .ne 9, 3) := by decide +kernel
theorem dX8_takesWhole_29 : decode cX8_takesWhole 29 = .ok (.aload_n 0, 1) := by decide +kernel
theorem dX8_takesWhole_30 : decode cX8_takesWhole 30 = .ok (.iconst 2, 1) := by decide +kernel
theorem dX8_takesWhole_31 : decode cX8_takesWhole 31 = .ok (.invokevirtual 181, 3) := by decide +kernel
theorem dX8_takesWhole_34 : decode cX8_takesWhole 34 = .ok (.ireturn, 1) := by decide +kernel
theorem dX8_takesWhole_35 : decode cX8_takesWhole 35 = .ok (.aload_n 0, 1) := by decide +kernel
theorem dX8_takesWhole_36 : decode cX8_takesWhole 36 = .ok (.aload_n 0, 1) := by decide +kernel
theorem dX8_takesWhole_37 : decode cX8_takesWhole 37 = .ok (.getfield 139, 3) := by decide +kernel
theorem dX8_takesWhole_40 : decode cX8_takesWhole 40 = .ok (.putfield 185, 3) := by decide +kernel
theorem dX8_takesWhole_43 : decode cX8_takesWhole 43 = .ok (.aload_n 0, 1) := by decide +kernel
theorem dX8_takesWhole_44 : decode cX8_takesWhole 44 = .ok (.invokevirtual 188, 3) := by decide +kernel
theorem dX8_takesWhole_47 : decode cX8_takesWhole 47 = .ok (.iconst 1, 1) := by decide +kernel
theorem dX8_takesWhole_48 : decode cX8_takesWhole 48 = .ok (.ireturn, 1) := by decide +kernel
theorem dX8_takesNew_0 : decode cX8_takesNew 0 = .ok (.aload_n 0, 1) := by decide +kernel
theorem dX8_takesNew_1 : decode cX8_takesNew 1 = .ok (.invokevirtual 188, 3) := by decide +kernel
theorem dX8_takesNew_4 : decode cX8_takesNew 4 = .ok (.aload_n 0, 1) := by decide +kernel
theorem dX8_takesNew_5 : decode cX8_takesNew 5 = .ok (.invokevirtual 191, 3) := by decide +kernel
theorem dX8_takesNew_8 : decode cX8_takesNew 8 = .ok (.ifCond .ne 9, 3) := by decide +kernel
theorem dX8_takesNew_11 : decode cX8_takesNew 11 = .ok (.aload_n 0, 1) := by decide +kernel
theorem dX8_takesNew_12 : decode cX8_takesNew 12 = .ok (.iconst 1, 1) := by decide +kernel
theorem dX8_takesNew_13 : decode cX8_takesNew 13 = .ok (.invokevirtual 181, 3) := by decide +kernel
theorem dX8_takesNew_16 : decode cX8_takesNew 16 = .ok (.ireturn, 1) := by decide +kernel
theorem dX8_takesNew_17 : decode cX8_takesNew 17 = .ok (.aload_n 0, 1) := by decide +kernel
theorem dX8_takesNew_18 : decode cX8_takesNew 18 = .ok (.invokevirtual 195, 3) := by decide +kernel
theorem dX8_takesNew_21 : decode cX8_takesNew 21 = .ok (.iconst (-1), 1) := by decide +kernel
theorem dX8_takesNew_22 : decode cX8_takesNew 22 = .ok (.if_icmp .eq 9, 3) := by decide +kernel
theorem dX8_takesNew_25 : decode cX8_takesNew 25 = .ok (.aload_n 0, 1) := by decide +kernel
theorem dX8_takesNew_26 : decode cX8_takesNew 26 = .ok (.iconst 3, 1) := by decide +kernel
theorem dX8_takesNew_27 : decode cX8_takesNew 27 = .ok (.invokevirtual 181, 3) := by decide +kernel
theorem dX8_takesNew_30 : decode cX8_takesNew 30 = .ok (.ireturn, 1) := by decide +kernel
theorem dX8_takesNew_31 : decode cX8_takesNew 31 = .ok (.iconst 0, 1) := by decide +kernel
theorem dX8_takesNew_32 : decode cX8_takesNew 32 = .ok (.istore_n 1, 1) := by decide +kernel
theorem dX8_takesNew_33 : decode cX8_takesNew 33 = .ok (.iload_n 1, 1) := by decide +kernel
theorem dX8_takesNew_34 : decode cX8_takesNew 34 = .ok (.bipush 6, 2) := by decide +kernel
theorem dX8_takesNew_36 : decode cX8_takesNew 36 = .ok (.if_icmp .ge 54, 3) := by decide +kernel
theorem dX8_takesNew_39 : decode cX8_takesNew 39 = .ok (.aload_n 0, 1) := by decide +kernel
theorem dX8_takesNew_40 : decode cX8_takesNew 40 = .ok (.getfield 25, 3) := by decide +kernel
theorem dX8_takesNew_43 : decode cX8_takesNew 43 = .ok (.bipush 6, 2) := by decide +kernel
theorem dX8_takesNew_45 : decode cX8_takesNew 45 = .ok (.bipush 9, 2) := by decide +kernel
theorem dX8_takesNew_47 : decode cX8_takesNew 47 = .ok (.aload_n 0, 1) := by decide +kernel
theorem dX8_takesNew_48 : decode cX8_takesNew 48 = .ok (.getfield 174, 3) := by decide +kernel
theorem dX8_takesNew_51 : decode cX8_takesNew 51 = .ok (.iadd, 1) := by decide +kernel
theorem dX8_takesNew_52 : decode cX8_takesNew 52 = .ok (.imul, 1) := by decide +kernel
theorem dX8_takesNew_53 : decode cX8_takesNew 53 = .ok (.iload_n 1, 1) := by decide +kernel
theorem dX8_takesNew_54 : decode cX8_takesNew 54 = .ok (.iadd, 1) := by decide +kernel
theorem dX8_takesNew_55 : decode cX8_takesNew 55 = .ok (.aload_n 0, 1) := by decide +kernel
theorem dX8_takesNew_56 : decode cX8_takesNew 56 = .ok (.getfield 121, 3) := by decide +kernel
theorem dX8_takesNew_59 : decode cX8_takesNew 59 = .ok (.iload_n 1, 1) := by decide +kernel
theorem dX8_takesNew_60 : decode cX8_takesNew 60 = .ok (.iadd, 1) := by decide +kernel
theorem dX8_takesNew_61 : decode cX8_takesNew 61 = .ok (.aload_n 0, 1) := by decide +kernel
theorem dX8_takesNew_62 : decode cX8_takesNew 62 = .ok (.getfield 114, 3) := by decide +kernel
theorem dX8_takesNew_65 : decode cX8_takesNew 65 = .ok (.if_icmp .ge 17, 3) := by decide +kernel
theorem dX8_takesNew_68 : decode cX8_takesNew 68 = .ok (.aload_n 0, 1) := by decide +kernel
theorem dX8_takesNew_69 : decode cX8_takesNew 69 = .ok (.getfield 15, 3) := by decide +kernel
theorem dX8_takesNew_72 : decode cX8_takesNew 72 = .ok (.aload_n 0, 1) := by decide +kernel
theorem dX8_takesNew_73 : decode cX8_takesNew 73 = .ok (.getfield 121, 3) := by decide +kernel
theorem dX8_takesNew_76 : decode cX8_takesNew 76 = .ok (.iload_n 1, 1) := by decide +kernel
theorem dX8_takesNew_77 : decode cX8_takesNew 77 = .ok (.iadd, 1) := by decide +kernel
theorem dX8_takesNew_78 : decode cX8_takesNew 78 = .ok (.iaload, 1) := by decide +kernel
theorem dX8_takesNew_79 : decode cX8_takesNew 79 = .ok (.goto 4, 3) := by decide +kernel
theorem dX8_takesNew_82 : decode cX8_takesNew 82 = .ok (.iconst 0, 1) := by decide +kernel
theorem dX8_takesNew_83 : decode cX8_takesNew 83 = .ok (.iastore, 1) := by decide +kernel
theorem dX8_takesNew_84 : decode cX8_takesNew 84 = .ok (.iinc 1 1, 3) := by decide +kernel
theorem dX8_takesNew_87 : decode cX8_takesNew 87 = .ok (.goto (-54), 3) := by decide +kernel
theorem dX8_takesNew_90 : decode cX8_takesNew 90 = .ok (.aload_n 0, 1) := by decide +kernel
theorem dX8_takesNew_91 : decode cX8_takesNew 91 = .ok (.invokevirtual 188, 3) := by decide +kernel
theorem dX8_takesNew_94 : decode cX8_takesNew 94 = .ok (.iconst 1, 1) := by decide +kernel
theorem dX8_takesNew_95 : decode cX8_takesNew 95 = .ok (.ireturn, 1) := by decide +kernel
theorem dX8_readWell_0 : decode cX8_readWell 0 = .ok (.aload_n 0, 1) := by decide +kernel
theorem dX8_readWell_1 : decode cX8_readWell 1 = .ok (.ldc 158, 2) := by decide +kernel
theorem dX8_readWell_3 : decode cX8_readWell 3 = .ok (.invokevirtual 160, 3) := by decide +kernel
theorem dX8_readWell_6 : decode cX8_readWell 6 = .ok (.ifCond .ne 9, 3) := by decide +kernel
theorem dX8_readWell_9 : decode cX8_readWell 9 = .ok (.aload_n 0, 1) := by decide +kernel
theorem dX8_readWell_10 : decode cX8_readWell 10 = .ok (.iconst 1, 1) := by decide +kernel
theorem dX8_readWell_11 : decode cX8_readWell 11 = .ok (.invokevirtual 181, 3) := by decide +kernel
theorem dX8_readWell_14 : decode cX8_readWell 14 = .ok (.ireturn, 1) := by decide +kernel
theorem dX8_readWell_15 : decode cX8_readWell 15 = .ok (.aload_n 0, 1) := by decide +kernel
theorem dX8_readWell_16 : decode cX8_readWell 16 = .ok (.invokevirtual 198, 3) := by decide +kernel
theorem dX8_readWell_19 : decode cX8_readWell 19 = .ok (.ifCond .eq 14, 3) := by decide +kernel
theorem dX8_readWell_22 : decode cX8_readWell 22 = .ok (.aload_n 0, 1) := by decide +kernel
theorem dX8_readWell_23 : decode cX8_readWell 23 = .ok (.iconst 0, 1) := by decide +kernel
theorem dX8_readWell_24 : decode cX8_readWell 24 = .ok (.sipush 999, 3) := by decide +kernel
theorem dX8_readWell_27 : decode cX8_readWell 27 = .ok (.invokevirtual 201, 3) := by decide +kernel
theorem dX8_readWell_30 : decode cX8_readWell 30 = .ok (.ifCond .ne 5, 3) := by decide +kernel
theorem dX8_readWell_33 : decode cX8_readWell 33 = .ok (.iconst 0, 1) := by decide +kernel
theorem dX8_readWell_34 : decode cX8_readWell 34 = .ok (.ireturn, 1) := by decide +kernel
theorem dX8_readWell_35 : decode cX8_readWell 35 = .ok (.aload_n 0, 1) := by decide +kernel
theorem dX8_readWell_36 : decode cX8_readWell 36 = .ok (.getfield 19, 3) := by decide +kernel
theorem dX8_readWell_39 : decode cX8_readWell 39 = .ok (.bipush 9, 2) := by decide +kernel
theorem dX8_readWell_41 : decode cX8_readWell 41 = .ok (.aload_n 0, 1) := by decide +kernel
theorem dX8_readWell_42 : decode cX8_readWell 42 = .ok (.getfield 185, 3) := by decide +kernel
theorem dX8_readWell_45 : decode cX8_readWell 45 = .ok (.iastore, 1) := by decide +kernel
theorem dX8_readWell_46 : decode cX8_readWell 46 = .ok (.aload_n 0, 1) := by decide +kernel
theorem dX8_readWell_47 : decode cX8_readWell 47 = .ok (.getfield 22, 3) := by decide +kernel
theorem dX8_readWell_50 : decode cX8_readWell 50 = .ok (.bipush 9, 2) := by decide +kernel
theorem dX8_readWell_52 : decode cX8_readWell 52 = .ok (.iconst 0, 1) := by decide +kernel
theorem dX8_readWell_53 : decode cX8_readWell 53 = .ok (.iastore, 1) := by decide +kernel
theorem dX8_readWell_54 : decode cX8_readWell 54 = .ok (.aload_n 0, 1) := by decide +kernel
theorem dX8_readWell_55 : decode cX8_readWell 55 = .ok (.iconst 1, 1) := by decide +kernel
theorem dX8_readWell_56 : decode cX8_readWell 56 = .ok (.putfield 174, 3) := by decide +kernel
theorem dX8_readWell_59 : decode cX8_readWell 59 = .ok (.iconst 1, 1) := by decide +kernel
theorem dX8_readWell_60 : decode cX8_readWell 60 = .ok (.ireturn, 1) := by decide +kernel
theorem dX8_readJoint_0 : decode cX8_readJoint 0 = .ok (.aload_n 0, 1) := by decide +kernel
theorem dX8_readJoint_1 : decode cX8_readJoint 1 = .ok (.getfield 174, 3) := by decide +kernel
theorem dX8_readJoint_4 : decode cX8_readJoint 4 = .ok (.bipush 9, 2) := by decide +kernel
theorem dX8_readJoint_6 : decode cX8_readJoint 6 = .ok (.if_icmp .ne 9, 3) := by decide +kernel
theorem dX8_readJoint_9 : decode cX8_readJoint 9 = .ok (.aload_n 0, 1) := by decide +kernel
theorem dX8_readJoint_10 : decode cX8_readJoint 10 = .ok (.iconst 4, 1) := by decide +kernel
theorem dX8_readJoint_11 : decode cX8_readJoint 11 = .ok (.invokevirtual 181, 3) := by decide +kernel
theorem dX8_readJoint_14 : decode cX8_readJoint 14 = .ok (.ireturn, 1) := by decide +kernel
theorem dX8_readJoint_15 : decode cX8_readJoint 15 = .ok (.aload_n 0, 1) := by decide +kernel
theorem dX8_readJoint_16 : decode cX8_readJoint 16 = .ok (.invokevirtual 198, 3) := by decide +kernel
theorem dX8_readJoint_19 : decode cX8_readJoint 19 = .ok (.ifCond .eq 13, 3) := by decide +kernel
theorem dX8_readJoint_22 : decode cX8_readJoint 22 = .ok (.aload_n 0, 1) := by decide +kernel
theorem dX8_readJoint_23 : decode cX8_readJoint 23 = .ok (.iconst 0, 1) := by decide +kernel
theorem dX8_readJoint_24 : decode cX8_readJoint 24 = .ok (.bipush 60, 2) := by decide +kernel
theorem dX8_readJoint_26 : decode cX8_readJoint 26 = .ok (.invokevirtual 201, 3) := by decide +kernel
theorem dX8_readJoint_29 : decode cX8_readJoint 29 = .ok (.ifCond .ne 5, 3) := by decide +kernel
theorem dX8_readJoint_32 : decode cX8_readJoint 32 = .ok (.iconst 0, 1) := by decide +kernel
theorem dX8_readJoint_33 : decode cX8_readJoint 33 = .ok (.ireturn, 1) := by decide +kernel
theorem dX8_readJoint_34 : decode cX8_readJoint 34 = .ok (.aload_n 0, 1) := by decide +kernel
theorem dX8_readJoint_35 : decode cX8_readJoint 35 = .ok (.getfield 19, 3) := by decide +kernel
theorem dX8_readJoint_38 : decode cX8_readJoint 38 = .ok (.bipush 9, 2) := by decide +kernel
theorem dX8_readJoint_40 : decode cX8_readJoint 40 = .ok (.aload_n 0, 1) := by decide +kernel
theorem dX8_readJoint_41 : decode cX8_readJoint 41 = .ok (.getfield 174, 3) := by decide +kernel
theorem dX8_readJoint_44 : decode cX8_readJoint 44 = .ok (.iadd, 1) := by decide +kernel
theorem dX8_readJoint_45 : decode cX8_readJoint 45 = .ok (.aload_n 0, 1) := by decide +kernel
theorem dX8_readJoint_46 : decode cX8_readJoint 46 = .ok (.getfield 185, 3) := by decide +kernel
theorem dX8_readJoint_49 : decode cX8_readJoint 49 = .ok (.iastore, 1) := by decide +kernel
theorem dX8_readJoint_50 : decode cX8_readJoint 50 = .ok (.aload_n 0, 1) := by decide +kernel
theorem dX8_readJoint_51 : decode cX8_readJoint 51 = .ok (.ldc 166, 2) := by decide +kernel
theorem dX8_readJoint_53 : decode cX8_readJoint 53 = .ok (.invokevirtual 160, 3) := by decide +kernel
theorem dX8_readJoint_56 : decode cX8_readJoint 56 = .ok (.ifCond .ne 9, 3) := by decide +kernel
theorem dX8_readJoint_59 : decode cX8_readJoint 59 = .ok (.aload_n 0, 1) := by decide +kernel
theorem dX8_readJoint_60 : decode cX8_readJoint 60 = .ok (.iconst 1, 1) := by decide +kernel
theorem dX8_readJoint_61 : decode cX8_readJoint 61 = .ok (.invokevirtual 181, 3) := by decide +kernel
theorem dX8_readJoint_64 : decode cX8_readJoint 64 = .ok (.ireturn, 1) := by decide +kernel
theorem dX8_readJoint_65 : decode cX8_readJoint 65 = .ok (.aload_n 0, 1) := by decide +kernel
theorem dX8_readJoint_66 : decode cX8_readJoint 66 = .ok (.invokevirtual 188, 3) := by decide +kernel
theorem dX8_readJoint_69 : decode cX8_readJoint 69 = .ok (.aload_n 0, 1) := by decide +kernel
theorem dX8_readJoint_70 : decode cX8_readJoint 70 = .ok (.iconst 0, 1) := by decide +kernel
theorem dX8_readJoint_71 : decode cX8_readJoint 71 = .ok (.sipush 300, 3) := by decide +kernel
theorem dX8_readJoint_74 : decode cX8_readJoint 74 = .ok (.invokevirtual 201, 3) := by decide +kernel
theorem dX8_readJoint_77 : decode cX8_readJoint 77 = .ok (.ifCond .ne 5, 3) := by decide +kernel
theorem dX8_readJoint_80 : decode cX8_readJoint 80 = .ok (.iconst 0, 1) := by decide +kernel
theorem dX8_readJoint_81 : decode cX8_readJoint 81 = .ok (.ireturn, 1) := by decide +kernel
theorem dX8_readJoint_82 : decode cX8_readJoint 82 = .ok (.aload_n 0, 1) := by decide +kernel
theorem dX8_readJoint_83 : decode cX8_readJoint 83 = .ok (.getfield 22, 3) := by decide +kernel
theorem dX8_readJoint_86 : decode cX8_readJoint 86 = .ok (.bipush 9, 2) := by decide +kernel
theorem dX8_readJoint_88 : decode cX8_readJoint 88 = .ok (.aload_n 0, 1) := by decide +kernel
theorem dX8_readJoint_89 : decode cX8_readJoint 89 = .ok (.getfield 174, 3) := by decide +kernel
theorem dX8_readJoint_92 : decode cX8_readJoint 92 = .ok (.iadd, 1) := by decide +kernel
theorem dX8_readJoint_93 : decode cX8_readJoint 93 = .ok (.aload_n 0, 1) := by decide +kernel
theorem dX8_readJoint_94 : decode cX8_readJoint 94 = .ok (.getfield 185, 3) := by decide +kernel
theorem dX8_readJoint_97 : decode cX8_readJoint 97 = .ok (.iastore, 1) := by decide +kernel
theorem dX8_readJoint_98 : decode cX8_readJoint 98 = .ok (.aload_n 0, 1) := by decide +kernel
theorem dX8_readJoint_99 : decode cX8_readJoint 99 = .ok (.dup, 1) := by decide +kernel
theorem dX8_readJoint_100 : decode cX8_readJoint 100 = .ok (.getfield 174, 3) := by decide +kernel
theorem dX8_readJoint_103 : decode cX8_readJoint 103 = .ok (.iconst 1, 1) := by decide +kernel
theorem dX8_readJoint_104 : decode cX8_readJoint 104 = .ok (.iadd, 1) := by decide +kernel
theorem dX8_readJoint_105 : decode cX8_readJoint 105 = .ok (.putfield 174, 3) := by decide +kernel
theorem dX8_readJoint_108 : decode cX8_readJoint 108 = .ok (.iconst 1, 1) := by decide +kernel
theorem dX8_readJoint_109 : decode cX8_readJoint 109 = .ok (.ireturn, 1) := by decide +kernel
theorem dX8_takesJoint_0 : decode cX8_takesJoint 0 = .ok (.aload_n 0, 1) := by decide +kernel
theorem dX8_takesJoint_1 : decode cX8_takesJoint 1 = .ok (.invokevirtual 191, 3) := by decide +kernel
theorem dX8_takesJoint_4 : decode cX8_takesJoint 4 = .ok (.ifCond .ne 11, 3) := by decide +kernel
theorem dX8_takesJoint_7 : decode cX8_takesJoint 7 = .ok (.aload_n 0, 1) := by decide +kernel
theorem dX8_takesJoint_8 : decode cX8_takesJoint 8 = .ok (.iconst 1, 1) := by decide +kernel
theorem dX8_takesJoint_9 : decode cX8_takesJoint 9 = .ok (.invokevirtual 181, 3) := by decide +kernel
theorem dX8_takesJoint_12 : decode cX8_takesJoint 12 = .ok (.pop, 1) := by decide +kernel
theorem dX8_takesJoint_13 : decode cX8_takesJoint 13 = .ok (.iconst (-1), 1) := by decide +kernel
end
section
theorem dX8_takesJoint_14 : decode cX8_takesJoint 14 = .ok (.ireturn, 1) := by decide +kernel
theorem dX8_takesJoint_15 : decode cX8_takesJoint 15 = .ok (.aload_n 0, 1) := by decide +kernel
theorem dX8_takesJoint_16 : decode cX8_takesJoint 16 = .ok (.invokevirtual 195, 3) := by decide +kernel
theorem dX8_takesJoint_19 : decode cX8_takesJoint 19 = .ok (.istore_n 2, 1) := by decide +kernel
theorem dX8_takesJoint_20 : decode cX8_takesJoint 20 = .ok (.iload_n 2, 1) := by decide +kernel
theorem dX8_takesJoint_21 : decode cX8_takesJoint 21 = .ok (.iconst (-1), 1) := by decide +kernel
theorem dX8_takesJoint_22 : decode cX8_takesJoint 22 = .ok (.if_icmp .eq 8, 3) := by decide +kernel
theorem dX8_takesJoint_25 : decode cX8_takesJoint 25 = .ok (.iload_n 2, 1) := by decide +kernel
theorem dX8_takesJoint_26 : decode cX8_takesJoint 26 = .ok (.iload_n 1, 1) := by decide +kernel
theorem dX8_takesJoint_27 : decode cX8_takesJoint 27 = .ok (.if_icmp .ne 11, 3) := by decide +kernel
theorem dX8_takesJoint_30 : decode cX8_takesJoint 30 = .ok (.aload_n 0, 1) := by decide +kernel
theorem dX8_takesJoint_31 : decode cX8_takesJoint 31 = .ok (.iconst 3, 1) := by decide +kernel
theorem dX8_takesJoint_32 : decode cX8_takesJoint 32 = .ok (.invokevirtual 181, 3) := by decide +kernel
theorem dX8_takesJoint_35 : decode cX8_takesJoint 35 = .ok (.pop, 1) := by decide +kernel
theorem dX8_takesJoint_36 : decode cX8_takesJoint 36 = .ok (.iconst (-1), 1) := by decide +kernel
theorem dX8_takesJoint_37 : decode cX8_takesJoint 37 = .ok (.ireturn, 1) := by decide +kernel
theorem dX8_takesJoint_38 : decode cX8_takesJoint 38 = .ok (.aload_n 0, 1) := by decide +kernel
theorem dX8_takesJoint_39 : decode cX8_takesJoint 39 = .ok (.invokevirtual 188, 3) := by decide +kernel
theorem dX8_takesJoint_42 : decode cX8_takesJoint 42 = .ok (.iload_n 2, 1) := by decide +kernel
theorem dX8_takesJoint_43 : decode cX8_takesJoint 43 = .ok (.ireturn, 1) := by decide +kernel
theorem dX8_readLifts_0 : decode cX8_readLifts 0 = .ok (.bipush 6, 2) := by decide +kernel
theorem dX8_readLifts_2 : decode cX8_readLifts 2 = .ok (.iload_n 1, 1) := by decide +kernel
theorem dX8_readLifts_3 : decode cX8_readLifts 3 = .ok (.imul, 1) := by decide +kernel
theorem dX8_readLifts_4 : decode cX8_readLifts 4 = .ok (.istore_n 2, 1) := by decide +kernel
theorem dX8_readLifts_5 : decode cX8_readLifts 5 = .ok (.aload_n 0, 1) := by decide +kernel
theorem dX8_readLifts_6 : decode cX8_readLifts 6 = .ok (.getfield 43, 3) := by decide +kernel
theorem dX8_readLifts_9 : decode cX8_readLifts 9 = .ok (.iload_n 1, 1) := by decide +kernel
theorem dX8_readLifts_10 : decode cX8_readLifts 10 = .ok (.iconst 0, 1) := by decide +kernel
theorem dX8_readLifts_11 : decode cX8_readLifts 11 = .ok (.iastore, 1) := by decide +kernel
theorem dX8_readLifts_12 : decode cX8_readLifts 12 = .ok (.iconst 1, 1) := by decide +kernel
theorem dX8_readLifts_13 : decode cX8_readLifts 13 = .ok (.istore_n 3, 1) := by decide +kernel
theorem dX8_readLifts_14 : decode cX8_readLifts 14 = .ok (.iload_n 3, 1) := by decide +kernel
theorem dX8_readLifts_15 : decode cX8_readLifts 15 = .ok (.ifCond .eq 153, 3) := by decide +kernel
theorem dX8_readLifts_18 : decode cX8_readLifts 18 = .ok (.aload_n 0, 1) := by decide +kernel
theorem dX8_readLifts_19 : decode cX8_readLifts 19 = .ok (.getfield 124, 3) := by decide +kernel
theorem dX8_readLifts_22 : decode cX8_readLifts 22 = .ok (.iconst 3, 1) := by decide +kernel
theorem dX8_readLifts_23 : decode cX8_readLifts 23 = .ok (.if_icmp .ne 48, 3) := by decide +kernel
theorem dX8_readLifts_26 : decode cX8_readLifts 26 = .ok (.aload_n 0, 1) := by decide +kernel
theorem dX8_readLifts_27 : decode cX8_readLifts 27 = .ok (.getfield 43, 3) := by decide +kernel
theorem dX8_readLifts_30 : decode cX8_readLifts 30 = .ok (.iload_n 1, 1) := by decide +kernel
theorem dX8_readLifts_31 : decode cX8_readLifts 31 = .ok (.iaload, 1) := by decide +kernel
theorem dX8_readLifts_32 : decode cX8_readLifts 32 = .ok (.bipush 6, 2) := by decide +kernel
theorem dX8_readLifts_34 : decode cX8_readLifts 34 = .ok (.if_icmp .ne 37, 3) := by decide +kernel
theorem dX8_readLifts_37 : decode cX8_readLifts 37 = .ok (.aload_n 0, 1) := by decide +kernel
theorem dX8_readLifts_38 : decode cX8_readLifts 38 = .ok (.aload_n 0, 1) := by decide +kernel
theorem dX8_readLifts_39 : decode cX8_readLifts 39 = .ok (.getfield 139, 3) := by decide +kernel
theorem dX8_readLifts_42 : decode cX8_readLifts 42 = .ok (.i2l, 1) := by decide +kernel
theorem dX8_readLifts_43 : decode cX8_readLifts 43 = .ok (.lconst 0, 1) := by decide +kernel
theorem dX8_readLifts_44 : decode cX8_readLifts 44 = .ok (.aload_n 0, 1) := by decide +kernel
theorem dX8_readLifts_45 : decode cX8_readLifts 45 = .ok (.getfield 40, 3) := by decide +kernel
theorem dX8_readLifts_48 : decode cX8_readLifts 48 = .ok (.iload_n 2, 1) := by decide +kernel
theorem dX8_readLifts_49 : decode cX8_readLifts 49 = .ok (.bipush 6, 2) := by decide +kernel
theorem dX8_readLifts_51 : decode cX8_readLifts 51 = .ok (.iadd, 1) := by decide +kernel
theorem dX8_readLifts_52 : decode cX8_readLifts 52 = .ok (.iconst 1, 1) := by decide +kernel
theorem dX8_readLifts_53 : decode cX8_readLifts 53 = .ok (.isub, 1) := by decide +kernel
theorem dX8_readLifts_54 : decode cX8_readLifts 54 = .ok (.iaload, 1) := by decide +kernel
theorem dX8_readLifts_55 : decode cX8_readLifts 55 = .ok (.i2l, 1) := by decide +kernel
theorem dX8_readLifts_56 : decode cX8_readLifts 56 = .ok (.invokestatic 131, 3) := by decide +kernel
theorem dX8_readLifts_59 : decode cX8_readLifts 59 = .ok (.ifCond .eq 7, 3) := by decide +kernel
theorem dX8_readLifts_62 : decode cX8_readLifts 62 = .ok (.iconst 4, 1) := by decide +kernel
theorem dX8_readLifts_63 : decode cX8_readLifts 63 = .ok (.goto 4, 3) := by decide +kernel
theorem dX8_readLifts_66 : decode cX8_readLifts 66 = .ok (.iconst 2, 1) := by decide +kernel
theorem dX8_readLifts_67 : decode cX8_readLifts 67 = .ok (.invokevirtual 181, 3) := by decide +kernel
theorem dX8_readLifts_70 : decode cX8_readLifts 70 = .ok (.ireturn, 1) := by decide +kernel
theorem dX8_readLifts_71 : decode cX8_readLifts 71 = .ok (.aload_n 0, 1) := by decide +kernel
theorem dX8_readLifts_72 : decode cX8_readLifts 72 = .ok (.getfield 43, 3) := by decide +kernel
theorem dX8_readLifts_75 : decode cX8_readLifts 75 = .ok (.iload_n 1, 1) := by decide +kernel
theorem dX8_readLifts_76 : decode cX8_readLifts 76 = .ok (.iaload, 1) := by decide +kernel
theorem dX8_readLifts_77 : decode cX8_readLifts 77 = .ok (.ifCond .ne 9, 3) := by decide +kernel
theorem dX8_readLifts_80 : decode cX8_readLifts 80 = .ok (.sipush 300, 3) := by decide +kernel
theorem dX8_readLifts_83 : decode cX8_readLifts 83 = .ok (.goto 18, 3) := by decide +kernel
theorem dX8_readLifts_86 : decode cX8_readLifts 86 = .ok (.aload_n 0, 1) := by decide +kernel
theorem dX8_readLifts_87 : decode cX8_readLifts 87 = .ok (.getfield 40, 3) := by decide +kernel
theorem dX8_readLifts_90 : decode cX8_readLifts 90 = .ok (.iload_n 2, 1) := by decide +kernel
theorem dX8_readLifts_91 : decode cX8_readLifts 91 = .ok (.aload_n 0, 1) := by decide +kernel
theorem dX8_readLifts_92 : decode cX8_readLifts 92 = .ok (.getfield 43, 3) := by decide +kernel
theorem dX8_readLifts_95 : decode cX8_readLifts 95 = .ok (.iload_n 1, 1) := by decide +kernel
theorem dX8_readLifts_96 : decode cX8_readLifts 96 = .ok (.iaload, 1) := by decide +kernel
theorem dX8_readLifts_97 : decode cX8_readLifts 97 = .ok (.iadd, 1) := by decide +kernel
theorem dX8_readLifts_98 : decode cX8_readLifts 98 = .ok (.iconst 1, 1) := by decide +kernel
theorem dX8_readLifts_99 : decode cX8_readLifts 99 = .ok (.isub, 1) := by decide +kernel
theorem dX8_readLifts_100 : decode cX8_readLifts 100 = .ok (.iaload, 1) := by decide +kernel
theorem dX8_readLifts_101 : decode cX8_readLifts 101 = .ok (.istore 4, 2) := by decide +kernel
theorem dX8_readLifts_103 : decode cX8_readLifts 103 = .ok (.aload_n 0, 1) := by decide +kernel
theorem dX8_readLifts_104 : decode cX8_readLifts 104 = .ok (.iconst 0, 1) := by decide +kernel
theorem dX8_readLifts_105 : decode cX8_readLifts 105 = .ok (.iload 4, 2) := by decide +kernel
theorem dX8_readLifts_107 : decode cX8_readLifts 107 = .ok (.invokevirtual 201, 3) := by decide +kernel
theorem dX8_readLifts_110 : decode cX8_readLifts 110 = .ok (.ifCond .ne 5, 3) := by decide +kernel
theorem dX8_readLifts_113 : decode cX8_readLifts 113 = .ok (.iconst 0, 1) := by decide +kernel
theorem dX8_readLifts_114 : decode cX8_readLifts 114 = .ok (.ireturn, 1) := by decide +kernel
theorem dX8_readLifts_115 : decode cX8_readLifts 115 = .ok (.aload_n 0, 1) := by decide +kernel
theorem dX8_readLifts_116 : decode cX8_readLifts 116 = .ok (.getfield 40, 3) := by decide +kernel
theorem dX8_readLifts_119 : decode cX8_readLifts 119 = .ok (.iload_n 2, 1) := by decide +kernel
theorem dX8_readLifts_120 : decode cX8_readLifts 120 = .ok (.aload_n 0, 1) := by decide +kernel
theorem dX8_readLifts_121 : decode cX8_readLifts 121 = .ok (.getfield 43, 3) := by decide +kernel
theorem dX8_readLifts_124 : decode cX8_readLifts 124 = .ok (.iload_n 1, 1) := by decide +kernel
theorem dX8_readLifts_125 : decode cX8_readLifts 125 = .ok (.iaload, 1) := by decide +kernel
theorem dX8_readLifts_126 : decode cX8_readLifts 126 = .ok (.iadd, 1) := by decide +kernel
theorem dX8_readLifts_127 : decode cX8_readLifts 127 = .ok (.aload_n 0, 1) := by decide +kernel
theorem dX8_readLifts_128 : decode cX8_readLifts 128 = .ok (.getfield 185, 3) := by decide +kernel
theorem dX8_readLifts_131 : decode cX8_readLifts 131 = .ok (.iastore, 1) := by decide +kernel
theorem dX8_readLifts_132 : decode cX8_readLifts 132 = .ok (.aload_n 0, 1) := by decide +kernel
theorem dX8_readLifts_133 : decode cX8_readLifts 133 = .ok (.getfield 43, 3) := by decide +kernel
theorem dX8_readLifts_136 : decode cX8_readLifts 136 = .ok (.iload_n 1, 1) := by decide +kernel
theorem dX8_readLifts_137 : decode cX8_readLifts 137 = .ok (.dup2, 1) := by decide +kernel
theorem dX8_readLifts_138 : decode cX8_readLifts 138 = .ok (.iaload, 1) := by decide +kernel
theorem dX8_readLifts_139 : decode cX8_readLifts 139 = .ok (.iconst 1, 1) := by decide +kernel
theorem dX8_readLifts_140 : decode cX8_readLifts 140 = .ok (.iadd, 1) := by decide +kernel
theorem dX8_readLifts_141 : decode cX8_readLifts 141 = .ok (.iastore, 1) := by decide +kernel
theorem dX8_readLifts_142 : decode cX8_readLifts 142 = .ok (.aload_n 0, 1) := by decide +kernel
theorem dX8_readLifts_143 : decode cX8_readLifts 143 = .ok (.getfield 124, 3) := by decide +kernel
theorem dX8_readLifts_146 : decode cX8_readLifts 146 = .ok (.bipush 44, 2) := by decide +kernel
theorem dX8_readLifts_148 : decode cX8_readLifts 148 = .ok (.if_icmp .ne 7, 3) := by decide +kernel
theorem dX8_readLifts_151 : decode cX8_readLifts 151 = .ok (.iconst 1, 1) := by decide +kernel
theorem dX8_readLifts_152 : decode cX8_readLifts 152 = .ok (.goto 4, 3) := by decide +kernel
theorem dX8_readLifts_155 : decode cX8_readLifts 155 = .ok (.iconst 0, 1) := by decide +kernel
theorem dX8_readLifts_156 : decode cX8_readLifts 156 = .ok (.istore_n 3, 1) := by decide +kernel
theorem dX8_readLifts_157 : decode cX8_readLifts 157 = .ok (.iload_n 3, 1) := by decide +kernel
theorem dX8_readLifts_158 : decode cX8_readLifts 158 = .ok (.ifCond .eq 7, 3) := by decide +kernel
theorem dX8_readLifts_161 : decode cX8_readLifts 161 = .ok (.aload_n 0, 1) := by decide +kernel
theorem dX8_readLifts_162 : decode cX8_readLifts 162 = .ok (.invokevirtual 188, 3) := by decide +kernel
theorem dX8_readLifts_165 : decode cX8_readLifts 165 = .ok (.goto (-151), 3) := by decide +kernel
theorem dX8_readLifts_168 : decode cX8_readLifts 168 = .ok (.iconst 1, 1) := by decide +kernel
theorem dX8_readLifts_169 : decode cX8_readLifts 169 = .ok (.ireturn, 1) := by decide +kernel
theorem dX8_readEdge_0 : decode cX8_readEdge 0 = .ok (.aload_n 0, 1) := by decide +kernel
theorem dX8_readEdge_1 : decode cX8_readEdge 1 = .ok (.getfield 205, 3) := by decide +kernel
theorem dX8_readEdge_4 : decode cX8_readEdge 4 = .ok (.bipush 14, 2) := by decide +kernel
theorem dX8_readEdge_6 : decode cX8_readEdge 6 = .ok (.if_icmp .ne 9, 3) := by decide +kernel
theorem dX8_readEdge_9 : decode cX8_readEdge 9 = .ok (.aload_n 0, 1) := by decide +kernel
theorem dX8_readEdge_10 : decode cX8_readEdge 10 = .ok (.iconst 4, 1) := by decide +kernel
theorem dX8_readEdge_11 : decode cX8_readEdge 11 = .ok (.invokevirtual 181, 3) := by decide +kernel
theorem dX8_readEdge_14 : decode cX8_readEdge 14 = .ok (.ireturn, 1) := by decide +kernel
theorem dX8_readEdge_15 : decode cX8_readEdge 15 = .ok (.aload_n 0, 1) := by decide +kernel
theorem dX8_readEdge_16 : decode cX8_readEdge 16 = .ok (.invokevirtual 188, 3) := by decide +kernel
theorem dX8_readEdge_19 : decode cX8_readEdge 19 = .ok (.bipush 14, 2) := by decide +kernel
theorem dX8_readEdge_21 : decode cX8_readEdge 21 = .ok (.aload_n 0, 1) := by decide +kernel
theorem dX8_readEdge_22 : decode cX8_readEdge 22 = .ok (.getfield 205, 3) := by decide +kernel
theorem dX8_readEdge_25 : decode cX8_readEdge 25 = .ok (.iadd, 1) := by decide +kernel
theorem dX8_readEdge_26 : decode cX8_readEdge 26 = .ok (.istore_n 2, 1) := by decide +kernel
theorem dX8_readEdge_27 : decode cX8_readEdge 27 = .ok (.aload_n 0, 1) := by decide +kernel
theorem dX8_readEdge_28 : decode cX8_readEdge 28 = .ok (.getfield 28, 3) := by decide +kernel
theorem dX8_readEdge_31 : decode cX8_readEdge 31 = .ok (.iload_n 2, 1) := by decide +kernel
theorem dX8_readEdge_32 : decode cX8_readEdge 32 = .ok (.aload_n 0, 1) := by decide +kernel
theorem dX8_readEdge_33 : decode cX8_readEdge 33 = .ok (.iconst (-1), 1) := by decide +kernel
theorem dX8_readEdge_34 : decode cX8_readEdge 34 = .ok (.invokevirtual 208, 3) := by decide +kernel
theorem dX8_readEdge_37 : decode cX8_readEdge 37 = .ok (.iastore, 1) := by decide +kernel
theorem dX8_readEdge_38 : decode cX8_readEdge 38 = .ok (.aload_n 0, 1) := by decide +kernel
theorem dX8_readEdge_39 : decode cX8_readEdge 39 = .ok (.getfield 28, 3) := by decide +kernel
theorem dX8_readEdge_42 : decode cX8_readEdge 42 = .ok (.iload_n 2, 1) := by decide +kernel
theorem dX8_readEdge_43 : decode cX8_readEdge 43 = .ok (.iaload, 1) := by decide +kernel
theorem dX8_readEdge_44 : decode cX8_readEdge 44 = .ok (.iconst (-1), 1) := by decide +kernel
theorem dX8_readEdge_45 : decode cX8_readEdge 45 = .ok (.if_icmp .ne 5, 3) := by decide +kernel
theorem dX8_readEdge_48 : decode cX8_readEdge 48 = .ok (.iconst 0, 1) := by decide +kernel
theorem dX8_readEdge_49 : decode cX8_readEdge 49 = .ok (.ireturn, 1) := by decide +kernel
theorem dX8_readEdge_50 : decode cX8_readEdge 50 = .ok (.aload_n 0, 1) := by decide +kernel
theorem dX8_readEdge_51 : decode cX8_readEdge 51 = .ok (.getfield 31, 3) := by decide +kernel
theorem dX8_readEdge_54 : decode cX8_readEdge 54 = .ok (.iload_n 2, 1) := by decide +kernel
theorem dX8_readEdge_55 : decode cX8_readEdge 55 = .ok (.aload_n 0, 1) := by decide +kernel
theorem dX8_readEdge_56 : decode cX8_readEdge 56 = .ok (.aload_n 0, 1) := by decide +kernel
theorem dX8_readEdge_57 : decode cX8_readEdge 57 = .ok (.getfield 28, 3) := by decide +kernel
theorem dX8_readEdge_60 : decode cX8_readEdge 60 = .ok (.iload_n 2, 1) := by decide +kernel
theorem dX8_readEdge_61 : decode cX8_readEdge 61 = .ok (.iaload, 1) := by decide +kernel
theorem dX8_readEdge_62 : decode cX8_readEdge 62 = .ok (.invokevirtual 208, 3) := by decide +kernel
theorem dX8_readEdge_65 : decode cX8_readEdge 65 = .ok (.iastore, 1) := by decide +kernel
theorem dX8_readEdge_66 : decode cX8_readEdge 66 = .ok (.aload_n 0, 1) := by decide +kernel
theorem dX8_readEdge_67 : decode cX8_readEdge 67 = .ok (.getfield 31, 3) := by decide +kernel
theorem dX8_readEdge_70 : decode cX8_readEdge 70 = .ok (.iload_n 2, 1) := by decide +kernel
theorem dX8_readEdge_71 : decode cX8_readEdge 71 = .ok (.iaload, 1) := by decide +kernel
theorem dX8_readEdge_72 : decode cX8_readEdge 72 = .ok (.iconst (-1), 1) := by decide +kernel
theorem dX8_readEdge_73 : decode cX8_readEdge 73 = .ok (.if_icmp .ne 5, 3) := by decide +kernel
theorem dX8_readEdge_76 : decode cX8_readEdge 76 = .ok (.iconst 0, 1) := by decide +kernel
theorem dX8_readEdge_77 : decode cX8_readEdge 77 = .ok (.ireturn, 1) := by decide +kernel
theorem dX8_readEdge_78 : decode cX8_readEdge 78 = .ok (.aload_n 0, 1) := by decide +kernel
theorem dX8_readEdge_79 : decode cX8_readEdge 79 = .ok (.getfield 34, 3) := by decide +kernel
theorem dX8_readEdge_82 : decode cX8_readEdge 82 = .ok (.iload_n 2, 1) := by decide +kernel
theorem dX8_readEdge_83 : decode cX8_readEdge 83 = .ok (.iload_n 1, 1) := by decide +kernel
theorem dX8_readEdge_84 : decode cX8_readEdge 84 = .ok (.iastore, 1) := by decide +kernel
theorem dX8_readEdge_85 : decode cX8_readEdge 85 = .ok (.aload_n 0, 1) := by decide +kernel
theorem dX8_readEdge_86 : decode cX8_readEdge 86 = .ok (.getfield 37, 3) := by decide +kernel
theorem dX8_readEdge_89 : decode cX8_readEdge 89 = .ok (.iload_n 2, 1) := by decide +kernel
theorem dX8_readEdge_90 : decode cX8_readEdge 90 = .ok (.bipush (-2), 2) := by decide +kernel
theorem dX8_readEdge_92 : decode cX8_readEdge 92 = .ok (.iastore, 1) := by decide +kernel
theorem dX8_readEdge_93 : decode cX8_readEdge 93 = .ok (.aload_n 0, 1) := by decide +kernel
theorem dX8_readEdge_94 : decode cX8_readEdge 94 = .ok (.getfield 43, 3) := by decide +kernel
theorem dX8_readEdge_97 : decode cX8_readEdge 97 = .ok (.iload_n 2, 1) := by decide +kernel
theorem dX8_readEdge_98 : decode cX8_readEdge 98 = .ok (.iconst 0, 1) := by decide +kernel
theorem dX8_readEdge_99 : decode cX8_readEdge 99 = .ok (.iastore, 1) := by decide +kernel
theorem dX8_readEdge_100 : decode cX8_readEdge 100 = .ok (.iload_n 1, 1) := by decide +kernel
theorem dX8_readEdge_101 : decode cX8_readEdge 101 = .ok (.iconst 2, 1) := by decide +kernel
theorem dX8_readEdge_102 : decode cX8_readEdge 102 = .ok (.if_icmp .ne 13, 3) := by decide +kernel
theorem dX8_readEdge_105 : decode cX8_readEdge 105 = .ok (.aload_n 0, 1) := by decide +kernel
theorem dX8_readEdge_106 : decode cX8_readEdge 106 = .ok (.iload_n 2, 1) := by decide +kernel
theorem dX8_readEdge_107 : decode cX8_readEdge 107 = .ok (.invokevirtual 211, 3) := by decide +kernel
theorem dX8_readEdge_110 : decode cX8_readEdge 110 = .ok (.ifCond .ne 27, 3) := by decide +kernel
theorem dX8_readEdge_113 : decode cX8_readEdge 113 = .ok (.iconst 0, 1) := by decide +kernel
theorem dX8_readEdge_114 : decode cX8_readEdge 114 = .ok (.ireturn, 1) := by decide +kernel
theorem dX8_readEdge_115 : decode cX8_readEdge 115 = .ok (.aload_n 0, 1) := by decide +kernel
theorem dX8_readEdge_116 : decode cX8_readEdge 116 = .ok (.iconst 1, 1) := by decide +kernel
theorem dX8_readEdge_117 : decode cX8_readEdge 117 = .ok (.bipush 20, 2) := by decide +kernel
theorem dX8_readEdge_119 : decode cX8_readEdge 119 = .ok (.invokevirtual 201, 3) := by decide +kernel
theorem dX8_readEdge_122 : decode cX8_readEdge 122 = .ok (.ifCond .ne 5, 3) := by decide +kernel
theorem dX8_readEdge_125 : decode cX8_readEdge 125 = .ok (.iconst 0, 1) := by decide +kernel
theorem dX8_readEdge_126 : decode cX8_readEdge 126 = .ok (.ireturn, 1) := by decide +kernel
theorem dX8_readEdge_127 : decode cX8_readEdge 127 = .ok (.aload_n 0, 1) := by decide +kernel
theorem dX8_readEdge_128 : decode cX8_readEdge 128 = .ok (.getfield 37, 3) := by decide +kernel
theorem dX8_readEdge_131 : decode cX8_readEdge 131 = .ok (.iload_n 2, 1) := by decide +kernel
theorem dX8_readEdge_132 : decode cX8_readEdge 132 = .ok (.aload_n 0, 1) := by decide +kernel
theorem dX8_readEdge_133 : decode cX8_readEdge 133 = .ok (.getfield 185, 3) := by decide +kernel
theorem dX8_readEdge_136 : decode cX8_readEdge 136 = .ok (.iastore, 1) := by decide +kernel
theorem dX8_readEdge_137 : decode cX8_readEdge 137 = .ok (.aload_n 0, 1) := by decide +kernel
theorem dX8_readEdge_138 : decode cX8_readEdge 138 = .ok (.dup, 1) := by decide +kernel
theorem dX8_readEdge_139 : decode cX8_readEdge 139 = .ok (.getfield 205, 3) := by decide +kernel
theorem dX8_readEdge_142 : decode cX8_readEdge 142 = .ok (.iconst 1, 1) := by decide +kernel
theorem dX8_readEdge_143 : decode cX8_readEdge 143 = .ok (.iadd, 1) := by decide +kernel
theorem dX8_readEdge_144 : decode cX8_readEdge 144 = .ok (.putfield 205, 3) := by decide +kernel
theorem dX8_readEdge_147 : decode cX8_readEdge 147 = .ok (.iconst 1, 1) := by decide +kernel
theorem dX8_readEdge_148 : decode cX8_readEdge 148 = .ok (.ireturn, 1) := by decide +kernel
theorem dX8_readLine_0 : decode cX8_readLine 0 = .ok (.aload_n 0, 1) := by decide +kernel
theorem dX8_readLine_1 : decode cX8_readLine 1 = .ok (.ldc 164, 2) := by decide +kernel
theorem dX8_readLine_3 : decode cX8_readLine 3 = .ok (.invokevirtual 160, 3) := by decide +kernel
theorem dX8_readLine_6 : decode cX8_readLine 6 = .ok (.ifCond .eq 8, 3) := by decide +kernel
theorem dX8_readLine_9 : decode cX8_readLine 9 = .ok (.aload_n 0, 1) := by decide +kernel
theorem dX8_readLine_10 : decode cX8_readLine 10 = .ok (.invokevirtual 214, 3) := by decide +kernel
theorem dX8_readLine_13 : decode cX8_readLine 13 = .ok (.ireturn, 1) := by decide +kernel
theorem dX8_readLine_14 : decode cX8_readLine 14 = .ok (.aload_n 0, 1) := by decide +kernel
theorem dX8_readLine_15 : decode cX8_readLine 15 = .ok (.ldc 168, 2) := by decide +kernel
theorem dX8_readLine_17 : decode cX8_readLine 17 = .ok (.invokevirtual 160, 3) := by decide +kernel
theorem dX8_readLine_20 : decode cX8_readLine 20 = .ok (.ifCond .eq 11, 3) := by decide +kernel
theorem dX8_readLine_23 : decode cX8_readLine 23 = .ok (.aload_n 0, 1) := by decide +kernel
theorem dX8_readLine_24 : decode cX8_readLine 24 = .ok (.iconst 0, 1) := by decide +kernel
theorem dX8_readLine_25 : decode cX8_readLine 25 = .ok (.invokevirtual 217, 3) := by decide +kernel
theorem dX8_readLine_28 : decode cX8_readLine 28 = .ok (.goto 42, 3) := by decide +kernel
theorem dX8_readLine_31 : decode cX8_readLine 31 = .ok (.aload_n 0, 1) := by decide +kernel
theorem dX8_readLine_32 : decode cX8_readLine 32 = .ok (.ldc 170, 2) := by decide +kernel
theorem dX8_readLine_34 : decode cX8_readLine 34 = .ok (.invokevirtual 160, 3) := by decide +kernel
theorem dX8_readLine_37 : decode cX8_readLine 37 = .ok (.ifCond .eq 11, 3) := by decide +kernel
theorem dX8_readLine_40 : decode cX8_readLine 40 = .ok (.aload_n 0, 1) := by decide +kernel
theorem dX8_readLine_41 : decode cX8_readLine 41 = .ok (.iconst 1, 1) := by decide +kernel
theorem dX8_readLine_42 : decode cX8_readLine 42 = .ok (.invokevirtual 217, 3) := by decide +kernel
theorem dX8_readLine_45 : decode cX8_readLine 45 = .ok (.goto 25, 3) := by decide +kernel
theorem dX8_readLine_48 : decode cX8_readLine 48 = .ok (.aload_n 0, 1) := by decide +kernel
theorem dX8_readLine_49 : decode cX8_readLine 49 = .ok (.ldc 172, 2) := by decide +kernel
theorem dX8_readLine_51 : decode cX8_readLine 51 = .ok (.invokevirtual 160, 3) := by decide +kernel
theorem dX8_readLine_54 : decode cX8_readLine 54 = .ok (.ifCond .eq 11, 3) := by decide +kernel
theorem dX8_readLine_57 : decode cX8_readLine 57 = .ok (.aload_n 0, 1) := by decide +kernel
theorem dX8_readLine_58 : decode cX8_readLine 58 = .ok (.iconst 2, 1) := by decide +kernel
theorem dX8_readLine_59 : decode cX8_readLine 59 = .ok (.invokevirtual 217, 3) := by decide +kernel
theorem dX8_readLine_62 : decode cX8_readLine 62 = .ok (.goto 8, 3) := by decide +kernel
theorem dX8_readLine_65 : decode cX8_readLine 65 = .ok (.aload_n 0, 1) := by decide +kernel
theorem dX8_readLine_66 : decode cX8_readLine 66 = .ok (.iconst 1, 1) := by decide +kernel
theorem dX8_readLine_67 : decode cX8_readLine 67 = .ok (.invokevirtual 181, 3) := by decide +kernel
theorem dX8_readLine_70 : decode cX8_readLine 70 = .ok (.ireturn, 1) := by decide +kernel
theorem dX8_areMet_0 : decode cX8_areMet 0 = .ok (.iconst 1, 1) := by decide +kernel
theorem dX8_areMet_1 : decode cX8_areMet 1 = .ok (.istore_n 1, 1) := by decide +kernel
theorem dX8_areMet_2 : decode cX8_areMet 2 = .ok (.iconst 0, 1) := by decide +kernel
theorem dX8_areMet_3 : decode cX8_areMet 3 = .ok (.istore_n 2, 1) := by decide +kernel
theorem dX8_areMet_4 : decode cX8_areMet 4 = .ok (.iload_n 2, 1) := by decide +kernel
theorem dX8_areMet_5 : decode cX8_areMet 5 = .ok (.aload_n 0, 1) := by decide +kernel
theorem dX8_areMet_6 : decode cX8_areMet 6 = .ok (.getfield 174, 3) := by decide +kernel
theorem dX8_areMet_9 : decode cX8_areMet 9 = .ok (.if_icmp .ge 105, 3) := by decide +kernel
theorem dX8_areMet_12 : decode cX8_areMet 12 = .ok (.bipush 14, 2) := by decide +kernel
theorem dX8_areMet_14 : decode cX8_areMet 14 = .ok (.istore_n 3, 1) := by decide +kernel
theorem dX8_areMet_15 : decode cX8_areMet 15 = .ok (.iload_n 3, 1) := by decide +kernel
theorem dX8_areMet_16 : decode cX8_areMet 16 = .ok (.bipush 14, 2) := by decide +kernel
theorem dX8_areMet_18 : decode cX8_areMet 18 = .ok (.aload_n 0, 1) := by decide +kernel
theorem dX8_areMet_19 : decode cX8_areMet 19 = .ok (.getfield 205, 3) := by decide +kernel
theorem dX8_areMet_22 : decode cX8_areMet 22 = .ok (.iadd, 1) := by decide +kernel
theorem dX8_areMet_23 : decode cX8_areMet 23 = .ok (.if_icmp .ge 85, 3) := by decide +kernel
theorem dX8_areMet_26 : decode cX8_areMet 26 = .ok (.iload_n 1, 1) := by decide +kernel
theorem dX8_areMet_27 : decode cX8_areMet 27 = .ok (.aload_n 0, 1) := by decide +kernel
theorem dX8_areMet_28 : decode cX8_areMet 28 = .ok (.getfield 28, 3) := by decide +kernel
theorem dX8_areMet_31 : decode cX8_areMet 31 = .ok (.iload_n 3, 1) := by decide +kernel
theorem dX8_areMet_32 : decode cX8_areMet 32 = .ok (.iaload, 1) := by decide +kernel
theorem dX8_areMet_33 : decode cX8_areMet 33 = .ok (.ishr, 1) := by decide +kernel
theorem dX8_areMet_34 : decode cX8_areMet 34 = .ok (.iconst 1, 1) := by decide +kernel
theorem dX8_areMet_35 : decode cX8_areMet 35 = .ok (.iand, 1) := by decide +kernel
theorem dX8_areMet_36 : decode cX8_areMet 36 = .ok (.iconst 1, 1) := by decide +kernel
theorem dX8_areMet_37 : decode cX8_areMet 37 = .ok (.if_icmp .ne 7, 3) := by decide +kernel
theorem dX8_areMet_40 : decode cX8_areMet 40 = .ok (.iconst 1, 1) := by decide +kernel
theorem dX8_areMet_41 : decode cX8_areMet 41 = .ok (.goto 4, 3) := by decide +kernel
theorem dX8_areMet_44 : decode cX8_areMet 44 = .ok (.iconst 0, 1) := by decide +kernel
theorem dX8_areMet_45 : decode cX8_areMet 45 = .ok (.istore 4, 2) := by decide +kernel
theorem dX8_areMet_47 : decode cX8_areMet 47 = .ok (.iload_n 1, 1) := by decide +kernel
theorem dX8_areMet_48 : decode cX8_areMet 48 = .ok (.aload_n 0, 1) := by decide +kernel
theorem dX8_areMet_49 : decode cX8_areMet 49 = .ok (.getfield 31, 3) := by decide +kernel
theorem dX8_areMet_52 : decode cX8_areMet 52 = .ok (.iload_n 3, 1) := by decide +kernel
theorem dX8_areMet_53 : decode cX8_areMet 53 = .ok (.iaload, 1) := by decide +kernel
theorem dX8_areMet_54 : decode cX8_areMet 54 = .ok (.ishr, 1) := by decide +kernel
theorem dX8_areMet_55 : decode cX8_areMet 55 = .ok (.iconst 1, 1) := by decide +kernel
theorem dX8_areMet_56 : decode cX8_areMet 56 = .ok (.iand, 1) := by decide +kernel
theorem dX8_areMet_57 : decode cX8_areMet 57 = .ok (.iconst 1, 1) := by decide +kernel
theorem dX8_areMet_58 : decode cX8_areMet 58 = .ok (.if_icmp .ne 7, 3) := by decide +kernel
theorem dX8_areMet_61 : decode cX8_areMet 61 = .ok (.iconst 1, 1) := by decide +kernel
theorem dX8_areMet_62 : decode cX8_areMet 62 = .ok (.goto 4, 3) := by decide +kernel
theorem dX8_areMet_65 : decode cX8_areMet 65 = .ok (.iconst 0, 1) := by decide +kernel
theorem dX8_areMet_66 : decode cX8_areMet 66 = .ok (.istore 5, 2) := by decide +kernel
theorem dX8_areMet_68 : decode cX8_areMet 68 = .ok (.iload_n 1, 1) := by decide +kernel
theorem dX8_areMet_69 : decode cX8_areMet 69 = .ok (.iload 4, 2) := by decide +kernel
theorem dX8_areMet_71 : decode cX8_areMet 71 = .ok (.ifCond .ne 8, 3) := by decide +kernel
theorem dX8_areMet_74 : decode cX8_areMet 74 = .ok (.iload 5, 2) := by decide +kernel
theorem dX8_areMet_76 : decode cX8_areMet 76 = .ok (.ifCond .eq 23, 3) := by decide +kernel
theorem dX8_areMet_79 : decode cX8_areMet 79 = .ok (.iconst 1, 1) := by decide +kernel
theorem dX8_areMet_80 : decode cX8_areMet 80 = .ok (.aload_n 0, 1) := by decide +kernel
theorem dX8_areMet_81 : decode cX8_areMet 81 = .ok (.getfield 28, 3) := by decide +kernel
theorem dX8_areMet_84 : decode cX8_areMet 84 = .ok (.iload_n 3, 1) := by decide +kernel
theorem dX8_areMet_85 : decode cX8_areMet 85 = .ok (.iaload, 1) := by decide +kernel
theorem dX8_areMet_86 : decode cX8_areMet 86 = .ok (.ishl, 1) := by decide +kernel
theorem dX8_areMet_87 : decode cX8_areMet 87 = .ok (.iconst 1, 1) := by decide +kernel
theorem dX8_areMet_88 : decode cX8_areMet 88 = .ok (.aload_n 0, 1) := by decide +kernel
theorem dX8_areMet_89 : decode cX8_areMet 89 = .ok (.getfield 31, 3) := by decide +kernel
theorem dX8_areMet_92 : decode cX8_areMet 92 = .ok (.iload_n 3, 1) := by decide +kernel
theorem dX8_areMet_93 : decode cX8_areMet 93 = .ok (.iaload, 1) := by decide +kernel
theorem dX8_areMet_94 : decode cX8_areMet 94 = .ok (.ishl, 1) := by decide +kernel
theorem dX8_areMet_95 : decode cX8_areMet 95 = .ok (.ior, 1) := by decide +kernel
theorem dX8_areMet_96 : decode cX8_areMet 96 = .ok (.goto 4, 3) := by decide +kernel
theorem dX8_areMet_99 : decode cX8_areMet 99 = .ok (.iconst 0, 1) := by decide +kernel
theorem dX8_areMet_100 : decode cX8_areMet 100 = .ok (.ior, 1) := by decide +kernel
theorem dX8_areMet_101 : decode cX8_areMet 101 = .ok (.istore_n 1, 1) := by decide +kernel
theorem dX8_areMet_102 : decode cX8_areMet 102 = .ok (.iinc 3 1, 3) := by decide +kernel
theorem dX8_areMet_105 : decode cX8_areMet 105 = .ok (.goto (-90), 3) := by decide +kernel
theorem dX8_areMet_108 : decode cX8_areMet 108 = .ok (.iinc 2 1, 3) := by decide +kernel
theorem dX8_areMet_111 : decode cX8_areMet 111 = .ok (.goto (-107), 3) := by decide +kernel
theorem dX8_areMet_114 : decode cX8_areMet 114 = .ok (.iload_n 1, 1) := by decide +kernel
theorem dX8_areMet_115 : decode cX8_areMet 115 = .ok (.iconst 1, 1) := by decide +kernel
theorem dX8_areMet_116 : decode cX8_areMet 116 = .ok (.aload_n 0, 1) := by decide +kernel
theorem dX8_areMet_117 : decode cX8_areMet 117 = .ok (.getfield 174, 3) := by decide +kernel
theorem dX8_areMet_120 : decode cX8_areMet 120 = .ok (.ishl, 1) := by decide +kernel
theorem dX8_areMet_121 : decode cX8_areMet 121 = .ok (.iconst 1, 1) := by decide +kernel
theorem dX8_areMet_122 : decode cX8_areMet 122 = .ok (.isub, 1) := by decide +kernel
theorem dX8_areMet_123 : decode cX8_areMet 123 = .ok (.if_icmp .ne 7, 3) := by decide +kernel
theorem dX8_areMet_126 : decode cX8_areMet 126 = .ok (.iconst 1, 1) := by decide +kernel
theorem dX8_areMet_127 : decode cX8_areMet 127 = .ok (.goto 4, 3) := by decide +kernel
theorem dX8_areMet_130 : decode cX8_areMet 130 = .ok (.iconst 0, 1) := by decide +kernel
theorem dX8_areMet_131 : decode cX8_areMet 131 = .ok (.ireturn, 1) := by decide +kernel
theorem dX8_readAll_0 : decode cX8_readAll 0 = .ok (.aload_n 0, 1) := by decide +kernel
theorem dX8_readAll_1 : decode cX8_readAll 1 = .ok (.iload_n 1, 1) := by decide +kernel
theorem dX8_readAll_2 : decode cX8_readAll 2 = .ok (.putfield 111, 3) := by decide +kernel
theorem dX8_readAll_5 : decode cX8_readAll 5 = .ok (.aload_n 0, 1) := by decide +kernel
theorem dX8_readAll_6 : decode cX8_readAll 6 = .ok (.iconst 0, 1) := by decide +kernel
theorem dX8_readAll_7 : decode cX8_readAll 7 = .ok (.putfield 114, 3) := by decide +kernel
theorem dX8_readAll_10 : decode cX8_readAll 10 = .ok (.aload_n 0, 1) := by decide +kernel
theorem dX8_readAll_11 : decode cX8_readAll 11 = .ok (.iconst 0, 1) := by decide +kernel
theorem dX8_readAll_12 : decode cX8_readAll 12 = .ok (.putfield 174, 3) := by decide +kernel
theorem dX8_readAll_15 : decode cX8_readAll 15 = .ok (.aload_n 0, 1) := by decide +kernel
theorem dX8_readAll_16 : decode cX8_readAll 16 = .ok (.iconst 0, 1) := by decide +kernel
theorem dX8_readAll_17 : decode cX8_readAll 17 = .ok (.putfield 205, 3) := by decide +kernel
theorem dX8_readAll_20 : decode cX8_readAll 20 = .ok (.aload_n 0, 1) := by decide +kernel
theorem dX8_readAll_21 : decode cX8_readAll 21 = .ok (.invokevirtual 188, 3) := by decide +kernel
theorem dX8_readAll_24 : decode cX8_readAll 24 = .ok (.aload_n 0, 1) := by decide +kernel
theorem dX8_readAll_25 : decode cX8_readAll 25 = .ok (.invokevirtual 220, 3) := by decide +kernel
theorem dX8_readAll_28 : decode cX8_readAll 28 = .ok (.ifCond .ne 5, 3) := by decide +kernel
theorem dX8_readAll_31 : decode cX8_readAll 31 = .ok (.iconst 0, 1) := by decide +kernel
theorem dX8_readAll_32 : decode cX8_readAll 32 = .ok (.ireturn, 1) := by decide +kernel
theorem dX8_readAll_33 : decode cX8_readAll 33 = .ok (.aload_n 0, 1) := by decide +kernel
theorem dX8_readAll_34 : decode cX8_readAll 34 = .ok (.getfield 124, 3) := by decide +kernel
theorem dX8_readAll_37 : decode cX8_readAll 37 = .ok (.bipush 59, 2) := by decide +kernel
theorem dX8_readAll_39 : decode cX8_readAll 39 = .ok (.if_icmp .ne 16, 3) := by decide +kernel
theorem dX8_readAll_42 : decode cX8_readAll 42 = .ok (.aload_n 0, 1) := by decide +kernel
theorem dX8_readAll_43 : decode cX8_readAll 43 = .ok (.invokevirtual 188, 3) := by decide +kernel
theorem dX8_readAll_46 : decode cX8_readAll 46 = .ok (.aload_n 0, 1) := by decide +kernel
theorem dX8_readAll_47 : decode cX8_readAll 47 = .ok (.invokevirtual 223, 3) := by decide +kernel
theorem dX8_readAll_50 : decode cX8_readAll 50 = .ok (.ifCond .ne (-17), 3) := by decide +kernel
theorem dX8_readAll_53 : decode cX8_readAll 53 = .ok (.iconst 0, 1) := by decide +kernel
theorem dX8_readAll_54 : decode cX8_readAll 54 = .ok (.ireturn, 1) := by decide +kernel
theorem dX8_readAll_55 : decode cX8_readAll 55 = .ok (.aload_n 0, 1) := by decide +kernel
theorem dX8_readAll_56 : decode cX8_readAll 56 = .ok (.getfield 124, 3) := by decide +kernel
theorem dX8_readAll_59 : decode cX8_readAll 59 = .ok (.ifCond .eq 9, 3) := by decide +kernel
theorem dX8_readAll_62 : decode cX8_readAll 62 = .ok (.aload_n 0, 1) := by decide +kernel
theorem dX8_readAll_63 : decode cX8_readAll 63 = .ok (.iconst 1, 1) := by decide +kernel
theorem dX8_readAll_64 : decode cX8_readAll 64 = .ok (.invokevirtual 181, 3) := by decide +kernel
theorem dX8_readAll_67 : decode cX8_readAll 67 = .ok (.ireturn, 1) := by decide +kernel
theorem dX8_readAll_68 : decode cX8_readAll 68 = .ok (.aload_n 0, 1) := by decide +kernel
theorem dX8_readAll_69 : decode cX8_readAll 69 = .ok (.getfield 174, 3) := by decide +kernel
theorem dX8_readAll_72 : decode cX8_readAll 72 = .ok (.iconst 1, 1) := by decide +kernel
theorem dX8_readAll_73 : decode cX8_readAll 73 = .ok (.if_icmp .le 10, 3) := by decide +kernel
theorem dX8_readAll_76 : decode cX8_readAll 76 = .ok (.aload_n 0, 1) := by decide +kernel
theorem dX8_readAll_77 : decode cX8_readAll 77 = .ok (.invokevirtual 226, 3) := by decide +kernel
theorem dX8_readAll_80 : decode cX8_readAll 80 = .ok (.ifCond .ne 11, 3) := by decide +kernel
theorem dX8_readAll_83 : decode cX8_readAll 83 = .ok (.aload_n 0, 1) := by decide +kernel
theorem dX8_readAll_84 : decode cX8_readAll 84 = .ok (.iconst 5, 1) := by decide +kernel
theorem dX8_readAll_85 : decode cX8_readAll 85 = .ok (.invokevirtual 181, 3) := by decide +kernel
theorem dX8_readAll_88 : decode cX8_readAll 88 = .ok (.ifCond .eq 7, 3) := by decide +kernel
theorem dX8_readAll_91 : decode cX8_readAll 91 = .ok (.iconst 1, 1) := by decide +kernel
theorem dX8_readAll_92 : decode cX8_readAll 92 = .ok (.goto 4, 3) := by decide +kernel
theorem dX8_readAll_95 : decode cX8_readAll 95 = .ok (.iconst 0, 1) := by decide +kernel
theorem dX8_readAll_96 : decode cX8_readAll 96 = .ok (.ireturn, 1) := by decide +kernel
theorem dX8_stands_0 : decode cX8_stands 0 = .ok (.aload_n 0, 1) := by decide +kernel
theorem dX8_stands_1 : decode cX8_stands 1 = .ok (.aload_n 0, 1) := by decide +kernel
theorem dX8_stands_2 : decode cX8_stands 2 = .ok (.getfield 174, 3) := by decide +kernel
theorem dX8_stands_5 : decode cX8_stands 5 = .ok (.putfield 229, 3) := by decide +kernel
theorem dX8_stands_8 : decode cX8_stands 8 = .ok (.aload_n 0, 1) := by decide +kernel
theorem dX8_stands_9 : decode cX8_stands 9 = .ok (.aload_n 0, 1) := by decide +kernel
theorem dX8_stands_10 : decode cX8_stands 10 = .ok (.getfield 205, 3) := by decide +kernel
theorem dX8_stands_13 : decode cX8_stands 13 = .ok (.putfield 232, 3) := by decide +kernel
theorem dX8_stands_16 : decode cX8_stands 16 = .ok (.aload_n 0, 1) := by decide +kernel
theorem dX8_stands_17 : decode cX8_stands 17 = .ok (.iconst 0, 1) := by decide +kernel
theorem dX8_stands_18 : decode cX8_stands 18 = .ok (.putfield 235, 3) := by decide +kernel
theorem dX8_stands_21 : decode cX8_stands 21 = .ok (.aload_n 0, 1) := by decide +kernel
theorem dX8_stands_22 : decode cX8_stands 22 = .ok (.iconst 0, 1) := by decide +kernel
theorem dX8_stands_23 : decode cX8_stands 23 = .ok (.putfield 238, 3) := by decide +kernel
theorem dX8_stands_26 : decode cX8_stands 26 = .ok (.iconst 0, 1) := by decide +kernel
theorem dX8_stands_27 : decode cX8_stands 27 = .ok (.istore_n 1, 1) := by decide +kernel
theorem dX8_stands_28 : decode cX8_stands 28 = .ok (.iload_n 1, 1) := by decide +kernel
theorem dX8_stands_29 : decode cX8_stands 29 = .ok (.bipush 9, 2) := by decide +kernel
theorem dX8_stands_31 : decode cX8_stands 31 = .ok (.if_icmp .ge 46, 3) := by decide +kernel
theorem dX8_stands_34 : decode cX8_stands 34 = .ok (.aload_n 0, 1) := by decide +kernel
theorem dX8_stands_35 : decode cX8_stands 35 = .ok (.getfield 19, 3) := by decide +kernel
theorem dX8_stands_38 : decode cX8_stands 38 = .ok (.iload_n 1, 1) := by decide +kernel
theorem dX8_stands_39 : decode cX8_stands 39 = .ok (.aload_n 0, 1) := by decide +kernel
theorem dX8_stands_40 : decode cX8_stands 40 = .ok (.getfield 19, 3) := by decide +kernel
theorem dX8_stands_43 : decode cX8_stands 43 = .ok (.bipush 9, 2) := by decide +kernel
theorem dX8_stands_45 : decode cX8_stands 45 = .ok (.iload_n 1, 1) := by decide +kernel
theorem dX8_stands_46 : decode cX8_stands 46 = .ok (.iadd, 1) := by decide +kernel
theorem dX8_stands_47 : decode cX8_stands 47 = .ok (.iaload, 1) := by decide +kernel
theorem dX8_stands_48 : decode cX8_stands 48 = .ok (.iastore, 1) := by decide +kernel
theorem dX8_stands_49 : decode cX8_stands 49 = .ok (.aload_n 0, 1) := by decide +kernel
theorem dX8_stands_50 : decode cX8_stands 50 = .ok (.getfield 22, 3) := by decide +kernel
theorem dX8_stands_53 : decode cX8_stands 53 = .ok (.iload_n 1, 1) := by decide +kernel
theorem dX8_stands_54 : decode cX8_stands 54 = .ok (.aload_n 0, 1) := by decide +kernel
theorem dX8_stands_55 : decode cX8_stands 55 = .ok (.getfield 22, 3) := by decide +kernel
theorem dX8_stands_58 : decode cX8_stands 58 = .ok (.bipush 9, 2) := by decide +kernel
theorem dX8_stands_60 : decode cX8_stands 60 = .ok (.iload_n 1, 1) := by decide +kernel
theorem dX8_stands_61 : decode cX8_stands 61 = .ok (.iadd, 1) := by decide +kernel
theorem dX8_stands_62 : decode cX8_stands 62 = .ok (.iaload, 1) := by decide +kernel
theorem dX8_stands_63 : decode cX8_stands 63 = .ok (.iastore, 1) := by decide +kernel
theorem dX8_stands_64 : decode cX8_stands 64 = .ok (.aload_n 0, 1) := by decide +kernel
theorem dX8_stands_65 : decode cX8_stands 65 = .ok (.getfield 80, 3) := by decide +kernel
theorem dX8_stands_68 : decode cX8_stands 68 = .ok (.iload_n 1, 1) := by decide +kernel
theorem dX8_stands_69 : decode cX8_stands 69 = .ok (.iconst 0, 1) := by decide +kernel
theorem dX8_stands_70 : decode cX8_stands 70 = .ok (.bastore, 1) := by decide +kernel
theorem dX8_stands_71 : decode cX8_stands 71 = .ok (.iinc 1 1, 3) := by decide +kernel
theorem dX8_stands_74 : decode cX8_stands 74 = .ok (.goto (-46), 3) := by decide +kernel
theorem dX8_stands_77 : decode cX8_stands 77 = .ok (.iconst 0, 1) := by decide +kernel
theorem dX8_stands_78 : decode cX8_stands 78 = .ok (.istore_n 1, 1) := by decide +kernel
theorem dX8_stands_79 : decode cX8_stands 79 = .ok (.iload_n 1, 1) := by decide +kernel
theorem dX8_stands_80 : decode cX8_stands 80 = .ok (.bipush 54, 2) := by decide +kernel
theorem dX8_stands_82 : decode cX8_stands 82 = .ok (.if_icmp .ge 24, 3) := by decide +kernel
theorem dX8_stands_85 : decode cX8_stands 85 = .ok (.aload_n 0, 1) := by decide +kernel
theorem dX8_stands_86 : decode cX8_stands 86 = .ok (.getfield 25, 3) := by decide +kernel
theorem dX8_stands_89 : decode cX8_stands 89 = .ok (.iload_n 1, 1) := by decide +kernel
theorem dX8_stands_90 : decode cX8_stands 90 = .ok (.aload_n 0, 1) := by decide +kernel
theorem dX8_stands_91 : decode cX8_stands 91 = .ok (.getfield 25, 3) := by decide +kernel
theorem dX8_stands_94 : decode cX8_stands 94 = .ok (.bipush 54, 2) := by decide +kernel
theorem dX8_stands_96 : decode cX8_stands 96 = .ok (.iload_n 1, 1) := by decide +kernel
theorem dX8_stands_97 : decode cX8_stands 97 = .ok (.iadd, 1) := by decide +kernel
theorem dX8_stands_98 : decode cX8_stands 98 = .ok (.iaload, 1) := by decide +kernel
theorem dX8_stands_99 : decode cX8_stands 99 = .ok (.iastore, 1) := by decide +kernel
theorem dX8_stands_100 : decode cX8_stands 100 = .ok (.iinc 1 1, 3) := by decide +kernel
theorem dX8_stands_103 : decode cX8_stands 103 = .ok (.goto (-24), 3) := by decide +kernel
theorem dX8_stands_106 : decode cX8_stands 106 = .ok (.iconst 0, 1) := by decide +kernel
theorem dX8_stands_107 : decode cX8_stands 107 = .ok (.istore_n 1, 1) := by decide +kernel
theorem dX8_stands_108 : decode cX8_stands 108 = .ok (.iload_n 1, 1) := by decide +kernel
theorem dX8_stands_109 : decode cX8_stands 109 = .ok (.bipush 14, 2) := by decide +kernel
theorem dX8_stands_111 : decode cX8_stands 111 = .ok (.if_icmp .ge 84, 3) := by decide +kernel
theorem dX8_stands_114 : decode cX8_stands 114 = .ok (.aload_n 0, 1) := by decide +kernel
theorem dX8_stands_115 : decode cX8_stands 115 = .ok (.getfield 28, 3) := by decide +kernel
theorem dX8_stands_118 : decode cX8_stands 118 = .ok (.iload_n 1, 1) := by decide +kernel
theorem dX8_stands_119 : decode cX8_stands 119 = .ok (.aload_n 0, 1) := by decide +kernel
theorem dX8_stands_120 : decode cX8_stands 120 = .ok (.getfield 28, 3) := by decide +kernel
theorem dX8_stands_123 : decode cX8_stands 123 = .ok (.bipush 14, 2) := by decide +kernel
theorem dX8_stands_125 : decode cX8_stands 125 = .ok (.iload_n 1, 1) := by decide +kernel
theorem dX8_stands_126 : decode cX8_stands 126 = .ok (.iadd, 1) := by decide +kernel
theorem dX8_stands_127 : decode cX8_stands 127 = .ok (.iaload, 1) := by decide +kernel
theorem dX8_stands_128 : decode cX8_stands 128 = .ok (.iastore, 1) := by decide +kernel
theorem dX8_stands_129 : decode cX8_stands 129 = .ok (.aload_n 0, 1) := by decide +kernel
theorem dX8_stands_130 : decode cX8_stands 130 = .ok (.getfield 31, 3) := by decide +kernel
theorem dX8_stands_133 : decode cX8_stands 133 = .ok (.iload_n 1, 1) := by decide +kernel
theorem dX8_stands_134 : decode cX8_stands 134 = .ok (.aload_n 0, 1) := by decide +kernel
theorem dX8_stands_135 : decode cX8_stands 135 = .ok (.getfield 31, 3) := by decide +kernel
theorem dX8_stands_138 : decode cX8_stands 138 = .ok (.bipush 14, 2) := by decide +kernel
theorem dX8_stands_140 : decode cX8_stands 140 = .ok (.iload_n 1, 1) := by decide +kernel
theorem dX8_stands_141 : decode cX8_stands 141 = .ok (.iadd, 1) := by decide +kernel
theorem dX8_stands_142 : decode cX8_stands 142 = .ok (.iaload, 1) := by decide +kernel
theorem dX8_stands_143 : decode cX8_stands 143 = .ok (.iastore, 1) := by decide +kernel
theorem dX8_stands_144 : decode cX8_stands 144 = .ok (.aload_n 0, 1) := by decide +kernel
theorem dX8_stands_145 : decode cX8_stands 145 = .ok (.getfield 34, 3) := by decide +kernel
theorem dX8_stands_148 : decode cX8_stands 148 = .ok (.iload_n 1, 1) := by decide +kernel
theorem dX8_stands_149 : decode cX8_stands 149 = .ok (.aload_n 0, 1) := by decide +kernel
theorem dX8_stands_150 : decode cX8_stands 150 = .ok (.getfield 34, 3) := by decide +kernel
theorem dX8_stands_153 : decode cX8_stands 153 = .ok (.bipush 14, 2) := by decide +kernel
theorem dX8_stands_155 : decode cX8_stands 155 = .ok (.iload_n 1, 1) := by decide +kernel
theorem dX8_stands_156 : decode cX8_stands 156 = .ok (.iadd, 1) := by decide +kernel
theorem dX8_stands_157 : decode cX8_stands 157 = .ok (.iaload, 1) := by decide +kernel
theorem dX8_stands_158 : decode cX8_stands 158 = .ok (.iastore, 1) := by decide +kernel
theorem dX8_stands_159 : decode cX8_stands 159 = .ok (.aload_n 0, 1) := by decide +kernel
theorem dX8_stands_160 : decode cX8_stands 160 = .ok (.getfield 37, 3) := by decide +kernel
theorem dX8_stands_163 : decode cX8_stands 163 = .ok (.iload_n 1, 1) := by decide +kernel
theorem dX8_stands_164 : decode cX8_stands 164 = .ok (.aload_n 0, 1) := by decide +kernel
theorem dX8_stands_165 : decode cX8_stands 165 = .ok (.getfield 37, 3) := by decide +kernel
theorem dX8_stands_168 : decode cX8_stands 168 = .ok (.bipush 14, 2) := by decide +kernel
theorem dX8_stands_170 : decode cX8_stands 170 = .ok (.iload_n 1, 1) := by decide +kernel
theorem dX8_stands_171 : decode cX8_stands 171 = .ok (.iadd, 1) := by decide +kernel
theorem dX8_stands_172 : decode cX8_stands 172 = .ok (.iaload, 1) := by decide +kernel
theorem dX8_stands_173 : decode cX8_stands 173 = .ok (.iastore, 1) := by decide +kernel
theorem dX8_stands_174 : decode cX8_stands 174 = .ok (.aload_n 0, 1) := by decide +kernel
theorem dX8_stands_175 : decode cX8_stands 175 = .ok (.getfield 43, 3) := by decide +kernel
theorem dX8_stands_178 : decode cX8_stands 178 = .ok (.iload_n 1, 1) := by decide +kernel
theorem dX8_stands_179 : decode cX8_stands 179 = .ok (.aload_n 0, 1) := by decide +kernel
theorem dX8_stands_180 : decode cX8_stands 180 = .ok (.getfield 43, 3) := by decide +kernel
theorem dX8_stands_183 : decode cX8_stands 183 = .ok (.bipush 14, 2) := by decide +kernel
theorem dX8_stands_185 : decode cX8_stands 185 = .ok (.iload_n 1, 1) := by decide +kernel
theorem dX8_stands_186 : decode cX8_stands 186 = .ok (.iadd, 1) := by decide +kernel
theorem dX8_stands_187 : decode cX8_stands 187 = .ok (.iaload, 1) := by decide +kernel
theorem dX8_stands_188 : decode cX8_stands 188 = .ok (.iastore, 1) := by decide +kernel
theorem dX8_stands_189 : decode cX8_stands 189 = .ok (.iinc 1 1, 3) := by decide +kernel
theorem dX8_stands_192 : decode cX8_stands 192 = .ok (.goto (-84), 3) := by decide +kernel
theorem dX8_stands_195 : decode cX8_stands 195 = .ok (.iconst 0, 1) := by decide +kernel
theorem dX8_stands_196 : decode cX8_stands 196 = .ok (.istore_n 1, 1) := by decide +kernel
theorem dX8_stands_197 : decode cX8_stands 197 = .ok (.iload_n 1, 1) := by decide +kernel
theorem dX8_stands_198 : decode cX8_stands 198 = .ok (.bipush 84, 2) := by decide +kernel
theorem dX8_stands_200 : decode cX8_stands 200 = .ok (.if_icmp .ge 24, 3) := by decide +kernel
theorem dX8_stands_203 : decode cX8_stands 203 = .ok (.aload_n 0, 1) := by decide +kernel
theorem dX8_stands_204 : decode cX8_stands 204 = .ok (.getfield 40, 3) := by decide +kernel
theorem dX8_stands_207 : decode cX8_stands 207 = .ok (.iload_n 1, 1) := by decide +kernel
theorem dX8_stands_208 : decode cX8_stands 208 = .ok (.aload_n 0, 1) := by decide +kernel
theorem dX8_stands_209 : decode cX8_stands 209 = .ok (.getfield 40, 3) := by decide +kernel
theorem dX8_stands_212 : decode cX8_stands 212 = .ok (.bipush 84, 2) := by decide +kernel
theorem dX8_stands_214 : decode cX8_stands 214 = .ok (.iload_n 1, 1) := by decide +kernel
theorem dX8_stands_215 : decode cX8_stands 215 = .ok (.iadd, 1) := by decide +kernel
theorem dX8_stands_216 : decode cX8_stands 216 = .ok (.iaload, 1) := by decide +kernel
theorem dX8_stands_217 : decode cX8_stands 217 = .ok (.iastore, 1) := by decide +kernel
theorem dX8_stands_218 : decode cX8_stands 218 = .ok (.iinc 1 1, 3) := by decide +kernel
theorem dX8_stands_221 : decode cX8_stands 221 = .ok (.goto (-24), 3) := by decide +kernel
theorem dX8_stands_224 : decode cX8_stands 224 = .ok (.return_, 1) := by decide +kernel
theorem dX8_text_0 : decode cX8_text 0 = .ok (.aload_n 0, 1) := by decide +kernel
theorem dX8_text_1 : decode cX8_text 1 = .ok (.iconst 1, 1) := by decide +kernel
theorem dX8_text_2 : decode cX8_text 2 = .ok (.iload_n 1, 1) := by decide +kernel
theorem dX8_text_3 : decode cX8_text 3 = .ok (.i2l, 1) := by decide +kernel
theorem dX8_text_4 : decode cX8_text 4 = .ok (.lconst 0, 1) := by decide +kernel
theorem dX8_text_5 : decode cX8_text 5 = .ok (.aload_n 0, 1) := by decide +kernel
theorem dX8_text_6 : decode cX8_text 6 = .ok (.getfield 104, 3) := by decide +kernel
theorem dX8_text_9 : decode cX8_text 9 = .ok (.i2l, 1) := by decide +kernel
theorem dX8_text_10 : decode cX8_text 10 = .ok (.invokestatic 131, 3) := by decide +kernel
theorem dX8_text_13 : decode cX8_text 13 = .ok (.invokestatic 241, 3) := by decide +kernel
theorem dX8_text_16 : decode cX8_text 16 = .ok (.invokevirtual 245, 3) := by decide +kernel
theorem dX8_text_19 : decode cX8_text 19 = .ok (.ifCond .eq 5, 3) := by decide +kernel
theorem dX8_text_22 : decode cX8_text 22 = .ok (.iconst (-1), 1) := by decide +kernel
theorem dX8_text_23 : decode cX8_text 23 = .ok (.ireturn, 1) := by decide +kernel
theorem dX8_text_24 : decode cX8_text 24 = .ok (.aload_n 0, 1) := by decide +kernel
theorem dX8_text_25 : decode cX8_text 25 = .ok (.iconst 0, 1) := by decide +kernel
theorem dX8_text_26 : decode cX8_text 26 = .ok (.putfield 104, 3) := by decide +kernel
theorem dX8_text_29 : decode cX8_text 29 = .ok (.aload_n 0, 1) := by decide +kernel
theorem dX8_text_30 : decode cX8_text 30 = .ok (.iconst 0, 1) := by decide +kernel
theorem dX8_text_31 : decode cX8_text 31 = .ok (.putfield 248, 3) := by decide +kernel
theorem dX8_text_34 : decode cX8_text 34 = .ok (.aload_n 0, 1) := by decide +kernel
theorem dX8_text_35 : decode cX8_text 35 = .ok (.iload_n 1, 1) := by decide +kernel
theorem dX8_text_36 : decode cX8_text 36 = .ok (.invokevirtual 251, 3) := by decide +kernel
theorem dX8_text_39 : decode cX8_text 39 = .ok (.ifCond .ne 25, 3) := by decide +kernel
theorem dX8_text_42 : decode cX8_text 42 = .ok (.aload_n 0, 1) := by decide +kernel
theorem dX8_text_43 : decode cX8_text 43 = .ok (.aload_n 0, 1) := by decide +kernel
theorem dX8_text_44 : decode cX8_text 44 = .ok (.getfield 152, 3) := by decide +kernel
theorem dX8_text_47 : decode cX8_text 47 = .ok (.putfield 248, 3) := by decide +kernel
theorem dX8_text_50 : decode cX8_text 50 = .ok (.aload_n 0, 1) := by decide +kernel
theorem dX8_text_51 : decode cX8_text 51 = .ok (.aload_n 0, 1) := by decide +kernel
theorem dX8_text_52 : decode cX8_text 52 = .ok (.getfield 155, 3) := by decide +kernel
theorem dX8_text_55 : decode cX8_text 55 = .ok (.putfield 11, 3) := by decide +kernel
theorem dX8_text_58 : decode cX8_text 58 = .ok (.aload_n 0, 1) := by decide +kernel
theorem dX8_text_59 : decode cX8_text 59 = .ok (.iconst 4, 1) := by decide +kernel
theorem dX8_text_60 : decode cX8_text 60 = .ok (.invokevirtual 254, 3) := by decide +kernel
theorem dX8_text_63 : decode cX8_text 63 = .ok (.ireturn, 1) := by decide +kernel
theorem dX8_text_64 : decode cX8_text 64 = .ok (.aload_n 0, 1) := by decide +kernel
theorem dX8_text_65 : decode cX8_text 65 = .ok (.invokevirtual 257, 3) := by decide +kernel
theorem dX8_text_68 : decode cX8_text 68 = .ok (.aload_n 0, 1) := by decide +kernel
theorem dX8_text_69 : decode cX8_text 69 = .ok (.invokevirtual 260, 3) := by decide +kernel
theorem dX8_text_72 : decode cX8_text 72 = .ok (.aload_n 0, 1) := by decide +kernel
theorem dX8_text_73 : decode cX8_text 73 = .ok (.getfield 229, 3) := by decide +kernel
theorem dX8_text_76 : decode cX8_text 76 = .ok (.ireturn, 1) := by decide +kernel
theorem dX8_fault_0 : decode cX8_fault 0 = .ok (.aload_n 0, 1) := by decide +kernel
theorem dX8_fault_1 : decode cX8_fault 1 = .ok (.iconst 0, 1) := by decide +kernel
theorem dX8_fault_2 : decode cX8_fault 2 = .ok (.putfield 96, 3) := by decide +kernel
theorem dX8_fault_5 : decode cX8_fault 5 = .ok (.aload_n 0, 1) := by decide +kernel
theorem dX8_fault_6 : decode cX8_fault 6 = .ok (.getfield 248, 3) := by decide +kernel
theorem dX8_fault_9 : decode cX8_fault 9 = .ok (.ireturn, 1) := by decide +kernel
theorem dX8_where_0 : decode cX8_where 0 = .ok (.aload_n 0, 1) := by decide +kernel
theorem dX8_where_1 : decode cX8_where 1 = .ok (.iconst 0, 1) := by decide +kernel
theorem dX8_where_2 : decode cX8_where 2 = .ok (.putfield 96, 3) := by decide +kernel
theorem dX8_where_5 : decode cX8_where 5 = .ok (.aload_n 0, 1) := by decide +kernel
theorem dX8_where_6 : decode cX8_where 6 = .ok (.getfield 99, 3) := by decide +kernel
theorem dX8_where_9 : decode cX8_where 9 = .ok (.iconst 4, 1) := by decide +kernel
theorem dX8_where_10 : decode cX8_where 10 = .ok (.if_icmp .ne 10, 3) := by decide +kernel
theorem dX8_where_13 : decode cX8_where 13 = .ok (.aload_n 0, 1) := by decide +kernel
theorem dX8_where_14 : decode cX8_where 14 = .ok (.getfield 11, 3) := by decide +kernel
theorem dX8_where_17 : decode cX8_where 17 = .ok (.goto 4, 3) := by decide +kernel
theorem dX8_where_20 : decode cX8_where 20 = .ok (.iconst (-1), 1) := by decide +kernel
theorem dX8_where_21 : decode cX8_where 21 = .ok (.ireturn, 1) := by decide +kernel
theorem dX8_isOpen_0 : decode cX8_isOpen 0 = .ok (.aload_n 0, 1) := by decide +kernel
theorem dX8_isOpen_1 : decode cX8_isOpen 1 = .ok (.getfield 235, 3) := by decide +kernel
theorem dX8_isOpen_4 : decode cX8_isOpen 4 = .ok (.iload_n 1, 1) := by decide +kernel
theorem dX8_isOpen_5 : decode cX8_isOpen 5 = .ok (.ishr, 1) := by decide +kernel
theorem dX8_isOpen_6 : decode cX8_isOpen 6 = .ok (.iconst 1, 1) := by decide +kernel
theorem dX8_isOpen_7 : decode cX8_isOpen 7 = .ok (.iand, 1) := by decide +kernel
theorem dX8_isOpen_8 : decode cX8_isOpen 8 = .ok (.ifCond .ne 18, 3) := by decide +kernel
theorem dX8_isOpen_11 : decode cX8_isOpen 11 = .ok (.aload_n 0, 1) := by decide +kernel
theorem dX8_isOpen_12 : decode cX8_isOpen 12 = .ok (.getfield 263, 3) := by decide +kernel
theorem dX8_isOpen_15 : decode cX8_isOpen 15 = .ok (.iload_n 1, 1) := by decide +kernel
theorem dX8_isOpen_16 : decode cX8_isOpen 16 = .ok (.ishr, 1) := by decide +kernel
theorem dX8_isOpen_17 : decode cX8_isOpen 17 = .ok (.iconst 1, 1) := by decide +kernel
theorem dX8_isOpen_18 : decode cX8_isOpen 18 = .ok (.iand, 1) := by decide +kernel
theorem dX8_isOpen_19 : decode cX8_isOpen 19 = .ok (.ifCond .ne 7, 3) := by decide +kernel
theorem dX8_isOpen_22 : decode cX8_isOpen 22 = .ok (.iconst 1, 1) := by decide +kernel
theorem dX8_isOpen_23 : decode cX8_isOpen 23 = .ok (.goto 4, 3) := by decide +kernel
theorem dX8_isOpen_26 : decode cX8_isOpen 26 = .ok (.iconst 0, 1) := by decide +kernel
theorem dX8_isOpen_27 : decode cX8_isOpen 27 = .ok (.ireturn, 1) := by decide +kernel
theorem dX8_isMet_0 : decode cX8_isMet 0 = .ok (.aload_n 0, 1) := by decide +kernel
theorem dX8_isMet_1 : decode cX8_isMet 1 = .ok (.getfield 266, 3) := by decide +kernel
theorem dX8_isMet_4 : decode cX8_isMet 4 = .ok (.iload_n 1, 1) := by decide +kernel
theorem dX8_isMet_5 : decode cX8_isMet 5 = .ok (.ishr, 1) := by decide +kernel
theorem dX8_isMet_6 : decode cX8_isMet 6 = .ok (.iconst 1, 1) := by decide +kernel
theorem dX8_isMet_7 : decode cX8_isMet 7 = .ok (.iand, 1) := by decide +kernel
theorem dX8_isMet_8 : decode cX8_isMet 8 = .ok (.iconst 1, 1) := by decide +kernel
theorem dX8_isMet_9 : decode cX8_isMet 9 = .ok (.if_icmp .ne 7, 3) := by decide +kernel
theorem dX8_isMet_12 : decode cX8_isMet 12 = .ok (.iconst 1, 1) := by decide +kernel
theorem dX8_isMet_13 : decode cX8_isMet 13 = .ok (.goto 4, 3) := by decide +kernel
theorem dX8_isMet_16 : decode cX8_isMet 16 = .ok (.iconst 0, 1) := by decide +kernel
theorem dX8_isMet_17 : decode cX8_isMet 17 = .ok (.ireturn, 1) := by decide +kernel
theorem dX8_isLive_0 : decode cX8_isLive 0 = .ok (.aload_n 0, 1) := by decide +kernel
theorem dX8_isLive_1 : decode cX8_isLive 1 = .ok (.iload_n 1, 1) := by decide +kernel
theorem dX8_isLive_2 : decode cX8_isLive 2 = .ok (.invokevirtual 269, 3) := by decide +kernel
theorem dX8_isLive_5 : decode cX8_isLive 5 = .ok (.ifCond .eq 20, 3) := by decide +kernel
theorem dX8_isLive_8 : decode cX8_isLive 8 = .ok (.aload_n 0, 1) := by decide +kernel
theorem dX8_isLive_9 : decode cX8_isLive 9 = .ok (.aload_n 0, 1) := by decide +kernel
theorem dX8_isLive_10 : decode cX8_isLive 10 = .ok (.getfield 28, 3) := by decide +kernel
theorem dX8_isLive_13 : decode cX8_isLive 13 = .ok (.iload_n 1, 1) := by decide +kernel
theorem dX8_isLive_14 : decode cX8_isLive 14 = .ok (.iaload, 1) := by decide +kernel
theorem dX8_isLive_15 : decode cX8_isLive 15 = .ok (.invokevirtual 272, 3) := by decide +kernel
theorem dX8_isLive_18 : decode cX8_isLive 18 = .ok (.ifCond .eq 7, 3) := by decide +kernel
theorem dX8_isLive_21 : decode cX8_isLive 21 = .ok (.iconst 1, 1) := by decide +kernel
theorem dX8_isLive_22 : decode cX8_isLive 22 = .ok (.goto 4, 3) := by decide +kernel
theorem dX8_isLive_25 : decode cX8_isLive 25 = .ok (.iconst 0, 1) := by decide +kernel
theorem dX8_isLive_26 : decode cX8_isLive 26 = .ok (.ireturn, 1) := by decide +kernel
theorem dX8_isTree_0 : decode cX8_isTree 0 = .ok (.aload_n 0, 1) := by decide +kernel
theorem dX8_isTree_1 : decode cX8_isTree 1 = .ok (.iload_n 1, 1) := by decide +kernel
theorem dX8_isTree_2 : decode cX8_isTree 2 = .ok (.invokevirtual 275, 3) := by decide +kernel
theorem dX8_isTree_5 : decode cX8_isTree 5 = .ok (.ifCond .eq 37, 3) := by decide +kernel
theorem dX8_isTree_8 : decode cX8_isTree 8 = .ok (.aload_n 0, 1) := by decide +kernel
theorem dX8_isTree_9 : decode cX8_isTree 9 = .ok (.getfield 46, 3) := by decide +kernel
theorem dX8_isTree_12 : decode cX8_isTree 12 = .ok (.aload_n 0, 1) := by decide +kernel
theorem dX8_isTree_13 : decode cX8_isTree 13 = .ok (.getfield 28, 3) := by decide +kernel
theorem dX8_isTree_16 : decode cX8_isTree 16 = .ok (.iload_n 1, 1) := by decide +kernel
theorem dX8_isTree_17 : decode cX8_isTree 17 = .ok (.iaload, 1) := by decide +kernel
theorem dX8_isTree_18 : decode cX8_isTree 18 = .ok (.iaload, 1) := by decide +kernel
theorem dX8_isTree_19 : decode cX8_isTree 19 = .ok (.iload_n 1, 1) := by decide +kernel
theorem dX8_isTree_20 : decode cX8_isTree 20 = .ok (.if_icmp .eq 18, 3) := by decide +kernel
theorem dX8_isTree_23 : decode cX8_isTree 23 = .ok (.aload_n 0, 1) := by decide +kernel
theorem dX8_isTree_24 : decode cX8_isTree 24 = .ok (.getfield 46, 3) := by decide +kernel
theorem dX8_isTree_27 : decode cX8_isTree 27 = .ok (.aload_n 0, 1) := by decide +kernel
theorem dX8_isTree_28 : decode cX8_isTree 28 = .ok (.getfield 31, 3) := by decide +kernel
theorem dX8_isTree_31 : decode cX8_isTree 31 = .ok (.iload_n 1, 1) := by decide +kernel
theorem dX8_isTree_32 : decode cX8_isTree 32 = .ok (.iaload, 1) := by decide +kernel
theorem dX8_isTree_33 : decode cX8_isTree 33 = .ok (.iaload, 1) := by decide +kernel
theorem dX8_isTree_34 : decode cX8_isTree 34 = .ok (.iload_n 1, 1) := by decide +kernel
theorem dX8_isTree_35 : decode cX8_isTree 35 = .ok (.if_icmp .ne 7, 3) := by decide +kernel
theorem dX8_isTree_38 : decode cX8_isTree 38 = .ok (.iconst 1, 1) := by decide +kernel
theorem dX8_isTree_39 : decode cX8_isTree 39 = .ok (.goto 4, 3) := by decide +kernel
theorem dX8_isTree_42 : decode cX8_isTree 42 = .ok (.iconst 0, 1) := by decide +kernel
theorem dX8_isTree_43 : decode cX8_isTree 43 = .ok (.ireturn, 1) := by decide +kernel
theorem dX8_otherEnd_0 : decode cX8_otherEnd 0 = .ok (.aload_n 0, 1) := by decide +kernel
theorem dX8_otherEnd_1 : decode cX8_otherEnd 1 = .ok (.getfield 28, 3) := by decide +kernel
theorem dX8_otherEnd_4 : decode cX8_otherEnd 4 = .ok (.iload_n 1, 1) := by decide +kernel
theorem dX8_otherEnd_5 : decode cX8_otherEnd 5 = .ok (.iaload, 1) := by decide +kernel
theorem dX8_otherEnd_6 : decode cX8_otherEnd 6 = .ok (.iload_n 2, 1) := by decide +kernel
theorem dX8_otherEnd_7 : decode cX8_otherEnd 7 = .ok (.if_icmp .ne 12, 3) := by decide +kernel
theorem dX8_otherEnd_10 : decode cX8_otherEnd 10 = .ok (.aload_n 0, 1) := by decide +kernel
theorem dX8_otherEnd_11 : decode cX8_otherEnd 11 = .ok (.getfield 31, 3) := by decide +kernel
theorem dX8_otherEnd_14 : decode cX8_otherEnd 14 = .ok (.iload_n 1, 1) := by decide +kernel
theorem dX8_otherEnd_15 : decode cX8_otherEnd 15 = .ok (.iaload, 1) := by decide +kernel
theorem dX8_otherEnd_16 : decode cX8_otherEnd 16 = .ok (.goto 9, 3) := by decide +kernel
theorem dX8_otherEnd_19 : decode cX8_otherEnd 19 = .ok (.aload_n 0, 1) := by decide +kernel
theorem dX8_otherEnd_20 : decode cX8_otherEnd 20 = .ok (.getfield 28, 3) := by decide +kernel
theorem dX8_otherEnd_23 : decode cX8_otherEnd 23 = .ok (.iload_n 1, 1) := by decide +kernel
theorem dX8_otherEnd_24 : decode cX8_otherEnd 24 = .ok (.iaload, 1) := by decide +kernel
theorem dX8_otherEnd_25 : decode cX8_otherEnd 25 = .ok (.ireturn, 1) := by decide +kernel
theorem dX8_laysTree_0 : decode cX8_laysTree 0 = .ok (.iconst 0, 1) := by decide +kernel
theorem dX8_laysTree_1 : decode cX8_laysTree 1 = .ok (.istore_n 1, 1) := by decide +kernel
theorem dX8_laysTree_2 : decode cX8_laysTree 2 = .ok (.iload_n 1, 1) := by decide +kernel
theorem dX8_laysTree_3 : decode cX8_laysTree 3 = .ok (.bipush 9, 2) := by decide +kernel
theorem dX8_laysTree_5 : decode cX8_laysTree 5 = .ok (.if_icmp .ge 17, 3) := by decide +kernel
theorem dX8_laysTree_8 : decode cX8_laysTree 8 = .ok (.aload_n 0, 1) := by decide +kernel
theorem dX8_laysTree_9 : decode cX8_laysTree 9 = .ok (.getfield 46, 3) := by decide +kernel
theorem dX8_laysTree_12 : decode cX8_laysTree 12 = .ok (.iload_n 1, 1) := by decide +kernel
theorem dX8_laysTree_13 : decode cX8_laysTree 13 = .ok (.bipush (-2), 2) := by decide +kernel
theorem dX8_laysTree_15 : decode cX8_laysTree 15 = .ok (.iastore, 1) := by decide +kernel
theorem dX8_laysTree_16 : decode cX8_laysTree 16 = .ok (.iinc 1 1, 3) := by decide +kernel
theorem dX8_laysTree_19 : decode cX8_laysTree 19 = .ok (.goto (-17), 3) := by decide +kernel
theorem dX8_laysTree_22 : decode cX8_laysTree 22 = .ok (.aload_n 0, 1) := by decide +kernel
theorem dX8_laysTree_23 : decode cX8_laysTree 23 = .ok (.iconst 1, 1) := by decide +kernel
theorem dX8_laysTree_24 : decode cX8_laysTree 24 = .ok (.putfield 266, 3) := by decide +kernel
theorem dX8_laysTree_27 : decode cX8_laysTree 27 = .ok (.aload_n 0, 1) := by decide +kernel
theorem dX8_laysTree_28 : decode cX8_laysTree 28 = .ok (.getfield 49, 3) := by decide +kernel
theorem dX8_laysTree_31 : decode cX8_laysTree 31 = .ok (.iconst 0, 1) := by decide +kernel
theorem dX8_laysTree_32 : decode cX8_laysTree 32 = .ok (.iconst 0, 1) := by decide +kernel
theorem dX8_laysTree_33 : decode cX8_laysTree 33 = .ok (.iastore, 1) := by decide +kernel
theorem dX8_laysTree_34 : decode cX8_laysTree 34 = .ok (.aload_n 0, 1) := by decide +kernel
theorem dX8_laysTree_35 : decode cX8_laysTree 35 = .ok (.iconst 1, 1) := by decide +kernel
theorem dX8_laysTree_36 : decode cX8_laysTree 36 = .ok (.putfield 278, 3) := by decide +kernel
theorem dX8_laysTree_39 : decode cX8_laysTree 39 = .ok (.iconst 0, 1) := by decide +kernel
theorem dX8_laysTree_40 : decode cX8_laysTree 40 = .ok (.istore_n 1, 1) := by decide +kernel
theorem dX8_laysTree_41 : decode cX8_laysTree 41 = .ok (.iload_n 1, 1) := by decide +kernel
theorem dX8_laysTree_42 : decode cX8_laysTree 42 = .ok (.aload_n 0, 1) := by decide +kernel
theorem dX8_laysTree_43 : decode cX8_laysTree 43 = .ok (.getfield 278, 3) := by decide +kernel
theorem dX8_laysTree_46 : decode cX8_laysTree 46 = .ok (.if_icmp .ge 145, 3) := by decide +kernel
theorem dX8_laysTree_49 : decode cX8_laysTree 49 = .ok (.iconst 0, 1) := by decide +kernel
theorem dX8_laysTree_50 : decode cX8_laysTree 50 = .ok (.istore_n 2, 1) := by decide +kernel
theorem dX8_laysTree_51 : decode cX8_laysTree 51 = .ok (.iload_n 2, 1) := by decide +kernel
theorem dX8_laysTree_52 : decode cX8_laysTree 52 = .ok (.aload_n 0, 1) := by decide +kernel
theorem dX8_laysTree_53 : decode cX8_laysTree 53 = .ok (.getfield 232, 3) := by decide +kernel
theorem dX8_laysTree_56 : decode cX8_laysTree 56 = .ok (.if_icmp .ge 129, 3) := by decide +kernel
theorem dX8_laysTree_59 : decode cX8_laysTree 59 = .ok (.aload_n 0, 1) := by decide +kernel
theorem dX8_laysTree_60 : decode cX8_laysTree 60 = .ok (.getfield 28, 3) := by decide +kernel
theorem dX8_laysTree_63 : decode cX8_laysTree 63 = .ok (.iload_n 2, 1) := by decide +kernel
theorem dX8_laysTree_64 : decode cX8_laysTree 64 = .ok (.iaload, 1) := by decide +kernel
theorem dX8_laysTree_65 : decode cX8_laysTree 65 = .ok (.aload_n 0, 1) := by decide +kernel
theorem dX8_laysTree_66 : decode cX8_laysTree 66 = .ok (.getfield 49, 3) := by decide +kernel
theorem dX8_laysTree_69 : decode cX8_laysTree 69 = .ok (.iload_n 1, 1) := by decide +kernel
theorem dX8_laysTree_70 : decode cX8_laysTree 70 = .ok (.iaload, 1) := by decide +kernel
theorem dX8_laysTree_71 : decode cX8_laysTree 71 = .ok (.if_icmp .eq 18, 3) := by decide +kernel
theorem dX8_laysTree_74 : decode cX8_laysTree 74 = .ok (.aload_n 0, 1) := by decide +kernel
theorem dX8_laysTree_75 : decode cX8_laysTree 75 = .ok (.getfield 31, 3) := by decide +kernel
theorem dX8_laysTree_78 : decode cX8_laysTree 78 = .ok (.iload_n 2, 1) := by decide +kernel
theorem dX8_laysTree_79 : decode cX8_laysTree 79 = .ok (.iaload, 1) := by decide +kernel
end
section
theorem dX8_laysTree_80 : decode cX8_laysTree 80 = .ok (.aload_n 0, 1) := by decide +kernel
theorem dX8_laysTree_81 : decode cX8_laysTree 81 = .ok (.getfield 49, 3) := by decide +kernel
theorem dX8_laysTree_84 : decode cX8_laysTree 84 = .ok (.iload_n 1, 1) := by decide +kernel
theorem dX8_laysTree_85 : decode cX8_laysTree 85 = .ok (.iaload, 1) := by decide +kernel
theorem dX8_laysTree_86 : decode cX8_laysTree 86 = .ok (.if_icmp .ne 7, 3) := by decide +kernel
theorem dX8_laysTree_89 : decode cX8_laysTree 89 = .ok (.iconst 1, 1) := by decide +kernel
theorem dX8_laysTree_90 : decode cX8_laysTree 90 = .ok (.goto 4, 3) := by decide +kernel
theorem dX8_laysTree_93 : decode cX8_laysTree 93 = .ok (.iconst 0, 1) := by decide +kernel
theorem dX8_laysTree_94 : decode cX8_laysTree 94 = .ok (.istore_n 3, 1) := by decide +kernel
theorem dX8_laysTree_95 : decode cX8_laysTree 95 = .ok (.iload_n 3, 1) := by decide +kernel
theorem dX8_laysTree_96 : decode cX8_laysTree 96 = .ok (.ifCond .eq 17, 3) := by decide +kernel
theorem dX8_laysTree_99 : decode cX8_laysTree 99 = .ok (.aload_n 0, 1) := by decide +kernel
theorem dX8_laysTree_100 : decode cX8_laysTree 100 = .ok (.iload_n 2, 1) := by decide +kernel
theorem dX8_laysTree_101 : decode cX8_laysTree 101 = .ok (.aload_n 0, 1) := by decide +kernel
theorem dX8_laysTree_102 : decode cX8_laysTree 102 = .ok (.getfield 49, 3) := by decide +kernel
theorem dX8_laysTree_105 : decode cX8_laysTree 105 = .ok (.iload_n 1, 1) := by decide +kernel
theorem dX8_laysTree_106 : decode cX8_laysTree 106 = .ok (.iaload, 1) := by decide +kernel
theorem dX8_laysTree_107 : decode cX8_laysTree 107 = .ok (.invokevirtual 281, 3) := by decide +kernel
theorem dX8_laysTree_110 : decode cX8_laysTree 110 = .ok (.goto 4, 3) := by decide +kernel
theorem dX8_laysTree_113 : decode cX8_laysTree 113 = .ok (.iconst (-1), 1) := by decide +kernel
theorem dX8_laysTree_114 : decode cX8_laysTree 114 = .ok (.istore 4, 2) := by decide +kernel
theorem dX8_laysTree_116 : decode cX8_laysTree 116 = .ok (.iload_n 3, 1) := by decide +kernel
theorem dX8_laysTree_117 : decode cX8_laysTree 117 = .ok (.ifCond .eq 62, 3) := by decide +kernel
theorem dX8_laysTree_120 : decode cX8_laysTree 120 = .ok (.aload_n 0, 1) := by decide +kernel
theorem dX8_laysTree_121 : decode cX8_laysTree 121 = .ok (.iload_n 2, 1) := by decide +kernel
theorem dX8_laysTree_122 : decode cX8_laysTree 122 = .ok (.invokevirtual 269, 3) := by decide +kernel
theorem dX8_laysTree_125 : decode cX8_laysTree 125 = .ok (.ifCond .eq 54, 3) := by decide +kernel
theorem dX8_laysTree_128 : decode cX8_laysTree 128 = .ok (.aload_n 0, 1) := by decide +kernel
theorem dX8_laysTree_129 : decode cX8_laysTree 129 = .ok (.iload 4, 2) := by decide +kernel
theorem dX8_laysTree_131 : decode cX8_laysTree 131 = .ok (.invokevirtual 272, 3) := by decide +kernel
theorem dX8_laysTree_134 : decode cX8_laysTree 134 = .ok (.ifCond .ne 45, 3) := by decide +kernel
theorem dX8_laysTree_137 : decode cX8_laysTree 137 = .ok (.aload_n 0, 1) := by decide +kernel
theorem dX8_laysTree_138 : decode cX8_laysTree 138 = .ok (.dup, 1) := by decide +kernel
theorem dX8_laysTree_139 : decode cX8_laysTree 139 = .ok (.getfield 266, 3) := by decide +kernel
theorem dX8_laysTree_142 : decode cX8_laysTree 142 = .ok (.iconst 1, 1) := by decide +kernel
theorem dX8_laysTree_143 : decode cX8_laysTree 143 = .ok (.iload 4, 2) := by decide +kernel
theorem dX8_laysTree_145 : decode cX8_laysTree 145 = .ok (.ishl, 1) := by decide +kernel
theorem dX8_laysTree_146 : decode cX8_laysTree 146 = .ok (.ior, 1) := by decide +kernel
theorem dX8_laysTree_147 : decode cX8_laysTree 147 = .ok (.putfield 266, 3) := by decide +kernel
theorem dX8_laysTree_150 : decode cX8_laysTree 150 = .ok (.aload_n 0, 1) := by decide +kernel
theorem dX8_laysTree_151 : decode cX8_laysTree 151 = .ok (.getfield 46, 3) := by decide +kernel
theorem dX8_laysTree_154 : decode cX8_laysTree 154 = .ok (.iload 4, 2) := by decide +kernel
theorem dX8_laysTree_156 : decode cX8_laysTree 156 = .ok (.iload_n 2, 1) := by decide +kernel
theorem dX8_laysTree_157 : decode cX8_laysTree 157 = .ok (.iastore, 1) := by decide +kernel
theorem dX8_laysTree_158 : decode cX8_laysTree 158 = .ok (.aload_n 0, 1) := by decide +kernel
theorem dX8_laysTree_159 : decode cX8_laysTree 159 = .ok (.getfield 49, 3) := by decide +kernel
theorem dX8_laysTree_162 : decode cX8_laysTree 162 = .ok (.aload_n 0, 1) := by decide +kernel
theorem dX8_laysTree_163 : decode cX8_laysTree 163 = .ok (.getfield 278, 3) := by decide +kernel
theorem dX8_laysTree_166 : decode cX8_laysTree 166 = .ok (.iload 4, 2) := by decide +kernel
theorem dX8_laysTree_168 : decode cX8_laysTree 168 = .ok (.iastore, 1) := by decide +kernel
theorem dX8_laysTree_169 : decode cX8_laysTree 169 = .ok (.aload_n 0, 1) := by decide +kernel
theorem dX8_laysTree_170 : decode cX8_laysTree 170 = .ok (.dup, 1) := by decide +kernel
theorem dX8_laysTree_171 : decode cX8_laysTree 171 = .ok (.getfield 278, 3) := by decide +kernel
theorem dX8_laysTree_174 : decode cX8_laysTree 174 = .ok (.iconst 1, 1) := by decide +kernel
theorem dX8_laysTree_175 : decode cX8_laysTree 175 = .ok (.iadd, 1) := by decide +kernel
theorem dX8_laysTree_176 : decode cX8_laysTree 176 = .ok (.putfield 278, 3) := by decide +kernel
theorem dX8_laysTree_179 : decode cX8_laysTree 179 = .ok (.iinc 2 1, 3) := by decide +kernel
theorem dX8_laysTree_182 : decode cX8_laysTree 182 = .ok (.goto (-131), 3) := by decide +kernel
theorem dX8_laysTree_185 : decode cX8_laysTree 185 = .ok (.iinc 1 1, 3) := by decide +kernel
theorem dX8_laysTree_188 : decode cX8_laysTree 188 = .ok (.goto (-147), 3) := by decide +kernel
theorem dX8_laysTree_191 : decode cX8_laysTree 191 = .ok (.return_, 1) := by decide +kernel
theorem dX8_above_0 : decode cX8_above 0 = .ok (.aload_n 0, 1) := by decide +kernel
theorem dX8_above_1 : decode cX8_above 1 = .ok (.aload_n 0, 1) := by decide +kernel
theorem dX8_above_2 : decode cX8_above 2 = .ok (.getfield 46, 3) := by decide +kernel
theorem dX8_above_5 : decode cX8_above 5 = .ok (.iload_n 1, 1) := by decide +kernel
theorem dX8_above_6 : decode cX8_above 6 = .ok (.iaload, 1) := by decide +kernel
theorem dX8_above_7 : decode cX8_above 7 = .ok (.iload_n 1, 1) := by decide +kernel
theorem dX8_above_8 : decode cX8_above 8 = .ok (.invokevirtual 281, 3) := by decide +kernel
theorem dX8_above_11 : decode cX8_above 11 = .ok (.ireturn, 1) := by decide +kernel
theorem dX8_deepOf_0 : decode cX8_deepOf 0 = .ok (.iconst 0, 1) := by decide +kernel
theorem dX8_deepOf_1 : decode cX8_deepOf 1 = .ok (.istore_n 2, 1) := by decide +kernel
theorem dX8_deepOf_2 : decode cX8_deepOf 2 = .ok (.iload_n 1, 1) := by decide +kernel
theorem dX8_deepOf_3 : decode cX8_deepOf 3 = .ok (.istore_n 3, 1) := by decide +kernel
theorem dX8_deepOf_4 : decode cX8_deepOf 4 = .ok (.iload_n 3, 1) := by decide +kernel
theorem dX8_deepOf_5 : decode cX8_deepOf 5 = .ok (.ifCond .eq 15, 3) := by decide +kernel
theorem dX8_deepOf_8 : decode cX8_deepOf 8 = .ok (.iinc 2 1, 3) := by decide +kernel
theorem dX8_deepOf_11 : decode cX8_deepOf 11 = .ok (.aload_n 0, 1) := by decide +kernel
theorem dX8_deepOf_12 : decode cX8_deepOf 12 = .ok (.iload_n 3, 1) := by decide +kernel
theorem dX8_deepOf_13 : decode cX8_deepOf 13 = .ok (.invokevirtual 285, 3) := by decide +kernel
theorem dX8_deepOf_16 : decode cX8_deepOf 16 = .ok (.istore_n 3, 1) := by decide +kernel
theorem dX8_deepOf_17 : decode cX8_deepOf 17 = .ok (.goto (-13), 3) := by decide +kernel
theorem dX8_deepOf_20 : decode cX8_deepOf 20 = .ok (.iload_n 2, 1) := by decide +kernel
theorem dX8_deepOf_21 : decode cX8_deepOf 21 = .ok (.ireturn, 1) := by decide +kernel
theorem dX8_laysRingEdge_0 : decode cX8_laysRingEdge 0 = .ok (.aload_n 0, 1) := by decide +kernel
theorem dX8_laysRingEdge_1 : decode cX8_laysRingEdge 1 = .ok (.getfield 56, 3) := by decide +kernel
theorem dX8_laysRingEdge_4 : decode cX8_laysRingEdge 4 = .ok (.bipush 14, 2) := by decide +kernel
theorem dX8_laysRingEdge_6 : decode cX8_laysRingEdge 6 = .ok (.iload_n 1, 1) := by decide +kernel
theorem dX8_laysRingEdge_7 : decode cX8_laysRingEdge 7 = .ok (.imul, 1) := by decide +kernel
theorem dX8_laysRingEdge_8 : decode cX8_laysRingEdge 8 = .ok (.aload_n 0, 1) := by decide +kernel
theorem dX8_laysRingEdge_9 : decode cX8_laysRingEdge 9 = .ok (.getfield 62, 3) := by decide +kernel
theorem dX8_laysRingEdge_12 : decode cX8_laysRingEdge 12 = .ok (.iload_n 1, 1) := by decide +kernel
theorem dX8_laysRingEdge_13 : decode cX8_laysRingEdge 13 = .ok (.iaload, 1) := by decide +kernel
theorem dX8_laysRingEdge_14 : decode cX8_laysRingEdge 14 = .ok (.iadd, 1) := by decide +kernel
theorem dX8_laysRingEdge_15 : decode cX8_laysRingEdge 15 = .ok (.iload_n 2, 1) := by decide +kernel
theorem dX8_laysRingEdge_16 : decode cX8_laysRingEdge 16 = .ok (.iastore, 1) := by decide +kernel
theorem dX8_laysRingEdge_17 : decode cX8_laysRingEdge 17 = .ok (.aload_n 0, 1) := by decide +kernel
theorem dX8_laysRingEdge_18 : decode cX8_laysRingEdge 18 = .ok (.getfield 59, 3) := by decide +kernel
theorem dX8_laysRingEdge_21 : decode cX8_laysRingEdge 21 = .ok (.bipush 14, 2) := by decide +kernel
theorem dX8_laysRingEdge_23 : decode cX8_laysRingEdge 23 = .ok (.iload_n 1, 1) := by decide +kernel
theorem dX8_laysRingEdge_24 : decode cX8_laysRingEdge 24 = .ok (.imul, 1) := by decide +kernel
theorem dX8_laysRingEdge_25 : decode cX8_laysRingEdge 25 = .ok (.aload_n 0, 1) := by decide +kernel
theorem dX8_laysRingEdge_26 : decode cX8_laysRingEdge 26 = .ok (.getfield 62, 3) := by decide +kernel
theorem dX8_laysRingEdge_29 : decode cX8_laysRingEdge 29 = .ok (.iload_n 1, 1) := by decide +kernel
theorem dX8_laysRingEdge_30 : decode cX8_laysRingEdge 30 = .ok (.iaload, 1) := by decide +kernel
theorem dX8_laysRingEdge_31 : decode cX8_laysRingEdge 31 = .ok (.iadd, 1) := by decide +kernel
theorem dX8_laysRingEdge_32 : decode cX8_laysRingEdge 32 = .ok (.aload_n 0, 1) := by decide +kernel
theorem dX8_laysRingEdge_33 : decode cX8_laysRingEdge 33 = .ok (.getfield 28, 3) := by decide +kernel
theorem dX8_laysRingEdge_36 : decode cX8_laysRingEdge 36 = .ok (.iload_n 2, 1) := by decide +kernel
theorem dX8_laysRingEdge_37 : decode cX8_laysRingEdge 37 = .ok (.iaload, 1) := by decide +kernel
theorem dX8_laysRingEdge_38 : decode cX8_laysRingEdge 38 = .ok (.iload_n 3, 1) := by decide +kernel
theorem dX8_laysRingEdge_39 : decode cX8_laysRingEdge 39 = .ok (.if_icmp .ne 7, 3) := by decide +kernel
theorem dX8_laysRingEdge_42 : decode cX8_laysRingEdge 42 = .ok (.iconst 1, 1) := by decide +kernel
theorem dX8_laysRingEdge_43 : decode cX8_laysRingEdge 43 = .ok (.goto 4, 3) := by decide +kernel
theorem dX8_laysRingEdge_46 : decode cX8_laysRingEdge 46 = .ok (.iconst (-1), 1) := by decide +kernel
theorem dX8_laysRingEdge_47 : decode cX8_laysRingEdge 47 = .ok (.iastore, 1) := by decide +kernel
theorem dX8_laysRingEdge_48 : decode cX8_laysRingEdge 48 = .ok (.aload_n 0, 1) := by decide +kernel
theorem dX8_laysRingEdge_49 : decode cX8_laysRingEdge 49 = .ok (.getfield 62, 3) := by decide +kernel
theorem dX8_laysRingEdge_52 : decode cX8_laysRingEdge 52 = .ok (.iload_n 1, 1) := by decide +kernel
theorem dX8_laysRingEdge_53 : decode cX8_laysRingEdge 53 = .ok (.dup2, 1) := by decide +kernel
theorem dX8_laysRingEdge_54 : decode cX8_laysRingEdge 54 = .ok (.iaload, 1) := by decide +kernel
theorem dX8_laysRingEdge_55 : decode cX8_laysRingEdge 55 = .ok (.iconst 1, 1) := by decide +kernel
theorem dX8_laysRingEdge_56 : decode cX8_laysRingEdge 56 = .ok (.iadd, 1) := by decide +kernel
theorem dX8_laysRingEdge_57 : decode cX8_laysRingEdge 57 = .ok (.iastore, 1) := by decide +kernel
theorem dX8_laysRingEdge_58 : decode cX8_laysRingEdge 58 = .ok (.return_, 1) := by decide +kernel
theorem dX8_laysRing_0 : decode cX8_laysRing 0 = .ok (.aload_n 0, 1) := by decide +kernel
theorem dX8_laysRing_1 : decode cX8_laysRing 1 = .ok (.getfield 288, 3) := by decide +kernel
theorem dX8_laysRing_4 : decode cX8_laysRing 4 = .ok (.istore_n 2, 1) := by decide +kernel
theorem dX8_laysRing_5 : decode cX8_laysRing 5 = .ok (.aload_n 0, 1) := by decide +kernel
theorem dX8_laysRing_6 : decode cX8_laysRing 6 = .ok (.getfield 62, 3) := by decide +kernel
theorem dX8_laysRing_9 : decode cX8_laysRing 9 = .ok (.iload_n 2, 1) := by decide +kernel
theorem dX8_laysRing_10 : decode cX8_laysRing 10 = .ok (.iconst 0, 1) := by decide +kernel
theorem dX8_laysRing_11 : decode cX8_laysRing 11 = .ok (.iastore, 1) := by decide +kernel
theorem dX8_laysRing_12 : decode cX8_laysRing 12 = .ok (.aload_n 0, 1) := by decide +kernel
theorem dX8_laysRing_13 : decode cX8_laysRing 13 = .ok (.iload_n 2, 1) := by decide +kernel
theorem dX8_laysRing_14 : decode cX8_laysRing 14 = .ok (.iload_n 1, 1) := by decide +kernel
theorem dX8_laysRing_15 : decode cX8_laysRing 15 = .ok (.aload_n 0, 1) := by decide +kernel
theorem dX8_laysRing_16 : decode cX8_laysRing 16 = .ok (.getfield 28, 3) := by decide +kernel
theorem dX8_laysRing_19 : decode cX8_laysRing 19 = .ok (.iload_n 1, 1) := by decide +kernel
theorem dX8_laysRing_20 : decode cX8_laysRing 20 = .ok (.iaload, 1) := by decide +kernel
theorem dX8_laysRing_21 : decode cX8_laysRing 21 = .ok (.invokevirtual 291, 3) := by decide +kernel
theorem dX8_laysRing_24 : decode cX8_laysRing 24 = .ok (.aload_n 0, 1) := by decide +kernel
theorem dX8_laysRing_25 : decode cX8_laysRing 25 = .ok (.getfield 31, 3) := by decide +kernel
theorem dX8_laysRing_28 : decode cX8_laysRing 28 = .ok (.iload_n 1, 1) := by decide +kernel
theorem dX8_laysRing_29 : decode cX8_laysRing 29 = .ok (.iaload, 1) := by decide +kernel
theorem dX8_laysRing_30 : decode cX8_laysRing 30 = .ok (.istore_n 3, 1) := by decide +kernel
theorem dX8_laysRing_31 : decode cX8_laysRing 31 = .ok (.aload_n 0, 1) := by decide +kernel
theorem dX8_laysRing_32 : decode cX8_laysRing 32 = .ok (.getfield 28, 3) := by decide +kernel
theorem dX8_laysRing_35 : decode cX8_laysRing 35 = .ok (.iload_n 1, 1) := by decide +kernel
theorem dX8_laysRing_36 : decode cX8_laysRing 36 = .ok (.iaload, 1) := by decide +kernel
theorem dX8_laysRing_37 : decode cX8_laysRing 37 = .ok (.istore 4, 2) := by decide +kernel
theorem dX8_laysRing_39 : decode cX8_laysRing 39 = .ok (.iconst 0, 1) := by decide +kernel
theorem dX8_laysRing_40 : decode cX8_laysRing 40 = .ok (.istore 5, 2) := by decide +kernel
theorem dX8_laysRing_42 : decode cX8_laysRing 42 = .ok (.iload_n 3, 1) := by decide +kernel
theorem dX8_laysRing_43 : decode cX8_laysRing 43 = .ok (.iload 4, 2) := by decide +kernel
theorem dX8_laysRing_45 : decode cX8_laysRing 45 = .ok (.if_icmp .eq 61, 3) := by decide +kernel
theorem dX8_laysRing_48 : decode cX8_laysRing 48 = .ok (.aload_n 0, 1) := by decide +kernel
theorem dX8_laysRing_49 : decode cX8_laysRing 49 = .ok (.iload_n 3, 1) := by decide +kernel
theorem dX8_laysRing_50 : decode cX8_laysRing 50 = .ok (.invokevirtual 295, 3) := by decide +kernel
theorem dX8_laysRing_53 : decode cX8_laysRing 53 = .ok (.aload_n 0, 1) := by decide +kernel
theorem dX8_laysRing_54 : decode cX8_laysRing 54 = .ok (.iload 4, 2) := by decide +kernel
theorem dX8_laysRing_56 : decode cX8_laysRing 56 = .ok (.invokevirtual 295, 3) := by decide +kernel
theorem dX8_laysRing_59 : decode cX8_laysRing 59 = .ok (.if_icmp .lt 24, 3) := by decide +kernel
theorem dX8_laysRing_62 : decode cX8_laysRing 62 = .ok (.aload_n 0, 1) := by decide +kernel
theorem dX8_laysRing_63 : decode cX8_laysRing 63 = .ok (.iload_n 2, 1) := by decide +kernel
theorem dX8_laysRing_64 : decode cX8_laysRing 64 = .ok (.aload_n 0, 1) := by decide +kernel
theorem dX8_laysRing_65 : decode cX8_laysRing 65 = .ok (.getfield 46, 3) := by decide +kernel
theorem dX8_laysRing_68 : decode cX8_laysRing 68 = .ok (.iload_n 3, 1) := by decide +kernel
theorem dX8_laysRing_69 : decode cX8_laysRing 69 = .ok (.iaload, 1) := by decide +kernel
theorem dX8_laysRing_70 : decode cX8_laysRing 70 = .ok (.iload_n 3, 1) := by decide +kernel
theorem dX8_laysRing_71 : decode cX8_laysRing 71 = .ok (.invokevirtual 291, 3) := by decide +kernel
theorem dX8_laysRing_74 : decode cX8_laysRing 74 = .ok (.aload_n 0, 1) := by decide +kernel
theorem dX8_laysRing_75 : decode cX8_laysRing 75 = .ok (.iload_n 3, 1) := by decide +kernel
theorem dX8_laysRing_76 : decode cX8_laysRing 76 = .ok (.invokevirtual 285, 3) := by decide +kernel
theorem dX8_laysRing_79 : decode cX8_laysRing 79 = .ok (.istore_n 3, 1) := by decide +kernel
theorem dX8_laysRing_80 : decode cX8_laysRing 80 = .ok (.goto (-38), 3) := by decide +kernel
theorem dX8_laysRing_83 : decode cX8_laysRing 83 = .ok (.aload_n 0, 1) := by decide +kernel
theorem dX8_laysRing_84 : decode cX8_laysRing 84 = .ok (.getfield 68, 3) := by decide +kernel
theorem dX8_laysRing_87 : decode cX8_laysRing 87 = .ok (.iload 5, 2) := by decide +kernel
theorem dX8_laysRing_89 : decode cX8_laysRing 89 = .ok (.iload 4, 2) := by decide +kernel
theorem dX8_laysRing_91 : decode cX8_laysRing 91 = .ok (.iastore, 1) := by decide +kernel
theorem dX8_laysRing_92 : decode cX8_laysRing 92 = .ok (.iinc 5 1, 3) := by decide +kernel
theorem dX8_laysRing_95 : decode cX8_laysRing 95 = .ok (.aload_n 0, 1) := by decide +kernel
theorem dX8_laysRing_96 : decode cX8_laysRing 96 = .ok (.iload 4, 2) := by decide +kernel
theorem dX8_laysRing_98 : decode cX8_laysRing 98 = .ok (.invokevirtual 285, 3) := by decide +kernel
theorem dX8_laysRing_101 : decode cX8_laysRing 101 = .ok (.istore 4, 2) := by decide +kernel
theorem dX8_laysRing_103 : decode cX8_laysRing 103 = .ok (.goto (-61), 3) := by decide +kernel
theorem dX8_laysRing_106 : decode cX8_laysRing 106 = .ok (.iload 5, 2) := by decide +kernel
theorem dX8_laysRing_108 : decode cX8_laysRing 108 = .ok (.iconst 1, 1) := by decide +kernel
theorem dX8_laysRing_109 : decode cX8_laysRing 109 = .ok (.isub, 1) := by decide +kernel
theorem dX8_laysRing_110 : decode cX8_laysRing 110 = .ok (.istore 6, 2) := by decide +kernel
theorem dX8_laysRing_112 : decode cX8_laysRing 112 = .ok (.iload 6, 2) := by decide +kernel
theorem dX8_laysRing_114 : decode cX8_laysRing 114 = .ok (.ifCond .lt 37, 3) := by decide +kernel
theorem dX8_laysRing_117 : decode cX8_laysRing 117 = .ok (.aload_n 0, 1) := by decide +kernel
theorem dX8_laysRing_118 : decode cX8_laysRing 118 = .ok (.iload_n 2, 1) := by decide +kernel
theorem dX8_laysRing_119 : decode cX8_laysRing 119 = .ok (.aload_n 0, 1) := by decide +kernel
theorem dX8_laysRing_120 : decode cX8_laysRing 120 = .ok (.getfield 46, 3) := by decide +kernel
theorem dX8_laysRing_123 : decode cX8_laysRing 123 = .ok (.aload_n 0, 1) := by decide +kernel
theorem dX8_laysRing_124 : decode cX8_laysRing 124 = .ok (.getfield 68, 3) := by decide +kernel
theorem dX8_laysRing_127 : decode cX8_laysRing 127 = .ok (.iload 6, 2) := by decide +kernel
theorem dX8_laysRing_129 : decode cX8_laysRing 129 = .ok (.iaload, 1) := by decide +kernel
theorem dX8_laysRing_130 : decode cX8_laysRing 130 = .ok (.iaload, 1) := by decide +kernel
theorem dX8_laysRing_131 : decode cX8_laysRing 131 = .ok (.aload_n 0, 1) := by decide +kernel
theorem dX8_laysRing_132 : decode cX8_laysRing 132 = .ok (.aload_n 0, 1) := by decide +kernel
theorem dX8_laysRing_133 : decode cX8_laysRing 133 = .ok (.getfield 68, 3) := by decide +kernel
theorem dX8_laysRing_136 : decode cX8_laysRing 136 = .ok (.iload 6, 2) := by decide +kernel
theorem dX8_laysRing_138 : decode cX8_laysRing 138 = .ok (.iaload, 1) := by decide +kernel
theorem dX8_laysRing_139 : decode cX8_laysRing 139 = .ok (.invokevirtual 285, 3) := by decide +kernel
theorem dX8_laysRing_142 : decode cX8_laysRing 142 = .ok (.invokevirtual 291, 3) := by decide +kernel
theorem dX8_laysRing_145 : decode cX8_laysRing 145 = .ok (.iinc 6 (-1), 3) := by decide +kernel
theorem dX8_laysRing_148 : decode cX8_laysRing 148 = .ok (.goto (-36), 3) := by decide +kernel
theorem dX8_laysRing_151 : decode cX8_laysRing 151 = .ok (.aload_n 0, 1) := by decide +kernel
theorem dX8_laysRing_152 : decode cX8_laysRing 152 = .ok (.dup, 1) := by decide +kernel
theorem dX8_laysRing_153 : decode cX8_laysRing 153 = .ok (.getfield 288, 3) := by decide +kernel
theorem dX8_laysRing_156 : decode cX8_laysRing 156 = .ok (.iconst 1, 1) := by decide +kernel
theorem dX8_laysRing_157 : decode cX8_laysRing 157 = .ok (.iadd, 1) := by decide +kernel
theorem dX8_laysRing_158 : decode cX8_laysRing 158 = .ok (.putfield 288, 3) := by decide +kernel
theorem dX8_laysRing_161 : decode cX8_laysRing 161 = .ok (.return_, 1) := by decide +kernel
theorem dX8_begins_0 : decode cX8_begins 0 = .ok (.iconst 0, 1) := by decide +kernel
theorem dX8_begins_1 : decode cX8_begins 1 = .ok (.istore_n 1, 1) := by decide +kernel
theorem dX8_begins_2 : decode cX8_begins 2 = .ok (.iload_n 1, 1) := by decide +kernel
theorem dX8_begins_3 : decode cX8_begins 3 = .ok (.bipush 14, 2) := by decide +kernel
theorem dX8_begins_5 : decode cX8_begins 5 = .ok (.if_icmp .ge 16, 3) := by decide +kernel
theorem dX8_begins_8 : decode cX8_begins 8 = .ok (.aload_n 0, 1) := by decide +kernel
theorem dX8_begins_9 : decode cX8_begins 9 = .ok (.getfield 52, 3) := by decide +kernel
theorem dX8_begins_12 : decode cX8_begins 12 = .ok (.iload_n 1, 1) := by decide +kernel
theorem dX8_begins_13 : decode cX8_begins 13 = .ok (.lconst 0, 1) := by decide +kernel
theorem dX8_begins_14 : decode cX8_begins 14 = .ok (.lastore, 1) := by decide +kernel
theorem dX8_begins_15 : decode cX8_begins 15 = .ok (.iinc 1 1, 3) := by decide +kernel
theorem dX8_begins_18 : decode cX8_begins 18 = .ok (.goto (-16), 3) := by decide +kernel
theorem dX8_begins_21 : decode cX8_begins 21 = .ok (.iconst 0, 1) := by decide +kernel
theorem dX8_begins_22 : decode cX8_begins 22 = .ok (.istore_n 1, 1) := by decide +kernel
theorem dX8_begins_23 : decode cX8_begins 23 = .ok (.iload_n 1, 1) := by decide +kernel
theorem dX8_begins_24 : decode cX8_begins 24 = .ok (.bipush 9, 2) := by decide +kernel
theorem dX8_begins_26 : decode cX8_begins 26 = .ok (.if_icmp .ge 29, 3) := by decide +kernel
theorem dX8_begins_29 : decode cX8_begins 29 = .ok (.aload_n 0, 1) := by decide +kernel
theorem dX8_begins_30 : decode cX8_begins 30 = .ok (.getfield 71, 3) := by decide +kernel
theorem dX8_begins_33 : decode cX8_begins 33 = .ok (.iload_n 1, 1) := by decide +kernel
theorem dX8_begins_34 : decode cX8_begins 34 = .ok (.iload_n 1, 1) := by decide +kernel
theorem dX8_begins_35 : decode cX8_begins 35 = .ok (.ifCond .le 12, 3) := by decide +kernel
theorem dX8_begins_38 : decode cX8_begins 38 = .ok (.aload_n 0, 1) := by decide +kernel
theorem dX8_begins_39 : decode cX8_begins 39 = .ok (.iload_n 1, 1) := by decide +kernel
theorem dX8_begins_40 : decode cX8_begins 40 = .ok (.invokevirtual 298, 3) := by decide +kernel
theorem dX8_begins_43 : decode cX8_begins 43 = .ok (.i2l, 1) := by decide +kernel
theorem dX8_begins_44 : decode cX8_begins 44 = .ok (.goto 4, 3) := by decide +kernel
theorem dX8_begins_47 : decode cX8_begins 47 = .ok (.lconst 0, 1) := by decide +kernel
theorem dX8_begins_48 : decode cX8_begins 48 = .ok (.lastore, 1) := by decide +kernel
theorem dX8_begins_49 : decode cX8_begins 49 = .ok (.iinc 1 1, 3) := by decide +kernel
theorem dX8_begins_52 : decode cX8_begins 52 = .ok (.goto (-29), 3) := by decide +kernel
theorem dX8_begins_55 : decode cX8_begins 55 = .ok (.aload_n 0, 1) := by decide +kernel
theorem dX8_begins_56 : decode cX8_begins 56 = .ok (.getfield 278, 3) := by decide +kernel
theorem dX8_begins_59 : decode cX8_begins 59 = .ok (.iconst 1, 1) := by decide +kernel
theorem dX8_begins_60 : decode cX8_begins 60 = .ok (.isub, 1) := by decide +kernel
theorem dX8_begins_61 : decode cX8_begins 61 = .ok (.istore_n 1, 1) := by decide +kernel
theorem dX8_begins_62 : decode cX8_begins 62 = .ok (.iload_n 1, 1) := by decide +kernel
theorem dX8_begins_63 : decode cX8_begins 63 = .ok (.ifCond .le 77, 3) := by decide +kernel
theorem dX8_begins_66 : decode cX8_begins 66 = .ok (.aload_n 0, 1) := by decide +kernel
theorem dX8_begins_67 : decode cX8_begins 67 = .ok (.getfield 49, 3) := by decide +kernel
theorem dX8_begins_70 : decode cX8_begins 70 = .ok (.iload_n 1, 1) := by decide +kernel
theorem dX8_begins_71 : decode cX8_begins 71 = .ok (.iaload, 1) := by decide +kernel
theorem dX8_begins_72 : decode cX8_begins 72 = .ok (.istore_n 2, 1) := by decide +kernel
theorem dX8_begins_73 : decode cX8_begins 73 = .ok (.aload_n 0, 1) := by decide +kernel
theorem dX8_begins_74 : decode cX8_begins 74 = .ok (.getfield 71, 3) := by decide +kernel
theorem dX8_begins_77 : decode cX8_begins 77 = .ok (.aload_n 0, 1) := by decide +kernel
theorem dX8_begins_78 : decode cX8_begins 78 = .ok (.iload_n 2, 1) := by decide +kernel
theorem dX8_begins_79 : decode cX8_begins 79 = .ok (.invokevirtual 285, 3) := by decide +kernel
theorem dX8_begins_82 : decode cX8_begins 82 = .ok (.dup2, 1) := by decide +kernel
theorem dX8_begins_83 : decode cX8_begins 83 = .ok (.laload, 1) := by decide +kernel
theorem dX8_begins_84 : decode cX8_begins 84 = .ok (.aload_n 0, 1) := by decide +kernel
theorem dX8_begins_85 : decode cX8_begins 85 = .ok (.getfield 71, 3) := by decide +kernel
theorem dX8_begins_88 : decode cX8_begins 88 = .ok (.iload_n 2, 1) := by decide +kernel
theorem dX8_begins_89 : decode cX8_begins 89 = .ok (.laload, 1) := by decide +kernel
theorem dX8_begins_90 : decode cX8_begins 90 = .ok (.ladd, 1) := by decide +kernel
theorem dX8_begins_91 : decode cX8_begins 91 = .ok (.lastore, 1) := by decide +kernel
theorem dX8_begins_92 : decode cX8_begins 92 = .ok (.aload_n 0, 1) := by decide +kernel
theorem dX8_begins_93 : decode cX8_begins 93 = .ok (.getfield 52, 3) := by decide +kernel
theorem dX8_begins_96 : decode cX8_begins 96 = .ok (.aload_n 0, 1) := by decide +kernel
theorem dX8_begins_97 : decode cX8_begins 97 = .ok (.getfield 46, 3) := by decide +kernel
theorem dX8_begins_100 : decode cX8_begins 100 = .ok (.iload_n 2, 1) := by decide +kernel
theorem dX8_begins_101 : decode cX8_begins 101 = .ok (.iaload, 1) := by decide +kernel
theorem dX8_begins_102 : decode cX8_begins 102 = .ok (.aload_n 0, 1) := by decide +kernel
theorem dX8_begins_103 : decode cX8_begins 103 = .ok (.getfield 31, 3) := by decide +kernel
theorem dX8_begins_106 : decode cX8_begins 106 = .ok (.aload_n 0, 1) := by decide +kernel
theorem dX8_begins_107 : decode cX8_begins 107 = .ok (.getfield 46, 3) := by decide +kernel
theorem dX8_begins_110 : decode cX8_begins 110 = .ok (.iload_n 2, 1) := by decide +kernel
theorem dX8_begins_111 : decode cX8_begins 111 = .ok (.iaload, 1) := by decide +kernel
theorem dX8_begins_112 : decode cX8_begins 112 = .ok (.iaload, 1) := by decide +kernel
theorem dX8_begins_113 : decode cX8_begins 113 = .ok (.iload_n 2, 1) := by decide +kernel
theorem dX8_begins_114 : decode cX8_begins 114 = .ok (.if_icmp .ne 12, 3) := by decide +kernel
theorem dX8_begins_117 : decode cX8_begins 117 = .ok (.aload_n 0, 1) := by decide +kernel
theorem dX8_begins_118 : decode cX8_begins 118 = .ok (.getfield 71, 3) := by decide +kernel
theorem dX8_begins_121 : decode cX8_begins 121 = .ok (.iload_n 2, 1) := by decide +kernel
theorem dX8_begins_122 : decode cX8_begins 122 = .ok (.laload, 1) := by decide +kernel
theorem dX8_begins_123 : decode cX8_begins 123 = .ok (.goto 10, 3) := by decide +kernel
theorem dX8_begins_126 : decode cX8_begins 126 = .ok (.aload_n 0, 1) := by decide +kernel
theorem dX8_begins_127 : decode cX8_begins 127 = .ok (.getfield 71, 3) := by decide +kernel
theorem dX8_begins_130 : decode cX8_begins 130 = .ok (.iload_n 2, 1) := by decide +kernel
theorem dX8_begins_131 : decode cX8_begins 131 = .ok (.laload, 1) := by decide +kernel
theorem dX8_begins_132 : decode cX8_begins 132 = .ok (.lneg, 1) := by decide +kernel
theorem dX8_begins_133 : decode cX8_begins 133 = .ok (.lastore, 1) := by decide +kernel
theorem dX8_begins_134 : decode cX8_begins 134 = .ok (.iinc 1 (-1), 3) := by decide +kernel
theorem dX8_begins_137 : decode cX8_begins 137 = .ok (.goto (-75), 3) := by decide +kernel
theorem dX8_begins_140 : decode cX8_begins 140 = .ok (.return_, 1) := by decide +kernel
theorem dX8_drawn_0 : decode cX8_drawn 0 = .ok (.aload_n 0, 1) := by decide +kernel
theorem dX8_drawn_1 : decode cX8_drawn 1 = .ok (.getfield 19, 3) := by decide +kernel
theorem dX8_drawn_4 : decode cX8_drawn 4 = .ok (.iload_n 1, 1) := by decide +kernel
theorem dX8_drawn_5 : decode cX8_drawn 5 = .ok (.iaload, 1) := by decide +kernel
theorem dX8_drawn_6 : decode cX8_drawn 6 = .ok (.aload_n 0, 1) := by decide +kernel
theorem dX8_drawn_7 : decode cX8_drawn 7 = .ok (.getfield 77, 3) := by decide +kernel
theorem dX8_drawn_10 : decode cX8_drawn 10 = .ok (.imul, 1) := by decide +kernel
theorem dX8_drawn_11 : decode cX8_drawn 11 = .ok (.bipush 100, 2) := by decide +kernel
theorem dX8_drawn_13 : decode cX8_drawn 13 = .ok (.idiv, 1) := by decide +kernel
theorem dX8_drawn_14 : decode cX8_drawn 14 = .ok (.iload_n 1, 1) := by decide +kernel
theorem dX8_drawn_15 : decode cX8_drawn 15 = .ok (.aload_n 0, 1) := by decide +kernel
theorem dX8_drawn_16 : decode cX8_drawn 16 = .ok (.getfield 74, 3) := by decide +kernel
theorem dX8_drawn_19 : decode cX8_drawn 19 = .ok (.if_icmp .ne 10, 3) := by decide +kernel
theorem dX8_drawn_22 : decode cX8_drawn 22 = .ok (.aload_n 0, 1) := by decide +kernel
theorem dX8_drawn_23 : decode cX8_drawn 23 = .ok (.getfield 301, 3) := by decide +kernel
theorem dX8_drawn_26 : decode cX8_drawn 26 = .ok (.goto 4, 3) := by decide +kernel
theorem dX8_drawn_29 : decode cX8_drawn 29 = .ok (.iconst 0, 1) := by decide +kernel
theorem dX8_drawn_30 : decode cX8_drawn 30 = .ok (.iadd, 1) := by decide +kernel
theorem dX8_drawn_31 : decode cX8_drawn 31 = .ok (.ireturn, 1) := by decide +kernel
theorem dX8_liftOf_0 : decode cX8_liftOf 0 = .ok (.lload_n 2, 1) := by decide +kernel
theorem dX8_liftOf_1 : decode cX8_liftOf 1 = .ok (.lconst 0, 1) := by decide +kernel
theorem dX8_liftOf_2 : decode cX8_liftOf 2 = .ok (.lcmp, 1) := by decide +kernel
theorem dX8_liftOf_3 : decode cX8_liftOf 3 = .ok (.ifCond .ge 7, 3) := by decide +kernel
theorem dX8_liftOf_6 : decode cX8_liftOf 6 = .ok (.lconst 0, 1) := by decide +kernel
theorem dX8_liftOf_7 : decode cX8_liftOf 7 = .ok (.goto 8, 3) := by decide +kernel
theorem dX8_liftOf_10 : decode cX8_liftOf 10 = .ok (.lload_n 2, 1) := by decide +kernel
theorem dX8_liftOf_11 : decode cX8_liftOf 11 = .ok (.ldc2_w 304, 3) := by decide +kernel
theorem dX8_liftOf_14 : decode cX8_liftOf 14 = .ok (.ldiv, 1) := by decide +kernel
theorem dX8_liftOf_15 : decode cX8_liftOf 15 = .ok (.lstore 4, 2) := by decide +kernel
theorem dX8_liftOf_17 : decode cX8_liftOf 17 = .ok (.lload 4, 2) := by decide +kernel
theorem dX8_liftOf_19 : decode cX8_liftOf 19 = .ok (.aload_n 0, 1) := by decide +kernel
theorem dX8_liftOf_20 : decode cX8_liftOf 20 = .ok (.getfield 43, 3) := by decide +kernel
theorem dX8_liftOf_23 : decode cX8_liftOf 23 = .ok (.iload_n 1, 1) := by decide +kernel
theorem dX8_liftOf_24 : decode cX8_liftOf 24 = .ok (.iaload, 1) := by decide +kernel
theorem dX8_liftOf_25 : decode cX8_liftOf 25 = .ok (.i2l, 1) := by decide +kernel
theorem dX8_liftOf_26 : decode cX8_liftOf 26 = .ok (.lcmp, 1) := by decide +kernel
theorem dX8_liftOf_27 : decode cX8_liftOf 27 = .ok (.ifCond .ge 24, 3) := by decide +kernel
theorem dX8_liftOf_30 : decode cX8_liftOf 30 = .ok (.ldc2_w 306, 3) := by decide +kernel
theorem dX8_liftOf_33 : decode cX8_liftOf 33 = .ok (.aload_n 0, 1) := by decide +kernel
theorem dX8_liftOf_34 : decode cX8_liftOf 34 = .ok (.getfield 40, 3) := by decide +kernel
theorem dX8_liftOf_37 : decode cX8_liftOf 37 = .ok (.bipush 6, 2) := by decide +kernel
theorem dX8_liftOf_39 : decode cX8_liftOf 39 = .ok (.iload_n 1, 1) := by decide +kernel
theorem dX8_liftOf_40 : decode cX8_liftOf 40 = .ok (.imul, 1) := by decide +kernel
theorem dX8_liftOf_41 : decode cX8_liftOf 41 = .ok (.lload 4, 2) := by decide +kernel
theorem dX8_liftOf_43 : decode cX8_liftOf 43 = .ok (.l2i, 1) := by decide +kernel
theorem dX8_liftOf_44 : decode cX8_liftOf 44 = .ok (.iadd, 1) := by decide +kernel
theorem dX8_liftOf_45 : decode cX8_liftOf 45 = .ok (.iaload, 1) := by decide +kernel
theorem dX8_liftOf_46 : decode cX8_liftOf 46 = .ok (.i2l, 1) := by decide +kernel
theorem dX8_liftOf_47 : decode cX8_liftOf 47 = .ok (.lmul, 1) := by decide +kernel
theorem dX8_liftOf_48 : decode cX8_liftOf 48 = .ok (.goto 4, 3) := by decide +kernel
theorem dX8_liftOf_51 : decode cX8_liftOf 51 = .ok (.lconst 0, 1) := by decide +kernel
theorem dX8_liftOf_52 : decode cX8_liftOf 52 = .ok (.lreturn, 1) := by decide +kernel
theorem dX8_lossOf_0 : decode cX8_lossOf 0 = .ok (.aload_n 0, 1) := by decide +kernel
theorem dX8_lossOf_1 : decode cX8_lossOf 1 = .ok (.getfield 34, 3) := by decide +kernel
theorem dX8_lossOf_4 : decode cX8_lossOf 4 = .ok (.iload_n 1, 1) := by decide +kernel
theorem dX8_lossOf_5 : decode cX8_lossOf 5 = .ok (.iaload, 1) := by decide +kernel
theorem dX8_lossOf_6 : decode cX8_lossOf 6 = .ok (.iconst 2, 1) := by decide +kernel
theorem dX8_lossOf_7 : decode cX8_lossOf 7 = .ok (.if_icmp .ne 11, 3) := by decide +kernel
theorem dX8_lossOf_10 : decode cX8_lossOf 10 = .ok (.aload_n 0, 1) := by decide +kernel
theorem dX8_lossOf_11 : decode cX8_lossOf 11 = .ok (.iload_n 1, 1) := by decide +kernel
theorem dX8_lossOf_12 : decode cX8_lossOf 12 = .ok (.lload_n 2, 1) := by decide +kernel
theorem dX8_lossOf_13 : decode cX8_lossOf 13 = .ok (.invokevirtual 308, 3) := by decide +kernel
theorem dX8_lossOf_16 : decode cX8_lossOf 16 = .ok (.lneg, 1) := by decide +kernel
theorem dX8_lossOf_17 : decode cX8_lossOf 17 = .ok (.lreturn, 1) := by decide +kernel
theorem dX8_lossOf_18 : decode cX8_lossOf 18 = .ok (.lload_n 2, 1) := by decide +kernel
theorem dX8_lossOf_19 : decode cX8_lossOf 19 = .ok (.lconst 0, 1) := by decide +kernel
theorem dX8_lossOf_20 : decode cX8_lossOf 20 = .ok (.lcmp, 1) := by decide +kernel
theorem dX8_lossOf_21 : decode cX8_lossOf 21 = .ok (.ifCond .ge 18, 3) := by decide +kernel
theorem dX8_lossOf_24 : decode cX8_lossOf 24 = .ok (.aload_n 0, 1) := by decide +kernel
theorem dX8_lossOf_25 : decode cX8_lossOf 25 = .ok (.getfield 37, 3) := by decide +kernel
theorem dX8_lossOf_28 : decode cX8_lossOf 28 = .ok (.iload_n 1, 1) := by decide +kernel
theorem dX8_lossOf_29 : decode cX8_lossOf 29 = .ok (.iaload, 1) := by decide +kernel
theorem dX8_lossOf_30 : decode cX8_lossOf 30 = .ok (.ineg, 1) := by decide +kernel
theorem dX8_lossOf_31 : decode cX8_lossOf 31 = .ok (.i2l, 1) := by decide +kernel
theorem dX8_lossOf_32 : decode cX8_lossOf 32 = .ok (.lload_n 2, 1) := by decide +kernel
theorem dX8_lossOf_33 : decode cX8_lossOf 33 = .ok (.lmul, 1) := by decide +kernel
theorem dX8_lossOf_34 : decode cX8_lossOf 34 = .ok (.lload_n 2, 1) := by decide +kernel
theorem dX8_lossOf_35 : decode cX8_lossOf 35 = .ok (.lmul, 1) := by decide +kernel
theorem dX8_lossOf_36 : decode cX8_lossOf 36 = .ok (.goto 14, 3) := by decide +kernel
theorem dX8_lossOf_39 : decode cX8_lossOf 39 = .ok (.aload_n 0, 1) := by decide +kernel
theorem dX8_lossOf_40 : decode cX8_lossOf 40 = .ok (.getfield 37, 3) := by decide +kernel
theorem dX8_lossOf_43 : decode cX8_lossOf 43 = .ok (.iload_n 1, 1) := by decide +kernel
theorem dX8_lossOf_44 : decode cX8_lossOf 44 = .ok (.iaload, 1) := by decide +kernel
theorem dX8_lossOf_45 : decode cX8_lossOf 45 = .ok (.i2l, 1) := by decide +kernel
theorem dX8_lossOf_46 : decode cX8_lossOf 46 = .ok (.lload_n 2, 1) := by decide +kernel
theorem dX8_lossOf_47 : decode cX8_lossOf 47 = .ok (.lmul, 1) := by decide +kernel
theorem dX8_lossOf_48 : decode cX8_lossOf 48 = .ok (.lload_n 2, 1) := by decide +kernel
theorem dX8_lossOf_49 : decode cX8_lossOf 49 = .ok (.lmul, 1) := by decide +kernel
theorem dX8_lossOf_50 : decode cX8_lossOf 50 = .ok (.lreturn, 1) := by decide +kernel
theorem dX8_steepBy_0 : decode cX8_steepBy 0 = .ok (.aload_n 0, 1) := by decide +kernel
theorem dX8_steepBy_1 : decode cX8_steepBy 1 = .ok (.getfield 34, 3) := by decide +kernel
theorem dX8_steepBy_4 : decode cX8_steepBy 4 = .ok (.iload_n 1, 1) := by decide +kernel
theorem dX8_steepBy_5 : decode cX8_steepBy 5 = .ok (.iaload, 1) := by decide +kernel
theorem dX8_steepBy_6 : decode cX8_steepBy 6 = .ok (.iconst 2, 1) := by decide +kernel
theorem dX8_steepBy_7 : decode cX8_steepBy 7 = .ok (.if_icmp .ne 7, 3) := by decide +kernel
theorem dX8_steepBy_10 : decode cX8_steepBy 10 = .ok (.lconst 1, 1) := by decide +kernel
theorem dX8_steepBy_11 : decode cX8_steepBy 11 = .ok (.goto 29, 3) := by decide +kernel
theorem dX8_steepBy_14 : decode cX8_steepBy 14 = .ok (.aload_n 0, 1) := by decide +kernel
theorem dX8_steepBy_15 : decode cX8_steepBy 15 = .ok (.getfield 37, 3) := by decide +kernel
theorem dX8_steepBy_18 : decode cX8_steepBy 18 = .ok (.iload_n 1, 1) := by decide +kernel
theorem dX8_steepBy_19 : decode cX8_steepBy 19 = .ok (.iaload, 1) := by decide +kernel
theorem dX8_steepBy_20 : decode cX8_steepBy 20 = .ok (.i2l, 1) := by decide +kernel
theorem dX8_steepBy_21 : decode cX8_steepBy 21 = .ok (.ldc2_w 312, 3) := by decide +kernel
theorem dX8_steepBy_24 : decode cX8_steepBy 24 = .ok (.lload_n 2, 1) := by decide +kernel
theorem dX8_steepBy_25 : decode cX8_steepBy 25 = .ok (.lconst 0, 1) := by decide +kernel
theorem dX8_steepBy_26 : decode cX8_steepBy 26 = .ok (.lcmp, 1) := by decide +kernel
theorem dX8_steepBy_27 : decode cX8_steepBy 27 = .ok (.ifCond .ge 8, 3) := by decide +kernel
theorem dX8_steepBy_30 : decode cX8_steepBy 30 = .ok (.lload_n 2, 1) := by decide +kernel
theorem dX8_steepBy_31 : decode cX8_steepBy 31 = .ok (.lneg, 1) := by decide +kernel
theorem dX8_steepBy_32 : decode cX8_steepBy 32 = .ok (.goto 4, 3) := by decide +kernel
theorem dX8_steepBy_35 : decode cX8_steepBy 35 = .ok (.lload_n 2, 1) := by decide +kernel
theorem dX8_steepBy_36 : decode cX8_steepBy 36 = .ok (.lmul, 1) := by decide +kernel
theorem dX8_steepBy_37 : decode cX8_steepBy 37 = .ok (.lconst 1, 1) := by decide +kernel
theorem dX8_steepBy_38 : decode cX8_steepBy 38 = .ok (.ladd, 1) := by decide +kernel
theorem dX8_steepBy_39 : decode cX8_steepBy 39 = .ok (.lmul, 1) := by decide +kernel
theorem dX8_steepBy_40 : decode cX8_steepBy 40 = .ok (.lreturn, 1) := by decide +kernel
theorem dX8_steepOf_0 : decode cX8_steepOf 0 = .ok (.aload_n 0, 1) := by decide +kernel
theorem dX8_steepOf_1 : decode cX8_steepOf 1 = .ok (.iload_n 1, 1) := by decide +kernel
theorem dX8_steepOf_2 : decode cX8_steepOf 2 = .ok (.aload_n 0, 1) := by decide +kernel
theorem dX8_steepOf_3 : decode cX8_steepOf 3 = .ok (.getfield 52, 3) := by decide +kernel
theorem dX8_steepOf_6 : decode cX8_steepOf 6 = .ok (.iload_n 1, 1) := by decide +kernel
theorem dX8_steepOf_7 : decode cX8_steepOf 7 = .ok (.laload, 1) := by decide +kernel
theorem dX8_steepOf_8 : decode cX8_steepOf 8 = .ok (.invokevirtual 314, 3) := by decide +kernel
theorem dX8_steepOf_11 : decode cX8_steepOf 11 = .ok (.lreturn, 1) := by decide +kernel
theorem dX8_lossAt_0 : decode cX8_lossAt 0 = .ok (.aload_n 0, 1) := by decide +kernel
theorem dX8_lossAt_1 : decode cX8_lossAt 1 = .ok (.aload_n 0, 1) := by decide +kernel
theorem dX8_lossAt_2 : decode cX8_lossAt 2 = .ok (.iload_n 1, 1) := by decide +kernel
theorem dX8_lossAt_3 : decode cX8_lossAt 3 = .ok (.invokevirtual 317, 3) := by decide +kernel
theorem dX8_lossAt_6 : decode cX8_lossAt 6 = .ok (.ifCond .eq 17, 3) := by decide +kernel
theorem dX8_lossAt_9 : decode cX8_lossAt 9 = .ok (.iload_n 3, 1) := by decide +kernel
theorem dX8_lossAt_10 : decode cX8_lossAt 10 = .ok (.i2l, 1) := by decide +kernel
theorem dX8_lossAt_11 : decode cX8_lossAt 11 = .ok (.lconst 0, 1) := by decide +kernel
theorem dX8_lossAt_12 : decode cX8_lossAt 12 = .ok (.lconst 1, 1) := by decide +kernel
theorem dX8_lossAt_13 : decode cX8_lossAt 13 = .ok (.invokestatic 131, 3) := by decide +kernel
theorem dX8_lossAt_16 : decode cX8_lossAt 16 = .ok (.ifCond .eq 7, 3) := by decide +kernel
theorem dX8_lossAt_19 : decode cX8_lossAt 19 = .ok (.iconst 1, 1) := by decide +kernel
theorem dX8_lossAt_20 : decode cX8_lossAt 20 = .ok (.goto 4, 3) := by decide +kernel
theorem dX8_lossAt_23 : decode cX8_lossAt 23 = .ok (.iconst 0, 1) := by decide +kernel
theorem dX8_lossAt_24 : decode cX8_lossAt 24 = .ok (.iload_n 2, 1) := by decide +kernel
theorem dX8_lossAt_25 : decode cX8_lossAt 25 = .ok (.i2l, 1) := by decide +kernel
theorem dX8_lossAt_26 : decode cX8_lossAt 26 = .ok (.ldc2_w 320, 3) := by decide +kernel
theorem dX8_lossAt_29 : decode cX8_lossAt 29 = .ok (.ldc2_w 322, 3) := by decide +kernel
theorem dX8_lossAt_32 : decode cX8_lossAt 32 = .ok (.invokestatic 131, 3) := by decide +kernel
theorem dX8_lossAt_35 : decode cX8_lossAt 35 = .ok (.invokestatic 241, 3) := by decide +kernel
theorem dX8_lossAt_38 : decode cX8_lossAt 38 = .ok (.invokevirtual 245, 3) := by decide +kernel
theorem dX8_lossAt_41 : decode cX8_lossAt 41 = .ok (.ifCond .eq 7, 3) := by decide +kernel
theorem dX8_lossAt_44 : decode cX8_lossAt 44 = .ok (.ldc2_w 102, 3) := by decide +kernel
theorem dX8_lossAt_47 : decode cX8_lossAt 47 = .ok (.lreturn, 1) := by decide +kernel
theorem dX8_lossAt_48 : decode cX8_lossAt 48 = .ok (.iload_n 3, 1) := by decide +kernel
theorem dX8_lossAt_49 : decode cX8_lossAt 49 = .ok (.ifCond .ne 13, 3) := by decide +kernel
theorem dX8_lossAt_52 : decode cX8_lossAt 52 = .ok (.aload_n 0, 1) := by decide +kernel
theorem dX8_lossAt_53 : decode cX8_lossAt 53 = .ok (.iload_n 1, 1) := by decide +kernel
theorem dX8_lossAt_54 : decode cX8_lossAt 54 = .ok (.iload_n 2, 1) := by decide +kernel
theorem dX8_lossAt_55 : decode cX8_lossAt 55 = .ok (.i2l, 1) := by decide +kernel
theorem dX8_lossAt_56 : decode cX8_lossAt 56 = .ok (.invokevirtual 324, 3) := by decide +kernel
theorem dX8_lossAt_59 : decode cX8_lossAt 59 = .ok (.goto 10, 3) := by decide +kernel
theorem dX8_lossAt_62 : decode cX8_lossAt 62 = .ok (.aload_n 0, 1) := by decide +kernel
theorem dX8_lossAt_63 : decode cX8_lossAt 63 = .ok (.iload_n 1, 1) := by decide +kernel
theorem dX8_lossAt_64 : decode cX8_lossAt 64 = .ok (.iload_n 2, 1) := by decide +kernel
theorem dX8_lossAt_65 : decode cX8_lossAt 65 = .ok (.i2l, 1) := by decide +kernel
theorem dX8_lossAt_66 : decode cX8_lossAt 66 = .ok (.invokevirtual 314, 3) := by decide +kernel
theorem dX8_lossAt_69 : decode cX8_lossAt 69 = .ok (.lreturn, 1) := by decide +kernel
theorem dX8_behind_0 : decode cX8_behind 0 = .ok (.aload_n 0, 1) := by decide +kernel
theorem dX8_behind_1 : decode cX8_behind 1 = .ok (.aload_n 0, 1) := by decide +kernel
theorem dX8_behind_2 : decode cX8_behind 2 = .ok (.iload_n 1, 1) := by decide +kernel
theorem dX8_behind_3 : decode cX8_behind 3 = .ok (.invokevirtual 327, 3) := by decide +kernel
theorem dX8_behind_6 : decode cX8_behind 6 = .ok (.invokestatic 330, 3) := by decide +kernel
theorem dX8_behind_9 : decode cX8_behind 9 = .ok (.invokevirtual 245, 3) := by decide +kernel
theorem dX8_behind_12 : decode cX8_behind 12 = .ok (.ifCond .eq 5, 3) := by decide +kernel
theorem dX8_behind_15 : decode cX8_behind 15 = .ok (.iconst (-1), 1) := by decide +kernel
theorem dX8_behind_16 : decode cX8_behind 16 = .ok (.ireturn, 1) := by decide +kernel
theorem dX8_behind_17 : decode cX8_behind 17 = .ok (.iconst 0, 1) := by decide +kernel
theorem dX8_behind_18 : decode cX8_behind 18 = .ok (.istore_n 2, 1) := by decide +kernel
theorem dX8_behind_19 : decode cX8_behind 19 = .ok (.iconst 1, 1) := by decide +kernel
theorem dX8_behind_20 : decode cX8_behind 20 = .ok (.istore_n 3, 1) := by decide +kernel
theorem dX8_behind_21 : decode cX8_behind 21 = .ok (.iload_n 3, 1) := by decide +kernel
theorem dX8_behind_22 : decode cX8_behind 22 = .ok (.aload_n 0, 1) := by decide +kernel
theorem dX8_behind_23 : decode cX8_behind 23 = .ok (.getfield 278, 3) := by decide +kernel
theorem dX8_behind_26 : decode cX8_behind 26 = .ok (.if_icmp .ge 71, 3) := by decide +kernel
theorem dX8_behind_29 : decode cX8_behind 29 = .ok (.iconst 0, 1) := by decide +kernel
theorem dX8_behind_30 : decode cX8_behind 30 = .ok (.istore 4, 2) := by decide +kernel
theorem dX8_behind_32 : decode cX8_behind 32 = .ok (.aload_n 0, 1) := by decide +kernel
theorem dX8_behind_33 : decode cX8_behind 33 = .ok (.getfield 49, 3) := by decide +kernel
theorem dX8_behind_36 : decode cX8_behind 36 = .ok (.iload_n 3, 1) := by decide +kernel
theorem dX8_behind_37 : decode cX8_behind 37 = .ok (.iaload, 1) := by decide +kernel
theorem dX8_behind_38 : decode cX8_behind 38 = .ok (.istore 5, 2) := by decide +kernel
theorem dX8_behind_40 : decode cX8_behind 40 = .ok (.iload 5, 2) := by decide +kernel
theorem dX8_behind_42 : decode cX8_behind 42 = .ok (.ifCond .eq 36, 3) := by decide +kernel
theorem dX8_behind_45 : decode cX8_behind 45 = .ok (.iload 4, 2) := by decide +kernel
theorem dX8_behind_47 : decode cX8_behind 47 = .ok (.ifCond .ne 31, 3) := by decide +kernel
theorem dX8_behind_50 : decode cX8_behind 50 = .ok (.aload_n 0, 1) := by decide +kernel
theorem dX8_behind_51 : decode cX8_behind 51 = .ok (.iload 5, 2) := by decide +kernel
theorem dX8_behind_53 : decode cX8_behind 53 = .ok (.invokevirtual 285, 3) := by decide +kernel
theorem dX8_behind_56 : decode cX8_behind 56 = .ok (.iload_n 1, 1) := by decide +kernel
theorem dX8_behind_57 : decode cX8_behind 57 = .ok (.if_icmp .ne 7, 3) := by decide +kernel
theorem dX8_behind_60 : decode cX8_behind 60 = .ok (.iconst 1, 1) := by decide +kernel
theorem dX8_behind_61 : decode cX8_behind 61 = .ok (.goto 4, 3) := by decide +kernel
theorem dX8_behind_64 : decode cX8_behind 64 = .ok (.iconst 0, 1) := by decide +kernel
theorem dX8_behind_65 : decode cX8_behind 65 = .ok (.istore 4, 2) := by decide +kernel
theorem dX8_behind_67 : decode cX8_behind 67 = .ok (.aload_n 0, 1) := by decide +kernel
theorem dX8_behind_68 : decode cX8_behind 68 = .ok (.iload 5, 2) := by decide +kernel
theorem dX8_behind_70 : decode cX8_behind 70 = .ok (.invokevirtual 285, 3) := by decide +kernel
theorem dX8_behind_73 : decode cX8_behind 73 = .ok (.istore 5, 2) := by decide +kernel
theorem dX8_behind_75 : decode cX8_behind 75 = .ok (.goto (-35), 3) := by decide +kernel
theorem dX8_behind_78 : decode cX8_behind 78 = .ok (.iload_n 2, 1) := by decide +kernel
theorem dX8_behind_79 : decode cX8_behind 79 = .ok (.iload 4, 2) := by decide +kernel
theorem dX8_behind_81 : decode cX8_behind 81 = .ok (.ifCond .eq 7, 3) := by decide +kernel
theorem dX8_behind_84 : decode cX8_behind 84 = .ok (.iconst 1, 1) := by decide +kernel
theorem dX8_behind_85 : decode cX8_behind 85 = .ok (.goto 4, 3) := by decide +kernel
theorem dX8_behind_88 : decode cX8_behind 88 = .ok (.iconst 0, 1) := by decide +kernel
theorem dX8_behind_89 : decode cX8_behind 89 = .ok (.iadd, 1) := by decide +kernel
theorem dX8_behind_90 : decode cX8_behind 90 = .ok (.istore_n 2, 1) := by decide +kernel
theorem dX8_behind_91 : decode cX8_behind 91 = .ok (.iinc 3 1, 3) := by decide +kernel
theorem dX8_behind_94 : decode cX8_behind 94 = .ok (.goto (-73), 3) := by decide +kernel
theorem dX8_behind_97 : decode cX8_behind 97 = .ok (.aload_n 0, 1) := by decide +kernel
theorem dX8_behind_98 : decode cX8_behind 98 = .ok (.iload_n 1, 1) := by decide +kernel
theorem dX8_behind_99 : decode cX8_behind 99 = .ok (.invokevirtual 272, 3) := by decide +kernel
theorem dX8_behind_102 : decode cX8_behind 102 = .ok (.ifCond .eq 7, 3) := by decide +kernel
theorem dX8_behind_105 : decode cX8_behind 105 = .ok (.iload_n 2, 1) := by decide +kernel
theorem dX8_behind_106 : decode cX8_behind 106 = .ok (.goto 4, 3) := by decide +kernel
theorem dX8_behind_109 : decode cX8_behind 109 = .ok (.iconst 0, 1) := by decide +kernel
theorem dX8_behind_110 : decode cX8_behind 110 = .ok (.ireturn, 1) := by decide +kernel
theorem dX8_ringSum_0 : decode cX8_ringSum 0 = .ok (.lconst 0, 1) := by decide +kernel
theorem dX8_ringSum_1 : decode cX8_ringSum 1 = .ok (.lstore_n 2, 1) := by decide +kernel
theorem dX8_ringSum_2 : decode cX8_ringSum 2 = .ok (.iconst 0, 1) := by decide +kernel
theorem dX8_ringSum_3 : decode cX8_ringSum 3 = .ok (.istore 4, 2) := by decide +kernel
theorem dX8_ringSum_5 : decode cX8_ringSum 5 = .ok (.iload 4, 2) := by decide +kernel
theorem dX8_ringSum_7 : decode cX8_ringSum 7 = .ok (.aload_n 0, 1) := by decide +kernel
theorem dX8_ringSum_8 : decode cX8_ringSum 8 = .ok (.getfield 62, 3) := by decide +kernel
theorem dX8_ringSum_11 : decode cX8_ringSum 11 = .ok (.iload_n 1, 1) := by decide +kernel
theorem dX8_ringSum_12 : decode cX8_ringSum 12 = .ok (.iaload, 1) := by decide +kernel
theorem dX8_ringSum_13 : decode cX8_ringSum 13 = .ok (.if_icmp .ge 53, 3) := by decide +kernel
theorem dX8_ringSum_16 : decode cX8_ringSum 16 = .ok (.aload_n 0, 1) := by decide +kernel
theorem dX8_ringSum_17 : decode cX8_ringSum 17 = .ok (.getfield 56, 3) := by decide +kernel
theorem dX8_ringSum_20 : decode cX8_ringSum 20 = .ok (.bipush 14, 2) := by decide +kernel
theorem dX8_ringSum_22 : decode cX8_ringSum 22 = .ok (.iload_n 1, 1) := by decide +kernel
theorem dX8_ringSum_23 : decode cX8_ringSum 23 = .ok (.imul, 1) := by decide +kernel
theorem dX8_ringSum_24 : decode cX8_ringSum 24 = .ok (.iload 4, 2) := by decide +kernel
theorem dX8_ringSum_26 : decode cX8_ringSum 26 = .ok (.iadd, 1) := by decide +kernel
theorem dX8_ringSum_27 : decode cX8_ringSum 27 = .ok (.iaload, 1) := by decide +kernel
theorem dX8_ringSum_28 : decode cX8_ringSum 28 = .ok (.istore 5, 2) := by decide +kernel
theorem dX8_ringSum_30 : decode cX8_ringSum 30 = .ok (.lload_n 2, 1) := by decide +kernel
theorem dX8_ringSum_31 : decode cX8_ringSum 31 = .ok (.aload_n 0, 1) := by decide +kernel
theorem dX8_ringSum_32 : decode cX8_ringSum 32 = .ok (.getfield 59, 3) := by decide +kernel
theorem dX8_ringSum_35 : decode cX8_ringSum 35 = .ok (.bipush 14, 2) := by decide +kernel
theorem dX8_ringSum_37 : decode cX8_ringSum 37 = .ok (.iload_n 1, 1) := by decide +kernel
theorem dX8_ringSum_38 : decode cX8_ringSum 38 = .ok (.imul, 1) := by decide +kernel
theorem dX8_ringSum_39 : decode cX8_ringSum 39 = .ok (.iload 4, 2) := by decide +kernel
theorem dX8_ringSum_41 : decode cX8_ringSum 41 = .ok (.iadd, 1) := by decide +kernel
theorem dX8_ringSum_42 : decode cX8_ringSum 42 = .ok (.iaload, 1) := by decide +kernel
theorem dX8_ringSum_43 : decode cX8_ringSum 43 = .ok (.i2l, 1) := by decide +kernel
theorem dX8_ringSum_44 : decode cX8_ringSum 44 = .ok (.aload_n 0, 1) := by decide +kernel
theorem dX8_ringSum_45 : decode cX8_ringSum 45 = .ok (.iload 5, 2) := by decide +kernel
theorem dX8_ringSum_47 : decode cX8_ringSum 47 = .ok (.aload_n 0, 1) := by decide +kernel
theorem dX8_ringSum_48 : decode cX8_ringSum 48 = .ok (.getfield 52, 3) := by decide +kernel
theorem dX8_ringSum_51 : decode cX8_ringSum 51 = .ok (.iload 5, 2) := by decide +kernel
theorem dX8_ringSum_53 : decode cX8_ringSum 53 = .ok (.laload, 1) := by decide +kernel
theorem dX8_ringSum_54 : decode cX8_ringSum 54 = .ok (.invokevirtual 324, 3) := by decide +kernel
theorem dX8_ringSum_57 : decode cX8_ringSum 57 = .ok (.lmul, 1) := by decide +kernel
theorem dX8_ringSum_58 : decode cX8_ringSum 58 = .ok (.ladd, 1) := by decide +kernel
theorem dX8_ringSum_59 : decode cX8_ringSum 59 = .ok (.lstore_n 2, 1) := by decide +kernel
theorem dX8_ringSum_60 : decode cX8_ringSum 60 = .ok (.iinc 4 1, 3) := by decide +kernel
theorem dX8_ringSum_63 : decode cX8_ringSum 63 = .ok (.goto (-58), 3) := by decide +kernel
theorem dX8_ringSum_66 : decode cX8_ringSum 66 = .ok (.lload_n 2, 1) := by decide +kernel
theorem dX8_ringSum_67 : decode cX8_ringSum 67 = .ok (.lreturn, 1) := by decide +kernel
theorem dX8_ringSteep_0 : decode cX8_ringSteep 0 = .ok (.lconst 0, 1) := by decide +kernel
theorem dX8_ringSteep_1 : decode cX8_ringSteep 1 = .ok (.lstore_n 2, 1) := by decide +kernel
theorem dX8_ringSteep_2 : decode cX8_ringSteep 2 = .ok (.iconst 0, 1) := by decide +kernel
theorem dX8_ringSteep_3 : decode cX8_ringSteep 3 = .ok (.istore 4, 2) := by decide +kernel
theorem dX8_ringSteep_5 : decode cX8_ringSteep 5 = .ok (.iload 4, 2) := by decide +kernel
theorem dX8_ringSteep_7 : decode cX8_ringSteep 7 = .ok (.aload_n 0, 1) := by decide +kernel
theorem dX8_ringSteep_8 : decode cX8_ringSteep 8 = .ok (.getfield 62, 3) := by decide +kernel
theorem dX8_ringSteep_11 : decode cX8_ringSteep 11 = .ok (.iload_n 1, 1) := by decide +kernel
theorem dX8_ringSteep_12 : decode cX8_ringSteep 12 = .ok (.iaload, 1) := by decide +kernel
theorem dX8_ringSteep_13 : decode cX8_ringSteep 13 = .ok (.if_icmp .ge 28, 3) := by decide +kernel
theorem dX8_ringSteep_16 : decode cX8_ringSteep 16 = .ok (.lload_n 2, 1) := by decide +kernel
theorem dX8_ringSteep_17 : decode cX8_ringSteep 17 = .ok (.aload_n 0, 1) := by decide +kernel
theorem dX8_ringSteep_18 : decode cX8_ringSteep 18 = .ok (.aload_n 0, 1) := by decide +kernel
theorem dX8_ringSteep_19 : decode cX8_ringSteep 19 = .ok (.getfield 56, 3) := by decide +kernel
theorem dX8_ringSteep_22 : decode cX8_ringSteep 22 = .ok (.bipush 14, 2) := by decide +kernel
theorem dX8_ringSteep_24 : decode cX8_ringSteep 24 = .ok (.iload_n 1, 1) := by decide +kernel
theorem dX8_ringSteep_25 : decode cX8_ringSteep 25 = .ok (.imul, 1) := by decide +kernel
theorem dX8_ringSteep_26 : decode cX8_ringSteep 26 = .ok (.iload 4, 2) := by decide +kernel
theorem dX8_ringSteep_28 : decode cX8_ringSteep 28 = .ok (.iadd, 1) := by decide +kernel
theorem dX8_ringSteep_29 : decode cX8_ringSteep 29 = .ok (.iaload, 1) := by decide +kernel
theorem dX8_ringSteep_30 : decode cX8_ringSteep 30 = .ok (.invokevirtual 333, 3) := by decide +kernel
theorem dX8_ringSteep_33 : decode cX8_ringSteep 33 = .ok (.ladd, 1) := by decide +kernel
theorem dX8_ringSteep_34 : decode cX8_ringSteep 34 = .ok (.lstore_n 2, 1) := by decide +kernel
theorem dX8_ringSteep_35 : decode cX8_ringSteep 35 = .ok (.iinc 4 1, 3) := by decide +kernel
theorem dX8_ringSteep_38 : decode cX8_ringSteep 38 = .ok (.goto (-33), 3) := by decide +kernel
theorem dX8_ringSteep_41 : decode cX8_ringSteep 41 = .ok (.lload_n 2, 1) := by decide +kernel
theorem dX8_ringSteep_42 : decode cX8_ringSteep 42 = .ok (.lreturn, 1) := by decide +kernel
theorem dX8_nearest_0 : decode cX8_nearest 0 = .ok (.lload_n 0, 1) := by decide +kernel
theorem dX8_nearest_1 : decode cX8_nearest 1 = .ok (.lconst 0, 1) := by decide +kernel
theorem dX8_nearest_2 : decode cX8_nearest 2 = .ok (.lcmp, 1) := by decide +kernel
theorem dX8_nearest_3 : decode cX8_nearest 3 = .ok (.ifCond .ge 8, 3) := by decide +kernel
theorem dX8_nearest_6 : decode cX8_nearest 6 = .ok (.lload_n 0, 1) := by decide +kernel
theorem dX8_nearest_7 : decode cX8_nearest 7 = .ok (.lneg, 1) := by decide +kernel
theorem dX8_nearest_8 : decode cX8_nearest 8 = .ok (.goto 4, 3) := by decide +kernel
theorem dX8_nearest_11 : decode cX8_nearest 11 = .ok (.lload_n 0, 1) := by decide +kernel
theorem dX8_nearest_12 : decode cX8_nearest 12 = .ok (.lstore 4, 2) := by decide +kernel
theorem dX8_nearest_14 : decode cX8_nearest 14 = .ok (.ldc2_w 312, 3) := by decide +kernel
theorem dX8_nearest_17 : decode cX8_nearest 17 = .ok (.lload 4, 2) := by decide +kernel
theorem dX8_nearest_19 : decode cX8_nearest 19 = .ok (.lmul, 1) := by decide +kernel
theorem dX8_nearest_20 : decode cX8_nearest 20 = .ok (.lload_n 2, 1) := by decide +kernel
theorem dX8_nearest_21 : decode cX8_nearest 21 = .ok (.ladd, 1) := by decide +kernel
theorem dX8_nearest_22 : decode cX8_nearest 22 = .ok (.lconst 1, 1) := by decide +kernel
theorem dX8_nearest_23 : decode cX8_nearest 23 = .ok (.lsub, 1) := by decide +kernel
theorem dX8_nearest_24 : decode cX8_nearest 24 = .ok (.ldc2_w 312, 3) := by decide +kernel
theorem dX8_nearest_27 : decode cX8_nearest 27 = .ok (.lload_n 2, 1) := by decide +kernel
theorem dX8_nearest_28 : decode cX8_nearest 28 = .ok (.lmul, 1) := by decide +kernel
theorem dX8_nearest_29 : decode cX8_nearest 29 = .ok (.ldiv, 1) := by decide +kernel
theorem dX8_nearest_30 : decode cX8_nearest 30 = .ok (.lstore 6, 2) := by decide +kernel
theorem dX8_nearest_32 : decode cX8_nearest 32 = .ok (.lload_n 0, 1) := by decide +kernel
theorem dX8_nearest_33 : decode cX8_nearest 33 = .ok (.lconst 0, 1) := by decide +kernel
theorem dX8_nearest_34 : decode cX8_nearest 34 = .ok (.lcmp, 1) := by decide +kernel
theorem dX8_nearest_35 : decode cX8_nearest 35 = .ok (.ifCond .ge 9, 3) := by decide +kernel
theorem dX8_nearest_38 : decode cX8_nearest 38 = .ok (.lload 6, 2) := by decide +kernel
theorem dX8_nearest_40 : decode cX8_nearest 40 = .ok (.lneg, 1) := by decide +kernel
theorem dX8_nearest_41 : decode cX8_nearest 41 = .ok (.goto 5, 3) := by decide +kernel
theorem dX8_nearest_44 : decode cX8_nearest 44 = .ok (.lload 6, 2) := by decide +kernel
theorem dX8_nearest_46 : decode cX8_nearest 46 = .ok (.lreturn, 1) := by decide +kernel
theorem dX8_sweep_0 : decode cX8_sweep 0 = .ok (.iconst 0, 1) := by decide +kernel
theorem dX8_sweep_1 : decode cX8_sweep 1 = .ok (.istore_n 1, 1) := by decide +kernel
theorem dX8_sweep_2 : decode cX8_sweep 2 = .ok (.iconst 0, 1) := by decide +kernel
theorem dX8_sweep_3 : decode cX8_sweep 3 = .ok (.istore_n 2, 1) := by decide +kernel
theorem dX8_sweep_4 : decode cX8_sweep 4 = .ok (.iload_n 2, 1) := by decide +kernel
theorem dX8_sweep_5 : decode cX8_sweep 5 = .ok (.aload_n 0, 1) := by decide +kernel
theorem dX8_sweep_6 : decode cX8_sweep 6 = .ok (.getfield 288, 3) := by decide +kernel
theorem dX8_sweep_9 : decode cX8_sweep 9 = .ok (.if_icmp .ge 124, 3) := by decide +kernel
theorem dX8_sweep_12 : decode cX8_sweep 12 = .ok (.aload_n 0, 1) := by decide +kernel
theorem dX8_sweep_13 : decode cX8_sweep 13 = .ok (.iload_n 2, 1) := by decide +kernel
theorem dX8_sweep_14 : decode cX8_sweep 14 = .ok (.invokevirtual 337, 3) := by decide +kernel
theorem dX8_sweep_17 : decode cX8_sweep 17 = .ok (.aload_n 0, 1) := by decide +kernel
theorem dX8_sweep_18 : decode cX8_sweep 18 = .ok (.iload_n 2, 1) := by decide +kernel
theorem dX8_sweep_19 : decode cX8_sweep 19 = .ok (.invokevirtual 340, 3) := by decide +kernel
theorem dX8_sweep_22 : decode cX8_sweep 22 = .ok (.invokestatic 343, 3) := by decide +kernel
theorem dX8_sweep_25 : decode cX8_sweep 25 = .ok (.lstore_n 3, 1) := by decide +kernel
theorem dX8_sweep_26 : decode cX8_sweep 26 = .ok (.lload_n 3, 1) := by decide +kernel
theorem dX8_sweep_27 : decode cX8_sweep 27 = .ok (.ldc2_w 347, 3) := by decide +kernel
theorem dX8_sweep_30 : decode cX8_sweep 30 = .ok (.lcmp, 1) := by decide +kernel
theorem dX8_sweep_31 : decode cX8_sweep 31 = .ok (.ifCond .le 9, 3) := by decide +kernel
theorem dX8_sweep_34 : decode cX8_sweep 34 = .ok (.ldc2_w 347, 3) := by decide +kernel
theorem dX8_sweep_37 : decode cX8_sweep 37 = .ok (.goto 18, 3) := by decide +kernel
theorem dX8_sweep_40 : decode cX8_sweep 40 = .ok (.lload_n 3, 1) := by decide +kernel
theorem dX8_sweep_41 : decode cX8_sweep 41 = .ok (.ldc2_w 349, 3) := by decide +kernel
theorem dX8_sweep_44 : decode cX8_sweep 44 = .ok (.lcmp, 1) := by decide +kernel
theorem dX8_sweep_45 : decode cX8_sweep 45 = .ok (.ifCond .ge 9, 3) := by decide +kernel
theorem dX8_sweep_48 : decode cX8_sweep 48 = .ok (.ldc2_w 349, 3) := by decide +kernel
theorem dX8_sweep_51 : decode cX8_sweep 51 = .ok (.goto 4, 3) := by decide +kernel
theorem dX8_sweep_54 : decode cX8_sweep 54 = .ok (.lload_n 3, 1) := by decide +kernel
theorem dX8_sweep_55 : decode cX8_sweep 55 = .ok (.lstore_n 3, 1) := by decide +kernel
theorem dX8_sweep_56 : decode cX8_sweep 56 = .ok (.iconst 0, 1) := by decide +kernel
theorem dX8_sweep_57 : decode cX8_sweep 57 = .ok (.istore 5, 2) := by decide +kernel
theorem dX8_sweep_59 : decode cX8_sweep 59 = .ok (.iload 5, 2) := by decide +kernel
theorem dX8_sweep_61 : decode cX8_sweep 61 = .ok (.aload_n 0, 1) := by decide +kernel
theorem dX8_sweep_62 : decode cX8_sweep 62 = .ok (.getfield 62, 3) := by decide +kernel
theorem dX8_sweep_65 : decode cX8_sweep 65 = .ok (.iload_n 2, 1) := by decide +kernel
theorem dX8_sweep_66 : decode cX8_sweep 66 = .ok (.iaload, 1) := by decide +kernel
theorem dX8_sweep_67 : decode cX8_sweep 67 = .ok (.if_icmp .ge 44, 3) := by decide +kernel
theorem dX8_sweep_70 : decode cX8_sweep 70 = .ok (.aload_n 0, 1) := by decide +kernel
theorem dX8_sweep_71 : decode cX8_sweep 71 = .ok (.getfield 52, 3) := by decide +kernel
theorem dX8_sweep_74 : decode cX8_sweep 74 = .ok (.aload_n 0, 1) := by decide +kernel
theorem dX8_sweep_75 : decode cX8_sweep 75 = .ok (.getfield 56, 3) := by decide +kernel
theorem dX8_sweep_78 : decode cX8_sweep 78 = .ok (.bipush 14, 2) := by decide +kernel
theorem dX8_sweep_80 : decode cX8_sweep 80 = .ok (.iload_n 2, 1) := by decide +kernel
theorem dX8_sweep_81 : decode cX8_sweep 81 = .ok (.imul, 1) := by decide +kernel
theorem dX8_sweep_82 : decode cX8_sweep 82 = .ok (.iload 5, 2) := by decide +kernel
theorem dX8_sweep_84 : decode cX8_sweep 84 = .ok (.iadd, 1) := by decide +kernel
theorem dX8_sweep_85 : decode cX8_sweep 85 = .ok (.iaload, 1) := by decide +kernel
theorem dX8_sweep_86 : decode cX8_sweep 86 = .ok (.dup2, 1) := by decide +kernel
theorem dX8_sweep_87 : decode cX8_sweep 87 = .ok (.laload, 1) := by decide +kernel
theorem dX8_sweep_88 : decode cX8_sweep 88 = .ok (.aload_n 0, 1) := by decide +kernel
theorem dX8_sweep_89 : decode cX8_sweep 89 = .ok (.getfield 59, 3) := by decide +kernel
theorem dX8_sweep_92 : decode cX8_sweep 92 = .ok (.bipush 14, 2) := by decide +kernel
theorem dX8_sweep_94 : decode cX8_sweep 94 = .ok (.iload_n 2, 1) := by decide +kernel
theorem dX8_sweep_95 : decode cX8_sweep 95 = .ok (.imul, 1) := by decide +kernel
theorem dX8_sweep_96 : decode cX8_sweep 96 = .ok (.iload 5, 2) := by decide +kernel
theorem dX8_sweep_98 : decode cX8_sweep 98 = .ok (.iadd, 1) := by decide +kernel
theorem dX8_sweep_99 : decode cX8_sweep 99 = .ok (.iaload, 1) := by decide +kernel
theorem dX8_sweep_100 : decode cX8_sweep 100 = .ok (.i2l, 1) := by decide +kernel
theorem dX8_sweep_101 : decode cX8_sweep 101 = .ok (.lload_n 3, 1) := by decide +kernel
theorem dX8_sweep_102 : decode cX8_sweep 102 = .ok (.lmul, 1) := by decide +kernel
theorem dX8_sweep_103 : decode cX8_sweep 103 = .ok (.lsub, 1) := by decide +kernel
theorem dX8_sweep_104 : decode cX8_sweep 104 = .ok (.lastore, 1) := by decide +kernel
theorem dX8_sweep_105 : decode cX8_sweep 105 = .ok (.iinc 5 1, 3) := by decide +kernel
theorem dX8_sweep_108 : decode cX8_sweep 108 = .ok (.goto (-49), 3) := by decide +kernel
theorem dX8_sweep_111 : decode cX8_sweep 111 = .ok (.iload_n 1, 1) := by decide +kernel
theorem dX8_sweep_112 : decode cX8_sweep 112 = .ok (.ifCond .ne 9, 3) := by decide +kernel
theorem dX8_sweep_115 : decode cX8_sweep 115 = .ok (.lload_n 3, 1) := by decide +kernel
theorem dX8_sweep_116 : decode cX8_sweep 116 = .ok (.lconst 0, 1) := by decide +kernel
theorem dX8_sweep_117 : decode cX8_sweep 117 = .ok (.lcmp, 1) := by decide +kernel
theorem dX8_sweep_118 : decode cX8_sweep 118 = .ok (.ifCond .eq 7, 3) := by decide +kernel
theorem dX8_sweep_121 : decode cX8_sweep 121 = .ok (.iconst 1, 1) := by decide +kernel
theorem dX8_sweep_122 : decode cX8_sweep 122 = .ok (.goto 4, 3) := by decide +kernel
theorem dX8_sweep_125 : decode cX8_sweep 125 = .ok (.iconst 0, 1) := by decide +kernel
theorem dX8_sweep_126 : decode cX8_sweep 126 = .ok (.istore_n 1, 1) := by decide +kernel
theorem dX8_sweep_127 : decode cX8_sweep 127 = .ok (.iinc 2 1, 3) := by decide +kernel
theorem dX8_sweep_130 : decode cX8_sweep 130 = .ok (.goto (-126), 3) := by decide +kernel
theorem dX8_sweep_133 : decode cX8_sweep 133 = .ok (.iload_n 1, 1) := by decide +kernel
theorem dX8_sweep_134 : decode cX8_sweep 134 = .ok (.ireturn, 1) := by decide +kernel
theorem dX8_laysNet_0 : decode cX8_laysNet 0 = .ok (.aload_n 0, 1) := by decide +kernel
theorem dX8_laysNet_1 : decode cX8_laysNet 1 = .ok (.invokevirtual 351, 3) := by decide +kernel
theorem dX8_laysNet_4 : decode cX8_laysNet 4 = .ok (.aload_n 0, 1) := by decide +kernel
theorem dX8_laysNet_5 : decode cX8_laysNet 5 = .ok (.iconst 0, 1) := by decide +kernel
theorem dX8_laysNet_6 : decode cX8_laysNet 6 = .ok (.putfield 288, 3) := by decide +kernel
theorem dX8_laysNet_9 : decode cX8_laysNet 9 = .ok (.iconst 0, 1) := by decide +kernel
theorem dX8_laysNet_10 : decode cX8_laysNet 10 = .ok (.istore_n 1, 1) := by decide +kernel
theorem dX8_laysNet_11 : decode cX8_laysNet 11 = .ok (.iload_n 1, 1) := by decide +kernel
theorem dX8_laysNet_12 : decode cX8_laysNet 12 = .ok (.aload_n 0, 1) := by decide +kernel
theorem dX8_laysNet_13 : decode cX8_laysNet 13 = .ok (.getfield 232, 3) := by decide +kernel
theorem dX8_laysNet_16 : decode cX8_laysNet 16 = .ok (.if_icmp .ge 30, 3) := by decide +kernel
theorem dX8_laysNet_19 : decode cX8_laysNet 19 = .ok (.aload_n 0, 1) := by decide +kernel
theorem dX8_laysNet_20 : decode cX8_laysNet 20 = .ok (.iload_n 1, 1) := by decide +kernel
theorem dX8_laysNet_21 : decode cX8_laysNet 21 = .ok (.invokevirtual 275, 3) := by decide +kernel
theorem dX8_laysNet_24 : decode cX8_laysNet 24 = .ok (.ifCond .eq 16, 3) := by decide +kernel
theorem dX8_laysNet_27 : decode cX8_laysNet 27 = .ok (.aload_n 0, 1) := by decide +kernel
theorem dX8_laysNet_28 : decode cX8_laysNet 28 = .ok (.iload_n 1, 1) := by decide +kernel
end
section
theorem dX8_laysNet_29 : decode cX8_laysNet 29 = .ok (.invokevirtual 354, 3) := by decide +kernel
theorem dX8_laysNet_32 : decode cX8_laysNet 32 = .ok (.ifCond .ne 8, 3) := by decide +kernel
theorem dX8_laysNet_35 : decode cX8_laysNet 35 = .ok (.aload_n 0, 1) := by decide +kernel
theorem dX8_laysNet_36 : decode cX8_laysNet 36 = .ok (.iload_n 1, 1) := by decide +kernel
theorem dX8_laysNet_37 : decode cX8_laysNet 37 = .ok (.invokevirtual 357, 3) := by decide +kernel
theorem dX8_laysNet_40 : decode cX8_laysNet 40 = .ok (.iinc 1 1, 3) := by decide +kernel
theorem dX8_laysNet_43 : decode cX8_laysNet 43 = .ok (.goto (-32), 3) := by decide +kernel
theorem dX8_laysNet_46 : decode cX8_laysNet 46 = .ok (.aload_n 0, 1) := by decide +kernel
theorem dX8_laysNet_47 : decode cX8_laysNet 47 = .ok (.invokevirtual 360, 3) := by decide +kernel
theorem dX8_laysNet_50 : decode cX8_laysNet 50 = .ok (.return_, 1) := by decide +kernel
theorem dX8_laysHeads_0 : decode cX8_laysHeads 0 = .ok (.aload_n 0, 1) := by decide +kernel
theorem dX8_laysHeads_1 : decode cX8_laysHeads 1 = .ok (.getfield 65, 3) := by decide +kernel
theorem dX8_laysHeads_4 : decode cX8_laysHeads 4 = .ok (.iconst 0, 1) := by decide +kernel
theorem dX8_laysHeads_5 : decode cX8_laysHeads 5 = .ok (.ldc2_w 306, 3) := by decide +kernel
theorem dX8_laysHeads_8 : decode cX8_laysHeads 8 = .ok (.aload_n 0, 1) := by decide +kernel
theorem dX8_laysHeads_9 : decode cX8_laysHeads 9 = .ok (.getfield 19, 3) := by decide +kernel
theorem dX8_laysHeads_12 : decode cX8_laysHeads 12 = .ok (.iconst 0, 1) := by decide +kernel
theorem dX8_laysHeads_13 : decode cX8_laysHeads 13 = .ok (.iaload, 1) := by decide +kernel
theorem dX8_laysHeads_14 : decode cX8_laysHeads 14 = .ok (.i2l, 1) := by decide +kernel
theorem dX8_laysHeads_15 : decode cX8_laysHeads 15 = .ok (.lmul, 1) := by decide +kernel
theorem dX8_laysHeads_16 : decode cX8_laysHeads 16 = .ok (.lastore, 1) := by decide +kernel
theorem dX8_laysHeads_17 : decode cX8_laysHeads 17 = .ok (.iconst 1, 1) := by decide +kernel
theorem dX8_laysHeads_18 : decode cX8_laysHeads 18 = .ok (.istore_n 1, 1) := by decide +kernel
theorem dX8_laysHeads_19 : decode cX8_laysHeads 19 = .ok (.iload_n 1, 1) := by decide +kernel
theorem dX8_laysHeads_20 : decode cX8_laysHeads 20 = .ok (.aload_n 0, 1) := by decide +kernel
theorem dX8_laysHeads_21 : decode cX8_laysHeads 21 = .ok (.getfield 278, 3) := by decide +kernel
theorem dX8_laysHeads_24 : decode cX8_laysHeads 24 = .ok (.if_icmp .ge 71, 3) := by decide +kernel
theorem dX8_laysHeads_27 : decode cX8_laysHeads 27 = .ok (.aload_n 0, 1) := by decide +kernel
theorem dX8_laysHeads_28 : decode cX8_laysHeads 28 = .ok (.getfield 49, 3) := by decide +kernel
theorem dX8_laysHeads_31 : decode cX8_laysHeads 31 = .ok (.iload_n 1, 1) := by decide +kernel
theorem dX8_laysHeads_32 : decode cX8_laysHeads 32 = .ok (.iaload, 1) := by decide +kernel
theorem dX8_laysHeads_33 : decode cX8_laysHeads 33 = .ok (.istore_n 2, 1) := by decide +kernel
theorem dX8_laysHeads_34 : decode cX8_laysHeads 34 = .ok (.aload_n 0, 1) := by decide +kernel
theorem dX8_laysHeads_35 : decode cX8_laysHeads 35 = .ok (.getfield 46, 3) := by decide +kernel
theorem dX8_laysHeads_38 : decode cX8_laysHeads 38 = .ok (.iload_n 2, 1) := by decide +kernel
theorem dX8_laysHeads_39 : decode cX8_laysHeads 39 = .ok (.iaload, 1) := by decide +kernel
theorem dX8_laysHeads_40 : decode cX8_laysHeads 40 = .ok (.istore_n 3, 1) := by decide +kernel
theorem dX8_laysHeads_41 : decode cX8_laysHeads 41 = .ok (.aload_n 0, 1) := by decide +kernel
theorem dX8_laysHeads_42 : decode cX8_laysHeads 42 = .ok (.iload_n 3, 1) := by decide +kernel
theorem dX8_laysHeads_43 : decode cX8_laysHeads 43 = .ok (.aload_n 0, 1) := by decide +kernel
theorem dX8_laysHeads_44 : decode cX8_laysHeads 44 = .ok (.getfield 52, 3) := by decide +kernel
theorem dX8_laysHeads_47 : decode cX8_laysHeads 47 = .ok (.iload_n 3, 1) := by decide +kernel
theorem dX8_laysHeads_48 : decode cX8_laysHeads 48 = .ok (.laload, 1) := by decide +kernel
theorem dX8_laysHeads_49 : decode cX8_laysHeads 49 = .ok (.invokevirtual 324, 3) := by decide +kernel
theorem dX8_laysHeads_52 : decode cX8_laysHeads 52 = .ok (.lstore 4, 2) := by decide +kernel
theorem dX8_laysHeads_54 : decode cX8_laysHeads 54 = .ok (.aload_n 0, 1) := by decide +kernel
theorem dX8_laysHeads_55 : decode cX8_laysHeads 55 = .ok (.getfield 65, 3) := by decide +kernel
theorem dX8_laysHeads_58 : decode cX8_laysHeads 58 = .ok (.iload_n 2, 1) := by decide +kernel
theorem dX8_laysHeads_59 : decode cX8_laysHeads 59 = .ok (.aload_n 0, 1) := by decide +kernel
theorem dX8_laysHeads_60 : decode cX8_laysHeads 60 = .ok (.getfield 65, 3) := by decide +kernel
theorem dX8_laysHeads_63 : decode cX8_laysHeads 63 = .ok (.aload_n 0, 1) := by decide +kernel
theorem dX8_laysHeads_64 : decode cX8_laysHeads 64 = .ok (.iload_n 2, 1) := by decide +kernel
theorem dX8_laysHeads_65 : decode cX8_laysHeads 65 = .ok (.invokevirtual 285, 3) := by decide +kernel
theorem dX8_laysHeads_68 : decode cX8_laysHeads 68 = .ok (.laload, 1) := by decide +kernel
theorem dX8_laysHeads_69 : decode cX8_laysHeads 69 = .ok (.aload_n 0, 1) := by decide +kernel
theorem dX8_laysHeads_70 : decode cX8_laysHeads 70 = .ok (.getfield 31, 3) := by decide +kernel
theorem dX8_laysHeads_73 : decode cX8_laysHeads 73 = .ok (.iload_n 3, 1) := by decide +kernel
theorem dX8_laysHeads_74 : decode cX8_laysHeads 74 = .ok (.iaload, 1) := by decide +kernel
theorem dX8_laysHeads_75 : decode cX8_laysHeads 75 = .ok (.iload_n 2, 1) := by decide +kernel
theorem dX8_laysHeads_76 : decode cX8_laysHeads 76 = .ok (.if_icmp .ne 8, 3) := by decide +kernel
theorem dX8_laysHeads_79 : decode cX8_laysHeads 79 = .ok (.lload 4, 2) := by decide +kernel
theorem dX8_laysHeads_81 : decode cX8_laysHeads 81 = .ok (.goto 6, 3) := by decide +kernel
theorem dX8_laysHeads_84 : decode cX8_laysHeads 84 = .ok (.lload 4, 2) := by decide +kernel
theorem dX8_laysHeads_86 : decode cX8_laysHeads 86 = .ok (.lneg, 1) := by decide +kernel
theorem dX8_laysHeads_87 : decode cX8_laysHeads 87 = .ok (.lsub, 1) := by decide +kernel
theorem dX8_laysHeads_88 : decode cX8_laysHeads 88 = .ok (.lastore, 1) := by decide +kernel
theorem dX8_laysHeads_89 : decode cX8_laysHeads 89 = .ok (.iinc 1 1, 3) := by decide +kernel
theorem dX8_laysHeads_92 : decode cX8_laysHeads 92 = .ok (.goto (-73), 3) := by decide +kernel
theorem dX8_laysHeads_95 : decode cX8_laysHeads 95 = .ok (.return_, 1) := by decide +kernel
theorem dX8_wrongWay_0 : decode cX8_wrongWay 0 = .ok (.iconst 0, 1) := by decide +kernel
theorem dX8_wrongWay_1 : decode cX8_wrongWay 1 = .ok (.istore_n 1, 1) := by decide +kernel
theorem dX8_wrongWay_2 : decode cX8_wrongWay 2 = .ok (.iload_n 1, 1) := by decide +kernel
theorem dX8_wrongWay_3 : decode cX8_wrongWay 3 = .ok (.aload_n 0, 1) := by decide +kernel
theorem dX8_wrongWay_4 : decode cX8_wrongWay 4 = .ok (.getfield 232, 3) := by decide +kernel
theorem dX8_wrongWay_7 : decode cX8_wrongWay 7 = .ok (.if_icmp .ge 39, 3) := by decide +kernel
theorem dX8_wrongWay_10 : decode cX8_wrongWay 10 = .ok (.aload_n 0, 1) := by decide +kernel
theorem dX8_wrongWay_11 : decode cX8_wrongWay 11 = .ok (.getfield 34, 3) := by decide +kernel
theorem dX8_wrongWay_14 : decode cX8_wrongWay 14 = .ok (.iload_n 1, 1) := by decide +kernel
theorem dX8_wrongWay_15 : decode cX8_wrongWay 15 = .ok (.iaload, 1) := by decide +kernel
theorem dX8_wrongWay_16 : decode cX8_wrongWay 16 = .ok (.ifCond .eq 24, 3) := by decide +kernel
theorem dX8_wrongWay_19 : decode cX8_wrongWay 19 = .ok (.aload_n 0, 1) := by decide +kernel
theorem dX8_wrongWay_20 : decode cX8_wrongWay 20 = .ok (.iload_n 1, 1) := by decide +kernel
theorem dX8_wrongWay_21 : decode cX8_wrongWay 21 = .ok (.invokevirtual 275, 3) := by decide +kernel
theorem dX8_wrongWay_24 : decode cX8_wrongWay 24 = .ok (.ifCond .eq 16, 3) := by decide +kernel
theorem dX8_wrongWay_27 : decode cX8_wrongWay 27 = .ok (.aload_n 0, 1) := by decide +kernel
theorem dX8_wrongWay_28 : decode cX8_wrongWay 28 = .ok (.getfield 52, 3) := by decide +kernel
theorem dX8_wrongWay_31 : decode cX8_wrongWay 31 = .ok (.iload_n 1, 1) := by decide +kernel
theorem dX8_wrongWay_32 : decode cX8_wrongWay 32 = .ok (.laload, 1) := by decide +kernel
theorem dX8_wrongWay_33 : decode cX8_wrongWay 33 = .ok (.lconst 0, 1) := by decide +kernel
theorem dX8_wrongWay_34 : decode cX8_wrongWay 34 = .ok (.lcmp, 1) := by decide +kernel
theorem dX8_wrongWay_35 : decode cX8_wrongWay 35 = .ok (.ifCond .ge 5, 3) := by decide +kernel
theorem dX8_wrongWay_38 : decode cX8_wrongWay 38 = .ok (.iload_n 1, 1) := by decide +kernel
theorem dX8_wrongWay_39 : decode cX8_wrongWay 39 = .ok (.ireturn, 1) := by decide +kernel
theorem dX8_wrongWay_40 : decode cX8_wrongWay 40 = .ok (.iinc 1 1, 3) := by decide +kernel
theorem dX8_wrongWay_43 : decode cX8_wrongWay 43 = .ok (.goto (-41), 3) := by decide +kernel
theorem dX8_wrongWay_46 : decode cX8_wrongWay 46 = .ok (.iconst (-1), 1) := by decide +kernel
theorem dX8_wrongWay_47 : decode cX8_wrongWay 47 = .ok (.ireturn, 1) := by decide +kernel
theorem dX8_rightWay_0 : decode cX8_rightWay 0 = .ok (.iconst 0, 1) := by decide +kernel
theorem dX8_rightWay_1 : decode cX8_rightWay 1 = .ok (.istore_n 1, 1) := by decide +kernel
theorem dX8_rightWay_2 : decode cX8_rightWay 2 = .ok (.iload_n 1, 1) := by decide +kernel
theorem dX8_rightWay_3 : decode cX8_rightWay 3 = .ok (.aload_n 0, 1) := by decide +kernel
theorem dX8_rightWay_4 : decode cX8_rightWay 4 = .ok (.getfield 232, 3) := by decide +kernel
theorem dX8_rightWay_7 : decode cX8_rightWay 7 = .ok (.if_icmp .ge 98, 3) := by decide +kernel
theorem dX8_rightWay_10 : decode cX8_rightWay 10 = .ok (.aload_n 0, 1) := by decide +kernel
theorem dX8_rightWay_11 : decode cX8_rightWay 11 = .ok (.getfield 263, 3) := by decide +kernel
theorem dX8_rightWay_14 : decode cX8_rightWay 14 = .ok (.iload_n 1, 1) := by decide +kernel
theorem dX8_rightWay_15 : decode cX8_rightWay 15 = .ok (.ishr, 1) := by decide +kernel
theorem dX8_rightWay_16 : decode cX8_rightWay 16 = .ok (.iconst 1, 1) := by decide +kernel
theorem dX8_rightWay_17 : decode cX8_rightWay 17 = .ok (.iand, 1) := by decide +kernel
theorem dX8_rightWay_18 : decode cX8_rightWay 18 = .ok (.iconst 1, 1) := by decide +kernel
theorem dX8_rightWay_19 : decode cX8_rightWay 19 = .ok (.if_icmp .ne 80, 3) := by decide +kernel
theorem dX8_rightWay_22 : decode cX8_rightWay 22 = .ok (.aload_n 0, 1) := by decide +kernel
theorem dX8_rightWay_23 : decode cX8_rightWay 23 = .ok (.aload_n 0, 1) := by decide +kernel
theorem dX8_rightWay_24 : decode cX8_rightWay 24 = .ok (.getfield 28, 3) := by decide +kernel
theorem dX8_rightWay_27 : decode cX8_rightWay 27 = .ok (.iload_n 1, 1) := by decide +kernel
theorem dX8_rightWay_28 : decode cX8_rightWay 28 = .ok (.iaload, 1) := by decide +kernel
theorem dX8_rightWay_29 : decode cX8_rightWay 29 = .ok (.invokevirtual 272, 3) := by decide +kernel
theorem dX8_rightWay_32 : decode cX8_rightWay 32 = .ok (.ifCond .eq 67, 3) := by decide +kernel
theorem dX8_rightWay_35 : decode cX8_rightWay 35 = .ok (.aload_n 0, 1) := by decide +kernel
theorem dX8_rightWay_36 : decode cX8_rightWay 36 = .ok (.getfield 65, 3) := by decide +kernel
theorem dX8_rightWay_39 : decode cX8_rightWay 39 = .ok (.aload_n 0, 1) := by decide +kernel
theorem dX8_rightWay_40 : decode cX8_rightWay 40 = .ok (.getfield 28, 3) := by decide +kernel
theorem dX8_rightWay_43 : decode cX8_rightWay 43 = .ok (.iload_n 1, 1) := by decide +kernel
theorem dX8_rightWay_44 : decode cX8_rightWay 44 = .ok (.iaload, 1) := by decide +kernel
theorem dX8_rightWay_45 : decode cX8_rightWay 45 = .ok (.laload, 1) := by decide +kernel
theorem dX8_rightWay_46 : decode cX8_rightWay 46 = .ok (.aload_n 0, 1) := by decide +kernel
theorem dX8_rightWay_47 : decode cX8_rightWay 47 = .ok (.getfield 34, 3) := by decide +kernel
theorem dX8_rightWay_50 : decode cX8_rightWay 50 = .ok (.iload_n 1, 1) := by decide +kernel
theorem dX8_rightWay_51 : decode cX8_rightWay 51 = .ok (.iaload, 1) := by decide +kernel
theorem dX8_rightWay_52 : decode cX8_rightWay 52 = .ok (.iconst 2, 1) := by decide +kernel
theorem dX8_rightWay_53 : decode cX8_rightWay 53 = .ok (.if_icmp .ne 12, 3) := by decide +kernel
theorem dX8_rightWay_56 : decode cX8_rightWay 56 = .ok (.aload_n 0, 1) := by decide +kernel
theorem dX8_rightWay_57 : decode cX8_rightWay 57 = .ok (.iload_n 1, 1) := by decide +kernel
theorem dX8_rightWay_58 : decode cX8_rightWay 58 = .ok (.lconst 0, 1) := by decide +kernel
theorem dX8_rightWay_59 : decode cX8_rightWay 59 = .ok (.invokevirtual 308, 3) := by decide +kernel
theorem dX8_rightWay_62 : decode cX8_rightWay 62 = .ok (.goto 4, 3) := by decide +kernel
theorem dX8_rightWay_65 : decode cX8_rightWay 65 = .ok (.lconst 0, 1) := by decide +kernel
theorem dX8_rightWay_66 : decode cX8_rightWay 66 = .ok (.ladd, 1) := by decide +kernel
theorem dX8_rightWay_67 : decode cX8_rightWay 67 = .ok (.lstore_n 2, 1) := by decide +kernel
theorem dX8_rightWay_68 : decode cX8_rightWay 68 = .ok (.aload_n 0, 1) := by decide +kernel
theorem dX8_rightWay_69 : decode cX8_rightWay 69 = .ok (.aload_n 0, 1) := by decide +kernel
theorem dX8_rightWay_70 : decode cX8_rightWay 70 = .ok (.getfield 31, 3) := by decide +kernel
theorem dX8_rightWay_73 : decode cX8_rightWay 73 = .ok (.iload_n 1, 1) := by decide +kernel
theorem dX8_rightWay_74 : decode cX8_rightWay 74 = .ok (.iaload, 1) := by decide +kernel
theorem dX8_rightWay_75 : decode cX8_rightWay 75 = .ok (.invokevirtual 272, 3) := by decide +kernel
theorem dX8_rightWay_78 : decode cX8_rightWay 78 = .ok (.ifCond .eq 19, 3) := by decide +kernel
theorem dX8_rightWay_81 : decode cX8_rightWay 81 = .ok (.aload_n 0, 1) := by decide +kernel
theorem dX8_rightWay_82 : decode cX8_rightWay 82 = .ok (.getfield 65, 3) := by decide +kernel
theorem dX8_rightWay_85 : decode cX8_rightWay 85 = .ok (.aload_n 0, 1) := by decide +kernel
theorem dX8_rightWay_86 : decode cX8_rightWay 86 = .ok (.getfield 31, 3) := by decide +kernel
theorem dX8_rightWay_89 : decode cX8_rightWay 89 = .ok (.iload_n 1, 1) := by decide +kernel
theorem dX8_rightWay_90 : decode cX8_rightWay 90 = .ok (.iaload, 1) := by decide +kernel
theorem dX8_rightWay_91 : decode cX8_rightWay 91 = .ok (.laload, 1) := by decide +kernel
theorem dX8_rightWay_92 : decode cX8_rightWay 92 = .ok (.lload_n 2, 1) := by decide +kernel
theorem dX8_rightWay_93 : decode cX8_rightWay 93 = .ok (.lcmp, 1) := by decide +kernel
theorem dX8_rightWay_94 : decode cX8_rightWay 94 = .ok (.ifCond .ge 5, 3) := by decide +kernel
theorem dX8_rightWay_97 : decode cX8_rightWay 97 = .ok (.iload_n 1, 1) := by decide +kernel
theorem dX8_rightWay_98 : decode cX8_rightWay 98 = .ok (.ireturn, 1) := by decide +kernel
theorem dX8_rightWay_99 : decode cX8_rightWay 99 = .ok (.iinc 1 1, 3) := by decide +kernel
theorem dX8_rightWay_102 : decode cX8_rightWay 102 = .ok (.goto (-100), 3) := by decide +kernel
theorem dX8_rightWay_105 : decode cX8_rightWay 105 = .ok (.iconst (-1), 1) := by decide +kernel
theorem dX8_rightWay_106 : decode cX8_rightWay 106 = .ok (.ireturn, 1) := by decide +kernel
theorem dX8_solves_0 : decode cX8_solves 0 = .ok (.aload_n 0, 1) := by decide +kernel
theorem dX8_solves_1 : decode cX8_solves 1 = .ok (.iconst 0, 1) := by decide +kernel
theorem dX8_solves_2 : decode cX8_solves 2 = .ok (.putfield 263, 3) := by decide +kernel
theorem dX8_solves_5 : decode cX8_solves 5 = .ok (.aload_n 0, 1) := by decide +kernel
theorem dX8_solves_6 : decode cX8_solves 6 = .ok (.iconst 0, 1) := by decide +kernel
theorem dX8_solves_7 : decode cX8_solves 7 = .ok (.putfield 363, 3) := by decide +kernel
theorem dX8_solves_10 : decode cX8_solves 10 = .ok (.aload_n 0, 1) := by decide +kernel
theorem dX8_solves_11 : decode cX8_solves 11 = .ok (.iconst 0, 1) := by decide +kernel
theorem dX8_solves_12 : decode cX8_solves 12 = .ok (.putfield 366, 3) := by decide +kernel
theorem dX8_solves_15 : decode cX8_solves 15 = .ok (.iconst 1, 1) := by decide +kernel
theorem dX8_solves_16 : decode cX8_solves 16 = .ok (.istore_n 1, 1) := by decide +kernel
theorem dX8_solves_17 : decode cX8_solves 17 = .ok (.iload_n 1, 1) := by decide +kernel
theorem dX8_solves_18 : decode cX8_solves 18 = .ok (.ifCond .eq 154, 3) := by decide +kernel
theorem dX8_solves_21 : decode cX8_solves 21 = .ok (.aload_n 0, 1) := by decide +kernel
theorem dX8_solves_22 : decode cX8_solves 22 = .ok (.dup, 1) := by decide +kernel
theorem dX8_solves_23 : decode cX8_solves 23 = .ok (.getfield 363, 3) := by decide +kernel
theorem dX8_solves_26 : decode cX8_solves 26 = .ok (.iconst 1, 1) := by decide +kernel
theorem dX8_solves_27 : decode cX8_solves 27 = .ok (.iadd, 1) := by decide +kernel
theorem dX8_solves_28 : decode cX8_solves 28 = .ok (.putfield 363, 3) := by decide +kernel
theorem dX8_solves_31 : decode cX8_solves 31 = .ok (.aload_n 0, 1) := by decide +kernel
theorem dX8_solves_32 : decode cX8_solves 32 = .ok (.invokevirtual 370, 3) := by decide +kernel
theorem dX8_solves_35 : decode cX8_solves 35 = .ok (.aload_n 0, 1) := by decide +kernel
theorem dX8_solves_36 : decode cX8_solves 36 = .ok (.iconst 0, 1) := by decide +kernel
theorem dX8_solves_37 : decode cX8_solves 37 = .ok (.putfield 373, 3) := by decide +kernel
theorem dX8_solves_40 : decode cX8_solves 40 = .ok (.iconst 1, 1) := by decide +kernel
theorem dX8_solves_41 : decode cX8_solves 41 = .ok (.istore_n 2, 1) := by decide +kernel
theorem dX8_solves_42 : decode cX8_solves 42 = .ok (.iload_n 2, 1) := by decide +kernel
theorem dX8_solves_43 : decode cX8_solves 43 = .ok (.ifCond .eq 30, 3) := by decide +kernel
theorem dX8_solves_46 : decode cX8_solves 46 = .ok (.aload_n 0, 1) := by decide +kernel
theorem dX8_solves_47 : decode cX8_solves 47 = .ok (.getfield 373, 3) := by decide +kernel
theorem dX8_solves_50 : decode cX8_solves 50 = .ok (.bipush 60, 2) := by decide +kernel
theorem dX8_solves_52 : decode cX8_solves 52 = .ok (.if_icmp .ge 21, 3) := by decide +kernel
theorem dX8_solves_55 : decode cX8_solves 55 = .ok (.aload_n 0, 1) := by decide +kernel
theorem dX8_solves_56 : decode cX8_solves 56 = .ok (.invokevirtual 376, 3) := by decide +kernel
theorem dX8_solves_59 : decode cX8_solves 59 = .ok (.istore_n 2, 1) := by decide +kernel
theorem dX8_solves_60 : decode cX8_solves 60 = .ok (.aload_n 0, 1) := by decide +kernel
theorem dX8_solves_61 : decode cX8_solves 61 = .ok (.dup, 1) := by decide +kernel
theorem dX8_solves_62 : decode cX8_solves 62 = .ok (.getfield 373, 3) := by decide +kernel
theorem dX8_solves_65 : decode cX8_solves 65 = .ok (.iconst 1, 1) := by decide +kernel
theorem dX8_solves_66 : decode cX8_solves 66 = .ok (.iadd, 1) := by decide +kernel
theorem dX8_solves_67 : decode cX8_solves 67 = .ok (.putfield 373, 3) := by decide +kernel
theorem dX8_solves_70 : decode cX8_solves 70 = .ok (.goto (-28), 3) := by decide +kernel
theorem dX8_solves_73 : decode cX8_solves 73 = .ok (.aload_n 0, 1) := by decide +kernel
theorem dX8_solves_74 : decode cX8_solves 74 = .ok (.invokevirtual 379, 3) := by decide +kernel
theorem dX8_solves_77 : decode cX8_solves 77 = .ok (.aload_n 0, 1) := by decide +kernel
theorem dX8_solves_78 : decode cX8_solves 78 = .ok (.invokevirtual 382, 3) := by decide +kernel
theorem dX8_solves_81 : decode cX8_solves 81 = .ok (.istore_n 3, 1) := by decide +kernel
theorem dX8_solves_82 : decode cX8_solves 82 = .ok (.iload_n 3, 1) := by decide +kernel
theorem dX8_solves_83 : decode cX8_solves 83 = .ok (.iconst (-1), 1) := by decide +kernel
theorem dX8_solves_84 : decode cX8_solves 84 = .ok (.if_icmp .ne 10, 3) := by decide +kernel
theorem dX8_solves_87 : decode cX8_solves 87 = .ok (.aload_n 0, 1) := by decide +kernel
theorem dX8_solves_88 : decode cX8_solves 88 = .ok (.invokevirtual 385, 3) := by decide +kernel
theorem dX8_solves_91 : decode cX8_solves 91 = .ok (.goto 4, 3) := by decide +kernel
theorem dX8_solves_94 : decode cX8_solves 94 = .ok (.iconst (-1), 1) := by decide +kernel
theorem dX8_solves_95 : decode cX8_solves 95 = .ok (.istore 4, 2) := by decide +kernel
theorem dX8_solves_97 : decode cX8_solves 97 = .ok (.aload_n 0, 1) := by decide +kernel
theorem dX8_solves_98 : decode cX8_solves 98 = .ok (.iload_n 3, 1) := by decide +kernel
theorem dX8_solves_99 : decode cX8_solves 99 = .ok (.iconst (-1), 1) := by decide +kernel
theorem dX8_solves_100 : decode cX8_solves 100 = .ok (.if_icmp .ne 13, 3) := by decide +kernel
theorem dX8_solves_103 : decode cX8_solves 103 = .ok (.iload 4, 2) := by decide +kernel
theorem dX8_solves_105 : decode cX8_solves 105 = .ok (.iconst (-1), 1) := by decide +kernel
theorem dX8_solves_106 : decode cX8_solves 106 = .ok (.if_icmp .ne 7, 3) := by decide +kernel
theorem dX8_solves_109 : decode cX8_solves 109 = .ok (.iconst 1, 1) := by decide +kernel
theorem dX8_solves_110 : decode cX8_solves 110 = .ok (.goto 4, 3) := by decide +kernel
theorem dX8_solves_113 : decode cX8_solves 113 = .ok (.iconst 0, 1) := by decide +kernel
theorem dX8_solves_114 : decode cX8_solves 114 = .ok (.putfield 366, 3) := by decide +kernel
theorem dX8_solves_117 : decode cX8_solves 117 = .ok (.aload_n 0, 1) := by decide +kernel
theorem dX8_solves_118 : decode cX8_solves 118 = .ok (.getfield 366, 3) := by decide +kernel
theorem dX8_solves_121 : decode cX8_solves 121 = .ok (.ifCond .ne 16, 3) := by decide +kernel
theorem dX8_solves_124 : decode cX8_solves 124 = .ok (.aload_n 0, 1) := by decide +kernel
theorem dX8_solves_125 : decode cX8_solves 125 = .ok (.getfield 363, 3) := by decide +kernel
theorem dX8_solves_128 : decode cX8_solves 128 = .ok (.bipush 20, 2) := by decide +kernel
theorem dX8_solves_130 : decode cX8_solves 130 = .ok (.if_icmp .ge 7, 3) := by decide +kernel
theorem dX8_solves_133 : decode cX8_solves 133 = .ok (.iconst 1, 1) := by decide +kernel
theorem dX8_solves_134 : decode cX8_solves 134 = .ok (.goto 4, 3) := by decide +kernel
theorem dX8_solves_137 : decode cX8_solves 137 = .ok (.iconst 0, 1) := by decide +kernel
theorem dX8_solves_138 : decode cX8_solves 138 = .ok (.istore_n 1, 1) := by decide +kernel
theorem dX8_solves_139 : decode cX8_solves 139 = .ok (.aload_n 0, 1) := by decide +kernel
theorem dX8_solves_140 : decode cX8_solves 140 = .ok (.dup, 1) := by decide +kernel
theorem dX8_solves_141 : decode cX8_solves 141 = .ok (.getfield 263, 3) := by decide +kernel
theorem dX8_solves_144 : decode cX8_solves 144 = .ok (.iload_n 1, 1) := by decide +kernel
theorem dX8_solves_145 : decode cX8_solves 145 = .ok (.ifCond .eq 19, 3) := by decide +kernel
theorem dX8_solves_148 : decode cX8_solves 148 = .ok (.iconst 1, 1) := by decide +kernel
theorem dX8_solves_149 : decode cX8_solves 149 = .ok (.iload_n 3, 1) := by decide +kernel
theorem dX8_solves_150 : decode cX8_solves 150 = .ok (.iconst (-1), 1) := by decide +kernel
theorem dX8_solves_151 : decode cX8_solves 151 = .ok (.if_icmp .eq 7, 3) := by decide +kernel
theorem dX8_solves_154 : decode cX8_solves 154 = .ok (.iload_n 3, 1) := by decide +kernel
theorem dX8_solves_155 : decode cX8_solves 155 = .ok (.goto 5, 3) := by decide +kernel
theorem dX8_solves_158 : decode cX8_solves 158 = .ok (.iload 4, 2) := by decide +kernel
theorem dX8_solves_160 : decode cX8_solves 160 = .ok (.ishl, 1) := by decide +kernel
theorem dX8_solves_161 : decode cX8_solves 161 = .ok (.goto 4, 3) := by decide +kernel
theorem dX8_solves_164 : decode cX8_solves 164 = .ok (.iconst 0, 1) := by decide +kernel
theorem dX8_solves_165 : decode cX8_solves 165 = .ok (.ixor, 1) := by decide +kernel
theorem dX8_solves_166 : decode cX8_solves 166 = .ok (.putfield 263, 3) := by decide +kernel
theorem dX8_solves_169 : decode cX8_solves 169 = .ok (.goto (-152), 3) := by decide +kernel
theorem dX8_solves_172 : decode cX8_solves 172 = .ok (.return_, 1) := by decide +kernel
theorem dX8_isEdge_0 : decode cX8_isEdge 0 = .ok (.iload_n 1, 1) := by decide +kernel
theorem dX8_isEdge_1 : decode cX8_isEdge 1 = .ok (.i2l, 1) := by decide +kernel
theorem dX8_isEdge_2 : decode cX8_isEdge 2 = .ok (.lconst 0, 1) := by decide +kernel
theorem dX8_isEdge_3 : decode cX8_isEdge 3 = .ok (.aload_n 0, 1) := by decide +kernel
theorem dX8_isEdge_4 : decode cX8_isEdge 4 = .ok (.getfield 232, 3) := by decide +kernel
theorem dX8_isEdge_7 : decode cX8_isEdge 7 = .ok (.iconst 1, 1) := by decide +kernel
theorem dX8_isEdge_8 : decode cX8_isEdge 8 = .ok (.isub, 1) := by decide +kernel
theorem dX8_isEdge_9 : decode cX8_isEdge 9 = .ok (.i2l, 1) := by decide +kernel
theorem dX8_isEdge_10 : decode cX8_isEdge 10 = .ok (.invokestatic 131, 3) := by decide +kernel
theorem dX8_isEdge_13 : decode cX8_isEdge 13 = .ok (.ireturn, 1) := by decide +kernel
theorem dX8_isJoint_0 : decode cX8_isJoint 0 = .ok (.iload_n 1, 1) := by decide +kernel
theorem dX8_isJoint_1 : decode cX8_isJoint 1 = .ok (.i2l, 1) := by decide +kernel
theorem dX8_isJoint_2 : decode cX8_isJoint 2 = .ok (.lconst 0, 1) := by decide +kernel
theorem dX8_isJoint_3 : decode cX8_isJoint 3 = .ok (.aload_n 0, 1) := by decide +kernel
theorem dX8_isJoint_4 : decode cX8_isJoint 4 = .ok (.getfield 229, 3) := by decide +kernel
theorem dX8_isJoint_7 : decode cX8_isJoint 7 = .ok (.iconst 1, 1) := by decide +kernel
theorem dX8_isJoint_8 : decode cX8_isJoint 8 = .ok (.isub, 1) := by decide +kernel
theorem dX8_isJoint_9 : decode cX8_isJoint 9 = .ok (.i2l, 1) := by decide +kernel
theorem dX8_isJoint_10 : decode cX8_isJoint 10 = .ok (.invokestatic 131, 3) := by decide +kernel
theorem dX8_isJoint_13 : decode cX8_isJoint 13 = .ok (.ireturn, 1) := by decide +kernel
theorem dX8_isDrawing_0 : decode cX8_isDrawing 0 = .ok (.iload_n 1, 1) := by decide +kernel
theorem dX8_isDrawing_1 : decode cX8_isDrawing 1 = .ok (.i2l, 1) := by decide +kernel
theorem dX8_isDrawing_2 : decode cX8_isDrawing 2 = .ok (.lconst 1, 1) := by decide +kernel
theorem dX8_isDrawing_3 : decode cX8_isDrawing 3 = .ok (.aload_n 0, 1) := by decide +kernel
theorem dX8_isDrawing_4 : decode cX8_isDrawing 4 = .ok (.getfield 229, 3) := by decide +kernel
theorem dX8_isDrawing_7 : decode cX8_isDrawing 7 = .ok (.iconst 1, 1) := by decide +kernel
theorem dX8_isDrawing_8 : decode cX8_isDrawing 8 = .ok (.isub, 1) := by decide +kernel
theorem dX8_isDrawing_9 : decode cX8_isDrawing 9 = .ok (.i2l, 1) := by decide +kernel
theorem dX8_isDrawing_10 : decode cX8_isDrawing 10 = .ok (.invokestatic 131, 3) := by decide +kernel
theorem dX8_isDrawing_13 : decode cX8_isDrawing 13 = .ok (.ireturn, 1) := by decide +kernel
theorem dX8_dryBits_0 : decode cX8_dryBits 0 = .ok (.aload_n 0, 1) := by decide +kernel
theorem dX8_dryBits_1 : decode cX8_dryBits 1 = .ok (.getfield 266, 3) := by decide +kernel
theorem dX8_dryBits_4 : decode cX8_dryBits 4 = .ok (.iconst (-1), 1) := by decide +kernel
theorem dX8_dryBits_5 : decode cX8_dryBits 5 = .ok (.ixor, 1) := by decide +kernel
theorem dX8_dryBits_6 : decode cX8_dryBits 6 = .ok (.iconst 1, 1) := by decide +kernel
theorem dX8_dryBits_7 : decode cX8_dryBits 7 = .ok (.aload_n 0, 1) := by decide +kernel
theorem dX8_dryBits_8 : decode cX8_dryBits 8 = .ok (.getfield 229, 3) := by decide +kernel
theorem dX8_dryBits_11 : decode cX8_dryBits 11 = .ok (.ishl, 1) := by decide +kernel
theorem dX8_dryBits_12 : decode cX8_dryBits 12 = .ok (.iconst 1, 1) := by decide +kernel
theorem dX8_dryBits_13 : decode cX8_dryBits 13 = .ok (.isub, 1) := by decide +kernel
theorem dX8_dryBits_14 : decode cX8_dryBits 14 = .ok (.iand, 1) := by decide +kernel
theorem dX8_dryBits_15 : decode cX8_dryBits 15 = .ok (.ireturn, 1) := by decide +kernel
theorem dX8_ones_0 : decode cX8_ones 0 = .ok (.iconst 0, 1) := by decide +kernel
theorem dX8_ones_1 : decode cX8_ones 1 = .ok (.istore_n 1, 1) := by decide +kernel
theorem dX8_ones_2 : decode cX8_ones 2 = .ok (.iconst 0, 1) := by decide +kernel
theorem dX8_ones_3 : decode cX8_ones 3 = .ok (.istore_n 2, 1) := by decide +kernel
theorem dX8_ones_4 : decode cX8_ones 4 = .ok (.iload_n 2, 1) := by decide +kernel
theorem dX8_ones_5 : decode cX8_ones 5 = .ok (.bipush 16, 2) := by decide +kernel
theorem dX8_ones_7 : decode cX8_ones 7 = .ok (.if_icmp .ge 17, 3) := by decide +kernel
theorem dX8_ones_10 : decode cX8_ones 10 = .ok (.iload_n 1, 1) := by decide +kernel
theorem dX8_ones_11 : decode cX8_ones 11 = .ok (.iload_n 0, 1) := by decide +kernel
theorem dX8_ones_12 : decode cX8_ones 12 = .ok (.iload_n 2, 1) := by decide +kernel
theorem dX8_ones_13 : decode cX8_ones 13 = .ok (.ishr, 1) := by decide +kernel
theorem dX8_ones_14 : decode cX8_ones 14 = .ok (.iconst 1, 1) := by decide +kernel
theorem dX8_ones_15 : decode cX8_ones 15 = .ok (.iand, 1) := by decide +kernel
theorem dX8_ones_16 : decode cX8_ones 16 = .ok (.iadd, 1) := by decide +kernel
theorem dX8_ones_17 : decode cX8_ones 17 = .ok (.istore_n 1, 1) := by decide +kernel
theorem dX8_ones_18 : decode cX8_ones 18 = .ok (.iinc 2 1, 3) := by decide +kernel
theorem dX8_ones_21 : decode cX8_ones 21 = .ok (.goto (-17), 3) := by decide +kernel
theorem dX8_ones_24 : decode cX8_ones 24 = .ok (.iload_n 1, 1) := by decide +kernel
theorem dX8_ones_25 : decode cX8_ones 25 = .ok (.ireturn, 1) := by decide +kernel
theorem dX8_given_0 : decode cX8_given 0 = .ok (.iconst 0, 1) := by decide +kernel
theorem dX8_given_1 : decode cX8_given 1 = .ok (.istore_n 1, 1) := by decide +kernel
theorem dX8_given_2 : decode cX8_given 2 = .ok (.iconst 1, 1) := by decide +kernel
theorem dX8_given_3 : decode cX8_given 3 = .ok (.istore_n 2, 1) := by decide +kernel
theorem dX8_given_4 : decode cX8_given 4 = .ok (.iload_n 2, 1) := by decide +kernel
theorem dX8_given_5 : decode cX8_given 5 = .ok (.aload_n 0, 1) := by decide +kernel
theorem dX8_given_6 : decode cX8_given 6 = .ok (.getfield 229, 3) := by decide +kernel
theorem dX8_given_9 : decode cX8_given 9 = .ok (.if_icmp .ge 30, 3) := by decide +kernel
theorem dX8_given_12 : decode cX8_given 12 = .ok (.iload_n 1, 1) := by decide +kernel
theorem dX8_given_13 : decode cX8_given 13 = .ok (.aload_n 0, 1) := by decide +kernel
theorem dX8_given_14 : decode cX8_given 14 = .ok (.iload_n 2, 1) := by decide +kernel
theorem dX8_given_15 : decode cX8_given 15 = .ok (.invokevirtual 272, 3) := by decide +kernel
theorem dX8_given_18 : decode cX8_given 18 = .ok (.ifCond .eq 12, 3) := by decide +kernel
theorem dX8_given_21 : decode cX8_given 21 = .ok (.aload_n 0, 1) := by decide +kernel
theorem dX8_given_22 : decode cX8_given 22 = .ok (.getfield 19, 3) := by decide +kernel
theorem dX8_given_25 : decode cX8_given 25 = .ok (.iload_n 2, 1) := by decide +kernel
theorem dX8_given_26 : decode cX8_given 26 = .ok (.iaload, 1) := by decide +kernel
theorem dX8_given_27 : decode cX8_given 27 = .ok (.goto 4, 3) := by decide +kernel
theorem dX8_given_30 : decode cX8_given 30 = .ok (.iconst 0, 1) := by decide +kernel
theorem dX8_given_31 : decode cX8_given 31 = .ok (.iadd, 1) := by decide +kernel
theorem dX8_given_32 : decode cX8_given 32 = .ok (.istore_n 1, 1) := by decide +kernel
theorem dX8_given_33 : decode cX8_given 33 = .ok (.iinc 2 1, 3) := by decide +kernel
theorem dX8_given_36 : decode cX8_given 36 = .ok (.goto (-32), 3) := by decide +kernel
theorem dX8_given_39 : decode cX8_given 39 = .ok (.iload_n 1, 1) := by decide +kernel
theorem dX8_given_40 : decode cX8_given 40 = .ok (.ireturn, 1) := by decide +kernel
theorem dX8_about_0 : decode cX8_about 0 = .ok (.aload_n 0, 1) := by decide +kernel
theorem dX8_about_1 : decode cX8_about 1 = .ok (.aload_n 0, 1) := by decide +kernel
theorem dX8_about_2 : decode cX8_about 2 = .ok (.getfield 229, 3) := by decide +kernel
theorem dX8_about_5 : decode cX8_about 5 = .ok (.ifCond .le 19, 3) := by decide +kernel
theorem dX8_about_8 : decode cX8_about 8 = .ok (.iload_n 1, 1) := by decide +kernel
theorem dX8_about_9 : decode cX8_about 9 = .ok (.i2l, 1) := by decide +kernel
theorem dX8_about_10 : decode cX8_about 10 = .ok (.lconst 0, 1) := by decide +kernel
theorem dX8_about_11 : decode cX8_about 11 = .ok (.ldc2_w 304, 3) := by decide +kernel
theorem dX8_about_14 : decode cX8_about 14 = .ok (.invokestatic 131, 3) := by decide +kernel
theorem dX8_about_17 : decode cX8_about 17 = .ok (.ifCond .eq 7, 3) := by decide +kernel
theorem dX8_about_20 : decode cX8_about 20 = .ok (.iconst 1, 1) := by decide +kernel
theorem dX8_about_21 : decode cX8_about 21 = .ok (.goto 4, 3) := by decide +kernel
theorem dX8_about_24 : decode cX8_about 24 = .ok (.iconst 0, 1) := by decide +kernel
theorem dX8_about_25 : decode cX8_about 25 = .ok (.invokestatic 330, 3) := by decide +kernel
theorem dX8_about_28 : decode cX8_about 28 = .ok (.invokevirtual 245, 3) := by decide +kernel
theorem dX8_about_31 : decode cX8_about 31 = .ok (.ifCond .eq 5, 3) := by decide +kernel
theorem dX8_about_34 : decode cX8_about 34 = .ok (.iconst (-1), 1) := by decide +kernel
theorem dX8_about_35 : decode cX8_about 35 = .ok (.ireturn, 1) := by decide +kernel
theorem dX8_about_36 : decode cX8_about 36 = .ok (.iload_n 1, 1) := by decide +kernel
theorem dX8_about_37 : decode cX8_about 37 = .ok (.tableswitch 113 0 9 #[55, 60, 65, 70, 83, 88, 93, 98, 103, 108], 55) := by decide +kernel
theorem dX8_about_92 : decode cX8_about 92 = .ok (.aload_n 0, 1) := by decide +kernel
theorem dX8_about_93 : decode cX8_about 93 = .ok (.getfield 229, 3) := by decide +kernel
theorem dX8_about_96 : decode cX8_about 96 = .ok (.ireturn, 1) := by decide +kernel
theorem dX8_about_97 : decode cX8_about 97 = .ok (.aload_n 0, 1) := by decide +kernel
theorem dX8_about_98 : decode cX8_about 98 = .ok (.getfield 232, 3) := by decide +kernel
theorem dX8_about_101 : decode cX8_about 101 = .ok (.ireturn, 1) := by decide +kernel
theorem dX8_about_102 : decode cX8_about 102 = .ok (.aload_n 0, 1) := by decide +kernel
theorem dX8_about_103 : decode cX8_about 103 = .ok (.getfield 288, 3) := by decide +kernel
theorem dX8_about_106 : decode cX8_about 106 = .ok (.ireturn, 1) := by decide +kernel
theorem dX8_about_107 : decode cX8_about 107 = .ok (.aload_n 0, 1) := by decide +kernel
theorem dX8_about_108 : decode cX8_about 108 = .ok (.getfield 366, 3) := by decide +kernel
theorem dX8_about_111 : decode cX8_about 111 = .ok (.ifCond .eq 7, 3) := by decide +kernel
theorem dX8_about_114 : decode cX8_about 114 = .ok (.iconst 1, 1) := by decide +kernel
theorem dX8_about_115 : decode cX8_about 115 = .ok (.goto 4, 3) := by decide +kernel
theorem dX8_about_118 : decode cX8_about 118 = .ok (.iconst 0, 1) := by decide +kernel
theorem dX8_about_119 : decode cX8_about 119 = .ok (.ireturn, 1) := by decide +kernel
theorem dX8_about_120 : decode cX8_about 120 = .ok (.aload_n 0, 1) := by decide +kernel
theorem dX8_about_121 : decode cX8_about 121 = .ok (.getfield 363, 3) := by decide +kernel
theorem dX8_about_124 : decode cX8_about 124 = .ok (.ireturn, 1) := by decide +kernel
theorem dX8_about_125 : decode cX8_about 125 = .ok (.aload_n 0, 1) := by decide +kernel
theorem dX8_about_126 : decode cX8_about 126 = .ok (.getfield 373, 3) := by decide +kernel
theorem dX8_about_129 : decode cX8_about 129 = .ok (.ireturn, 1) := by decide +kernel
theorem dX8_about_130 : decode cX8_about 130 = .ok (.aload_n 0, 1) := by decide +kernel
theorem dX8_about_131 : decode cX8_about 131 = .ok (.invokevirtual 388, 3) := by decide +kernel
theorem dX8_about_134 : decode cX8_about 134 = .ok (.ireturn, 1) := by decide +kernel
theorem dX8_about_135 : decode cX8_about 135 = .ok (.aload_n 0, 1) := by decide +kernel
theorem dX8_about_136 : decode cX8_about 136 = .ok (.getfield 238, 3) := by decide +kernel
theorem dX8_about_139 : decode cX8_about 139 = .ok (.ireturn, 1) := by decide +kernel
theorem dX8_about_140 : decode cX8_about 140 = .ok (.aload_n 0, 1) := by decide +kernel
theorem dX8_about_141 : decode cX8_about 141 = .ok (.invokevirtual 391, 3) := by decide +kernel
theorem dX8_about_144 : decode cX8_about 144 = .ok (.ireturn, 1) := by decide +kernel
theorem dX8_about_145 : decode cX8_about 145 = .ok (.aload_n 0, 1) := by decide +kernel
theorem dX8_about_146 : decode cX8_about 146 = .ok (.getfield 263, 3) := by decide +kernel
theorem dX8_about_149 : decode cX8_about 149 = .ok (.ireturn, 1) := by decide +kernel
theorem dX8_about_150 : decode cX8_about 150 = .ok (.aload_n 0, 1) := by decide +kernel
theorem dX8_about_151 : decode cX8_about 151 = .ok (.invokevirtual 394, 3) := by decide +kernel
theorem dX8_about_154 : decode cX8_about 154 = .ok (.ireturn, 1) := by decide +kernel
theorem dX8_ringsOf_0 : decode cX8_ringsOf 0 = .ok (.iconst 0, 1) := by decide +kernel
theorem dX8_ringsOf_1 : decode cX8_ringsOf 1 = .ok (.istore_n 2, 1) := by decide +kernel
theorem dX8_ringsOf_2 : decode cX8_ringsOf 2 = .ok (.iconst 0, 1) := by decide +kernel
theorem dX8_ringsOf_3 : decode cX8_ringsOf 3 = .ok (.istore_n 3, 1) := by decide +kernel
theorem dX8_ringsOf_4 : decode cX8_ringsOf 4 = .ok (.iload_n 3, 1) := by decide +kernel
theorem dX8_ringsOf_5 : decode cX8_ringsOf 5 = .ok (.aload_n 0, 1) := by decide +kernel
theorem dX8_ringsOf_6 : decode cX8_ringsOf 6 = .ok (.getfield 288, 3) := by decide +kernel
theorem dX8_ringsOf_9 : decode cX8_ringsOf 9 = .ok (.if_icmp .ge 53, 3) := by decide +kernel
theorem dX8_ringsOf_12 : decode cX8_ringsOf 12 = .ok (.iconst 0, 1) := by decide +kernel
theorem dX8_ringsOf_13 : decode cX8_ringsOf 13 = .ok (.istore 4, 2) := by decide +kernel
theorem dX8_ringsOf_15 : decode cX8_ringsOf 15 = .ok (.iload 4, 2) := by decide +kernel
theorem dX8_ringsOf_17 : decode cX8_ringsOf 17 = .ok (.aload_n 0, 1) := by decide +kernel
theorem dX8_ringsOf_18 : decode cX8_ringsOf 18 = .ok (.getfield 62, 3) := by decide +kernel
theorem dX8_ringsOf_21 : decode cX8_ringsOf 21 = .ok (.iload_n 3, 1) := by decide +kernel
theorem dX8_ringsOf_22 : decode cX8_ringsOf 22 = .ok (.iaload, 1) := by decide +kernel
theorem dX8_ringsOf_23 : decode cX8_ringsOf 23 = .ok (.if_icmp .ge 33, 3) := by decide +kernel
theorem dX8_ringsOf_26 : decode cX8_ringsOf 26 = .ok (.iload_n 2, 1) := by decide +kernel
theorem dX8_ringsOf_27 : decode cX8_ringsOf 27 = .ok (.aload_n 0, 1) := by decide +kernel
theorem dX8_ringsOf_28 : decode cX8_ringsOf 28 = .ok (.getfield 56, 3) := by decide +kernel
theorem dX8_ringsOf_31 : decode cX8_ringsOf 31 = .ok (.bipush 14, 2) := by decide +kernel
theorem dX8_ringsOf_33 : decode cX8_ringsOf 33 = .ok (.iload_n 3, 1) := by decide +kernel
theorem dX8_ringsOf_34 : decode cX8_ringsOf 34 = .ok (.imul, 1) := by decide +kernel
theorem dX8_ringsOf_35 : decode cX8_ringsOf 35 = .ok (.iload 4, 2) := by decide +kernel
theorem dX8_ringsOf_37 : decode cX8_ringsOf 37 = .ok (.iadd, 1) := by decide +kernel
theorem dX8_ringsOf_38 : decode cX8_ringsOf 38 = .ok (.iaload, 1) := by decide +kernel
theorem dX8_ringsOf_39 : decode cX8_ringsOf 39 = .ok (.iload_n 1, 1) := by decide +kernel
theorem dX8_ringsOf_40 : decode cX8_ringsOf 40 = .ok (.if_icmp .ne 7, 3) := by decide +kernel
theorem dX8_ringsOf_43 : decode cX8_ringsOf 43 = .ok (.iconst 1, 1) := by decide +kernel
theorem dX8_ringsOf_44 : decode cX8_ringsOf 44 = .ok (.goto 4, 3) := by decide +kernel
theorem dX8_ringsOf_47 : decode cX8_ringsOf 47 = .ok (.iconst 0, 1) := by decide +kernel
theorem dX8_ringsOf_48 : decode cX8_ringsOf 48 = .ok (.iadd, 1) := by decide +kernel
theorem dX8_ringsOf_49 : decode cX8_ringsOf 49 = .ok (.istore_n 2, 1) := by decide +kernel
theorem dX8_ringsOf_50 : decode cX8_ringsOf 50 = .ok (.iinc 4 1, 3) := by decide +kernel
theorem dX8_ringsOf_53 : decode cX8_ringsOf 53 = .ok (.goto (-38), 3) := by decide +kernel
theorem dX8_ringsOf_56 : decode cX8_ringsOf 56 = .ok (.iinc 3 1, 3) := by decide +kernel
theorem dX8_ringsOf_59 : decode cX8_ringsOf 59 = .ok (.goto (-55), 3) := by decide +kernel
theorem dX8_ringsOf_62 : decode cX8_ringsOf 62 = .ok (.iload_n 2, 1) := by decide +kernel
theorem dX8_ringsOf_63 : decode cX8_ringsOf 63 = .ok (.ireturn, 1) := by decide +kernel
theorem dX8_edge_0 : decode cX8_edge 0 = .ok (.aload_n 0, 1) := by decide +kernel
theorem dX8_edge_1 : decode cX8_edge 1 = .ok (.aload_n 0, 1) := by decide +kernel
theorem dX8_edge_2 : decode cX8_edge 2 = .ok (.iload_n 1, 1) := by decide +kernel
theorem dX8_edge_3 : decode cX8_edge 3 = .ok (.invokevirtual 317, 3) := by decide +kernel
theorem dX8_edge_6 : decode cX8_edge 6 = .ok (.ifCond .eq 19, 3) := by decide +kernel
theorem dX8_edge_9 : decode cX8_edge 9 = .ok (.iload_n 2, 1) := by decide +kernel
theorem dX8_edge_10 : decode cX8_edge 10 = .ok (.i2l, 1) := by decide +kernel
theorem dX8_edge_11 : decode cX8_edge 11 = .ok (.lconst 0, 1) := by decide +kernel
theorem dX8_edge_12 : decode cX8_edge 12 = .ok (.ldc2_w 397, 3) := by decide +kernel
theorem dX8_edge_15 : decode cX8_edge 15 = .ok (.invokestatic 131, 3) := by decide +kernel
theorem dX8_edge_18 : decode cX8_edge 18 = .ok (.ifCond .eq 7, 3) := by decide +kernel
theorem dX8_edge_21 : decode cX8_edge 21 = .ok (.iconst 1, 1) := by decide +kernel
theorem dX8_edge_22 : decode cX8_edge 22 = .ok (.goto 4, 3) := by decide +kernel
theorem dX8_edge_25 : decode cX8_edge 25 = .ok (.iconst 0, 1) := by decide +kernel
theorem dX8_edge_26 : decode cX8_edge 26 = .ok (.invokestatic 330, 3) := by decide +kernel
theorem dX8_edge_29 : decode cX8_edge 29 = .ok (.invokevirtual 245, 3) := by decide +kernel
theorem dX8_edge_32 : decode cX8_edge 32 = .ok (.ifCond .eq 5, 3) := by decide +kernel
theorem dX8_edge_35 : decode cX8_edge 35 = .ok (.iconst (-1), 1) := by decide +kernel
theorem dX8_edge_36 : decode cX8_edge 36 = .ok (.ireturn, 1) := by decide +kernel
theorem dX8_edge_37 : decode cX8_edge 37 = .ok (.iload_n 2, 1) := by decide +kernel
theorem dX8_edge_38 : decode cX8_edge 38 = .ok (.tableswitch 102 0 6 #[42, 49, 56, 63, 70, 79, 88], 42) := by decide +kernel
theorem dX8_edge_80 : decode cX8_edge 80 = .ok (.aload_n 0, 1) := by decide +kernel
theorem dX8_edge_81 : decode cX8_edge 81 = .ok (.getfield 28, 3) := by decide +kernel
theorem dX8_edge_84 : decode cX8_edge 84 = .ok (.iload_n 1, 1) := by decide +kernel
theorem dX8_edge_85 : decode cX8_edge 85 = .ok (.iaload, 1) := by decide +kernel
theorem dX8_edge_86 : decode cX8_edge 86 = .ok (.ireturn, 1) := by decide +kernel
theorem dX8_edge_87 : decode cX8_edge 87 = .ok (.aload_n 0, 1) := by decide +kernel
theorem dX8_edge_88 : decode cX8_edge 88 = .ok (.getfield 31, 3) := by decide +kernel
theorem dX8_edge_91 : decode cX8_edge 91 = .ok (.iload_n 1, 1) := by decide +kernel
theorem dX8_edge_92 : decode cX8_edge 92 = .ok (.iaload, 1) := by decide +kernel
theorem dX8_edge_93 : decode cX8_edge 93 = .ok (.ireturn, 1) := by decide +kernel
theorem dX8_edge_94 : decode cX8_edge 94 = .ok (.aload_n 0, 1) := by decide +kernel
theorem dX8_edge_95 : decode cX8_edge 95 = .ok (.getfield 34, 3) := by decide +kernel
theorem dX8_edge_98 : decode cX8_edge 98 = .ok (.iload_n 1, 1) := by decide +kernel
theorem dX8_edge_99 : decode cX8_edge 99 = .ok (.iaload, 1) := by decide +kernel
theorem dX8_edge_100 : decode cX8_edge 100 = .ok (.ireturn, 1) := by decide +kernel
theorem dX8_edge_101 : decode cX8_edge 101 = .ok (.aload_n 0, 1) := by decide +kernel
theorem dX8_edge_102 : decode cX8_edge 102 = .ok (.getfield 37, 3) := by decide +kernel
theorem dX8_edge_105 : decode cX8_edge 105 = .ok (.iload_n 1, 1) := by decide +kernel
theorem dX8_edge_106 : decode cX8_edge 106 = .ok (.iaload, 1) := by decide +kernel
theorem dX8_edge_107 : decode cX8_edge 107 = .ok (.ireturn, 1) := by decide +kernel
theorem dX8_edge_108 : decode cX8_edge 108 = .ok (.aload_n 0, 1) := by decide +kernel
theorem dX8_edge_109 : decode cX8_edge 109 = .ok (.getfield 235, 3) := by decide +kernel
theorem dX8_edge_112 : decode cX8_edge 112 = .ok (.iload_n 1, 1) := by decide +kernel
theorem dX8_edge_113 : decode cX8_edge 113 = .ok (.ishr, 1) := by decide +kernel
theorem dX8_edge_114 : decode cX8_edge 114 = .ok (.iconst 1, 1) := by decide +kernel
theorem dX8_edge_115 : decode cX8_edge 115 = .ok (.iand, 1) := by decide +kernel
theorem dX8_edge_116 : decode cX8_edge 116 = .ok (.ireturn, 1) := by decide +kernel
theorem dX8_edge_117 : decode cX8_edge 117 = .ok (.aload_n 0, 1) := by decide +kernel
theorem dX8_edge_118 : decode cX8_edge 118 = .ok (.getfield 263, 3) := by decide +kernel
theorem dX8_edge_121 : decode cX8_edge 121 = .ok (.iload_n 1, 1) := by decide +kernel
theorem dX8_edge_122 : decode cX8_edge 122 = .ok (.ishr, 1) := by decide +kernel
theorem dX8_edge_123 : decode cX8_edge 123 = .ok (.iconst 1, 1) := by decide +kernel
theorem dX8_edge_124 : decode cX8_edge 124 = .ok (.iand, 1) := by decide +kernel
theorem dX8_edge_125 : decode cX8_edge 125 = .ok (.ireturn, 1) := by decide +kernel
theorem dX8_edge_126 : decode cX8_edge 126 = .ok (.aload_n 0, 1) := by decide +kernel
theorem dX8_edge_127 : decode cX8_edge 127 = .ok (.iload_n 1, 1) := by decide +kernel
theorem dX8_edge_128 : decode cX8_edge 128 = .ok (.invokevirtual 354, 3) := by decide +kernel
theorem dX8_edge_131 : decode cX8_edge 131 = .ok (.ifCond .eq 7, 3) := by decide +kernel
theorem dX8_edge_134 : decode cX8_edge 134 = .ok (.iconst 1, 1) := by decide +kernel
theorem dX8_edge_135 : decode cX8_edge 135 = .ok (.goto 4, 3) := by decide +kernel
theorem dX8_edge_138 : decode cX8_edge 138 = .ok (.iconst 0, 1) := by decide +kernel
theorem dX8_edge_139 : decode cX8_edge 139 = .ok (.ireturn, 1) := by decide +kernel
theorem dX8_edge_140 : decode cX8_edge 140 = .ok (.aload_n 0, 1) := by decide +kernel
theorem dX8_edge_141 : decode cX8_edge 141 = .ok (.iload_n 1, 1) := by decide +kernel
theorem dX8_edge_142 : decode cX8_edge 142 = .ok (.invokevirtual 399, 3) := by decide +kernel
theorem dX8_edge_145 : decode cX8_edge 145 = .ok (.ireturn, 1) := by decide +kernel
theorem dX8_flow_0 : decode cX8_flow 0 = .ok (.aload_n 0, 1) := by decide +kernel
theorem dX8_flow_1 : decode cX8_flow 1 = .ok (.aload_n 0, 1) := by decide +kernel
theorem dX8_flow_2 : decode cX8_flow 2 = .ok (.iload_n 1, 1) := by decide +kernel
theorem dX8_flow_3 : decode cX8_flow 3 = .ok (.invokevirtual 317, 3) := by decide +kernel
theorem dX8_flow_6 : decode cX8_flow 6 = .ok (.invokestatic 330, 3) := by decide +kernel
theorem dX8_flow_9 : decode cX8_flow 9 = .ok (.invokevirtual 245, 3) := by decide +kernel
theorem dX8_flow_12 : decode cX8_flow 12 = .ok (.ifCond .eq 9, 3) := by decide +kernel
theorem dX8_flow_15 : decode cX8_flow 15 = .ok (.ldc2_w 102, 3) := by decide +kernel
theorem dX8_flow_18 : decode cX8_flow 18 = .ok (.goto 9, 3) := by decide +kernel
theorem dX8_flow_21 : decode cX8_flow 21 = .ok (.aload_n 0, 1) := by decide +kernel
theorem dX8_flow_22 : decode cX8_flow 22 = .ok (.getfield 52, 3) := by decide +kernel
theorem dX8_flow_25 : decode cX8_flow 25 = .ok (.iload_n 1, 1) := by decide +kernel
theorem dX8_flow_26 : decode cX8_flow 26 = .ok (.laload, 1) := by decide +kernel
theorem dX8_flow_27 : decode cX8_flow 27 = .ok (.lreturn, 1) := by decide +kernel
theorem dX8_loss_0 : decode cX8_loss 0 = .ok (.aload_n 0, 1) := by decide +kernel
theorem dX8_loss_1 : decode cX8_loss 1 = .ok (.aload_n 0, 1) := by decide +kernel
theorem dX8_loss_2 : decode cX8_loss 2 = .ok (.iload_n 1, 1) := by decide +kernel
theorem dX8_loss_3 : decode cX8_loss 3 = .ok (.invokevirtual 317, 3) := by decide +kernel
theorem dX8_loss_6 : decode cX8_loss 6 = .ok (.invokestatic 330, 3) := by decide +kernel
theorem dX8_loss_9 : decode cX8_loss 9 = .ok (.invokevirtual 245, 3) := by decide +kernel
theorem dX8_loss_12 : decode cX8_loss 12 = .ok (.ifCond .eq 9, 3) := by decide +kernel
theorem dX8_loss_15 : decode cX8_loss 15 = .ok (.ldc2_w 102, 3) := by decide +kernel
theorem dX8_loss_18 : decode cX8_loss 18 = .ok (.goto 14, 3) := by decide +kernel
theorem dX8_loss_21 : decode cX8_loss 21 = .ok (.aload_n 0, 1) := by decide +kernel
theorem dX8_loss_22 : decode cX8_loss 22 = .ok (.iload_n 1, 1) := by decide +kernel
theorem dX8_loss_23 : decode cX8_loss 23 = .ok (.aload_n 0, 1) := by decide +kernel
theorem dX8_loss_24 : decode cX8_loss 24 = .ok (.getfield 52, 3) := by decide +kernel
theorem dX8_loss_27 : decode cX8_loss 27 = .ok (.iload_n 1, 1) := by decide +kernel
theorem dX8_loss_28 : decode cX8_loss 28 = .ok (.laload, 1) := by decide +kernel
theorem dX8_loss_29 : decode cX8_loss 29 = .ok (.invokevirtual 324, 3) := by decide +kernel
theorem dX8_loss_32 : decode cX8_loss 32 = .ok (.lreturn, 1) := by decide +kernel
theorem dX8_endsAt_0 : decode cX8_endsAt 0 = .ok (.iconst 0, 1) := by decide +kernel
theorem dX8_endsAt_1 : decode cX8_endsAt 1 = .ok (.istore_n 2, 1) := by decide +kernel
theorem dX8_endsAt_2 : decode cX8_endsAt 2 = .ok (.iconst 0, 1) := by decide +kernel
theorem dX8_endsAt_3 : decode cX8_endsAt 3 = .ok (.istore_n 3, 1) := by decide +kernel
theorem dX8_endsAt_4 : decode cX8_endsAt 4 = .ok (.iload_n 3, 1) := by decide +kernel
theorem dX8_endsAt_5 : decode cX8_endsAt 5 = .ok (.aload_n 0, 1) := by decide +kernel
theorem dX8_endsAt_6 : decode cX8_endsAt 6 = .ok (.getfield 232, 3) := by decide +kernel
theorem dX8_endsAt_9 : decode cX8_endsAt 9 = .ok (.if_icmp .ge 39, 3) := by decide +kernel
theorem dX8_endsAt_12 : decode cX8_endsAt 12 = .ok (.iload_n 2, 1) := by decide +kernel
theorem dX8_endsAt_13 : decode cX8_endsAt 13 = .ok (.aload_n 0, 1) := by decide +kernel
theorem dX8_endsAt_14 : decode cX8_endsAt 14 = .ok (.getfield 28, 3) := by decide +kernel
theorem dX8_endsAt_17 : decode cX8_endsAt 17 = .ok (.iload_n 3, 1) := by decide +kernel
theorem dX8_endsAt_18 : decode cX8_endsAt 18 = .ok (.iaload, 1) := by decide +kernel
theorem dX8_endsAt_19 : decode cX8_endsAt 19 = .ok (.iload_n 1, 1) := by decide +kernel
theorem dX8_endsAt_20 : decode cX8_endsAt 20 = .ok (.if_icmp .eq 13, 3) := by decide +kernel
theorem dX8_endsAt_23 : decode cX8_endsAt 23 = .ok (.aload_n 0, 1) := by decide +kernel
theorem dX8_endsAt_24 : decode cX8_endsAt 24 = .ok (.getfield 31, 3) := by decide +kernel
theorem dX8_endsAt_27 : decode cX8_endsAt 27 = .ok (.iload_n 3, 1) := by decide +kernel
theorem dX8_endsAt_28 : decode cX8_endsAt 28 = .ok (.iaload, 1) := by decide +kernel
theorem dX8_endsAt_29 : decode cX8_endsAt 29 = .ok (.iload_n 1, 1) := by decide +kernel
theorem dX8_endsAt_30 : decode cX8_endsAt 30 = .ok (.if_icmp .ne 9, 3) := by decide +kernel
theorem dX8_endsAt_33 : decode cX8_endsAt 33 = .ok (.iconst 1, 1) := by decide +kernel
theorem dX8_endsAt_34 : decode cX8_endsAt 34 = .ok (.iload_n 3, 1) := by decide +kernel
theorem dX8_endsAt_35 : decode cX8_endsAt 35 = .ok (.ishl, 1) := by decide +kernel
theorem dX8_endsAt_36 : decode cX8_endsAt 36 = .ok (.goto 4, 3) := by decide +kernel
theorem dX8_endsAt_39 : decode cX8_endsAt 39 = .ok (.iconst 0, 1) := by decide +kernel
theorem dX8_endsAt_40 : decode cX8_endsAt 40 = .ok (.ior, 1) := by decide +kernel
theorem dX8_endsAt_41 : decode cX8_endsAt 41 = .ok (.istore_n 2, 1) := by decide +kernel
theorem dX8_endsAt_42 : decode cX8_endsAt 42 = .ok (.iinc 3 1, 3) := by decide +kernel
theorem dX8_endsAt_45 : decode cX8_endsAt 45 = .ok (.goto (-41), 3) := by decide +kernel
theorem dX8_endsAt_48 : decode cX8_endsAt 48 = .ok (.iload_n 2, 1) := by decide +kernel
theorem dX8_endsAt_49 : decode cX8_endsAt 49 = .ok (.ireturn, 1) := by decide +kernel
theorem dX8_joint_0 : decode cX8_joint 0 = .ok (.aload_n 0, 1) := by decide +kernel
theorem dX8_joint_1 : decode cX8_joint 1 = .ok (.aload_n 0, 1) := by decide +kernel
theorem dX8_joint_2 : decode cX8_joint 2 = .ok (.iload_n 1, 1) := by decide +kernel
theorem dX8_joint_3 : decode cX8_joint 3 = .ok (.invokevirtual 327, 3) := by decide +kernel
theorem dX8_joint_6 : decode cX8_joint 6 = .ok (.ifCond .eq 19, 3) := by decide +kernel
theorem dX8_joint_9 : decode cX8_joint 9 = .ok (.iload_n 2, 1) := by decide +kernel
theorem dX8_joint_10 : decode cX8_joint 10 = .ok (.i2l, 1) := by decide +kernel
theorem dX8_joint_11 : decode cX8_joint 11 = .ok (.lconst 0, 1) := by decide +kernel
theorem dX8_joint_12 : decode cX8_joint 12 = .ok (.ldc2_w 402, 3) := by decide +kernel
theorem dX8_joint_15 : decode cX8_joint 15 = .ok (.invokestatic 131, 3) := by decide +kernel
theorem dX8_joint_18 : decode cX8_joint 18 = .ok (.ifCond .eq 7, 3) := by decide +kernel
theorem dX8_joint_21 : decode cX8_joint 21 = .ok (.iconst 1, 1) := by decide +kernel
theorem dX8_joint_22 : decode cX8_joint 22 = .ok (.goto 4, 3) := by decide +kernel
theorem dX8_joint_25 : decode cX8_joint 25 = .ok (.iconst 0, 1) := by decide +kernel
theorem dX8_joint_26 : decode cX8_joint 26 = .ok (.invokestatic 330, 3) := by decide +kernel
theorem dX8_joint_29 : decode cX8_joint 29 = .ok (.invokevirtual 245, 3) := by decide +kernel
theorem dX8_joint_32 : decode cX8_joint 32 = .ok (.ifCond .eq 5, 3) := by decide +kernel
theorem dX8_joint_35 : decode cX8_joint 35 = .ok (.iconst (-1), 1) := by decide +kernel
theorem dX8_joint_36 : decode cX8_joint 36 = .ok (.ireturn, 1) := by decide +kernel
theorem dX8_joint_37 : decode cX8_joint 37 = .ok (.iload_n 2, 1) := by decide +kernel
theorem dX8_joint_38 : decode cX8_joint 38 = .ok (.tableswitch 58 0 2 #[26, 41, 51], 26) := by decide +kernel
theorem dX8_joint_64 : decode cX8_joint 64 = .ok (.iload_n 1, 1) := by decide +kernel
theorem dX8_joint_65 : decode cX8_joint 65 = .ok (.ifCond .ne 7, 3) := by decide +kernel
theorem dX8_joint_68 : decode cX8_joint 68 = .ok (.iconst 0, 1) := by decide +kernel
theorem dX8_joint_69 : decode cX8_joint 69 = .ok (.goto 9, 3) := by decide +kernel
theorem dX8_joint_72 : decode cX8_joint 72 = .ok (.aload_n 0, 1) := by decide +kernel
theorem dX8_joint_73 : decode cX8_joint 73 = .ok (.getfield 19, 3) := by decide +kernel
theorem dX8_joint_76 : decode cX8_joint 76 = .ok (.iload_n 1, 1) := by decide +kernel
theorem dX8_joint_77 : decode cX8_joint 77 = .ok (.iaload, 1) := by decide +kernel
theorem dX8_joint_78 : decode cX8_joint 78 = .ok (.ireturn, 1) := by decide +kernel
theorem dX8_joint_79 : decode cX8_joint 79 = .ok (.bipush 100, 2) := by decide +kernel
theorem dX8_joint_81 : decode cX8_joint 81 = .ok (.aload_n 0, 1) := by decide +kernel
theorem dX8_joint_82 : decode cX8_joint 82 = .ok (.getfield 22, 3) := by decide +kernel
theorem dX8_joint_85 : decode cX8_joint 85 = .ok (.iload_n 1, 1) := by decide +kernel
theorem dX8_joint_86 : decode cX8_joint 86 = .ok (.iaload, 1) := by decide +kernel
theorem dX8_joint_87 : decode cX8_joint 87 = .ok (.imul, 1) := by decide +kernel
theorem dX8_joint_88 : decode cX8_joint 88 = .ok (.ireturn, 1) := by decide +kernel
theorem dX8_joint_89 : decode cX8_joint 89 = .ok (.aload_n 0, 1) := by decide +kernel
theorem dX8_joint_90 : decode cX8_joint 90 = .ok (.getfield 46, 3) := by decide +kernel
theorem dX8_joint_93 : decode cX8_joint 93 = .ok (.iload_n 1, 1) := by decide +kernel
theorem dX8_joint_94 : decode cX8_joint 94 = .ok (.iaload, 1) := by decide +kernel
theorem dX8_joint_95 : decode cX8_joint 95 = .ok (.ireturn, 1) := by decide +kernel
theorem dX8_joint_96 : decode cX8_joint 96 = .ok (.aload_n 0, 1) := by decide +kernel
theorem dX8_joint_97 : decode cX8_joint 97 = .ok (.iload_n 1, 1) := by decide +kernel
theorem dX8_joint_98 : decode cX8_joint 98 = .ok (.invokevirtual 404, 3) := by decide +kernel
theorem dX8_joint_101 : decode cX8_joint 101 = .ok (.ireturn, 1) := by decide +kernel
theorem dX8_pressureOf_0 : decode cX8_pressureOf 0 = .ok (.iload_n 1, 1) := by decide +kernel
theorem dX8_pressureOf_1 : decode cX8_pressureOf 1 = .ok (.ifCond .ne 7, 3) := by decide +kernel
theorem dX8_pressureOf_4 : decode cX8_pressureOf 4 = .ok (.lconst 0, 1) := by decide +kernel
theorem dX8_pressureOf_5 : decode cX8_pressureOf 5 = .ok (.goto 21, 3) := by decide +kernel
theorem dX8_pressureOf_8 : decode cX8_pressureOf 8 = .ok (.aload_n 0, 1) := by decide +kernel
theorem dX8_pressureOf_9 : decode cX8_pressureOf 9 = .ok (.getfield 65, 3) := by decide +kernel
theorem dX8_pressureOf_12 : decode cX8_pressureOf 12 = .ok (.iload_n 1, 1) := by decide +kernel
theorem dX8_pressureOf_13 : decode cX8_pressureOf 13 = .ok (.laload, 1) := by decide +kernel
theorem dX8_pressureOf_14 : decode cX8_pressureOf 14 = .ok (.ldc2_w 306, 3) := by decide +kernel
theorem dX8_pressureOf_17 : decode cX8_pressureOf 17 = .ok (.aload_n 0, 1) := by decide +kernel
theorem dX8_pressureOf_18 : decode cX8_pressureOf 18 = .ok (.getfield 22, 3) := by decide +kernel
theorem dX8_pressureOf_21 : decode cX8_pressureOf 21 = .ok (.iload_n 1, 1) := by decide +kernel
theorem dX8_pressureOf_22 : decode cX8_pressureOf 22 = .ok (.iaload, 1) := by decide +kernel
theorem dX8_pressureOf_23 : decode cX8_pressureOf 23 = .ok (.i2l, 1) := by decide +kernel
theorem dX8_pressureOf_24 : decode cX8_pressureOf 24 = .ok (.lmul, 1) := by decide +kernel
theorem dX8_pressureOf_25 : decode cX8_pressureOf 25 = .ok (.lsub, 1) := by decide +kernel
theorem dX8_pressureOf_26 : decode cX8_pressureOf 26 = .ok (.lreturn, 1) := by decide +kernel
theorem dX8_head_0 : decode cX8_head 0 = .ok (.aload_n 0, 1) := by decide +kernel
theorem dX8_head_1 : decode cX8_head 1 = .ok (.aload_n 0, 1) := by decide +kernel
theorem dX8_head_2 : decode cX8_head 2 = .ok (.iload_n 1, 1) := by decide +kernel
theorem dX8_head_3 : decode cX8_head 3 = .ok (.invokevirtual 327, 3) := by decide +kernel
theorem dX8_head_6 : decode cX8_head 6 = .ok (.invokestatic 330, 3) := by decide +kernel
theorem dX8_head_9 : decode cX8_head 9 = .ok (.invokevirtual 245, 3) := by decide +kernel
theorem dX8_head_12 : decode cX8_head 12 = .ok (.ifCond .eq 7, 3) := by decide +kernel
theorem dX8_head_15 : decode cX8_head 15 = .ok (.ldc2_w 102, 3) := by decide +kernel
theorem dX8_head_18 : decode cX8_head 18 = .ok (.lreturn, 1) := by decide +kernel
theorem dX8_head_19 : decode cX8_head 19 = .ok (.aload_n 0, 1) := by decide +kernel
theorem dX8_head_20 : decode cX8_head 20 = .ok (.iload_n 1, 1) := by decide +kernel
theorem dX8_head_21 : decode cX8_head 21 = .ok (.invokevirtual 272, 3) := by decide +kernel
theorem dX8_head_24 : decode cX8_head 24 = .ok (.ifCond .eq 12, 3) := by decide +kernel
theorem dX8_head_27 : decode cX8_head 27 = .ok (.aload_n 0, 1) := by decide +kernel
theorem dX8_head_28 : decode cX8_head 28 = .ok (.getfield 65, 3) := by decide +kernel
theorem dX8_head_31 : decode cX8_head 31 = .ok (.iload_n 1, 1) := by decide +kernel
theorem dX8_head_32 : decode cX8_head 32 = .ok (.laload, 1) := by decide +kernel
theorem dX8_head_33 : decode cX8_head 33 = .ok (.goto 8, 3) := by decide +kernel
theorem dX8_head_36 : decode cX8_head 36 = .ok (.aload_n 0, 1) := by decide +kernel
theorem dX8_head_37 : decode cX8_head 37 = .ok (.iconst 5, 1) := by decide +kernel
theorem dX8_head_38 : decode cX8_head 38 = .ok (.invokevirtual 407, 3) := by decide +kernel
theorem dX8_head_41 : decode cX8_head 41 = .ok (.lreturn, 1) := by decide +kernel
theorem dX8_pressure_0 : decode cX8_pressure 0 = .ok (.aload_n 0, 1) := by decide +kernel
theorem dX8_pressure_1 : decode cX8_pressure 1 = .ok (.aload_n 0, 1) := by decide +kernel
theorem dX8_pressure_2 : decode cX8_pressure 2 = .ok (.iload_n 1, 1) := by decide +kernel
theorem dX8_pressure_3 : decode cX8_pressure 3 = .ok (.invokevirtual 327, 3) := by decide +kernel
theorem dX8_pressure_6 : decode cX8_pressure 6 = .ok (.invokestatic 330, 3) := by decide +kernel
theorem dX8_pressure_9 : decode cX8_pressure 9 = .ok (.invokevirtual 245, 3) := by decide +kernel
theorem dX8_pressure_12 : decode cX8_pressure 12 = .ok (.ifCond .eq 7, 3) := by decide +kernel
theorem dX8_pressure_15 : decode cX8_pressure 15 = .ok (.ldc2_w 102, 3) := by decide +kernel
theorem dX8_pressure_18 : decode cX8_pressure 18 = .ok (.lreturn, 1) := by decide +kernel
theorem dX8_pressure_19 : decode cX8_pressure 19 = .ok (.aload_n 0, 1) := by decide +kernel
theorem dX8_pressure_20 : decode cX8_pressure 20 = .ok (.iload_n 1, 1) := by decide +kernel
theorem dX8_pressure_21 : decode cX8_pressure 21 = .ok (.invokevirtual 272, 3) := by decide +kernel
theorem dX8_pressure_24 : decode cX8_pressure 24 = .ok (.ifCond .eq 11, 3) := by decide +kernel
theorem dX8_pressure_27 : decode cX8_pressure 27 = .ok (.aload_n 0, 1) := by decide +kernel
theorem dX8_pressure_28 : decode cX8_pressure 28 = .ok (.iload_n 1, 1) := by decide +kernel
theorem dX8_pressure_29 : decode cX8_pressure 29 = .ok (.invokevirtual 410, 3) := by decide +kernel
theorem dX8_pressure_32 : decode cX8_pressure 32 = .ok (.goto 8, 3) := by decide +kernel
theorem dX8_pressure_35 : decode cX8_pressure 35 = .ok (.aload_n 0, 1) := by decide +kernel
theorem dX8_pressure_36 : decode cX8_pressure 36 = .ok (.iconst 5, 1) := by decide +kernel
theorem dX8_pressure_37 : decode cX8_pressure 37 = .ok (.invokevirtual 407, 3) := by decide +kernel
theorem dX8_pressure_40 : decode cX8_pressure 40 = .ok (.lreturn, 1) := by decide +kernel
theorem dX8_weakestNow_0 : decode cX8_weakestNow 0 = .ok (.bipush (-2), 2) := by decide +kernel
theorem dX8_weakestNow_2 : decode cX8_weakestNow 2 = .ok (.istore_n 1, 1) := by decide +kernel
theorem dX8_weakestNow_3 : decode cX8_weakestNow 3 = .ok (.iconst 1, 1) := by decide +kernel
theorem dX8_weakestNow_4 : decode cX8_weakestNow 4 = .ok (.istore_n 2, 1) := by decide +kernel
theorem dX8_weakestNow_5 : decode cX8_weakestNow 5 = .ok (.iload_n 2, 1) := by decide +kernel
theorem dX8_weakestNow_6 : decode cX8_weakestNow 6 = .ok (.aload_n 0, 1) := by decide +kernel
theorem dX8_weakestNow_7 : decode cX8_weakestNow 7 = .ok (.getfield 229, 3) := by decide +kernel
theorem dX8_weakestNow_10 : decode cX8_weakestNow 10 = .ok (.if_icmp .ge 39, 3) := by decide +kernel
theorem dX8_weakestNow_13 : decode cX8_weakestNow 13 = .ok (.aload_n 0, 1) := by decide +kernel
theorem dX8_weakestNow_14 : decode cX8_weakestNow 14 = .ok (.iload_n 2, 1) := by decide +kernel
theorem dX8_weakestNow_15 : decode cX8_weakestNow 15 = .ok (.invokevirtual 272, 3) := by decide +kernel
theorem dX8_weakestNow_18 : decode cX8_weakestNow 18 = .ok (.ifCond .eq 25, 3) := by decide +kernel
theorem dX8_weakestNow_21 : decode cX8_weakestNow 21 = .ok (.iload_n 1, 1) := by decide +kernel
theorem dX8_weakestNow_22 : decode cX8_weakestNow 22 = .ok (.bipush (-2), 2) := by decide +kernel
theorem dX8_weakestNow_24 : decode cX8_weakestNow 24 = .ok (.if_icmp .eq 17, 3) := by decide +kernel
theorem dX8_weakestNow_27 : decode cX8_weakestNow 27 = .ok (.aload_n 0, 1) := by decide +kernel
theorem dX8_weakestNow_28 : decode cX8_weakestNow 28 = .ok (.iload_n 2, 1) := by decide +kernel
theorem dX8_weakestNow_29 : decode cX8_weakestNow 29 = .ok (.invokevirtual 410, 3) := by decide +kernel
theorem dX8_weakestNow_32 : decode cX8_weakestNow 32 = .ok (.aload_n 0, 1) := by decide +kernel
theorem dX8_weakestNow_33 : decode cX8_weakestNow 33 = .ok (.iload_n 1, 1) := by decide +kernel
theorem dX8_weakestNow_34 : decode cX8_weakestNow 34 = .ok (.invokevirtual 410, 3) := by decide +kernel
theorem dX8_weakestNow_37 : decode cX8_weakestNow 37 = .ok (.lcmp, 1) := by decide +kernel
theorem dX8_weakestNow_38 : decode cX8_weakestNow 38 = .ok (.ifCond .ge 5, 3) := by decide +kernel
theorem dX8_weakestNow_41 : decode cX8_weakestNow 41 = .ok (.iload_n 2, 1) := by decide +kernel
theorem dX8_weakestNow_42 : decode cX8_weakestNow 42 = .ok (.istore_n 1, 1) := by decide +kernel
theorem dX8_weakestNow_43 : decode cX8_weakestNow 43 = .ok (.iinc 2 1, 3) := by decide +kernel
theorem dX8_weakestNow_46 : decode cX8_weakestNow 46 = .ok (.goto (-41), 3) := by decide +kernel
theorem dX8_weakestNow_49 : decode cX8_weakestNow 49 = .ok (.iload_n 1, 1) := by decide +kernel
theorem dX8_weakestNow_50 : decode cX8_weakestNow 50 = .ok (.ireturn, 1) := by decide +kernel
theorem dX8_weakest_0 : decode cX8_weakest 0 = .ok (.aload_n 0, 1) := by decide +kernel
theorem dX8_weakest_1 : decode cX8_weakest 1 = .ok (.aload_n 0, 1) := by decide +kernel
theorem dX8_weakest_2 : decode cX8_weakest 2 = .ok (.getfield 229, 3) := by decide +kernel
theorem dX8_weakest_5 : decode cX8_weakest 5 = .ok (.ifCond .le 7, 3) := by decide +kernel
theorem dX8_weakest_8 : decode cX8_weakest 8 = .ok (.iconst 1, 1) := by decide +kernel
theorem dX8_weakest_9 : decode cX8_weakest 9 = .ok (.goto 4, 3) := by decide +kernel
theorem dX8_weakest_12 : decode cX8_weakest 12 = .ok (.iconst 0, 1) := by decide +kernel
theorem dX8_weakest_13 : decode cX8_weakest 13 = .ok (.invokestatic 330, 3) := by decide +kernel
theorem dX8_weakest_16 : decode cX8_weakest 16 = .ok (.invokevirtual 245, 3) := by decide +kernel
theorem dX8_weakest_19 : decode cX8_weakest 19 = .ok (.ifCond .eq 7, 3) := by decide +kernel
theorem dX8_weakest_22 : decode cX8_weakest 22 = .ok (.iconst (-1), 1) := by decide +kernel
theorem dX8_weakest_23 : decode cX8_weakest 23 = .ok (.goto 7, 3) := by decide +kernel
theorem dX8_weakest_26 : decode cX8_weakest 26 = .ok (.aload_n 0, 1) := by decide +kernel
theorem dX8_weakest_27 : decode cX8_weakest 27 = .ok (.invokevirtual 413, 3) := by decide +kernel
theorem dX8_weakest_30 : decode cX8_weakest 30 = .ok (.ireturn, 1) := by decide +kernel
theorem dX8_ring_0 : decode cX8_ring 0 = .ok (.aload_n 0, 1) := by decide +kernel
end
section
theorem dX8_ring_1 : decode cX8_ring 1 = .ok (.iload_n 1, 1) := by decide +kernel
theorem dX8_ring_2 : decode cX8_ring 2 = .ok (.i2l, 1) := by decide +kernel
theorem dX8_ring_3 : decode cX8_ring 3 = .ok (.lconst 0, 1) := by decide +kernel
theorem dX8_ring_4 : decode cX8_ring 4 = .ok (.aload_n 0, 1) := by decide +kernel
theorem dX8_ring_5 : decode cX8_ring 5 = .ok (.getfield 288, 3) := by decide +kernel
theorem dX8_ring_8 : decode cX8_ring 8 = .ok (.iconst 1, 1) := by decide +kernel
theorem dX8_ring_9 : decode cX8_ring 9 = .ok (.isub, 1) := by decide +kernel
theorem dX8_ring_10 : decode cX8_ring 10 = .ok (.i2l, 1) := by decide +kernel
theorem dX8_ring_11 : decode cX8_ring 11 = .ok (.invokestatic 131, 3) := by decide +kernel
theorem dX8_ring_14 : decode cX8_ring 14 = .ok (.ifCond .eq 11, 3) := by decide +kernel
theorem dX8_ring_17 : decode cX8_ring 17 = .ok (.iload_n 2, 1) := by decide +kernel
theorem dX8_ring_18 : decode cX8_ring 18 = .ok (.ifCond .lt 7, 3) := by decide +kernel
theorem dX8_ring_21 : decode cX8_ring 21 = .ok (.iconst 1, 1) := by decide +kernel
theorem dX8_ring_22 : decode cX8_ring 22 = .ok (.goto 4, 3) := by decide +kernel
theorem dX8_ring_25 : decode cX8_ring 25 = .ok (.iconst 0, 1) := by decide +kernel
theorem dX8_ring_26 : decode cX8_ring 26 = .ok (.invokestatic 330, 3) := by decide +kernel
theorem dX8_ring_29 : decode cX8_ring 29 = .ok (.invokevirtual 245, 3) := by decide +kernel
theorem dX8_ring_32 : decode cX8_ring 32 = .ok (.ifCond .eq 5, 3) := by decide +kernel
theorem dX8_ring_35 : decode cX8_ring 35 = .ok (.iconst (-1), 1) := by decide +kernel
theorem dX8_ring_36 : decode cX8_ring 36 = .ok (.ireturn, 1) := by decide +kernel
theorem dX8_ring_37 : decode cX8_ring 37 = .ok (.iload_n 2, 1) := by decide +kernel
theorem dX8_ring_38 : decode cX8_ring 38 = .ok (.aload_n 0, 1) := by decide +kernel
theorem dX8_ring_39 : decode cX8_ring 39 = .ok (.getfield 62, 3) := by decide +kernel
theorem dX8_ring_42 : decode cX8_ring 42 = .ok (.iload_n 1, 1) := by decide +kernel
theorem dX8_ring_43 : decode cX8_ring 43 = .ok (.iaload, 1) := by decide +kernel
theorem dX8_ring_44 : decode cX8_ring 44 = .ok (.if_icmp .ge 17, 3) := by decide +kernel
theorem dX8_ring_47 : decode cX8_ring 47 = .ok (.aload_n 0, 1) := by decide +kernel
theorem dX8_ring_48 : decode cX8_ring 48 = .ok (.getfield 56, 3) := by decide +kernel
theorem dX8_ring_51 : decode cX8_ring 51 = .ok (.bipush 14, 2) := by decide +kernel
theorem dX8_ring_53 : decode cX8_ring 53 = .ok (.iload_n 1, 1) := by decide +kernel
theorem dX8_ring_54 : decode cX8_ring 54 = .ok (.imul, 1) := by decide +kernel
theorem dX8_ring_55 : decode cX8_ring 55 = .ok (.iload_n 2, 1) := by decide +kernel
theorem dX8_ring_56 : decode cX8_ring 56 = .ok (.iadd, 1) := by decide +kernel
theorem dX8_ring_57 : decode cX8_ring 57 = .ok (.iaload, 1) := by decide +kernel
theorem dX8_ring_58 : decode cX8_ring 58 = .ok (.goto 5, 3) := by decide +kernel
theorem dX8_ring_61 : decode cX8_ring 61 = .ok (.bipush (-2), 2) := by decide +kernel
theorem dX8_ring_63 : decode cX8_ring 63 = .ok (.ireturn, 1) := by decide +kernel
theorem dX8_sum_0 : decode cX8_sum 0 = .ok (.aload_n 0, 1) := by decide +kernel
theorem dX8_sum_1 : decode cX8_sum 1 = .ok (.iload_n 1, 1) := by decide +kernel
theorem dX8_sum_2 : decode cX8_sum 2 = .ok (.i2l, 1) := by decide +kernel
theorem dX8_sum_3 : decode cX8_sum 3 = .ok (.lconst 0, 1) := by decide +kernel
theorem dX8_sum_4 : decode cX8_sum 4 = .ok (.aload_n 0, 1) := by decide +kernel
theorem dX8_sum_5 : decode cX8_sum 5 = .ok (.getfield 288, 3) := by decide +kernel
theorem dX8_sum_8 : decode cX8_sum 8 = .ok (.iconst 1, 1) := by decide +kernel
theorem dX8_sum_9 : decode cX8_sum 9 = .ok (.isub, 1) := by decide +kernel
theorem dX8_sum_10 : decode cX8_sum 10 = .ok (.i2l, 1) := by decide +kernel
theorem dX8_sum_11 : decode cX8_sum 11 = .ok (.invokestatic 131, 3) := by decide +kernel
theorem dX8_sum_14 : decode cX8_sum 14 = .ok (.ifCond .eq 17, 3) := by decide +kernel
theorem dX8_sum_17 : decode cX8_sum 17 = .ok (.iload_n 2, 1) := by decide +kernel
theorem dX8_sum_18 : decode cX8_sum 18 = .ok (.i2l, 1) := by decide +kernel
theorem dX8_sum_19 : decode cX8_sum 19 = .ok (.lconst 0, 1) := by decide +kernel
theorem dX8_sum_20 : decode cX8_sum 20 = .ok (.lconst 1, 1) := by decide +kernel
theorem dX8_sum_21 : decode cX8_sum 21 = .ok (.invokestatic 131, 3) := by decide +kernel
theorem dX8_sum_24 : decode cX8_sum 24 = .ok (.ifCond .eq 7, 3) := by decide +kernel
theorem dX8_sum_27 : decode cX8_sum 27 = .ok (.iconst 1, 1) := by decide +kernel
theorem dX8_sum_28 : decode cX8_sum 28 = .ok (.goto 4, 3) := by decide +kernel
theorem dX8_sum_31 : decode cX8_sum 31 = .ok (.iconst 0, 1) := by decide +kernel
theorem dX8_sum_32 : decode cX8_sum 32 = .ok (.invokestatic 330, 3) := by decide +kernel
theorem dX8_sum_35 : decode cX8_sum 35 = .ok (.invokevirtual 245, 3) := by decide +kernel
theorem dX8_sum_38 : decode cX8_sum 38 = .ok (.ifCond .eq 7, 3) := by decide +kernel
theorem dX8_sum_41 : decode cX8_sum 41 = .ok (.ldc2_w 102, 3) := by decide +kernel
theorem dX8_sum_44 : decode cX8_sum 44 = .ok (.lreturn, 1) := by decide +kernel
theorem dX8_sum_45 : decode cX8_sum 45 = .ok (.iload_n 2, 1) := by decide +kernel
theorem dX8_sum_46 : decode cX8_sum 46 = .ok (.ifCond .ne 11, 3) := by decide +kernel
theorem dX8_sum_49 : decode cX8_sum 49 = .ok (.aload_n 0, 1) := by decide +kernel
theorem dX8_sum_50 : decode cX8_sum 50 = .ok (.iload_n 1, 1) := by decide +kernel
theorem dX8_sum_51 : decode cX8_sum 51 = .ok (.invokevirtual 337, 3) := by decide +kernel
theorem dX8_sum_54 : decode cX8_sum 54 = .ok (.goto 8, 3) := by decide +kernel
theorem dX8_sum_57 : decode cX8_sum 57 = .ok (.aload_n 0, 1) := by decide +kernel
theorem dX8_sum_58 : decode cX8_sum 58 = .ok (.iload_n 1, 1) := by decide +kernel
theorem dX8_sum_59 : decode cX8_sum 59 = .ok (.invokevirtual 340, 3) := by decide +kernel
theorem dX8_sum_62 : decode cX8_sum 62 = .ok (.lreturn, 1) := by decide +kernel
theorem dX8_early_0 : decode cX8_early 0 = .ok (.aload_n 0, 1) := by decide +kernel
theorem dX8_early_1 : decode cX8_early 1 = .ok (.aload_n 0, 1) := by decide +kernel
theorem dX8_early_2 : decode cX8_early 2 = .ok (.iload_n 1, 1) := by decide +kernel
theorem dX8_early_3 : decode cX8_early 3 = .ok (.invokevirtual 317, 3) := by decide +kernel
theorem dX8_early_6 : decode cX8_early 6 = .ok (.iload_n 2, 1) := by decide +kernel
theorem dX8_early_7 : decode cX8_early 7 = .ok (.i2l, 1) := by decide +kernel
theorem dX8_early_8 : decode cX8_early 8 = .ok (.lconst 0, 1) := by decide +kernel
theorem dX8_early_9 : decode cX8_early 9 = .ok (.ldc2_w 416, 3) := by decide +kernel
theorem dX8_early_12 : decode cX8_early 12 = .ok (.invokestatic 131, 3) := by decide +kernel
theorem dX8_early_15 : decode cX8_early 15 = .ok (.invokestatic 241, 3) := by decide +kernel
theorem dX8_early_18 : decode cX8_early 18 = .ok (.invokevirtual 245, 3) := by decide +kernel
theorem dX8_early_21 : decode cX8_early 21 = .ok (.ifCond .eq 7, 3) := by decide +kernel
theorem dX8_early_24 : decode cX8_early 24 = .ok (.ldc2_w 102, 3) := by decide +kernel
theorem dX8_early_27 : decode cX8_early 27 = .ok (.lreturn, 1) := by decide +kernel
theorem dX8_early_28 : decode cX8_early 28 = .ok (.aload_n 0, 1) := by decide +kernel
theorem dX8_early_29 : decode cX8_early 29 = .ok (.iload_n 2, 1) := by decide +kernel
theorem dX8_early_30 : decode cX8_early 30 = .ok (.invokevirtual 418, 3) := by decide +kernel
theorem dX8_early_33 : decode cX8_early 33 = .ok (.aload_n 0, 1) := by decide +kernel
theorem dX8_early_34 : decode cX8_early 34 = .ok (.getfield 52, 3) := by decide +kernel
theorem dX8_early_37 : decode cX8_early 37 = .ok (.iload_n 1, 1) := by decide +kernel
theorem dX8_early_38 : decode cX8_early 38 = .ok (.laload, 1) := by decide +kernel
theorem dX8_early_39 : decode cX8_early 39 = .ok (.lstore_n 3, 1) := by decide +kernel
theorem dX8_early_40 : decode cX8_early 40 = .ok (.aload_n 0, 1) := by decide +kernel
theorem dX8_early_41 : decode cX8_early 41 = .ok (.invokevirtual 260, 3) := by decide +kernel
theorem dX8_early_44 : decode cX8_early 44 = .ok (.lload_n 3, 1) := by decide +kernel
theorem dX8_early_45 : decode cX8_early 45 = .ok (.lreturn, 1) := by decide +kernel
theorem dX8_laysEarly_0 : decode cX8_laysEarly 0 = .ok (.aload_n 0, 1) := by decide +kernel
theorem dX8_laysEarly_1 : decode cX8_laysEarly 1 = .ok (.iconst 0, 1) := by decide +kernel
theorem dX8_laysEarly_2 : decode cX8_laysEarly 2 = .ok (.putfield 263, 3) := by decide +kernel
theorem dX8_laysEarly_5 : decode cX8_laysEarly 5 = .ok (.aload_n 0, 1) := by decide +kernel
theorem dX8_laysEarly_6 : decode cX8_laysEarly 6 = .ok (.invokevirtual 370, 3) := by decide +kernel
theorem dX8_laysEarly_9 : decode cX8_laysEarly 9 = .ok (.iconst 1, 1) := by decide +kernel
theorem dX8_laysEarly_10 : decode cX8_laysEarly 10 = .ok (.istore_n 2, 1) := by decide +kernel
theorem dX8_laysEarly_11 : decode cX8_laysEarly 11 = .ok (.iconst 0, 1) := by decide +kernel
theorem dX8_laysEarly_12 : decode cX8_laysEarly 12 = .ok (.istore_n 3, 1) := by decide +kernel
theorem dX8_laysEarly_13 : decode cX8_laysEarly 13 = .ok (.iload_n 3, 1) := by decide +kernel
theorem dX8_laysEarly_14 : decode cX8_laysEarly 14 = .ok (.iload_n 1, 1) := by decide +kernel
theorem dX8_laysEarly_15 : decode cX8_laysEarly 15 = .ok (.if_icmp .ge 18, 3) := by decide +kernel
theorem dX8_laysEarly_18 : decode cX8_laysEarly 18 = .ok (.iload_n 2, 1) := by decide +kernel
theorem dX8_laysEarly_19 : decode cX8_laysEarly 19 = .ok (.ifCond .eq 14, 3) := by decide +kernel
theorem dX8_laysEarly_22 : decode cX8_laysEarly 22 = .ok (.aload_n 0, 1) := by decide +kernel
theorem dX8_laysEarly_23 : decode cX8_laysEarly 23 = .ok (.invokevirtual 376, 3) := by decide +kernel
theorem dX8_laysEarly_26 : decode cX8_laysEarly 26 = .ok (.istore_n 2, 1) := by decide +kernel
theorem dX8_laysEarly_27 : decode cX8_laysEarly 27 = .ok (.iinc 3 1, 3) := by decide +kernel
theorem dX8_laysEarly_30 : decode cX8_laysEarly 30 = .ok (.goto (-17), 3) := by decide +kernel
theorem dX8_laysEarly_33 : decode cX8_laysEarly 33 = .ok (.return_, 1) := by decide +kernel
theorem dX8_gap_0 : decode cX8_gap 0 = .ok (.aload_n 0, 1) := by decide +kernel
theorem dX8_gap_1 : decode cX8_gap 1 = .ok (.aload_n 0, 1) := by decide +kernel
theorem dX8_gap_2 : decode cX8_gap 2 = .ok (.getfield 229, 3) := by decide +kernel
theorem dX8_gap_5 : decode cX8_gap 5 = .ok (.ifCond .le 7, 3) := by decide +kernel
theorem dX8_gap_8 : decode cX8_gap 8 = .ok (.iconst 1, 1) := by decide +kernel
theorem dX8_gap_9 : decode cX8_gap 9 = .ok (.goto 4, 3) := by decide +kernel
theorem dX8_gap_12 : decode cX8_gap 12 = .ok (.iconst 0, 1) := by decide +kernel
theorem dX8_gap_13 : decode cX8_gap 13 = .ok (.iload_n 1, 1) := by decide +kernel
theorem dX8_gap_14 : decode cX8_gap 14 = .ok (.i2l, 1) := by decide +kernel
theorem dX8_gap_15 : decode cX8_gap 15 = .ok (.lconst 0, 1) := by decide +kernel
theorem dX8_gap_16 : decode cX8_gap 16 = .ok (.ldc2_w 416, 3) := by decide +kernel
theorem dX8_gap_19 : decode cX8_gap 19 = .ok (.invokestatic 131, 3) := by decide +kernel
theorem dX8_gap_22 : decode cX8_gap 22 = .ok (.invokestatic 241, 3) := by decide +kernel
theorem dX8_gap_25 : decode cX8_gap 25 = .ok (.invokevirtual 245, 3) := by decide +kernel
theorem dX8_gap_28 : decode cX8_gap 28 = .ok (.ifCond .eq 7, 3) := by decide +kernel
theorem dX8_gap_31 : decode cX8_gap 31 = .ok (.ldc2_w 102, 3) := by decide +kernel
theorem dX8_gap_34 : decode cX8_gap 34 = .ok (.lreturn, 1) := by decide +kernel
theorem dX8_gap_35 : decode cX8_gap 35 = .ok (.aload_n 0, 1) := by decide +kernel
theorem dX8_gap_36 : decode cX8_gap 36 = .ok (.iload_n 1, 1) := by decide +kernel
theorem dX8_gap_37 : decode cX8_gap 37 = .ok (.invokevirtual 418, 3) := by decide +kernel
theorem dX8_gap_40 : decode cX8_gap 40 = .ok (.lconst 0, 1) := by decide +kernel
theorem dX8_gap_41 : decode cX8_gap 41 = .ok (.lstore_n 2, 1) := by decide +kernel
theorem dX8_gap_42 : decode cX8_gap 42 = .ok (.iconst 0, 1) := by decide +kernel
theorem dX8_gap_43 : decode cX8_gap 43 = .ok (.istore 4, 2) := by decide +kernel
theorem dX8_gap_45 : decode cX8_gap 45 = .ok (.iload 4, 2) := by decide +kernel
theorem dX8_gap_47 : decode cX8_gap 47 = .ok (.aload_n 0, 1) := by decide +kernel
theorem dX8_gap_48 : decode cX8_gap 48 = .ok (.getfield 288, 3) := by decide +kernel
theorem dX8_gap_51 : decode cX8_gap 51 = .ok (.if_icmp .ge 48, 3) := by decide +kernel
theorem dX8_gap_54 : decode cX8_gap 54 = .ok (.aload_n 0, 1) := by decide +kernel
theorem dX8_gap_55 : decode cX8_gap 55 = .ok (.iload 4, 2) := by decide +kernel
theorem dX8_gap_57 : decode cX8_gap 57 = .ok (.invokevirtual 337, 3) := by decide +kernel
theorem dX8_gap_60 : decode cX8_gap 60 = .ok (.lstore 5, 2) := by decide +kernel
theorem dX8_gap_62 : decode cX8_gap 62 = .ok (.lload 5, 2) := by decide +kernel
theorem dX8_gap_64 : decode cX8_gap 64 = .ok (.lconst 0, 1) := by decide +kernel
theorem dX8_gap_65 : decode cX8_gap 65 = .ok (.lcmp, 1) := by decide +kernel
theorem dX8_gap_66 : decode cX8_gap 66 = .ok (.ifCond .ge 9, 3) := by decide +kernel
theorem dX8_gap_69 : decode cX8_gap 69 = .ok (.lload 5, 2) := by decide +kernel
theorem dX8_gap_71 : decode cX8_gap 71 = .ok (.lneg, 1) := by decide +kernel
theorem dX8_gap_72 : decode cX8_gap 72 = .ok (.goto 5, 3) := by decide +kernel
theorem dX8_gap_75 : decode cX8_gap 75 = .ok (.lload 5, 2) := by decide +kernel
theorem dX8_gap_77 : decode cX8_gap 77 = .ok (.lstore 5, 2) := by decide +kernel
theorem dX8_gap_79 : decode cX8_gap 79 = .ok (.lload 5, 2) := by decide +kernel
theorem dX8_gap_81 : decode cX8_gap 81 = .ok (.lload_n 2, 1) := by decide +kernel
theorem dX8_gap_82 : decode cX8_gap 82 = .ok (.lcmp, 1) := by decide +kernel
theorem dX8_gap_83 : decode cX8_gap 83 = .ok (.ifCond .le 8, 3) := by decide +kernel
theorem dX8_gap_86 : decode cX8_gap 86 = .ok (.lload 5, 2) := by decide +kernel
theorem dX8_gap_88 : decode cX8_gap 88 = .ok (.goto 4, 3) := by decide +kernel
theorem dX8_gap_91 : decode cX8_gap 91 = .ok (.lload_n 2, 1) := by decide +kernel
theorem dX8_gap_92 : decode cX8_gap 92 = .ok (.lstore_n 2, 1) := by decide +kernel
theorem dX8_gap_93 : decode cX8_gap 93 = .ok (.iinc 4 1, 3) := by decide +kernel
theorem dX8_gap_96 : decode cX8_gap 96 = .ok (.goto (-51), 3) := by decide +kernel
theorem dX8_gap_99 : decode cX8_gap 99 = .ok (.aload_n 0, 1) := by decide +kernel
theorem dX8_gap_100 : decode cX8_gap 100 = .ok (.invokevirtual 260, 3) := by decide +kernel
theorem dX8_gap_103 : decode cX8_gap 103 = .ok (.lload_n 2, 1) := by decide +kernel
theorem dX8_gap_104 : decode cX8_gap 104 = .ok (.lreturn, 1) := by decide +kernel
theorem dX8_balance_0 : decode cX8_balance 0 = .ok (.aload_n 0, 1) := by decide +kernel
theorem dX8_balance_1 : decode cX8_balance 1 = .ok (.aload_n 0, 1) := by decide +kernel
theorem dX8_balance_2 : decode cX8_balance 2 = .ok (.iload_n 1, 1) := by decide +kernel
theorem dX8_balance_3 : decode cX8_balance 3 = .ok (.invokevirtual 421, 3) := by decide +kernel
theorem dX8_balance_6 : decode cX8_balance 6 = .ok (.invokestatic 330, 3) := by decide +kernel
theorem dX8_balance_9 : decode cX8_balance 9 = .ok (.invokevirtual 245, 3) := by decide +kernel
theorem dX8_balance_12 : decode cX8_balance 12 = .ok (.ifCond .eq 7, 3) := by decide +kernel
theorem dX8_balance_15 : decode cX8_balance 15 = .ok (.ldc2_w 102, 3) := by decide +kernel
theorem dX8_balance_18 : decode cX8_balance 18 = .ok (.lreturn, 1) := by decide +kernel
theorem dX8_balance_19 : decode cX8_balance 19 = .ok (.aload_n 0, 1) := by decide +kernel
theorem dX8_balance_20 : decode cX8_balance 20 = .ok (.iload_n 1, 1) := by decide +kernel
theorem dX8_balance_21 : decode cX8_balance 21 = .ok (.invokevirtual 272, 3) := by decide +kernel
theorem dX8_balance_24 : decode cX8_balance 24 = .ok (.ifCond .eq 14, 3) := by decide +kernel
theorem dX8_balance_27 : decode cX8_balance 27 = .ok (.aload_n 0, 1) := by decide +kernel
theorem dX8_balance_28 : decode cX8_balance 28 = .ok (.getfield 19, 3) := by decide +kernel
theorem dX8_balance_31 : decode cX8_balance 31 = .ok (.iload_n 1, 1) := by decide +kernel
theorem dX8_balance_32 : decode cX8_balance 32 = .ok (.iaload, 1) := by decide +kernel
theorem dX8_balance_33 : decode cX8_balance 33 = .ok (.ineg, 1) := by decide +kernel
theorem dX8_balance_34 : decode cX8_balance 34 = .ok (.i2l, 1) := by decide +kernel
theorem dX8_balance_35 : decode cX8_balance 35 = .ok (.goto 4, 3) := by decide +kernel
theorem dX8_balance_38 : decode cX8_balance 38 = .ok (.lconst 0, 1) := by decide +kernel
theorem dX8_balance_39 : decode cX8_balance 39 = .ok (.lstore_n 2, 1) := by decide +kernel
theorem dX8_balance_40 : decode cX8_balance 40 = .ok (.iconst 0, 1) := by decide +kernel
theorem dX8_balance_41 : decode cX8_balance 41 = .ok (.istore 4, 2) := by decide +kernel
theorem dX8_balance_43 : decode cX8_balance 43 = .ok (.iload 4, 2) := by decide +kernel
theorem dX8_balance_45 : decode cX8_balance 45 = .ok (.aload_n 0, 1) := by decide +kernel
theorem dX8_balance_46 : decode cX8_balance 46 = .ok (.getfield 232, 3) := by decide +kernel
theorem dX8_balance_49 : decode cX8_balance 49 = .ok (.if_icmp .ge 59, 3) := by decide +kernel
theorem dX8_balance_52 : decode cX8_balance 52 = .ok (.lload_n 2, 1) := by decide +kernel
theorem dX8_balance_53 : decode cX8_balance 53 = .ok (.aload_n 0, 1) := by decide +kernel
theorem dX8_balance_54 : decode cX8_balance 54 = .ok (.getfield 31, 3) := by decide +kernel
theorem dX8_balance_57 : decode cX8_balance 57 = .ok (.iload 4, 2) := by decide +kernel
theorem dX8_balance_59 : decode cX8_balance 59 = .ok (.iaload, 1) := by decide +kernel
theorem dX8_balance_60 : decode cX8_balance 60 = .ok (.iload_n 1, 1) := by decide +kernel
theorem dX8_balance_61 : decode cX8_balance 61 = .ok (.if_icmp .ne 13, 3) := by decide +kernel
theorem dX8_balance_64 : decode cX8_balance 64 = .ok (.aload_n 0, 1) := by decide +kernel
theorem dX8_balance_65 : decode cX8_balance 65 = .ok (.getfield 52, 3) := by decide +kernel
theorem dX8_balance_68 : decode cX8_balance 68 = .ok (.iload 4, 2) := by decide +kernel
theorem dX8_balance_70 : decode cX8_balance 70 = .ok (.laload, 1) := by decide +kernel
theorem dX8_balance_71 : decode cX8_balance 71 = .ok (.goto 4, 3) := by decide +kernel
theorem dX8_balance_74 : decode cX8_balance 74 = .ok (.lconst 0, 1) := by decide +kernel
theorem dX8_balance_75 : decode cX8_balance 75 = .ok (.ladd, 1) := by decide +kernel
theorem dX8_balance_76 : decode cX8_balance 76 = .ok (.lstore_n 2, 1) := by decide +kernel
theorem dX8_balance_77 : decode cX8_balance 77 = .ok (.lload_n 2, 1) := by decide +kernel
theorem dX8_balance_78 : decode cX8_balance 78 = .ok (.aload_n 0, 1) := by decide +kernel
theorem dX8_balance_79 : decode cX8_balance 79 = .ok (.getfield 28, 3) := by decide +kernel
theorem dX8_balance_82 : decode cX8_balance 82 = .ok (.iload 4, 2) := by decide +kernel
theorem dX8_balance_84 : decode cX8_balance 84 = .ok (.iaload, 1) := by decide +kernel
theorem dX8_balance_85 : decode cX8_balance 85 = .ok (.iload_n 1, 1) := by decide +kernel
theorem dX8_balance_86 : decode cX8_balance 86 = .ok (.if_icmp .ne 13, 3) := by decide +kernel
theorem dX8_balance_89 : decode cX8_balance 89 = .ok (.aload_n 0, 1) := by decide +kernel
theorem dX8_balance_90 : decode cX8_balance 90 = .ok (.getfield 52, 3) := by decide +kernel
theorem dX8_balance_93 : decode cX8_balance 93 = .ok (.iload 4, 2) := by decide +kernel
theorem dX8_balance_95 : decode cX8_balance 95 = .ok (.laload, 1) := by decide +kernel
theorem dX8_balance_96 : decode cX8_balance 96 = .ok (.goto 4, 3) := by decide +kernel
theorem dX8_balance_99 : decode cX8_balance 99 = .ok (.lconst 0, 1) := by decide +kernel
theorem dX8_balance_100 : decode cX8_balance 100 = .ok (.lsub, 1) := by decide +kernel
theorem dX8_balance_101 : decode cX8_balance 101 = .ok (.lstore_n 2, 1) := by decide +kernel
theorem dX8_balance_102 : decode cX8_balance 102 = .ok (.iinc 4 1, 3) := by decide +kernel
theorem dX8_balance_105 : decode cX8_balance 105 = .ok (.goto (-62), 3) := by decide +kernel
theorem dX8_balance_108 : decode cX8_balance 108 = .ok (.lload_n 2, 1) := by decide +kernel
theorem dX8_balance_109 : decode cX8_balance 109 = .ok (.lreturn, 1) := by decide +kernel
theorem dX8_work_0 : decode cX8_work 0 = .ok (.aload_n 0, 1) := by decide +kernel
theorem dX8_work_1 : decode cX8_work 1 = .ok (.aload_n 0, 1) := by decide +kernel
theorem dX8_work_2 : decode cX8_work 2 = .ok (.getfield 229, 3) := by decide +kernel
theorem dX8_work_5 : decode cX8_work 5 = .ok (.ifCond .le 7, 3) := by decide +kernel
theorem dX8_work_8 : decode cX8_work 8 = .ok (.iconst 1, 1) := by decide +kernel
theorem dX8_work_9 : decode cX8_work 9 = .ok (.goto 4, 3) := by decide +kernel
theorem dX8_work_12 : decode cX8_work 12 = .ok (.iconst 0, 1) := by decide +kernel
theorem dX8_work_13 : decode cX8_work 13 = .ok (.invokestatic 330, 3) := by decide +kernel
theorem dX8_work_16 : decode cX8_work 16 = .ok (.invokevirtual 245, 3) := by decide +kernel
theorem dX8_work_19 : decode cX8_work 19 = .ok (.ifCond .eq 7, 3) := by decide +kernel
theorem dX8_work_22 : decode cX8_work 22 = .ok (.ldc2_w 102, 3) := by decide +kernel
theorem dX8_work_25 : decode cX8_work 25 = .ok (.lreturn, 1) := by decide +kernel
theorem dX8_work_26 : decode cX8_work 26 = .ok (.lconst 0, 1) := by decide +kernel
theorem dX8_work_27 : decode cX8_work 27 = .ok (.lstore_n 1, 1) := by decide +kernel
theorem dX8_work_28 : decode cX8_work 28 = .ok (.iconst 0, 1) := by decide +kernel
theorem dX8_work_29 : decode cX8_work 29 = .ok (.istore_n 3, 1) := by decide +kernel
theorem dX8_work_30 : decode cX8_work 30 = .ok (.iload_n 3, 1) := by decide +kernel
theorem dX8_work_31 : decode cX8_work 31 = .ok (.aload_n 0, 1) := by decide +kernel
theorem dX8_work_32 : decode cX8_work 32 = .ok (.getfield 232, 3) := by decide +kernel
theorem dX8_work_35 : decode cX8_work 35 = .ok (.if_icmp .ge 52, 3) := by decide +kernel
theorem dX8_work_38 : decode cX8_work 38 = .ok (.lload_n 1, 1) := by decide +kernel
theorem dX8_work_39 : decode cX8_work 39 = .ok (.aload_n 0, 1) := by decide +kernel
theorem dX8_work_40 : decode cX8_work 40 = .ok (.getfield 34, 3) := by decide +kernel
theorem dX8_work_43 : decode cX8_work 43 = .ok (.iload_n 3, 1) := by decide +kernel
theorem dX8_work_44 : decode cX8_work 44 = .ok (.iaload, 1) := by decide +kernel
theorem dX8_work_45 : decode cX8_work 45 = .ok (.iconst 2, 1) := by decide +kernel
theorem dX8_work_46 : decode cX8_work 46 = .ok (.if_icmp .ne 32, 3) := by decide +kernel
theorem dX8_work_49 : decode cX8_work 49 = .ok (.aload_n 0, 1) := by decide +kernel
theorem dX8_work_50 : decode cX8_work 50 = .ok (.iload_n 3, 1) := by decide +kernel
theorem dX8_work_51 : decode cX8_work 51 = .ok (.invokevirtual 269, 3) := by decide +kernel
theorem dX8_work_54 : decode cX8_work 54 = .ok (.ifCond .eq 24, 3) := by decide +kernel
theorem dX8_work_57 : decode cX8_work 57 = .ok (.aload_n 0, 1) := by decide +kernel
theorem dX8_work_58 : decode cX8_work 58 = .ok (.getfield 52, 3) := by decide +kernel
theorem dX8_work_61 : decode cX8_work 61 = .ok (.iload_n 3, 1) := by decide +kernel
theorem dX8_work_62 : decode cX8_work 62 = .ok (.laload, 1) := by decide +kernel
theorem dX8_work_63 : decode cX8_work 63 = .ok (.aload_n 0, 1) := by decide +kernel
theorem dX8_work_64 : decode cX8_work 64 = .ok (.iload_n 3, 1) := by decide +kernel
theorem dX8_work_65 : decode cX8_work 65 = .ok (.aload_n 0, 1) := by decide +kernel
theorem dX8_work_66 : decode cX8_work 66 = .ok (.getfield 52, 3) := by decide +kernel
theorem dX8_work_69 : decode cX8_work 69 = .ok (.iload_n 3, 1) := by decide +kernel
theorem dX8_work_70 : decode cX8_work 70 = .ok (.laload, 1) := by decide +kernel
theorem dX8_work_71 : decode cX8_work 71 = .ok (.invokevirtual 308, 3) := by decide +kernel
theorem dX8_work_74 : decode cX8_work 74 = .ok (.lmul, 1) := by decide +kernel
theorem dX8_work_75 : decode cX8_work 75 = .ok (.goto 4, 3) := by decide +kernel
theorem dX8_work_78 : decode cX8_work 78 = .ok (.lconst 0, 1) := by decide +kernel
theorem dX8_work_79 : decode cX8_work 79 = .ok (.ladd, 1) := by decide +kernel
theorem dX8_work_80 : decode cX8_work 80 = .ok (.lstore_n 1, 1) := by decide +kernel
theorem dX8_work_81 : decode cX8_work 81 = .ok (.iinc 3 1, 3) := by decide +kernel
theorem dX8_work_84 : decode cX8_work 84 = .ok (.goto (-54), 3) := by decide +kernel
theorem dX8_work_87 : decode cX8_work 87 = .ok (.lload_n 1, 1) := by decide +kernel
theorem dX8_work_88 : decode cX8_work 88 = .ok (.lreturn, 1) := by decide +kernel
theorem dX8_solvesWith_0 : decode cX8_solvesWith 0 = .ok (.aload_n 0, 1) := by decide +kernel
theorem dX8_solvesWith_1 : decode cX8_solvesWith 1 = .ok (.iload_n 1, 1) := by decide +kernel
theorem dX8_solvesWith_2 : decode cX8_solvesWith 2 = .ok (.putfield 74, 3) := by decide +kernel
theorem dX8_solvesWith_5 : decode cX8_solvesWith 5 = .ok (.aload_n 0, 1) := by decide +kernel
theorem dX8_solvesWith_6 : decode cX8_solvesWith 6 = .ok (.iload_n 2, 1) := by decide +kernel
theorem dX8_solvesWith_7 : decode cX8_solvesWith 7 = .ok (.putfield 301, 3) := by decide +kernel
theorem dX8_solvesWith_10 : decode cX8_solvesWith 10 = .ok (.aload_n 0, 1) := by decide +kernel
theorem dX8_solvesWith_11 : decode cX8_solvesWith 11 = .ok (.invokevirtual 260, 3) := by decide +kernel
theorem dX8_solvesWith_14 : decode cX8_solvesWith 14 = .ok (.return_, 1) := by decide +kernel
theorem dX8_solvesAgain_0 : decode cX8_solvesAgain 0 = .ok (.aload_n 0, 1) := by decide +kernel
theorem dX8_solvesAgain_1 : decode cX8_solvesAgain 1 = .ok (.iconst (-1), 1) := by decide +kernel
theorem dX8_solvesAgain_2 : decode cX8_solvesAgain 2 = .ok (.putfield 74, 3) := by decide +kernel
theorem dX8_solvesAgain_5 : decode cX8_solvesAgain 5 = .ok (.aload_n 0, 1) := by decide +kernel
theorem dX8_solvesAgain_6 : decode cX8_solvesAgain 6 = .ok (.invokevirtual 260, 3) := by decide +kernel
theorem dX8_solvesAgain_9 : decode cX8_solvesAgain 9 = .ok (.return_, 1) := by decide +kernel
theorem dX8_isEnough_0 : decode cX8_isEnough 0 = .ok (.aload_n 0, 1) := by decide +kernel
theorem dX8_isEnough_1 : decode cX8_isEnough 1 = .ok (.invokevirtual 413, 3) := by decide +kernel
theorem dX8_isEnough_4 : decode cX8_isEnough 4 = .ok (.istore_n 2, 1) := by decide +kernel
theorem dX8_isEnough_5 : decode cX8_isEnough 5 = .ok (.aload_n 0, 1) := by decide +kernel
theorem dX8_isEnough_6 : decode cX8_isEnough 6 = .ok (.invokevirtual 391, 3) := by decide +kernel
theorem dX8_isEnough_9 : decode cX8_isEnough 9 = .ok (.ifCond .ne 18, 3) := by decide +kernel
theorem dX8_isEnough_12 : decode cX8_isEnough 12 = .ok (.aload_n 0, 1) := by decide +kernel
theorem dX8_isEnough_13 : decode cX8_isEnough 13 = .ok (.iload_n 2, 1) := by decide +kernel
theorem dX8_isEnough_14 : decode cX8_isEnough 14 = .ok (.invokevirtual 410, 3) := by decide +kernel
theorem dX8_isEnough_17 : decode cX8_isEnough 17 = .ok (.iload_n 1, 1) := by decide +kernel
theorem dX8_isEnough_18 : decode cX8_isEnough 18 = .ok (.i2l, 1) := by decide +kernel
theorem dX8_isEnough_19 : decode cX8_isEnough 19 = .ok (.lcmp, 1) := by decide +kernel
theorem dX8_isEnough_20 : decode cX8_isEnough 20 = .ok (.ifCond .lt 7, 3) := by decide +kernel
theorem dX8_isEnough_23 : decode cX8_isEnough 23 = .ok (.iconst 1, 1) := by decide +kernel
theorem dX8_isEnough_24 : decode cX8_isEnough 24 = .ok (.goto 4, 3) := by decide +kernel
theorem dX8_isEnough_27 : decode cX8_isEnough 27 = .ok (.iconst 0, 1) := by decide +kernel
theorem dX8_isEnough_28 : decode cX8_isEnough 28 = .ok (.ireturn, 1) := by decide +kernel
theorem dX8_fire_0 : decode cX8_fire 0 = .ok (.aload_n 0, 1) := by decide +kernel
theorem dX8_fire_1 : decode cX8_fire 1 = .ok (.aload_n 0, 1) := by decide +kernel
theorem dX8_fire_2 : decode cX8_fire 2 = .ok (.iload_n 1, 1) := by decide +kernel
theorem dX8_fire_3 : decode cX8_fire 3 = .ok (.invokevirtual 421, 3) := by decide +kernel
theorem dX8_fire_6 : decode cX8_fire 6 = .ok (.iload_n 2, 1) := by decide +kernel
theorem dX8_fire_7 : decode cX8_fire 7 = .ok (.i2l, 1) := by decide +kernel
theorem dX8_fire_8 : decode cX8_fire 8 = .ok (.ldc2_w 424, 3) := by decide +kernel
theorem dX8_fire_11 : decode cX8_fire 11 = .ok (.ldc2_w 426, 3) := by decide +kernel
theorem dX8_fire_14 : decode cX8_fire 14 = .ok (.invokestatic 131, 3) := by decide +kernel
theorem dX8_fire_17 : decode cX8_fire 17 = .ok (.invokestatic 241, 3) := by decide +kernel
theorem dX8_fire_20 : decode cX8_fire 20 = .ok (.invokevirtual 245, 3) := by decide +kernel
theorem dX8_fire_23 : decode cX8_fire 23 = .ok (.ifCond .eq 5, 3) := by decide +kernel
theorem dX8_fire_26 : decode cX8_fire 26 = .ok (.iconst (-1), 1) := by decide +kernel
theorem dX8_fire_27 : decode cX8_fire 27 = .ok (.ireturn, 1) := by decide +kernel
theorem dX8_fire_28 : decode cX8_fire 28 = .ok (.bipush (-2), 2) := by decide +kernel
theorem dX8_fire_30 : decode cX8_fire 30 = .ok (.istore_n 3, 1) := by decide +kernel
theorem dX8_fire_31 : decode cX8_fire 31 = .ok (.bipush 60, 2) := by decide +kernel
theorem dX8_fire_33 : decode cX8_fire 33 = .ok (.istore 4, 2) := by decide +kernel
theorem dX8_fire_35 : decode cX8_fire 35 = .ok (.iload 4, 2) := by decide +kernel
theorem dX8_fire_37 : decode cX8_fire 37 = .ok (.ifCond .lt 38, 3) := by decide +kernel
theorem dX8_fire_40 : decode cX8_fire 40 = .ok (.iload_n 3, 1) := by decide +kernel
theorem dX8_fire_41 : decode cX8_fire 41 = .ok (.bipush (-2), 2) := by decide +kernel
theorem dX8_fire_43 : decode cX8_fire 43 = .ok (.if_icmp .ne 32, 3) := by decide +kernel
theorem dX8_fire_46 : decode cX8_fire 46 = .ok (.aload_n 0, 1) := by decide +kernel
theorem dX8_fire_47 : decode cX8_fire 47 = .ok (.iload_n 1, 1) := by decide +kernel
theorem dX8_fire_48 : decode cX8_fire 48 = .ok (.iload 4, 2) := by decide +kernel
theorem dX8_fire_50 : decode cX8_fire 50 = .ok (.invokevirtual 428, 3) := by decide +kernel
theorem dX8_fire_53 : decode cX8_fire 53 = .ok (.aload_n 0, 1) := by decide +kernel
theorem dX8_fire_54 : decode cX8_fire 54 = .ok (.iload_n 2, 1) := by decide +kernel
theorem dX8_fire_55 : decode cX8_fire 55 = .ok (.invokevirtual 432, 3) := by decide +kernel
theorem dX8_fire_58 : decode cX8_fire 58 = .ok (.ifCond .eq 8, 3) := by decide +kernel
theorem dX8_fire_61 : decode cX8_fire 61 = .ok (.iload 4, 2) := by decide +kernel
theorem dX8_fire_63 : decode cX8_fire 63 = .ok (.goto 5, 3) := by decide +kernel
theorem dX8_fire_66 : decode cX8_fire 66 = .ok (.bipush (-2), 2) := by decide +kernel
theorem dX8_fire_68 : decode cX8_fire 68 = .ok (.istore_n 3, 1) := by decide +kernel
theorem dX8_fire_69 : decode cX8_fire 69 = .ok (.iinc 4 (-1), 3) := by decide +kernel
theorem dX8_fire_72 : decode cX8_fire 72 = .ok (.goto (-37), 3) := by decide +kernel
theorem dX8_fire_75 : decode cX8_fire 75 = .ok (.aload_n 0, 1) := by decide +kernel
theorem dX8_fire_76 : decode cX8_fire 76 = .ok (.invokevirtual 435, 3) := by decide +kernel
theorem dX8_fire_79 : decode cX8_fire 79 = .ok (.iload_n 3, 1) := by decide +kernel
theorem dX8_fire_80 : decode cX8_fire 80 = .ok (.ireturn, 1) := by decide +kernel
theorem dX8_solvesShared_0 : decode cX8_solvesShared 0 = .ok (.aload_n 0, 1) := by decide +kernel
theorem dX8_solvesShared_1 : decode cX8_solvesShared 1 = .ok (.iload_n 1, 1) := by decide +kernel
theorem dX8_solvesShared_2 : decode cX8_solvesShared 2 = .ok (.putfield 77, 3) := by decide +kernel
theorem dX8_solvesShared_5 : decode cX8_solvesShared 5 = .ok (.aload_n 0, 1) := by decide +kernel
theorem dX8_solvesShared_6 : decode cX8_solvesShared 6 = .ok (.invokevirtual 260, 3) := by decide +kernel
theorem dX8_solvesShared_9 : decode cX8_solvesShared 9 = .ok (.aload_n 0, 1) := by decide +kernel
theorem dX8_solvesShared_10 : decode cX8_solvesShared 10 = .ok (.bipush 100, 2) := by decide +kernel
theorem dX8_solvesShared_12 : decode cX8_solvesShared 12 = .ok (.putfield 77, 3) := by decide +kernel
theorem dX8_solvesShared_15 : decode cX8_solvesShared 15 = .ok (.return_, 1) := by decide +kernel
theorem dX8_scaled_0 : decode cX8_scaled 0 = .ok (.aload_n 0, 1) := by decide +kernel
theorem dX8_scaled_1 : decode cX8_scaled 1 = .ok (.aload_n 0, 1) := by decide +kernel
theorem dX8_scaled_2 : decode cX8_scaled 2 = .ok (.getfield 229, 3) := by decide +kernel
theorem dX8_scaled_5 : decode cX8_scaled 5 = .ok (.ifCond .le 7, 3) := by decide +kernel
theorem dX8_scaled_8 : decode cX8_scaled 8 = .ok (.iconst 1, 1) := by decide +kernel
theorem dX8_scaled_9 : decode cX8_scaled 9 = .ok (.goto 4, 3) := by decide +kernel
theorem dX8_scaled_12 : decode cX8_scaled 12 = .ok (.iconst 0, 1) := by decide +kernel
theorem dX8_scaled_13 : decode cX8_scaled 13 = .ok (.iload_n 1, 1) := by decide +kernel
theorem dX8_scaled_14 : decode cX8_scaled 14 = .ok (.i2l, 1) := by decide +kernel
theorem dX8_scaled_15 : decode cX8_scaled 15 = .ok (.lconst 0, 1) := by decide +kernel
theorem dX8_scaled_16 : decode cX8_scaled 16 = .ok (.ldc2_w 438, 3) := by decide +kernel
theorem dX8_scaled_19 : decode cX8_scaled 19 = .ok (.invokestatic 131, 3) := by decide +kernel
theorem dX8_scaled_22 : decode cX8_scaled 22 = .ok (.invokestatic 241, 3) := by decide +kernel
theorem dX8_scaled_25 : decode cX8_scaled 25 = .ok (.invokevirtual 245, 3) := by decide +kernel
theorem dX8_scaled_28 : decode cX8_scaled 28 = .ok (.ifCond .eq 7, 3) := by decide +kernel
theorem dX8_scaled_31 : decode cX8_scaled 31 = .ok (.ldc2_w 102, 3) := by decide +kernel
theorem dX8_scaled_34 : decode cX8_scaled 34 = .ok (.lreturn, 1) := by decide +kernel
theorem dX8_scaled_35 : decode cX8_scaled 35 = .ok (.aload_n 0, 1) := by decide +kernel
theorem dX8_scaled_36 : decode cX8_scaled 36 = .ok (.iload_n 1, 1) := by decide +kernel
theorem dX8_scaled_37 : decode cX8_scaled 37 = .ok (.invokevirtual 440, 3) := by decide +kernel
theorem dX8_scaled_40 : decode cX8_scaled 40 = .ok (.aload_n 0, 1) := by decide +kernel
theorem dX8_scaled_41 : decode cX8_scaled 41 = .ok (.invokevirtual 391, 3) := by decide +kernel
theorem dX8_scaled_44 : decode cX8_scaled 44 = .ok (.ifCond .eq 7, 3) := by decide +kernel
theorem dX8_scaled_47 : decode cX8_scaled 47 = .ok (.iconst 1, 1) := by decide +kernel
theorem dX8_scaled_48 : decode cX8_scaled 48 = .ok (.goto 4, 3) := by decide +kernel
theorem dX8_scaled_51 : decode cX8_scaled 51 = .ok (.iconst 0, 1) := by decide +kernel
theorem dX8_scaled_52 : decode cX8_scaled 52 = .ok (.istore_n 2, 1) := by decide +kernel
theorem dX8_scaled_53 : decode cX8_scaled 53 = .ok (.iload_n 2, 1) := by decide +kernel
theorem dX8_scaled_54 : decode cX8_scaled 54 = .ok (.ifCond .eq 7, 3) := by decide +kernel
theorem dX8_scaled_57 : decode cX8_scaled 57 = .ok (.lconst 0, 1) := by decide +kernel
theorem dX8_scaled_58 : decode cX8_scaled 58 = .ok (.goto 11, 3) := by decide +kernel
theorem dX8_scaled_61 : decode cX8_scaled 61 = .ok (.aload_n 0, 1) := by decide +kernel
theorem dX8_scaled_62 : decode cX8_scaled 62 = .ok (.aload_n 0, 1) := by decide +kernel
theorem dX8_scaled_63 : decode cX8_scaled 63 = .ok (.invokevirtual 413, 3) := by decide +kernel
theorem dX8_scaled_66 : decode cX8_scaled 66 = .ok (.invokevirtual 410, 3) := by decide +kernel
theorem dX8_scaled_69 : decode cX8_scaled 69 = .ok (.lstore_n 3, 1) := by decide +kernel
theorem dX8_scaled_70 : decode cX8_scaled 70 = .ok (.aload_n 0, 1) := by decide +kernel
theorem dX8_scaled_71 : decode cX8_scaled 71 = .ok (.invokevirtual 260, 3) := by decide +kernel
theorem dX8_scaled_74 : decode cX8_scaled 74 = .ok (.iload_n 2, 1) := by decide +kernel
theorem dX8_scaled_75 : decode cX8_scaled 75 = .ok (.ifCond .eq 11, 3) := by decide +kernel
theorem dX8_scaled_78 : decode cX8_scaled 78 = .ok (.aload_n 0, 1) := by decide +kernel
theorem dX8_scaled_79 : decode cX8_scaled 79 = .ok (.iconst 5, 1) := by decide +kernel
theorem dX8_scaled_80 : decode cX8_scaled 80 = .ok (.invokevirtual 407, 3) := by decide +kernel
theorem dX8_scaled_83 : decode cX8_scaled 83 = .ok (.goto 4, 3) := by decide +kernel
theorem dX8_scaled_86 : decode cX8_scaled 86 = .ok (.lload_n 3, 1) := by decide +kernel
theorem dX8_scaled_87 : decode cX8_scaled 87 = .ok (.lreturn, 1) := by decide +kernel
theorem dX8_most_0 : decode cX8_most 0 = .ok (.aload_n 0, 1) := by decide +kernel
theorem dX8_most_1 : decode cX8_most 1 = .ok (.aload_n 0, 1) := by decide +kernel
theorem dX8_most_2 : decode cX8_most 2 = .ok (.getfield 229, 3) := by decide +kernel
theorem dX8_most_5 : decode cX8_most 5 = .ok (.ifCond .le 7, 3) := by decide +kernel
theorem dX8_most_8 : decode cX8_most 8 = .ok (.iconst 1, 1) := by decide +kernel
theorem dX8_most_9 : decode cX8_most 9 = .ok (.goto 4, 3) := by decide +kernel
theorem dX8_most_12 : decode cX8_most 12 = .ok (.iconst 0, 1) := by decide +kernel
theorem dX8_most_13 : decode cX8_most 13 = .ok (.iload_n 1, 1) := by decide +kernel
theorem dX8_most_14 : decode cX8_most 14 = .ok (.i2l, 1) := by decide +kernel
theorem dX8_most_15 : decode cX8_most 15 = .ok (.ldc2_w 424, 3) := by decide +kernel
theorem dX8_most_18 : decode cX8_most 18 = .ok (.ldc2_w 426, 3) := by decide +kernel
theorem dX8_most_21 : decode cX8_most 21 = .ok (.invokestatic 131, 3) := by decide +kernel
theorem dX8_most_24 : decode cX8_most 24 = .ok (.invokestatic 241, 3) := by decide +kernel
theorem dX8_most_27 : decode cX8_most 27 = .ok (.invokevirtual 245, 3) := by decide +kernel
theorem dX8_most_30 : decode cX8_most 30 = .ok (.ifCond .eq 5, 3) := by decide +kernel
theorem dX8_most_33 : decode cX8_most 33 = .ok (.iconst (-1), 1) := by decide +kernel
theorem dX8_most_34 : decode cX8_most 34 = .ok (.ireturn, 1) := by decide +kernel
theorem dX8_most_35 : decode cX8_most 35 = .ok (.bipush (-2), 2) := by decide +kernel
theorem dX8_most_37 : decode cX8_most 37 = .ok (.istore_n 2, 1) := by decide +kernel
theorem dX8_most_38 : decode cX8_most 38 = .ok (.sipush 300, 3) := by decide +kernel
theorem dX8_most_41 : decode cX8_most 41 = .ok (.istore_n 3, 1) := by decide +kernel
theorem dX8_most_42 : decode cX8_most 42 = .ok (.iload_n 3, 1) := by decide +kernel
theorem dX8_most_43 : decode cX8_most 43 = .ok (.ifCond .lt 35, 3) := by decide +kernel
theorem dX8_most_46 : decode cX8_most 46 = .ok (.iload_n 2, 1) := by decide +kernel
theorem dX8_most_47 : decode cX8_most 47 = .ok (.bipush (-2), 2) := by decide +kernel
theorem dX8_most_49 : decode cX8_most 49 = .ok (.if_icmp .ne 29, 3) := by decide +kernel
theorem dX8_most_52 : decode cX8_most 52 = .ok (.aload_n 0, 1) := by decide +kernel
theorem dX8_most_53 : decode cX8_most 53 = .ok (.iload_n 3, 1) := by decide +kernel
theorem dX8_most_54 : decode cX8_most 54 = .ok (.invokevirtual 440, 3) := by decide +kernel
theorem dX8_most_57 : decode cX8_most 57 = .ok (.aload_n 0, 1) := by decide +kernel
theorem dX8_most_58 : decode cX8_most 58 = .ok (.iload_n 1, 1) := by decide +kernel
theorem dX8_most_59 : decode cX8_most 59 = .ok (.invokevirtual 432, 3) := by decide +kernel
theorem dX8_most_62 : decode cX8_most 62 = .ok (.ifCond .eq 7, 3) := by decide +kernel
theorem dX8_most_65 : decode cX8_most 65 = .ok (.iload_n 3, 1) := by decide +kernel
theorem dX8_most_66 : decode cX8_most 66 = .ok (.goto 5, 3) := by decide +kernel
theorem dX8_most_69 : decode cX8_most 69 = .ok (.bipush (-2), 2) := by decide +kernel
theorem dX8_most_71 : decode cX8_most 71 = .ok (.istore_n 2, 1) := by decide +kernel
theorem dX8_most_72 : decode cX8_most 72 = .ok (.iinc 3 (-1), 3) := by decide +kernel
theorem dX8_most_75 : decode cX8_most 75 = .ok (.goto (-33), 3) := by decide +kernel
theorem dX8_most_78 : decode cX8_most 78 = .ok (.aload_n 0, 1) := by decide +kernel
theorem dX8_most_79 : decode cX8_most 79 = .ok (.invokevirtual 260, 3) := by decide +kernel
theorem dX8_most_82 : decode cX8_most 82 = .ok (.iload_n 2, 1) := by decide +kernel
theorem dX8_most_83 : decode cX8_most 83 = .ok (.ireturn, 1) := by decide +kernel
theorem dX8_pairs_0 : decode cX8_pairs 0 = .ok (.aload_n 0, 1) := by decide +kernel
theorem dX8_pairs_1 : decode cX8_pairs 1 = .ok (.invokevirtual 443, 3) := by decide +kernel
theorem dX8_pairs_4 : decode cX8_pairs 4 = .ok (.istore_n 1, 1) := by decide +kernel
theorem dX8_pairs_5 : decode cX8_pairs 5 = .ok (.aload_n 0, 1) := by decide +kernel
theorem dX8_pairs_6 : decode cX8_pairs 6 = .ok (.getfield 99, 3) := by decide +kernel
theorem dX8_pairs_9 : decode cX8_pairs 9 = .ok (.ifCond .eq 5, 3) := by decide +kernel
theorem dX8_pairs_12 : decode cX8_pairs 12 = .ok (.iconst (-1), 1) := by decide +kernel
theorem dX8_pairs_13 : decode cX8_pairs 13 = .ok (.ireturn, 1) := by decide +kernel
theorem dX8_pairs_14 : decode cX8_pairs 14 = .ok (.aload_n 0, 1) := by decide +kernel
theorem dX8_pairs_15 : decode cX8_pairs 15 = .ok (.invokevirtual 391, 3) := by decide +kernel
theorem dX8_pairs_18 : decode cX8_pairs 18 = .ok (.istore_n 2, 1) := by decide +kernel
theorem dX8_pairs_19 : decode cX8_pairs 19 = .ok (.iload_n 1, 1) := by decide +kernel
theorem dX8_pairs_20 : decode cX8_pairs 20 = .ok (.aload_n 0, 1) := by decide +kernel
theorem dX8_pairs_21 : decode cX8_pairs 21 = .ok (.getfield 235, 3) := by decide +kernel
theorem dX8_pairs_24 : decode cX8_pairs 24 = .ok (.ior, 1) := by decide +kernel
theorem dX8_pairs_25 : decode cX8_pairs 25 = .ok (.istore_n 3, 1) := by decide +kernel
theorem dX8_pairs_26 : decode cX8_pairs 26 = .ok (.iconst 0, 1) := by decide +kernel
theorem dX8_pairs_27 : decode cX8_pairs 27 = .ok (.istore 4, 2) := by decide +kernel
theorem dX8_pairs_29 : decode cX8_pairs 29 = .ok (.iconst 0, 1) := by decide +kernel
theorem dX8_pairs_30 : decode cX8_pairs 30 = .ok (.istore 5, 2) := by decide +kernel
theorem dX8_pairs_32 : decode cX8_pairs 32 = .ok (.iload 5, 2) := by decide +kernel
theorem dX8_pairs_34 : decode cX8_pairs 34 = .ok (.aload_n 0, 1) := by decide +kernel
theorem dX8_pairs_35 : decode cX8_pairs 35 = .ok (.getfield 232, 3) := by decide +kernel
theorem dX8_pairs_38 : decode cX8_pairs 38 = .ok (.if_icmp .ge 85, 3) := by decide +kernel
theorem dX8_pairs_41 : decode cX8_pairs 41 = .ok (.iconst 0, 1) := by decide +kernel
theorem dX8_pairs_42 : decode cX8_pairs 42 = .ok (.istore 6, 2) := by decide +kernel
theorem dX8_pairs_44 : decode cX8_pairs 44 = .ok (.iload 6, 2) := by decide +kernel
theorem dX8_pairs_46 : decode cX8_pairs 46 = .ok (.iload 5, 2) := by decide +kernel
theorem dX8_pairs_48 : decode cX8_pairs 48 = .ok (.if_icmp .ge 69, 3) := by decide +kernel
theorem dX8_pairs_51 : decode cX8_pairs 51 = .ok (.iload_n 3, 1) := by decide +kernel
theorem dX8_pairs_52 : decode cX8_pairs 52 = .ok (.iload 5, 2) := by decide +kernel
theorem dX8_pairs_54 : decode cX8_pairs 54 = .ok (.ishr, 1) := by decide +kernel
theorem dX8_pairs_55 : decode cX8_pairs 55 = .ok (.iconst 1, 1) := by decide +kernel
theorem dX8_pairs_56 : decode cX8_pairs 56 = .ok (.iand, 1) := by decide +kernel
theorem dX8_pairs_57 : decode cX8_pairs 57 = .ok (.ifCond .ne 16, 3) := by decide +kernel
theorem dX8_pairs_60 : decode cX8_pairs 60 = .ok (.iload_n 3, 1) := by decide +kernel
theorem dX8_pairs_61 : decode cX8_pairs 61 = .ok (.iload 6, 2) := by decide +kernel
theorem dX8_pairs_63 : decode cX8_pairs 63 = .ok (.ishr, 1) := by decide +kernel
theorem dX8_pairs_64 : decode cX8_pairs 64 = .ok (.iconst 1, 1) := by decide +kernel
theorem dX8_pairs_65 : decode cX8_pairs 65 = .ok (.iand, 1) := by decide +kernel
theorem dX8_pairs_66 : decode cX8_pairs 66 = .ok (.ifCond .ne 7, 3) := by decide +kernel
theorem dX8_pairs_69 : decode cX8_pairs 69 = .ok (.iconst 1, 1) := by decide +kernel
theorem dX8_pairs_70 : decode cX8_pairs 70 = .ok (.goto 4, 3) := by decide +kernel
theorem dX8_pairs_73 : decode cX8_pairs 73 = .ok (.iconst 0, 1) := by decide +kernel
theorem dX8_pairs_74 : decode cX8_pairs 74 = .ok (.istore 7, 2) := by decide +kernel
theorem dX8_pairs_76 : decode cX8_pairs 76 = .ok (.iload 4, 2) := by decide +kernel
theorem dX8_pairs_78 : decode cX8_pairs 78 = .ok (.iload 7, 2) := by decide +kernel
theorem dX8_pairs_80 : decode cX8_pairs 80 = .ok (.ifCond .eq 27, 3) := by decide +kernel
theorem dX8_pairs_83 : decode cX8_pairs 83 = .ok (.aload_n 0, 1) := by decide +kernel
theorem dX8_pairs_84 : decode cX8_pairs 84 = .ok (.iconst 1, 1) := by decide +kernel
theorem dX8_pairs_85 : decode cX8_pairs 85 = .ok (.iload 5, 2) := by decide +kernel
theorem dX8_pairs_87 : decode cX8_pairs 87 = .ok (.ishl, 1) := by decide +kernel
theorem dX8_pairs_88 : decode cX8_pairs 88 = .ok (.iconst 1, 1) := by decide +kernel
theorem dX8_pairs_89 : decode cX8_pairs 89 = .ok (.iload 6, 2) := by decide +kernel
theorem dX8_pairs_91 : decode cX8_pairs 91 = .ok (.ishl, 1) := by decide +kernel
theorem dX8_pairs_92 : decode cX8_pairs 92 = .ok (.ior, 1) := by decide +kernel
theorem dX8_pairs_93 : decode cX8_pairs 93 = .ok (.invokevirtual 446, 3) := by decide +kernel
theorem dX8_pairs_96 : decode cX8_pairs 96 = .ok (.iload_n 2, 1) := by decide +kernel
theorem dX8_pairs_97 : decode cX8_pairs 97 = .ok (.iconst (-1), 1) := by decide +kernel
theorem dX8_pairs_98 : decode cX8_pairs 98 = .ok (.ixor, 1) := by decide +kernel
theorem dX8_pairs_99 : decode cX8_pairs 99 = .ok (.iand, 1) := by decide +kernel
theorem dX8_pairs_100 : decode cX8_pairs 100 = .ok (.ifCond .eq 7, 3) := by decide +kernel
theorem dX8_pairs_103 : decode cX8_pairs 103 = .ok (.iconst 1, 1) := by decide +kernel
theorem dX8_pairs_104 : decode cX8_pairs 104 = .ok (.goto 4, 3) := by decide +kernel
theorem dX8_pairs_107 : decode cX8_pairs 107 = .ok (.iconst 0, 1) := by decide +kernel
theorem dX8_pairs_108 : decode cX8_pairs 108 = .ok (.iadd, 1) := by decide +kernel
theorem dX8_pairs_109 : decode cX8_pairs 109 = .ok (.istore 4, 2) := by decide +kernel
theorem dX8_pairs_111 : decode cX8_pairs 111 = .ok (.iinc 6 1, 3) := by decide +kernel
theorem dX8_pairs_114 : decode cX8_pairs 114 = .ok (.goto (-70), 3) := by decide +kernel
theorem dX8_pairs_117 : decode cX8_pairs 117 = .ok (.iinc 5 1, 3) := by decide +kernel
theorem dX8_pairs_120 : decode cX8_pairs 120 = .ok (.goto (-88), 3) := by decide +kernel
theorem dX8_pairs_123 : decode cX8_pairs 123 = .ok (.iload 4, 2) := by decide +kernel
theorem dX8_pairs_125 : decode cX8_pairs 125 = .ok (.ireturn, 1) := by decide +kernel
theorem dX8_dryWithout_0 : decode cX8_dryWithout 0 = .ok (.aload_n 0, 1) := by decide +kernel
theorem dX8_dryWithout_1 : decode cX8_dryWithout 1 = .ok (.iconst 1, 1) := by decide +kernel
theorem dX8_dryWithout_2 : decode cX8_dryWithout 2 = .ok (.iload_n 1, 1) := by decide +kernel
theorem dX8_dryWithout_3 : decode cX8_dryWithout 3 = .ok (.ishl, 1) := by decide +kernel
theorem dX8_dryWithout_4 : decode cX8_dryWithout 4 = .ok (.invokevirtual 446, 3) := by decide +kernel
theorem dX8_dryWithout_7 : decode cX8_dryWithout 7 = .ok (.ireturn, 1) := by decide +kernel
theorem dX8_dryWithoutAll_0 : decode cX8_dryWithoutAll 0 = .ok (.aload_n 0, 1) := by decide +kernel
theorem dX8_dryWithoutAll_1 : decode cX8_dryWithoutAll 1 = .ok (.getfield 235, 3) := by decide +kernel
theorem dX8_dryWithoutAll_4 : decode cX8_dryWithoutAll 4 = .ok (.istore_n 2, 1) := by decide +kernel
theorem dX8_dryWithoutAll_5 : decode cX8_dryWithoutAll 5 = .ok (.aload_n 0, 1) := by decide +kernel
theorem dX8_dryWithoutAll_6 : decode cX8_dryWithoutAll 6 = .ok (.dup, 1) := by decide +kernel
theorem dX8_dryWithoutAll_7 : decode cX8_dryWithoutAll 7 = .ok (.getfield 235, 3) := by decide +kernel
theorem dX8_dryWithoutAll_10 : decode cX8_dryWithoutAll 10 = .ok (.iload_n 1, 1) := by decide +kernel
theorem dX8_dryWithoutAll_11 : decode cX8_dryWithoutAll 11 = .ok (.ior, 1) := by decide +kernel
theorem dX8_dryWithoutAll_12 : decode cX8_dryWithoutAll 12 = .ok (.putfield 235, 3) := by decide +kernel
theorem dX8_dryWithoutAll_15 : decode cX8_dryWithoutAll 15 = .ok (.aload_n 0, 1) := by decide +kernel
theorem dX8_dryWithoutAll_16 : decode cX8_dryWithoutAll 16 = .ok (.invokevirtual 260, 3) := by decide +kernel
theorem dX8_dryWithoutAll_19 : decode cX8_dryWithoutAll 19 = .ok (.aload_n 0, 1) := by decide +kernel
theorem dX8_dryWithoutAll_20 : decode cX8_dryWithoutAll 20 = .ok (.invokevirtual 391, 3) := by decide +kernel
theorem dX8_dryWithoutAll_23 : decode cX8_dryWithoutAll 23 = .ok (.istore_n 3, 1) := by decide +kernel
theorem dX8_dryWithoutAll_24 : decode cX8_dryWithoutAll 24 = .ok (.aload_n 0, 1) := by decide +kernel
theorem dX8_dryWithoutAll_25 : decode cX8_dryWithoutAll 25 = .ok (.iload_n 2, 1) := by decide +kernel
theorem dX8_dryWithoutAll_26 : decode cX8_dryWithoutAll 26 = .ok (.putfield 235, 3) := by decide +kernel
theorem dX8_dryWithoutAll_29 : decode cX8_dryWithoutAll 29 = .ok (.aload_n 0, 1) := by decide +kernel
theorem dX8_dryWithoutAll_30 : decode cX8_dryWithoutAll 30 = .ok (.invokevirtual 260, 3) := by decide +kernel
theorem dX8_dryWithoutAll_33 : decode cX8_dryWithoutAll 33 = .ok (.iload_n 3, 1) := by decide +kernel
theorem dX8_dryWithoutAll_34 : decode cX8_dryWithoutAll 34 = .ok (.ireturn, 1) := by decide +kernel
theorem dX8_cut_0 : decode cX8_cut 0 = .ok (.aload_n 0, 1) := by decide +kernel
theorem dX8_cut_1 : decode cX8_cut 1 = .ok (.aload_n 0, 1) := by decide +kernel
theorem dX8_cut_2 : decode cX8_cut 2 = .ok (.iload_n 1, 1) := by decide +kernel
theorem dX8_cut_3 : decode cX8_cut 3 = .ok (.invokevirtual 317, 3) := by decide +kernel
theorem dX8_cut_6 : decode cX8_cut 6 = .ok (.invokestatic 330, 3) := by decide +kernel
theorem dX8_cut_9 : decode cX8_cut 9 = .ok (.invokevirtual 245, 3) := by decide +kernel
theorem dX8_cut_12 : decode cX8_cut 12 = .ok (.ifCond .eq 7, 3) := by decide +kernel
theorem dX8_cut_15 : decode cX8_cut 15 = .ok (.iconst (-1), 1) := by decide +kernel
theorem dX8_cut_16 : decode cX8_cut 16 = .ok (.goto 8, 3) := by decide +kernel
theorem dX8_cut_19 : decode cX8_cut 19 = .ok (.aload_n 0, 1) := by decide +kernel
theorem dX8_cut_20 : decode cX8_cut 20 = .ok (.iload_n 1, 1) := by decide +kernel
theorem dX8_cut_21 : decode cX8_cut 21 = .ok (.invokevirtual 449, 3) := by decide +kernel
theorem dX8_cut_24 : decode cX8_cut 24 = .ok (.ireturn, 1) := by decide +kernel
theorem dX8_vital_0 : decode cX8_vital 0 = .ok (.aload_n 0, 1) := by decide +kernel
theorem dX8_vital_1 : decode cX8_vital 1 = .ok (.aload_n 0, 1) := by decide +kernel
theorem dX8_vital_2 : decode cX8_vital 2 = .ok (.getfield 229, 3) := by decide +kernel
theorem dX8_vital_5 : decode cX8_vital 5 = .ok (.ifCond .le 7, 3) := by decide +kernel
theorem dX8_vital_8 : decode cX8_vital 8 = .ok (.iconst 1, 1) := by decide +kernel
theorem dX8_vital_9 : decode cX8_vital 9 = .ok (.goto 4, 3) := by decide +kernel
theorem dX8_vital_12 : decode cX8_vital 12 = .ok (.iconst 0, 1) := by decide +kernel
theorem dX8_vital_13 : decode cX8_vital 13 = .ok (.invokestatic 330, 3) := by decide +kernel
theorem dX8_vital_16 : decode cX8_vital 16 = .ok (.invokevirtual 245, 3) := by decide +kernel
theorem dX8_vital_19 : decode cX8_vital 19 = .ok (.ifCond .eq 5, 3) := by decide +kernel
theorem dX8_vital_22 : decode cX8_vital 22 = .ok (.iconst (-1), 1) := by decide +kernel
theorem dX8_vital_23 : decode cX8_vital 23 = .ok (.ireturn, 1) := by decide +kernel
theorem dX8_vital_24 : decode cX8_vital 24 = .ok (.aload_n 0, 1) := by decide +kernel
theorem dX8_vital_25 : decode cX8_vital 25 = .ok (.invokevirtual 391, 3) := by decide +kernel
theorem dX8_vital_28 : decode cX8_vital 28 = .ok (.istore_n 1, 1) := by decide +kernel
theorem dX8_vital_29 : decode cX8_vital 29 = .ok (.iconst 0, 1) := by decide +kernel
theorem dX8_vital_30 : decode cX8_vital 30 = .ok (.istore_n 2, 1) := by decide +kernel
theorem dX8_vital_31 : decode cX8_vital 31 = .ok (.iconst 0, 1) := by decide +kernel
theorem dX8_vital_32 : decode cX8_vital 32 = .ok (.istore_n 3, 1) := by decide +kernel
theorem dX8_vital_33 : decode cX8_vital 33 = .ok (.iload_n 3, 1) := by decide +kernel
theorem dX8_vital_34 : decode cX8_vital 34 = .ok (.aload_n 0, 1) := by decide +kernel
theorem dX8_vital_35 : decode cX8_vital 35 = .ok (.getfield 232, 3) := by decide +kernel
theorem dX8_vital_38 : decode cX8_vital 38 = .ok (.if_icmp .ge 31, 3) := by decide +kernel
theorem dX8_vital_41 : decode cX8_vital 41 = .ok (.iload_n 2, 1) := by decide +kernel
theorem dX8_vital_42 : decode cX8_vital 42 = .ok (.aload_n 0, 1) := by decide +kernel
theorem dX8_vital_43 : decode cX8_vital 43 = .ok (.iload_n 3, 1) := by decide +kernel
theorem dX8_vital_44 : decode cX8_vital 44 = .ok (.invokevirtual 449, 3) := by decide +kernel
theorem dX8_vital_47 : decode cX8_vital 47 = .ok (.iload_n 1, 1) := by decide +kernel
theorem dX8_vital_48 : decode cX8_vital 48 = .ok (.iconst (-1), 1) := by decide +kernel
theorem dX8_vital_49 : decode cX8_vital 49 = .ok (.ixor, 1) := by decide +kernel
theorem dX8_vital_50 : decode cX8_vital 50 = .ok (.iand, 1) := by decide +kernel
theorem dX8_vital_51 : decode cX8_vital 51 = .ok (.ifCond .eq 9, 3) := by decide +kernel
theorem dX8_vital_54 : decode cX8_vital 54 = .ok (.iconst 1, 1) := by decide +kernel
theorem dX8_vital_55 : decode cX8_vital 55 = .ok (.iload_n 3, 1) := by decide +kernel
theorem dX8_vital_56 : decode cX8_vital 56 = .ok (.ishl, 1) := by decide +kernel
theorem dX8_vital_57 : decode cX8_vital 57 = .ok (.goto 4, 3) := by decide +kernel
theorem dX8_vital_60 : decode cX8_vital 60 = .ok (.iconst 0, 1) := by decide +kernel
theorem dX8_vital_61 : decode cX8_vital 61 = .ok (.ior, 1) := by decide +kernel
theorem dX8_vital_62 : decode cX8_vital 62 = .ok (.istore_n 2, 1) := by decide +kernel
theorem dX8_vital_63 : decode cX8_vital 63 = .ok (.iinc 3 1, 3) := by decide +kernel
theorem dX8_vital_66 : decode cX8_vital 66 = .ok (.goto (-33), 3) := by decide +kernel
theorem dX8_vital_69 : decode cX8_vital 69 = .ok (.iload_n 2, 1) := by decide +kernel
theorem dX8_vital_70 : decode cX8_vital 70 = .ok (.ireturn, 1) := by decide +kernel
theorem dX8_seeksWidest_0 : decode cX8_seeksWidest 0 = .ok (.aload_n 0, 1) := by decide +kernel
theorem dX8_seeksWidest_1 : decode cX8_seeksWidest 1 = .ok (.bipush (-2), 2) := by decide +kernel
theorem dX8_seeksWidest_3 : decode cX8_seeksWidest 3 = .ok (.putfield 452, 3) := by decide +kernel
theorem dX8_seeksWidest_6 : decode cX8_seeksWidest 6 = .ok (.aload_n 0, 1) := by decide +kernel
theorem dX8_seeksWidest_7 : decode cX8_seeksWidest 7 = .ok (.lconst 0, 1) := by decide +kernel
theorem dX8_seeksWidest_8 : decode cX8_seeksWidest 8 = .ok (.putfield 455, 3) := by decide +kernel
theorem dX8_seeksWidest_11 : decode cX8_seeksWidest 11 = .ok (.iconst 0, 1) := by decide +kernel
theorem dX8_seeksWidest_12 : decode cX8_seeksWidest 12 = .ok (.istore_n 1, 1) := by decide +kernel
theorem dX8_seeksWidest_13 : decode cX8_seeksWidest 13 = .ok (.iload_n 1, 1) := by decide +kernel
theorem dX8_seeksWidest_14 : decode cX8_seeksWidest 14 = .ok (.aload_n 0, 1) := by decide +kernel
theorem dX8_seeksWidest_15 : decode cX8_seeksWidest 15 = .ok (.getfield 232, 3) := by decide +kernel
theorem dX8_seeksWidest_18 : decode cX8_seeksWidest 18 = .ok (.if_icmp .ge 115, 3) := by decide +kernel
theorem dX8_seeksWidest_21 : decode cX8_seeksWidest 21 = .ok (.aload_n 0, 1) := by decide +kernel
theorem dX8_seeksWidest_22 : decode cX8_seeksWidest 22 = .ok (.getfield 34, 3) := by decide +kernel
theorem dX8_seeksWidest_25 : decode cX8_seeksWidest 25 = .ok (.iload_n 1, 1) := by decide +kernel
theorem dX8_seeksWidest_26 : decode cX8_seeksWidest 26 = .ok (.iaload, 1) := by decide +kernel
theorem dX8_seeksWidest_27 : decode cX8_seeksWidest 27 = .ok (.iconst 2, 1) := by decide +kernel
theorem dX8_seeksWidest_28 : decode cX8_seeksWidest 28 = .ok (.if_icmp .eq 99, 3) := by decide +kernel
theorem dX8_seeksWidest_31 : decode cX8_seeksWidest 31 = .ok (.aload_n 0, 1) := by decide +kernel
theorem dX8_seeksWidest_32 : decode cX8_seeksWidest 32 = .ok (.getfield 235, 3) := by decide +kernel
theorem dX8_seeksWidest_35 : decode cX8_seeksWidest 35 = .ok (.iload_n 1, 1) := by decide +kernel
theorem dX8_seeksWidest_36 : decode cX8_seeksWidest 36 = .ok (.ishr, 1) := by decide +kernel
theorem dX8_seeksWidest_37 : decode cX8_seeksWidest 37 = .ok (.iconst 1, 1) := by decide +kernel
theorem dX8_seeksWidest_38 : decode cX8_seeksWidest 38 = .ok (.iand, 1) := by decide +kernel
theorem dX8_seeksWidest_39 : decode cX8_seeksWidest 39 = .ok (.iconst 1, 1) := by decide +kernel
theorem dX8_seeksWidest_40 : decode cX8_seeksWidest 40 = .ok (.if_icmp .eq 87, 3) := by decide +kernel
theorem dX8_seeksWidest_43 : decode cX8_seeksWidest 43 = .ok (.aload_n 0, 1) := by decide +kernel
theorem dX8_seeksWidest_44 : decode cX8_seeksWidest 44 = .ok (.getfield 37, 3) := by decide +kernel
theorem dX8_seeksWidest_47 : decode cX8_seeksWidest 47 = .ok (.iload_n 1, 1) := by decide +kernel
theorem dX8_seeksWidest_48 : decode cX8_seeksWidest 48 = .ok (.iaload, 1) := by decide +kernel
theorem dX8_seeksWidest_49 : decode cX8_seeksWidest 49 = .ok (.iconst 2, 1) := by decide +kernel
theorem dX8_seeksWidest_50 : decode cX8_seeksWidest 50 = .ok (.if_icmp .ge 6, 3) := by decide +kernel
theorem dX8_seeksWidest_53 : decode cX8_seeksWidest 53 = .ok (.goto 74, 3) := by decide +kernel
theorem dX8_seeksWidest_56 : decode cX8_seeksWidest 56 = .ok (.aload_n 0, 1) := by decide +kernel
theorem dX8_seeksWidest_57 : decode cX8_seeksWidest 57 = .ok (.getfield 37, 3) := by decide +kernel
theorem dX8_seeksWidest_60 : decode cX8_seeksWidest 60 = .ok (.iload_n 1, 1) := by decide +kernel
theorem dX8_seeksWidest_61 : decode cX8_seeksWidest 61 = .ok (.dup2, 1) := by decide +kernel
theorem dX8_seeksWidest_62 : decode cX8_seeksWidest 62 = .ok (.iaload, 1) := by decide +kernel
theorem dX8_seeksWidest_63 : decode cX8_seeksWidest 63 = .ok (.iconst 1, 1) := by decide +kernel
theorem dX8_seeksWidest_64 : decode cX8_seeksWidest 64 = .ok (.isub, 1) := by decide +kernel
theorem dX8_seeksWidest_65 : decode cX8_seeksWidest 65 = .ok (.iastore, 1) := by decide +kernel
theorem dX8_seeksWidest_66 : decode cX8_seeksWidest 66 = .ok (.aload_n 0, 1) := by decide +kernel
theorem dX8_seeksWidest_67 : decode cX8_seeksWidest 67 = .ok (.invokevirtual 260, 3) := by decide +kernel
theorem dX8_seeksWidest_70 : decode cX8_seeksWidest 70 = .ok (.aload_n 0, 1) := by decide +kernel
theorem dX8_seeksWidest_71 : decode cX8_seeksWidest 71 = .ok (.invokevirtual 413, 3) := by decide +kernel
theorem dX8_seeksWidest_74 : decode cX8_seeksWidest 74 = .ok (.istore_n 2, 1) := by decide +kernel
theorem dX8_seeksWidest_75 : decode cX8_seeksWidest 75 = .ok (.iload_n 2, 1) := by decide +kernel
theorem dX8_seeksWidest_76 : decode cX8_seeksWidest 76 = .ok (.bipush (-2), 2) := by decide +kernel
theorem dX8_seeksWidest_78 : decode cX8_seeksWidest 78 = .ok (.if_icmp .eq 39, 3) := by decide +kernel
theorem dX8_seeksWidest_81 : decode cX8_seeksWidest 81 = .ok (.aload_n 0, 1) := by decide +kernel
theorem dX8_seeksWidest_82 : decode cX8_seeksWidest 82 = .ok (.getfield 452, 3) := by decide +kernel
theorem dX8_seeksWidest_85 : decode cX8_seeksWidest 85 = .ok (.bipush (-2), 2) := by decide +kernel
theorem dX8_seeksWidest_87 : decode cX8_seeksWidest 87 = .ok (.if_icmp .eq 16, 3) := by decide +kernel
theorem dX8_seeksWidest_90 : decode cX8_seeksWidest 90 = .ok (.aload_n 0, 1) := by decide +kernel
theorem dX8_seeksWidest_91 : decode cX8_seeksWidest 91 = .ok (.iload_n 2, 1) := by decide +kernel
theorem dX8_seeksWidest_92 : decode cX8_seeksWidest 92 = .ok (.invokevirtual 410, 3) := by decide +kernel
theorem dX8_seeksWidest_95 : decode cX8_seeksWidest 95 = .ok (.aload_n 0, 1) := by decide +kernel
theorem dX8_seeksWidest_96 : decode cX8_seeksWidest 96 = .ok (.getfield 455, 3) := by decide +kernel
theorem dX8_seeksWidest_99 : decode cX8_seeksWidest 99 = .ok (.lcmp, 1) := by decide +kernel
theorem dX8_seeksWidest_100 : decode cX8_seeksWidest 100 = .ok (.ifCond .le 17, 3) := by decide +kernel
theorem dX8_seeksWidest_103 : decode cX8_seeksWidest 103 = .ok (.aload_n 0, 1) := by decide +kernel
theorem dX8_seeksWidest_104 : decode cX8_seeksWidest 104 = .ok (.iload_n 1, 1) := by decide +kernel
theorem dX8_seeksWidest_105 : decode cX8_seeksWidest 105 = .ok (.putfield 452, 3) := by decide +kernel
theorem dX8_seeksWidest_108 : decode cX8_seeksWidest 108 = .ok (.aload_n 0, 1) := by decide +kernel
theorem dX8_seeksWidest_109 : decode cX8_seeksWidest 109 = .ok (.aload_n 0, 1) := by decide +kernel
theorem dX8_seeksWidest_110 : decode cX8_seeksWidest 110 = .ok (.iload_n 2, 1) := by decide +kernel
theorem dX8_seeksWidest_111 : decode cX8_seeksWidest 111 = .ok (.invokevirtual 410, 3) := by decide +kernel
theorem dX8_seeksWidest_114 : decode cX8_seeksWidest 114 = .ok (.putfield 455, 3) := by decide +kernel
theorem dX8_seeksWidest_117 : decode cX8_seeksWidest 117 = .ok (.aload_n 0, 1) := by decide +kernel
theorem dX8_seeksWidest_118 : decode cX8_seeksWidest 118 = .ok (.getfield 37, 3) := by decide +kernel
theorem dX8_seeksWidest_121 : decode cX8_seeksWidest 121 = .ok (.iload_n 1, 1) := by decide +kernel
theorem dX8_seeksWidest_122 : decode cX8_seeksWidest 122 = .ok (.dup2, 1) := by decide +kernel
theorem dX8_seeksWidest_123 : decode cX8_seeksWidest 123 = .ok (.iaload, 1) := by decide +kernel
theorem dX8_seeksWidest_124 : decode cX8_seeksWidest 124 = .ok (.iconst 1, 1) := by decide +kernel
theorem dX8_seeksWidest_125 : decode cX8_seeksWidest 125 = .ok (.iadd, 1) := by decide +kernel
theorem dX8_seeksWidest_126 : decode cX8_seeksWidest 126 = .ok (.iastore, 1) := by decide +kernel
theorem dX8_seeksWidest_127 : decode cX8_seeksWidest 127 = .ok (.iinc 1 1, 3) := by decide +kernel
theorem dX8_seeksWidest_130 : decode cX8_seeksWidest 130 = .ok (.goto (-117), 3) := by decide +kernel
theorem dX8_seeksWidest_133 : decode cX8_seeksWidest 133 = .ok (.aload_n 0, 1) := by decide +kernel
theorem dX8_seeksWidest_134 : decode cX8_seeksWidest 134 = .ok (.invokevirtual 260, 3) := by decide +kernel
theorem dX8_seeksWidest_137 : decode cX8_seeksWidest 137 = .ok (.return_, 1) := by decide +kernel
theorem dX8_widen_0 : decode cX8_widen 0 = .ok (.aload_n 0, 1) := by decide +kernel
theorem dX8_widen_1 : decode cX8_widen 1 = .ok (.aload_n 0, 1) := by decide +kernel
theorem dX8_widen_2 : decode cX8_widen 2 = .ok (.getfield 229, 3) := by decide +kernel
theorem dX8_widen_5 : decode cX8_widen 5 = .ok (.ifCond .le 7, 3) := by decide +kernel
theorem dX8_widen_8 : decode cX8_widen 8 = .ok (.iconst 1, 1) := by decide +kernel
theorem dX8_widen_9 : decode cX8_widen 9 = .ok (.goto 4, 3) := by decide +kernel
theorem dX8_widen_12 : decode cX8_widen 12 = .ok (.iconst 0, 1) := by decide +kernel
theorem dX8_widen_13 : decode cX8_widen 13 = .ok (.invokestatic 330, 3) := by decide +kernel
theorem dX8_widen_16 : decode cX8_widen 16 = .ok (.invokevirtual 245, 3) := by decide +kernel
theorem dX8_widen_19 : decode cX8_widen 19 = .ok (.ifCond .eq 5, 3) := by decide +kernel
theorem dX8_widen_22 : decode cX8_widen 22 = .ok (.iconst (-1), 1) := by decide +kernel
theorem dX8_widen_23 : decode cX8_widen 23 = .ok (.ireturn, 1) := by decide +kernel
theorem dX8_widen_24 : decode cX8_widen 24 = .ok (.aload_n 0, 1) := by decide +kernel
theorem dX8_widen_25 : decode cX8_widen 25 = .ok (.invokevirtual 459, 3) := by decide +kernel
theorem dX8_widen_28 : decode cX8_widen 28 = .ok (.aload_n 0, 1) := by decide +kernel
theorem dX8_widen_29 : decode cX8_widen 29 = .ok (.getfield 452, 3) := by decide +kernel
theorem dX8_widen_32 : decode cX8_widen 32 = .ok (.ireturn, 1) := by decide +kernel
theorem dX8_widened_0 : decode cX8_widened 0 = .ok (.aload_n 0, 1) := by decide +kernel
theorem dX8_widened_1 : decode cX8_widened 1 = .ok (.aload_n 0, 1) := by decide +kernel
theorem dX8_widened_2 : decode cX8_widened 2 = .ok (.getfield 229, 3) := by decide +kernel
theorem dX8_widened_5 : decode cX8_widened 5 = .ok (.ifCond .le 7, 3) := by decide +kernel
theorem dX8_widened_8 : decode cX8_widened 8 = .ok (.iconst 1, 1) := by decide +kernel
theorem dX8_widened_9 : decode cX8_widened 9 = .ok (.goto 4, 3) := by decide +kernel
theorem dX8_widened_12 : decode cX8_widened 12 = .ok (.iconst 0, 1) := by decide +kernel
theorem dX8_widened_13 : decode cX8_widened 13 = .ok (.invokestatic 330, 3) := by decide +kernel
theorem dX8_widened_16 : decode cX8_widened 16 = .ok (.invokevirtual 245, 3) := by decide +kernel
end
section
theorem dX8_widened_19 : decode cX8_widened 19 = .ok (.ifCond .eq 7, 3) := by decide +kernel
theorem dX8_widened_22 : decode cX8_widened 22 = .ok (.ldc2_w 102, 3) := by decide +kernel
theorem dX8_widened_25 : decode cX8_widened 25 = .ok (.lreturn, 1) := by decide +kernel
theorem dX8_widened_26 : decode cX8_widened 26 = .ok (.aload_n 0, 1) := by decide +kernel
theorem dX8_widened_27 : decode cX8_widened 27 = .ok (.invokevirtual 459, 3) := by decide +kernel
theorem dX8_widened_30 : decode cX8_widened 30 = .ok (.aload_n 0, 1) := by decide +kernel
theorem dX8_widened_31 : decode cX8_widened 31 = .ok (.getfield 452, 3) := by decide +kernel
theorem dX8_widened_34 : decode cX8_widened 34 = .ok (.bipush (-2), 2) := by decide +kernel
theorem dX8_widened_36 : decode cX8_widened 36 = .ok (.if_icmp .ne 11, 3) := by decide +kernel
theorem dX8_widened_39 : decode cX8_widened 39 = .ok (.aload_n 0, 1) := by decide +kernel
theorem dX8_widened_40 : decode cX8_widened 40 = .ok (.iconst 5, 1) := by decide +kernel
theorem dX8_widened_41 : decode cX8_widened 41 = .ok (.invokevirtual 407, 3) := by decide +kernel
theorem dX8_widened_44 : decode cX8_widened 44 = .ok (.goto 7, 3) := by decide +kernel
theorem dX8_widened_47 : decode cX8_widened 47 = .ok (.aload_n 0, 1) := by decide +kernel
theorem dX8_widened_48 : decode cX8_widened 48 = .ok (.getfield 455, 3) := by decide +kernel
theorem dX8_widened_51 : decode cX8_widened 51 = .ok (.lreturn, 1) := by decide +kernel
theorem dX8_measuredMany_0 : decode cX8_measuredMany 0 = .ok (.iconst 0, 1) := by decide +kernel
theorem dX8_measuredMany_1 : decode cX8_measuredMany 1 = .ok (.istore_n 1, 1) := by decide +kernel
theorem dX8_measuredMany_2 : decode cX8_measuredMany 2 = .ok (.iconst 0, 1) := by decide +kernel
theorem dX8_measuredMany_3 : decode cX8_measuredMany 3 = .ok (.istore_n 2, 1) := by decide +kernel
theorem dX8_measuredMany_4 : decode cX8_measuredMany 4 = .ok (.iload_n 2, 1) := by decide +kernel
theorem dX8_measuredMany_5 : decode cX8_measuredMany 5 = .ok (.bipush 9, 2) := by decide +kernel
theorem dX8_measuredMany_7 : decode cX8_measuredMany 7 = .ok (.if_icmp .ge 26, 3) := by decide +kernel
theorem dX8_measuredMany_10 : decode cX8_measuredMany 10 = .ok (.iload_n 1, 1) := by decide +kernel
theorem dX8_measuredMany_11 : decode cX8_measuredMany 11 = .ok (.aload_n 0, 1) := by decide +kernel
theorem dX8_measuredMany_12 : decode cX8_measuredMany 12 = .ok (.getfield 80, 3) := by decide +kernel
theorem dX8_measuredMany_15 : decode cX8_measuredMany 15 = .ok (.iload_n 2, 1) := by decide +kernel
theorem dX8_measuredMany_16 : decode cX8_measuredMany 16 = .ok (.baload, 1) := by decide +kernel
theorem dX8_measuredMany_17 : decode cX8_measuredMany 17 = .ok (.ifCond .eq 7, 3) := by decide +kernel
theorem dX8_measuredMany_20 : decode cX8_measuredMany 20 = .ok (.iconst 1, 1) := by decide +kernel
theorem dX8_measuredMany_21 : decode cX8_measuredMany 21 = .ok (.goto 4, 3) := by decide +kernel
theorem dX8_measuredMany_24 : decode cX8_measuredMany 24 = .ok (.iconst 0, 1) := by decide +kernel
theorem dX8_measuredMany_25 : decode cX8_measuredMany 25 = .ok (.iadd, 1) := by decide +kernel
theorem dX8_measuredMany_26 : decode cX8_measuredMany 26 = .ok (.istore_n 1, 1) := by decide +kernel
theorem dX8_measuredMany_27 : decode cX8_measuredMany 27 = .ok (.iinc 2 1, 3) := by decide +kernel
theorem dX8_measuredMany_30 : decode cX8_measuredMany 30 = .ok (.goto (-26), 3) := by decide +kernel
theorem dX8_measuredMany_33 : decode cX8_measuredMany 33 = .ok (.iload_n 1, 1) := by decide +kernel
theorem dX8_measuredMany_34 : decode cX8_measuredMany 34 = .ok (.ireturn, 1) := by decide +kernel
theorem dX8_measure_0 : decode cX8_measure 0 = .ok (.aload_n 0, 1) := by decide +kernel
theorem dX8_measure_1 : decode cX8_measure 1 = .ok (.aload_n 0, 1) := by decide +kernel
theorem dX8_measure_2 : decode cX8_measure 2 = .ok (.iload_n 1, 1) := by decide +kernel
theorem dX8_measure_3 : decode cX8_measure 3 = .ok (.invokevirtual 421, 3) := by decide +kernel
theorem dX8_measure_6 : decode cX8_measure 6 = .ok (.iload_n 2, 1) := by decide +kernel
theorem dX8_measure_7 : decode cX8_measure 7 = .ok (.i2l, 1) := by decide +kernel
theorem dX8_measure_8 : decode cX8_measure 8 = .ok (.ldc2_w 462, 3) := by decide +kernel
theorem dX8_measure_11 : decode cX8_measure 11 = .ok (.ldc2_w 464, 3) := by decide +kernel
theorem dX8_measure_14 : decode cX8_measure 14 = .ok (.invokestatic 131, 3) := by decide +kernel
theorem dX8_measure_17 : decode cX8_measure 17 = .ok (.invokestatic 241, 3) := by decide +kernel
theorem dX8_measure_20 : decode cX8_measure 20 = .ok (.invokevirtual 245, 3) := by decide +kernel
theorem dX8_measure_23 : decode cX8_measure 23 = .ok (.ifCond .eq 5, 3) := by decide +kernel
theorem dX8_measure_26 : decode cX8_measure 26 = .ok (.iconst (-1), 1) := by decide +kernel
theorem dX8_measure_27 : decode cX8_measure 27 = .ok (.ireturn, 1) := by decide +kernel
theorem dX8_measure_28 : decode cX8_measure 28 = .ok (.aload_n 0, 1) := by decide +kernel
theorem dX8_measure_29 : decode cX8_measure 29 = .ok (.getfield 80, 3) := by decide +kernel
theorem dX8_measure_32 : decode cX8_measure 32 = .ok (.iload_n 1, 1) := by decide +kernel
theorem dX8_measure_33 : decode cX8_measure 33 = .ok (.iconst 1, 1) := by decide +kernel
theorem dX8_measure_34 : decode cX8_measure 34 = .ok (.bastore, 1) := by decide +kernel
theorem dX8_measure_35 : decode cX8_measure 35 = .ok (.aload_n 0, 1) := by decide +kernel
theorem dX8_measure_36 : decode cX8_measure 36 = .ok (.getfield 84, 3) := by decide +kernel
theorem dX8_measure_39 : decode cX8_measure 39 = .ok (.iload_n 1, 1) := by decide +kernel
theorem dX8_measure_40 : decode cX8_measure 40 = .ok (.iload_n 2, 1) := by decide +kernel
theorem dX8_measure_41 : decode cX8_measure 41 = .ok (.iastore, 1) := by decide +kernel
theorem dX8_measure_42 : decode cX8_measure 42 = .ok (.aload_n 0, 1) := by decide +kernel
theorem dX8_measure_43 : decode cX8_measure 43 = .ok (.invokevirtual 394, 3) := by decide +kernel
theorem dX8_measure_46 : decode cX8_measure 46 = .ok (.ireturn, 1) := by decide +kernel
theorem dX8_forget_0 : decode cX8_forget 0 = .ok (.aload_n 0, 1) := by decide +kernel
theorem dX8_forget_1 : decode cX8_forget 1 = .ok (.aload_n 0, 1) := by decide +kernel
theorem dX8_forget_2 : decode cX8_forget 2 = .ok (.getfield 229, 3) := by decide +kernel
theorem dX8_forget_5 : decode cX8_forget 5 = .ok (.ifCond .le 7, 3) := by decide +kernel
theorem dX8_forget_8 : decode cX8_forget 8 = .ok (.iconst 1, 1) := by decide +kernel
theorem dX8_forget_9 : decode cX8_forget 9 = .ok (.goto 4, 3) := by decide +kernel
theorem dX8_forget_12 : decode cX8_forget 12 = .ok (.iconst 0, 1) := by decide +kernel
theorem dX8_forget_13 : decode cX8_forget 13 = .ok (.invokestatic 330, 3) := by decide +kernel
theorem dX8_forget_16 : decode cX8_forget 16 = .ok (.invokevirtual 245, 3) := by decide +kernel
theorem dX8_forget_19 : decode cX8_forget 19 = .ok (.ifCond .eq 5, 3) := by decide +kernel
theorem dX8_forget_22 : decode cX8_forget 22 = .ok (.iconst (-1), 1) := by decide +kernel
theorem dX8_forget_23 : decode cX8_forget 23 = .ok (.ireturn, 1) := by decide +kernel
theorem dX8_forget_24 : decode cX8_forget 24 = .ok (.aload_n 0, 1) := by decide +kernel
theorem dX8_forget_25 : decode cX8_forget 25 = .ok (.invokevirtual 394, 3) := by decide +kernel
theorem dX8_forget_28 : decode cX8_forget 28 = .ok (.istore_n 1, 1) := by decide +kernel
theorem dX8_forget_29 : decode cX8_forget 29 = .ok (.iconst 0, 1) := by decide +kernel
theorem dX8_forget_30 : decode cX8_forget 30 = .ok (.istore_n 2, 1) := by decide +kernel
theorem dX8_forget_31 : decode cX8_forget 31 = .ok (.iload_n 2, 1) := by decide +kernel
theorem dX8_forget_32 : decode cX8_forget 32 = .ok (.bipush 9, 2) := by decide +kernel
theorem dX8_forget_34 : decode cX8_forget 34 = .ok (.if_icmp .ge 16, 3) := by decide +kernel
theorem dX8_forget_37 : decode cX8_forget 37 = .ok (.aload_n 0, 1) := by decide +kernel
theorem dX8_forget_38 : decode cX8_forget 38 = .ok (.getfield 80, 3) := by decide +kernel
theorem dX8_forget_41 : decode cX8_forget 41 = .ok (.iload_n 2, 1) := by decide +kernel
theorem dX8_forget_42 : decode cX8_forget 42 = .ok (.iconst 0, 1) := by decide +kernel
theorem dX8_forget_43 : decode cX8_forget 43 = .ok (.bastore, 1) := by decide +kernel
theorem dX8_forget_44 : decode cX8_forget 44 = .ok (.iinc 2 1, 3) := by decide +kernel
theorem dX8_forget_47 : decode cX8_forget 47 = .ok (.goto (-16), 3) := by decide +kernel
theorem dX8_forget_50 : decode cX8_forget 50 = .ok (.iload_n 1, 1) := by decide +kernel
theorem dX8_forget_51 : decode cX8_forget 51 = .ok (.ireturn, 1) := by decide +kernel
theorem dX8_offWith_0 : decode cX8_offWith 0 = .ok (.aload_n 0, 1) := by decide +kernel
theorem dX8_offWith_1 : decode cX8_offWith 1 = .ok (.iload_n 1, 1) := by decide +kernel
theorem dX8_offWith_2 : decode cX8_offWith 2 = .ok (.iload_n 2, 1) := by decide +kernel
theorem dX8_offWith_3 : decode cX8_offWith 3 = .ok (.invokevirtual 428, 3) := by decide +kernel
theorem dX8_offWith_6 : decode cX8_offWith 6 = .ok (.lconst 0, 1) := by decide +kernel
theorem dX8_offWith_7 : decode cX8_offWith 7 = .ok (.lstore_n 3, 1) := by decide +kernel
theorem dX8_offWith_8 : decode cX8_offWith 8 = .ok (.iconst 1, 1) := by decide +kernel
theorem dX8_offWith_9 : decode cX8_offWith 9 = .ok (.istore 5, 2) := by decide +kernel
theorem dX8_offWith_11 : decode cX8_offWith 11 = .ok (.iload 5, 2) := by decide +kernel
theorem dX8_offWith_13 : decode cX8_offWith 13 = .ok (.aload_n 0, 1) := by decide +kernel
theorem dX8_offWith_14 : decode cX8_offWith 14 = .ok (.getfield 229, 3) := by decide +kernel
theorem dX8_offWith_17 : decode cX8_offWith 17 = .ok (.if_icmp .ge 56, 3) := by decide +kernel
theorem dX8_offWith_20 : decode cX8_offWith 20 = .ok (.aload_n 0, 1) := by decide +kernel
theorem dX8_offWith_21 : decode cX8_offWith 21 = .ok (.getfield 80, 3) := by decide +kernel
theorem dX8_offWith_24 : decode cX8_offWith 24 = .ok (.iload 5, 2) := by decide +kernel
theorem dX8_offWith_26 : decode cX8_offWith 26 = .ok (.baload, 1) := by decide +kernel
theorem dX8_offWith_27 : decode cX8_offWith 27 = .ok (.ifCond .eq 40, 3) := by decide +kernel
theorem dX8_offWith_30 : decode cX8_offWith 30 = .ok (.lload_n 3, 1) := by decide +kernel
theorem dX8_offWith_31 : decode cX8_offWith 31 = .ok (.aload_n 0, 1) := by decide +kernel
theorem dX8_offWith_32 : decode cX8_offWith 32 = .ok (.iload 5, 2) := by decide +kernel
theorem dX8_offWith_34 : decode cX8_offWith 34 = .ok (.invokevirtual 272, 3) := by decide +kernel
theorem dX8_offWith_37 : decode cX8_offWith 37 = .ok (.ifCond .eq 25, 3) := by decide +kernel
theorem dX8_offWith_40 : decode cX8_offWith 40 = .ok (.aload_n 0, 1) := by decide +kernel
theorem dX8_offWith_41 : decode cX8_offWith 41 = .ok (.getfield 65, 3) := by decide +kernel
theorem dX8_offWith_44 : decode cX8_offWith 44 = .ok (.iload 5, 2) := by decide +kernel
theorem dX8_offWith_46 : decode cX8_offWith 46 = .ok (.laload, 1) := by decide +kernel
theorem dX8_offWith_47 : decode cX8_offWith 47 = .ok (.aload_n 0, 1) := by decide +kernel
theorem dX8_offWith_48 : decode cX8_offWith 48 = .ok (.getfield 84, 3) := by decide +kernel
theorem dX8_offWith_51 : decode cX8_offWith 51 = .ok (.iload 5, 2) := by decide +kernel
theorem dX8_offWith_53 : decode cX8_offWith 53 = .ok (.iaload, 1) := by decide +kernel
theorem dX8_offWith_54 : decode cX8_offWith 54 = .ok (.i2l, 1) := by decide +kernel
theorem dX8_offWith_55 : decode cX8_offWith 55 = .ok (.lsub, 1) := by decide +kernel
theorem dX8_offWith_56 : decode cX8_offWith 56 = .ok (.invokestatic 466, 3) := by decide +kernel
theorem dX8_offWith_59 : decode cX8_offWith 59 = .ok (.goto 6, 3) := by decide +kernel
theorem dX8_offWith_62 : decode cX8_offWith 62 = .ok (.ldc2_w 472, 3) := by decide +kernel
theorem dX8_offWith_65 : decode cX8_offWith 65 = .ok (.ladd, 1) := by decide +kernel
theorem dX8_offWith_66 : decode cX8_offWith 66 = .ok (.lstore_n 3, 1) := by decide +kernel
theorem dX8_offWith_67 : decode cX8_offWith 67 = .ok (.iinc 5 1, 3) := by decide +kernel
theorem dX8_offWith_70 : decode cX8_offWith 70 = .ok (.goto (-59), 3) := by decide +kernel
theorem dX8_offWith_73 : decode cX8_offWith 73 = .ok (.lload_n 3, 1) := by decide +kernel
theorem dX8_offWith_74 : decode cX8_offWith 74 = .ok (.lreturn, 1) := by decide +kernel
theorem dX8_off_0 : decode cX8_off 0 = .ok (.aload_n 0, 1) := by decide +kernel
theorem dX8_off_1 : decode cX8_off 1 = .ok (.iload_n 1, 1) := by decide +kernel
theorem dX8_off_2 : decode cX8_off 2 = .ok (.invokevirtual 421, 3) := by decide +kernel
theorem dX8_off_5 : decode cX8_off 5 = .ok (.iload_n 2, 1) := by decide +kernel
theorem dX8_off_6 : decode cX8_off 6 = .ok (.i2l, 1) := by decide +kernel
theorem dX8_off_7 : decode cX8_off 7 = .ok (.lconst 0, 1) := by decide +kernel
theorem dX8_off_8 : decode cX8_off 8 = .ok (.ldc2_w 474, 3) := by decide +kernel
theorem dX8_off_11 : decode cX8_off 11 = .ok (.invokestatic 131, 3) := by decide +kernel
theorem dX8_off_14 : decode cX8_off 14 = .ok (.invokestatic 241, 3) := by decide +kernel
theorem dX8_off_17 : decode cX8_off 17 = .ok (.istore_n 3, 1) := by decide +kernel
theorem dX8_off_18 : decode cX8_off 18 = .ok (.aload_n 0, 1) := by decide +kernel
theorem dX8_off_19 : decode cX8_off 19 = .ok (.iload_n 3, 1) := by decide +kernel
theorem dX8_off_20 : decode cX8_off 20 = .ok (.ifCond .eq 7, 3) := by decide +kernel
theorem dX8_off_23 : decode cX8_off 23 = .ok (.iload_n 3, 1) := by decide +kernel
theorem dX8_off_24 : decode cX8_off 24 = .ok (.goto 15, 3) := by decide +kernel
theorem dX8_off_27 : decode cX8_off 27 = .ok (.aload_n 0, 1) := by decide +kernel
theorem dX8_off_28 : decode cX8_off 28 = .ok (.invokevirtual 394, 3) := by decide +kernel
theorem dX8_off_31 : decode cX8_off 31 = .ok (.ifCond .ne 7, 3) := by decide +kernel
theorem dX8_off_34 : decode cX8_off 34 = .ok (.iconst 5, 1) := by decide +kernel
theorem dX8_off_35 : decode cX8_off 35 = .ok (.goto 4, 3) := by decide +kernel
theorem dX8_off_38 : decode cX8_off 38 = .ok (.iconst 0, 1) := by decide +kernel
theorem dX8_off_39 : decode cX8_off 39 = .ok (.invokevirtual 245, 3) := by decide +kernel
theorem dX8_off_42 : decode cX8_off 42 = .ok (.ifCond .eq 7, 3) := by decide +kernel
theorem dX8_off_45 : decode cX8_off 45 = .ok (.ldc2_w 102, 3) := by decide +kernel
theorem dX8_off_48 : decode cX8_off 48 = .ok (.lreturn, 1) := by decide +kernel
theorem dX8_off_49 : decode cX8_off 49 = .ok (.aload_n 0, 1) := by decide +kernel
theorem dX8_off_50 : decode cX8_off 50 = .ok (.iload_n 1, 1) := by decide +kernel
theorem dX8_off_51 : decode cX8_off 51 = .ok (.iload_n 2, 1) := by decide +kernel
theorem dX8_off_52 : decode cX8_off 52 = .ok (.invokevirtual 476, 3) := by decide +kernel
theorem dX8_off_55 : decode cX8_off 55 = .ok (.lstore 4, 2) := by decide +kernel
theorem dX8_off_57 : decode cX8_off 57 = .ok (.aload_n 0, 1) := by decide +kernel
theorem dX8_off_58 : decode cX8_off 58 = .ok (.invokevirtual 435, 3) := by decide +kernel
theorem dX8_off_61 : decode cX8_off 61 = .ok (.lload 4, 2) := by decide +kernel
theorem dX8_off_63 : decode cX8_off 63 = .ok (.lreturn, 1) := by decide +kernel
theorem dX8_leak_0 : decode cX8_leak 0 = .ok (.aload_n 0, 1) := by decide +kernel
theorem dX8_leak_1 : decode cX8_leak 1 = .ok (.getfield 229, 3) := by decide +kernel
theorem dX8_leak_4 : decode cX8_leak 4 = .ok (.ifCond .le 19, 3) := by decide +kernel
theorem dX8_leak_7 : decode cX8_leak 7 = .ok (.iload_n 1, 1) := by decide +kernel
theorem dX8_leak_8 : decode cX8_leak 8 = .ok (.i2l, 1) := by decide +kernel
theorem dX8_leak_9 : decode cX8_leak 9 = .ok (.lconst 0, 1) := by decide +kernel
theorem dX8_leak_10 : decode cX8_leak 10 = .ok (.ldc2_w 312, 3) := by decide +kernel
theorem dX8_leak_13 : decode cX8_leak 13 = .ok (.invokestatic 131, 3) := by decide +kernel
theorem dX8_leak_16 : decode cX8_leak 16 = .ok (.ifCond .eq 7, 3) := by decide +kernel
theorem dX8_leak_19 : decode cX8_leak 19 = .ok (.iconst 1, 1) := by decide +kernel
theorem dX8_leak_20 : decode cX8_leak 20 = .ok (.goto 4, 3) := by decide +kernel
theorem dX8_leak_23 : decode cX8_leak 23 = .ok (.iconst 0, 1) := by decide +kernel
theorem dX8_leak_24 : decode cX8_leak 24 = .ok (.invokestatic 330, 3) := by decide +kernel
theorem dX8_leak_27 : decode cX8_leak 27 = .ok (.istore_n 2, 1) := by decide +kernel
theorem dX8_leak_28 : decode cX8_leak 28 = .ok (.aload_n 0, 1) := by decide +kernel
theorem dX8_leak_29 : decode cX8_leak 29 = .ok (.iload_n 2, 1) := by decide +kernel
theorem dX8_leak_30 : decode cX8_leak 30 = .ok (.ifCond .eq 7, 3) := by decide +kernel
theorem dX8_leak_33 : decode cX8_leak 33 = .ok (.iload_n 2, 1) := by decide +kernel
theorem dX8_leak_34 : decode cX8_leak 34 = .ok (.goto 15, 3) := by decide +kernel
theorem dX8_leak_37 : decode cX8_leak 37 = .ok (.aload_n 0, 1) := by decide +kernel
theorem dX8_leak_38 : decode cX8_leak 38 = .ok (.invokevirtual 394, 3) := by decide +kernel
theorem dX8_leak_41 : decode cX8_leak 41 = .ok (.ifCond .ne 7, 3) := by decide +kernel
theorem dX8_leak_44 : decode cX8_leak 44 = .ok (.iconst 5, 1) := by decide +kernel
theorem dX8_leak_45 : decode cX8_leak 45 = .ok (.goto 4, 3) := by decide +kernel
theorem dX8_leak_48 : decode cX8_leak 48 = .ok (.iconst 0, 1) := by decide +kernel
theorem dX8_leak_49 : decode cX8_leak 49 = .ok (.invokevirtual 245, 3) := by decide +kernel
theorem dX8_leak_52 : decode cX8_leak 52 = .ok (.ifCond .eq 7, 3) := by decide +kernel
theorem dX8_leak_55 : decode cX8_leak 55 = .ok (.ldc2_w 102, 3) := by decide +kernel
theorem dX8_leak_58 : decode cX8_leak 58 = .ok (.lreturn, 1) := by decide +kernel
theorem dX8_leak_59 : decode cX8_leak 59 = .ok (.iconst (-1), 1) := by decide +kernel
theorem dX8_leak_60 : decode cX8_leak 60 = .ok (.istore_n 3, 1) := by decide +kernel
theorem dX8_leak_61 : decode cX8_leak 61 = .ok (.iconst 0, 1) := by decide +kernel
theorem dX8_leak_62 : decode cX8_leak 62 = .ok (.istore 4, 2) := by decide +kernel
theorem dX8_leak_64 : decode cX8_leak 64 = .ok (.lconst 0, 1) := by decide +kernel
theorem dX8_leak_65 : decode cX8_leak 65 = .ok (.lstore 5, 2) := by decide +kernel
theorem dX8_leak_67 : decode cX8_leak 67 = .ok (.iconst 1, 1) := by decide +kernel
theorem dX8_leak_68 : decode cX8_leak 68 = .ok (.istore 7, 2) := by decide +kernel
theorem dX8_leak_70 : decode cX8_leak 70 = .ok (.iload 7, 2) := by decide +kernel
theorem dX8_leak_72 : decode cX8_leak 72 = .ok (.aload_n 0, 1) := by decide +kernel
theorem dX8_leak_73 : decode cX8_leak 73 = .ok (.getfield 229, 3) := by decide +kernel
theorem dX8_leak_76 : decode cX8_leak 76 = .ok (.if_icmp .ge 59, 3) := by decide +kernel
theorem dX8_leak_79 : decode cX8_leak 79 = .ok (.iconst 1, 1) := by decide +kernel
theorem dX8_leak_80 : decode cX8_leak 80 = .ok (.istore 8, 2) := by decide +kernel
theorem dX8_leak_82 : decode cX8_leak 82 = .ok (.iload 8, 2) := by decide +kernel
theorem dX8_leak_84 : decode cX8_leak 84 = .ok (.bipush 40, 2) := by decide +kernel
theorem dX8_leak_86 : decode cX8_leak 86 = .ok (.if_icmp .gt 43, 3) := by decide +kernel
theorem dX8_leak_89 : decode cX8_leak 89 = .ok (.aload_n 0, 1) := by decide +kernel
theorem dX8_leak_90 : decode cX8_leak 90 = .ok (.iload 7, 2) := by decide +kernel
theorem dX8_leak_92 : decode cX8_leak 92 = .ok (.iload 8, 2) := by decide +kernel
theorem dX8_leak_94 : decode cX8_leak 94 = .ok (.invokevirtual 476, 3) := by decide +kernel
theorem dX8_leak_97 : decode cX8_leak 97 = .ok (.lstore 9, 2) := by decide +kernel
theorem dX8_leak_99 : decode cX8_leak 99 = .ok (.iload_n 3, 1) := by decide +kernel
theorem dX8_leak_100 : decode cX8_leak 100 = .ok (.iconst (-1), 1) := by decide +kernel
theorem dX8_leak_101 : decode cX8_leak 101 = .ok (.if_icmp .eq 11, 3) := by decide +kernel
theorem dX8_leak_104 : decode cX8_leak 104 = .ok (.lload 9, 2) := by decide +kernel
theorem dX8_leak_106 : decode cX8_leak 106 = .ok (.lload 5, 2) := by decide +kernel
theorem dX8_leak_108 : decode cX8_leak 108 = .ok (.lcmp, 1) := by decide +kernel
theorem dX8_leak_109 : decode cX8_leak 109 = .ok (.ifCond .ge 14, 3) := by decide +kernel
theorem dX8_leak_112 : decode cX8_leak 112 = .ok (.iload 7, 2) := by decide +kernel
theorem dX8_leak_114 : decode cX8_leak 114 = .ok (.istore_n 3, 1) := by decide +kernel
theorem dX8_leak_115 : decode cX8_leak 115 = .ok (.iload 8, 2) := by decide +kernel
theorem dX8_leak_117 : decode cX8_leak 117 = .ok (.istore 4, 2) := by decide +kernel
theorem dX8_leak_119 : decode cX8_leak 119 = .ok (.lload 9, 2) := by decide +kernel
theorem dX8_leak_121 : decode cX8_leak 121 = .ok (.lstore 5, 2) := by decide +kernel
theorem dX8_leak_123 : decode cX8_leak 123 = .ok (.iinc 8 1, 3) := by decide +kernel
theorem dX8_leak_126 : decode cX8_leak 126 = .ok (.goto (-44), 3) := by decide +kernel
theorem dX8_leak_129 : decode cX8_leak 129 = .ok (.iinc 7 1, 3) := by decide +kernel
theorem dX8_leak_132 : decode cX8_leak 132 = .ok (.goto (-62), 3) := by decide +kernel
theorem dX8_leak_135 : decode cX8_leak 135 = .ok (.aload_n 0, 1) := by decide +kernel
theorem dX8_leak_136 : decode cX8_leak 136 = .ok (.invokevirtual 435, 3) := by decide +kernel
theorem dX8_leak_139 : decode cX8_leak 139 = .ok (.iload_n 1, 1) := by decide +kernel
theorem dX8_leak_140 : decode cX8_leak 140 = .ok (.ifCond .ne 8, 3) := by decide +kernel
theorem dX8_leak_143 : decode cX8_leak 143 = .ok (.iload_n 3, 1) := by decide +kernel
theorem dX8_leak_144 : decode cX8_leak 144 = .ok (.i2l, 1) := by decide +kernel
theorem dX8_leak_145 : decode cX8_leak 145 = .ok (.goto 16, 3) := by decide +kernel
theorem dX8_leak_148 : decode cX8_leak 148 = .ok (.iload_n 1, 1) := by decide +kernel
theorem dX8_leak_149 : decode cX8_leak 149 = .ok (.iconst 1, 1) := by decide +kernel
theorem dX8_leak_150 : decode cX8_leak 150 = .ok (.if_icmp .ne 9, 3) := by decide +kernel
theorem dX8_leak_153 : decode cX8_leak 153 = .ok (.iload 4, 2) := by decide +kernel
theorem dX8_leak_155 : decode cX8_leak 155 = .ok (.i2l, 1) := by decide +kernel
theorem dX8_leak_156 : decode cX8_leak 156 = .ok (.goto 5, 3) := by decide +kernel
theorem dX8_leak_159 : decode cX8_leak 159 = .ok (.lload 5, 2) := by decide +kernel
theorem dX8_leak_161 : decode cX8_leak 161 = .ok (.lreturn, 1) := by decide +kernel
theorem dX8_remembers_0 : decode cX8_remembers 0 = .ok (.aload_n 0, 1) := by decide +kernel
theorem dX8_remembers_1 : decode cX8_remembers 1 = .ok (.getfield 238, 3) := by decide +kernel
theorem dX8_remembers_4 : decode cX8_remembers 4 = .ok (.bipush 12, 2) := by decide +kernel
theorem dX8_remembers_6 : decode cX8_remembers 6 = .ok (.if_icmp .ne 111, 3) := by decide +kernel
theorem dX8_remembers_9 : decode cX8_remembers 9 = .ok (.aload_n 0, 1) := by decide +kernel
theorem dX8_remembers_10 : decode cX8_remembers 10 = .ok (.dup, 1) := by decide +kernel
theorem dX8_remembers_11 : decode cX8_remembers 11 = .ok (.getfield 238, 3) := by decide +kernel
theorem dX8_remembers_14 : decode cX8_remembers 14 = .ok (.iconst 1, 1) := by decide +kernel
theorem dX8_remembers_15 : decode cX8_remembers 15 = .ok (.isub, 1) := by decide +kernel
theorem dX8_remembers_16 : decode cX8_remembers 16 = .ok (.putfield 238, 3) := by decide +kernel
theorem dX8_remembers_19 : decode cX8_remembers 19 = .ok (.iconst 0, 1) := by decide +kernel
theorem dX8_remembers_20 : decode cX8_remembers 20 = .ok (.istore_n 1, 1) := by decide +kernel
theorem dX8_remembers_21 : decode cX8_remembers 21 = .ok (.iload_n 1, 1) := by decide +kernel
theorem dX8_remembers_22 : decode cX8_remembers 22 = .ok (.aload_n 0, 1) := by decide +kernel
theorem dX8_remembers_23 : decode cX8_remembers 23 = .ok (.getfield 238, 3) := by decide +kernel
theorem dX8_remembers_26 : decode cX8_remembers 26 = .ok (.if_icmp .ge 23, 3) := by decide +kernel
theorem dX8_remembers_29 : decode cX8_remembers 29 = .ok (.aload_n 0, 1) := by decide +kernel
theorem dX8_remembers_30 : decode cX8_remembers 30 = .ok (.getfield 93, 3) := by decide +kernel
theorem dX8_remembers_33 : decode cX8_remembers 33 = .ok (.iload_n 1, 1) := by decide +kernel
theorem dX8_remembers_34 : decode cX8_remembers 34 = .ok (.aload_n 0, 1) := by decide +kernel
theorem dX8_remembers_35 : decode cX8_remembers 35 = .ok (.getfield 93, 3) := by decide +kernel
theorem dX8_remembers_38 : decode cX8_remembers 38 = .ok (.iload_n 1, 1) := by decide +kernel
theorem dX8_remembers_39 : decode cX8_remembers 39 = .ok (.iconst 1, 1) := by decide +kernel
theorem dX8_remembers_40 : decode cX8_remembers 40 = .ok (.iadd, 1) := by decide +kernel
theorem dX8_remembers_41 : decode cX8_remembers 41 = .ok (.iaload, 1) := by decide +kernel
theorem dX8_remembers_42 : decode cX8_remembers 42 = .ok (.iastore, 1) := by decide +kernel
theorem dX8_remembers_43 : decode cX8_remembers 43 = .ok (.iinc 1 1, 3) := by decide +kernel
theorem dX8_remembers_46 : decode cX8_remembers 46 = .ok (.goto (-25), 3) := by decide +kernel
theorem dX8_remembers_49 : decode cX8_remembers 49 = .ok (.iconst 0, 1) := by decide +kernel
theorem dX8_remembers_50 : decode cX8_remembers 50 = .ok (.istore_n 1, 1) := by decide +kernel
theorem dX8_remembers_51 : decode cX8_remembers 51 = .ok (.iload_n 1, 1) := by decide +kernel
theorem dX8_remembers_52 : decode cX8_remembers 52 = .ok (.aload_n 0, 1) := by decide +kernel
theorem dX8_remembers_53 : decode cX8_remembers 53 = .ok (.getfield 238, 3) := by decide +kernel
theorem dX8_remembers_56 : decode cX8_remembers 56 = .ok (.bipush 9, 2) := by decide +kernel
theorem dX8_remembers_58 : decode cX8_remembers 58 = .ok (.imul, 1) := by decide +kernel
theorem dX8_remembers_59 : decode cX8_remembers 59 = .ok (.if_icmp .ge 24, 3) := by decide +kernel
theorem dX8_remembers_62 : decode cX8_remembers 62 = .ok (.aload_n 0, 1) := by decide +kernel
theorem dX8_remembers_63 : decode cX8_remembers 63 = .ok (.getfield 87, 3) := by decide +kernel
theorem dX8_remembers_66 : decode cX8_remembers 66 = .ok (.iload_n 1, 1) := by decide +kernel
theorem dX8_remembers_67 : decode cX8_remembers 67 = .ok (.aload_n 0, 1) := by decide +kernel
theorem dX8_remembers_68 : decode cX8_remembers 68 = .ok (.getfield 87, 3) := by decide +kernel
theorem dX8_remembers_71 : decode cX8_remembers 71 = .ok (.iload_n 1, 1) := by decide +kernel
theorem dX8_remembers_72 : decode cX8_remembers 72 = .ok (.bipush 9, 2) := by decide +kernel
theorem dX8_remembers_74 : decode cX8_remembers 74 = .ok (.iadd, 1) := by decide +kernel
theorem dX8_remembers_75 : decode cX8_remembers 75 = .ok (.iaload, 1) := by decide +kernel
theorem dX8_remembers_76 : decode cX8_remembers 76 = .ok (.iastore, 1) := by decide +kernel
theorem dX8_remembers_77 : decode cX8_remembers 77 = .ok (.iinc 1 1, 3) := by decide +kernel
theorem dX8_remembers_80 : decode cX8_remembers 80 = .ok (.goto (-29), 3) := by decide +kernel
theorem dX8_remembers_83 : decode cX8_remembers 83 = .ok (.iconst 0, 1) := by decide +kernel
theorem dX8_remembers_84 : decode cX8_remembers 84 = .ok (.istore_n 1, 1) := by decide +kernel
theorem dX8_remembers_85 : decode cX8_remembers 85 = .ok (.iload_n 1, 1) := by decide +kernel
theorem dX8_remembers_86 : decode cX8_remembers 86 = .ok (.aload_n 0, 1) := by decide +kernel
theorem dX8_remembers_87 : decode cX8_remembers 87 = .ok (.getfield 238, 3) := by decide +kernel
theorem dX8_remembers_90 : decode cX8_remembers 90 = .ok (.bipush 14, 2) := by decide +kernel
theorem dX8_remembers_92 : decode cX8_remembers 92 = .ok (.imul, 1) := by decide +kernel
theorem dX8_remembers_93 : decode cX8_remembers 93 = .ok (.if_icmp .ge 24, 3) := by decide +kernel
theorem dX8_remembers_96 : decode cX8_remembers 96 = .ok (.aload_n 0, 1) := by decide +kernel
theorem dX8_remembers_97 : decode cX8_remembers 97 = .ok (.getfield 90, 3) := by decide +kernel
theorem dX8_remembers_100 : decode cX8_remembers 100 = .ok (.iload_n 1, 1) := by decide +kernel
theorem dX8_remembers_101 : decode cX8_remembers 101 = .ok (.aload_n 0, 1) := by decide +kernel
theorem dX8_remembers_102 : decode cX8_remembers 102 = .ok (.getfield 90, 3) := by decide +kernel
theorem dX8_remembers_105 : decode cX8_remembers 105 = .ok (.iload_n 1, 1) := by decide +kernel
theorem dX8_remembers_106 : decode cX8_remembers 106 = .ok (.bipush 14, 2) := by decide +kernel
theorem dX8_remembers_108 : decode cX8_remembers 108 = .ok (.iadd, 1) := by decide +kernel
theorem dX8_remembers_109 : decode cX8_remembers 109 = .ok (.iaload, 1) := by decide +kernel
theorem dX8_remembers_110 : decode cX8_remembers 110 = .ok (.iastore, 1) := by decide +kernel
theorem dX8_remembers_111 : decode cX8_remembers 111 = .ok (.iinc 1 1, 3) := by decide +kernel
theorem dX8_remembers_114 : decode cX8_remembers 114 = .ok (.goto (-29), 3) := by decide +kernel
theorem dX8_remembers_117 : decode cX8_remembers 117 = .ok (.aload_n 0, 1) := by decide +kernel
theorem dX8_remembers_118 : decode cX8_remembers 118 = .ok (.getfield 93, 3) := by decide +kernel
theorem dX8_remembers_121 : decode cX8_remembers 121 = .ok (.aload_n 0, 1) := by decide +kernel
theorem dX8_remembers_122 : decode cX8_remembers 122 = .ok (.getfield 238, 3) := by decide +kernel
theorem dX8_remembers_125 : decode cX8_remembers 125 = .ok (.aload_n 0, 1) := by decide +kernel
theorem dX8_remembers_126 : decode cX8_remembers 126 = .ok (.getfield 235, 3) := by decide +kernel
theorem dX8_remembers_129 : decode cX8_remembers 129 = .ok (.iastore, 1) := by decide +kernel
theorem dX8_remembers_130 : decode cX8_remembers 130 = .ok (.iconst 0, 1) := by decide +kernel
theorem dX8_remembers_131 : decode cX8_remembers 131 = .ok (.istore_n 1, 1) := by decide +kernel
theorem dX8_remembers_132 : decode cX8_remembers 132 = .ok (.iload_n 1, 1) := by decide +kernel
theorem dX8_remembers_133 : decode cX8_remembers 133 = .ok (.bipush 9, 2) := by decide +kernel
theorem dX8_remembers_135 : decode cX8_remembers 135 = .ok (.if_icmp .ge 29, 3) := by decide +kernel
theorem dX8_remembers_138 : decode cX8_remembers 138 = .ok (.aload_n 0, 1) := by decide +kernel
theorem dX8_remembers_139 : decode cX8_remembers 139 = .ok (.getfield 87, 3) := by decide +kernel
theorem dX8_remembers_142 : decode cX8_remembers 142 = .ok (.bipush 9, 2) := by decide +kernel
theorem dX8_remembers_144 : decode cX8_remembers 144 = .ok (.aload_n 0, 1) := by decide +kernel
theorem dX8_remembers_145 : decode cX8_remembers 145 = .ok (.getfield 238, 3) := by decide +kernel
theorem dX8_remembers_148 : decode cX8_remembers 148 = .ok (.imul, 1) := by decide +kernel
theorem dX8_remembers_149 : decode cX8_remembers 149 = .ok (.iload_n 1, 1) := by decide +kernel
theorem dX8_remembers_150 : decode cX8_remembers 150 = .ok (.iadd, 1) := by decide +kernel
theorem dX8_remembers_151 : decode cX8_remembers 151 = .ok (.aload_n 0, 1) := by decide +kernel
theorem dX8_remembers_152 : decode cX8_remembers 152 = .ok (.getfield 19, 3) := by decide +kernel
theorem dX8_remembers_155 : decode cX8_remembers 155 = .ok (.iload_n 1, 1) := by decide +kernel
theorem dX8_remembers_156 : decode cX8_remembers 156 = .ok (.iaload, 1) := by decide +kernel
theorem dX8_remembers_157 : decode cX8_remembers 157 = .ok (.iastore, 1) := by decide +kernel
theorem dX8_remembers_158 : decode cX8_remembers 158 = .ok (.iinc 1 1, 3) := by decide +kernel
theorem dX8_remembers_161 : decode cX8_remembers 161 = .ok (.goto (-29), 3) := by decide +kernel
theorem dX8_remembers_164 : decode cX8_remembers 164 = .ok (.iconst 0, 1) := by decide +kernel
theorem dX8_remembers_165 : decode cX8_remembers 165 = .ok (.istore_n 1, 1) := by decide +kernel
theorem dX8_remembers_166 : decode cX8_remembers 166 = .ok (.iload_n 1, 1) := by decide +kernel
theorem dX8_remembers_167 : decode cX8_remembers 167 = .ok (.bipush 14, 2) := by decide +kernel
theorem dX8_remembers_169 : decode cX8_remembers 169 = .ok (.if_icmp .ge 29, 3) := by decide +kernel
theorem dX8_remembers_172 : decode cX8_remembers 172 = .ok (.aload_n 0, 1) := by decide +kernel
theorem dX8_remembers_173 : decode cX8_remembers 173 = .ok (.getfield 90, 3) := by decide +kernel
theorem dX8_remembers_176 : decode cX8_remembers 176 = .ok (.bipush 14, 2) := by decide +kernel
theorem dX8_remembers_178 : decode cX8_remembers 178 = .ok (.aload_n 0, 1) := by decide +kernel
theorem dX8_remembers_179 : decode cX8_remembers 179 = .ok (.getfield 238, 3) := by decide +kernel
theorem dX8_remembers_182 : decode cX8_remembers 182 = .ok (.imul, 1) := by decide +kernel
theorem dX8_remembers_183 : decode cX8_remembers 183 = .ok (.iload_n 1, 1) := by decide +kernel
theorem dX8_remembers_184 : decode cX8_remembers 184 = .ok (.iadd, 1) := by decide +kernel
theorem dX8_remembers_185 : decode cX8_remembers 185 = .ok (.aload_n 0, 1) := by decide +kernel
theorem dX8_remembers_186 : decode cX8_remembers 186 = .ok (.getfield 37, 3) := by decide +kernel
theorem dX8_remembers_189 : decode cX8_remembers 189 = .ok (.iload_n 1, 1) := by decide +kernel
theorem dX8_remembers_190 : decode cX8_remembers 190 = .ok (.iaload, 1) := by decide +kernel
theorem dX8_remembers_191 : decode cX8_remembers 191 = .ok (.iastore, 1) := by decide +kernel
theorem dX8_remembers_192 : decode cX8_remembers 192 = .ok (.iinc 1 1, 3) := by decide +kernel
theorem dX8_remembers_195 : decode cX8_remembers 195 = .ok (.goto (-29), 3) := by decide +kernel
theorem dX8_remembers_198 : decode cX8_remembers 198 = .ok (.aload_n 0, 1) := by decide +kernel
theorem dX8_remembers_199 : decode cX8_remembers 199 = .ok (.dup, 1) := by decide +kernel
theorem dX8_remembers_200 : decode cX8_remembers 200 = .ok (.getfield 238, 3) := by decide +kernel
theorem dX8_remembers_203 : decode cX8_remembers 203 = .ok (.iconst 1, 1) := by decide +kernel
theorem dX8_remembers_204 : decode cX8_remembers 204 = .ok (.iadd, 1) := by decide +kernel
theorem dX8_remembers_205 : decode cX8_remembers 205 = .ok (.putfield 238, 3) := by decide +kernel
theorem dX8_remembers_208 : decode cX8_remembers 208 = .ok (.return_, 1) := by decide +kernel
theorem dX8_valve_0 : decode cX8_valve 0 = .ok (.aload_n 0, 1) := by decide +kernel
theorem dX8_valve_1 : decode cX8_valve 1 = .ok (.iload_n 1, 1) := by decide +kernel
theorem dX8_valve_2 : decode cX8_valve 2 = .ok (.invokevirtual 317, 3) := by decide +kernel
theorem dX8_valve_5 : decode cX8_valve 5 = .ok (.invokestatic 330, 3) := by decide +kernel
theorem dX8_valve_8 : decode cX8_valve 8 = .ok (.istore_n 3, 1) := by decide +kernel
theorem dX8_valve_9 : decode cX8_valve 9 = .ok (.aload_n 0, 1) := by decide +kernel
theorem dX8_valve_10 : decode cX8_valve 10 = .ok (.iload_n 3, 1) := by decide +kernel
theorem dX8_valve_11 : decode cX8_valve 11 = .ok (.ifCond .eq 7, 3) := by decide +kernel
theorem dX8_valve_14 : decode cX8_valve 14 = .ok (.iload_n 3, 1) := by decide +kernel
theorem dX8_valve_15 : decode cX8_valve 15 = .ok (.goto 28, 3) := by decide +kernel
theorem dX8_valve_18 : decode cX8_valve 18 = .ok (.aload_n 0, 1) := by decide +kernel
theorem dX8_valve_19 : decode cX8_valve 19 = .ok (.getfield 235, 3) := by decide +kernel
theorem dX8_valve_22 : decode cX8_valve 22 = .ok (.iload_n 1, 1) := by decide +kernel
theorem dX8_valve_23 : decode cX8_valve 23 = .ok (.ishr, 1) := by decide +kernel
theorem dX8_valve_24 : decode cX8_valve 24 = .ok (.iconst 1, 1) := by decide +kernel
theorem dX8_valve_25 : decode cX8_valve 25 = .ok (.iand, 1) := by decide +kernel
theorem dX8_valve_26 : decode cX8_valve 26 = .ok (.iload_n 2, 1) := by decide +kernel
theorem dX8_valve_27 : decode cX8_valve 27 = .ok (.ifCond .eq 7, 3) := by decide +kernel
theorem dX8_valve_30 : decode cX8_valve 30 = .ok (.iconst 1, 1) := by decide +kernel
theorem dX8_valve_31 : decode cX8_valve 31 = .ok (.goto 4, 3) := by decide +kernel
theorem dX8_valve_34 : decode cX8_valve 34 = .ok (.iconst 0, 1) := by decide +kernel
theorem dX8_valve_35 : decode cX8_valve 35 = .ok (.if_icmp .ne 7, 3) := by decide +kernel
theorem dX8_valve_38 : decode cX8_valve 38 = .ok (.iconst 5, 1) := by decide +kernel
theorem dX8_valve_39 : decode cX8_valve 39 = .ok (.goto 4, 3) := by decide +kernel
theorem dX8_valve_42 : decode cX8_valve 42 = .ok (.iconst 0, 1) := by decide +kernel
theorem dX8_valve_43 : decode cX8_valve 43 = .ok (.invokevirtual 245, 3) := by decide +kernel
theorem dX8_valve_46 : decode cX8_valve 46 = .ok (.ifCond .eq 5, 3) := by decide +kernel
theorem dX8_valve_49 : decode cX8_valve 49 = .ok (.iconst (-1), 1) := by decide +kernel
theorem dX8_valve_50 : decode cX8_valve 50 = .ok (.ireturn, 1) := by decide +kernel
theorem dX8_valve_51 : decode cX8_valve 51 = .ok (.aload_n 0, 1) := by decide +kernel
theorem dX8_valve_52 : decode cX8_valve 52 = .ok (.invokevirtual 480, 3) := by decide +kernel
theorem dX8_valve_55 : decode cX8_valve 55 = .ok (.aload_n 0, 1) := by decide +kernel
theorem dX8_valve_56 : decode cX8_valve 56 = .ok (.dup, 1) := by decide +kernel
theorem dX8_valve_57 : decode cX8_valve 57 = .ok (.getfield 235, 3) := by decide +kernel
theorem dX8_valve_60 : decode cX8_valve 60 = .ok (.iconst 1, 1) := by decide +kernel
theorem dX8_valve_61 : decode cX8_valve 61 = .ok (.iload_n 1, 1) := by decide +kernel
theorem dX8_valve_62 : decode cX8_valve 62 = .ok (.ishl, 1) := by decide +kernel
theorem dX8_valve_63 : decode cX8_valve 63 = .ok (.ixor, 1) := by decide +kernel
theorem dX8_valve_64 : decode cX8_valve 64 = .ok (.putfield 235, 3) := by decide +kernel
theorem dX8_valve_67 : decode cX8_valve 67 = .ok (.aload_n 0, 1) := by decide +kernel
theorem dX8_valve_68 : decode cX8_valve 68 = .ok (.invokevirtual 260, 3) := by decide +kernel
theorem dX8_valve_71 : decode cX8_valve 71 = .ok (.aload_n 0, 1) := by decide +kernel
theorem dX8_valve_72 : decode cX8_valve 72 = .ok (.invokevirtual 391, 3) := by decide +kernel
theorem dX8_valve_75 : decode cX8_valve 75 = .ok (.invokestatic 483, 3) := by decide +kernel
theorem dX8_valve_78 : decode cX8_valve 78 = .ok (.ireturn, 1) := by decide +kernel
theorem dX8_becomes_0 : decode cX8_becomes 0 = .ok (.aload_n 0, 1) := by decide +kernel
theorem dX8_becomes_1 : decode cX8_becomes 1 = .ok (.getfield 19, 3) := by decide +kernel
theorem dX8_becomes_4 : decode cX8_becomes 4 = .ok (.iload_n 1, 1) := by decide +kernel
theorem dX8_becomes_5 : decode cX8_becomes 5 = .ok (.iaload, 1) := by decide +kernel
theorem dX8_becomes_6 : decode cX8_becomes 6 = .ok (.istore_n 3, 1) := by decide +kernel
theorem dX8_becomes_7 : decode cX8_becomes 7 = .ok (.aload_n 0, 1) := by decide +kernel
theorem dX8_becomes_8 : decode cX8_becomes 8 = .ok (.invokevirtual 480, 3) := by decide +kernel
theorem dX8_becomes_11 : decode cX8_becomes 11 = .ok (.aload_n 0, 1) := by decide +kernel
theorem dX8_becomes_12 : decode cX8_becomes 12 = .ok (.getfield 19, 3) := by decide +kernel
theorem dX8_becomes_15 : decode cX8_becomes 15 = .ok (.iload_n 1, 1) := by decide +kernel
theorem dX8_becomes_16 : decode cX8_becomes 16 = .ok (.iload_n 2, 1) := by decide +kernel
theorem dX8_becomes_17 : decode cX8_becomes 17 = .ok (.iastore, 1) := by decide +kernel
theorem dX8_becomes_18 : decode cX8_becomes 18 = .ok (.aload_n 0, 1) := by decide +kernel
theorem dX8_becomes_19 : decode cX8_becomes 19 = .ok (.invokevirtual 260, 3) := by decide +kernel
theorem dX8_becomes_22 : decode cX8_becomes 22 = .ok (.iload_n 3, 1) := by decide +kernel
theorem dX8_becomes_23 : decode cX8_becomes 23 = .ok (.ireturn, 1) := by decide +kernel
theorem dX8_draw_0 : decode cX8_draw 0 = .ok (.aload_n 0, 1) := by decide +kernel
theorem dX8_draw_1 : decode cX8_draw 1 = .ok (.aload_n 0, 1) := by decide +kernel
theorem dX8_draw_2 : decode cX8_draw 2 = .ok (.iload_n 1, 1) := by decide +kernel
theorem dX8_draw_3 : decode cX8_draw 3 = .ok (.invokevirtual 421, 3) := by decide +kernel
theorem dX8_draw_6 : decode cX8_draw 6 = .ok (.iload_n 2, 1) := by decide +kernel
theorem dX8_draw_7 : decode cX8_draw 7 = .ok (.i2l, 1) := by decide +kernel
theorem dX8_draw_8 : decode cX8_draw 8 = .ok (.lconst 0, 1) := by decide +kernel
theorem dX8_draw_9 : decode cX8_draw 9 = .ok (.ldc2_w 416, 3) := by decide +kernel
theorem dX8_draw_12 : decode cX8_draw 12 = .ok (.invokestatic 131, 3) := by decide +kernel
theorem dX8_draw_15 : decode cX8_draw 15 = .ok (.invokestatic 241, 3) := by decide +kernel
theorem dX8_draw_18 : decode cX8_draw 18 = .ok (.invokevirtual 245, 3) := by decide +kernel
theorem dX8_draw_21 : decode cX8_draw 21 = .ok (.ifCond .eq 7, 3) := by decide +kernel
theorem dX8_draw_24 : decode cX8_draw 24 = .ok (.iconst (-1), 1) := by decide +kernel
theorem dX8_draw_25 : decode cX8_draw 25 = .ok (.goto 9, 3) := by decide +kernel
theorem dX8_draw_28 : decode cX8_draw 28 = .ok (.aload_n 0, 1) := by decide +kernel
theorem dX8_draw_29 : decode cX8_draw 29 = .ok (.iload_n 1, 1) := by decide +kernel
theorem dX8_draw_30 : decode cX8_draw 30 = .ok (.iload_n 2, 1) := by decide +kernel
theorem dX8_draw_31 : decode cX8_draw 31 = .ok (.invokevirtual 486, 3) := by decide +kernel
theorem dX8_draw_34 : decode cX8_draw 34 = .ok (.ireturn, 1) := by decide +kernel
theorem dX8_well_0 : decode cX8_well 0 = .ok (.aload_n 0, 1) := by decide +kernel
theorem dX8_well_1 : decode cX8_well 1 = .ok (.aload_n 0, 1) := by decide +kernel
theorem dX8_well_2 : decode cX8_well 2 = .ok (.getfield 229, 3) := by decide +kernel
theorem dX8_well_5 : decode cX8_well 5 = .ok (.ifCond .le 7, 3) := by decide +kernel
theorem dX8_well_8 : decode cX8_well 8 = .ok (.iconst 1, 1) := by decide +kernel
theorem dX8_well_9 : decode cX8_well 9 = .ok (.goto 4, 3) := by decide +kernel
theorem dX8_well_12 : decode cX8_well 12 = .ok (.iconst 0, 1) := by decide +kernel
theorem dX8_well_13 : decode cX8_well 13 = .ok (.iload_n 1, 1) := by decide +kernel
theorem dX8_well_14 : decode cX8_well 14 = .ok (.i2l, 1) := by decide +kernel
theorem dX8_well_15 : decode cX8_well 15 = .ok (.lconst 0, 1) := by decide +kernel
theorem dX8_well_16 : decode cX8_well 16 = .ok (.ldc2_w 489, 3) := by decide +kernel
theorem dX8_well_19 : decode cX8_well 19 = .ok (.invokestatic 131, 3) := by decide +kernel
theorem dX8_well_22 : decode cX8_well 22 = .ok (.invokestatic 241, 3) := by decide +kernel
theorem dX8_well_25 : decode cX8_well 25 = .ok (.invokevirtual 245, 3) := by decide +kernel
theorem dX8_well_28 : decode cX8_well 28 = .ok (.ifCond .eq 7, 3) := by decide +kernel
theorem dX8_well_31 : decode cX8_well 31 = .ok (.iconst (-1), 1) := by decide +kernel
theorem dX8_well_32 : decode cX8_well 32 = .ok (.goto 9, 3) := by decide +kernel
theorem dX8_well_35 : decode cX8_well 35 = .ok (.aload_n 0, 1) := by decide +kernel
theorem dX8_well_36 : decode cX8_well 36 = .ok (.iconst 0, 1) := by decide +kernel
theorem dX8_well_37 : decode cX8_well 37 = .ok (.iload_n 1, 1) := by decide +kernel
theorem dX8_well_38 : decode cX8_well 38 = .ok (.invokevirtual 486, 3) := by decide +kernel
theorem dX8_well_41 : decode cX8_well 41 = .ok (.ireturn, 1) := by decide +kernel
theorem dX8_resist_0 : decode cX8_resist 0 = .ok (.aload_n 0, 1) := by decide +kernel
theorem dX8_resist_1 : decode cX8_resist 1 = .ok (.iload_n 1, 1) := by decide +kernel
theorem dX8_resist_2 : decode cX8_resist 2 = .ok (.invokevirtual 317, 3) := by decide +kernel
theorem dX8_resist_5 : decode cX8_resist 5 = .ok (.invokestatic 330, 3) := by decide +kernel
theorem dX8_resist_8 : decode cX8_resist 8 = .ok (.istore_n 3, 1) := by decide +kernel
theorem dX8_resist_9 : decode cX8_resist 9 = .ok (.aload_n 0, 1) := by decide +kernel
theorem dX8_resist_10 : decode cX8_resist 10 = .ok (.iload_n 3, 1) := by decide +kernel
theorem dX8_resist_11 : decode cX8_resist 11 = .ok (.ifCond .eq 7, 3) := by decide +kernel
theorem dX8_resist_14 : decode cX8_resist 14 = .ok (.iload_n 3, 1) := by decide +kernel
theorem dX8_resist_15 : decode cX8_resist 15 = .ok (.goto 34, 3) := by decide +kernel
theorem dX8_resist_18 : decode cX8_resist 18 = .ok (.aload_n 0, 1) := by decide +kernel
theorem dX8_resist_19 : decode cX8_resist 19 = .ok (.getfield 34, 3) := by decide +kernel
theorem dX8_resist_22 : decode cX8_resist 22 = .ok (.iload_n 1, 1) := by decide +kernel
theorem dX8_resist_23 : decode cX8_resist 23 = .ok (.iaload, 1) := by decide +kernel
theorem dX8_resist_24 : decode cX8_resist 24 = .ok (.iconst 2, 1) := by decide +kernel
theorem dX8_resist_25 : decode cX8_resist 25 = .ok (.if_icmp .ne 7, 3) := by decide +kernel
theorem dX8_resist_28 : decode cX8_resist 28 = .ok (.iconst 5, 1) := by decide +kernel
theorem dX8_resist_29 : decode cX8_resist 29 = .ok (.goto 20, 3) := by decide +kernel
theorem dX8_resist_32 : decode cX8_resist 32 = .ok (.iload_n 2, 1) := by decide +kernel
theorem dX8_resist_33 : decode cX8_resist 33 = .ok (.i2l, 1) := by decide +kernel
theorem dX8_resist_34 : decode cX8_resist 34 = .ok (.lconst 1, 1) := by decide +kernel
theorem dX8_resist_35 : decode cX8_resist 35 = .ok (.ldc2_w 491, 3) := by decide +kernel
theorem dX8_resist_38 : decode cX8_resist 38 = .ok (.invokestatic 131, 3) := by decide +kernel
theorem dX8_resist_41 : decode cX8_resist 41 = .ok (.ifCond .eq 7, 3) := by decide +kernel
theorem dX8_resist_44 : decode cX8_resist 44 = .ok (.iconst 0, 1) := by decide +kernel
theorem dX8_resist_45 : decode cX8_resist 45 = .ok (.goto 4, 3) := by decide +kernel
theorem dX8_resist_48 : decode cX8_resist 48 = .ok (.iconst 2, 1) := by decide +kernel
theorem dX8_resist_49 : decode cX8_resist 49 = .ok (.invokevirtual 245, 3) := by decide +kernel
theorem dX8_resist_52 : decode cX8_resist 52 = .ok (.ifCond .eq 5, 3) := by decide +kernel
theorem dX8_resist_55 : decode cX8_resist 55 = .ok (.iconst (-1), 1) := by decide +kernel
theorem dX8_resist_56 : decode cX8_resist 56 = .ok (.ireturn, 1) := by decide +kernel
theorem dX8_resist_57 : decode cX8_resist 57 = .ok (.aload_n 0, 1) := by decide +kernel
theorem dX8_resist_58 : decode cX8_resist 58 = .ok (.getfield 37, 3) := by decide +kernel
theorem dX8_resist_61 : decode cX8_resist 61 = .ok (.iload_n 1, 1) := by decide +kernel
theorem dX8_resist_62 : decode cX8_resist 62 = .ok (.iaload, 1) := by decide +kernel
theorem dX8_resist_63 : decode cX8_resist 63 = .ok (.istore 4, 2) := by decide +kernel
theorem dX8_resist_65 : decode cX8_resist 65 = .ok (.aload_n 0, 1) := by decide +kernel
theorem dX8_resist_66 : decode cX8_resist 66 = .ok (.invokevirtual 480, 3) := by decide +kernel
theorem dX8_resist_69 : decode cX8_resist 69 = .ok (.aload_n 0, 1) := by decide +kernel
theorem dX8_resist_70 : decode cX8_resist 70 = .ok (.getfield 37, 3) := by decide +kernel
theorem dX8_resist_73 : decode cX8_resist 73 = .ok (.iload_n 1, 1) := by decide +kernel
theorem dX8_resist_74 : decode cX8_resist 74 = .ok (.iload_n 2, 1) := by decide +kernel
theorem dX8_resist_75 : decode cX8_resist 75 = .ok (.iastore, 1) := by decide +kernel
theorem dX8_resist_76 : decode cX8_resist 76 = .ok (.aload_n 0, 1) := by decide +kernel
theorem dX8_resist_77 : decode cX8_resist 77 = .ok (.invokevirtual 260, 3) := by decide +kernel
theorem dX8_resist_80 : decode cX8_resist 80 = .ok (.iload 4, 2) := by decide +kernel
theorem dX8_resist_82 : decode cX8_resist 82 = .ok (.ireturn, 1) := by decide +kernel
theorem dX8_undo_0 : decode cX8_undo 0 = .ok (.aload_n 0, 1) := by decide +kernel
theorem dX8_undo_1 : decode cX8_undo 1 = .ok (.aload_n 0, 1) := by decide +kernel
theorem dX8_undo_2 : decode cX8_undo 2 = .ok (.getfield 229, 3) := by decide +kernel
theorem dX8_undo_5 : decode cX8_undo 5 = .ok (.ifCond .ne 7, 3) := by decide +kernel
theorem dX8_undo_8 : decode cX8_undo 8 = .ok (.iconst 1, 1) := by decide +kernel
theorem dX8_undo_9 : decode cX8_undo 9 = .ok (.goto 15, 3) := by decide +kernel
theorem dX8_undo_12 : decode cX8_undo 12 = .ok (.aload_n 0, 1) := by decide +kernel
theorem dX8_undo_13 : decode cX8_undo 13 = .ok (.getfield 238, 3) := by decide +kernel
theorem dX8_undo_16 : decode cX8_undo 16 = .ok (.ifCond .ne 7, 3) := by decide +kernel
theorem dX8_undo_19 : decode cX8_undo 19 = .ok (.iconst 5, 1) := by decide +kernel
theorem dX8_undo_20 : decode cX8_undo 20 = .ok (.goto 4, 3) := by decide +kernel
theorem dX8_undo_23 : decode cX8_undo 23 = .ok (.iconst 0, 1) := by decide +kernel
theorem dX8_undo_24 : decode cX8_undo 24 = .ok (.invokevirtual 245, 3) := by decide +kernel
theorem dX8_undo_27 : decode cX8_undo 27 = .ok (.ifCond .eq 5, 3) := by decide +kernel
theorem dX8_undo_30 : decode cX8_undo 30 = .ok (.iconst (-1), 1) := by decide +kernel
theorem dX8_undo_31 : decode cX8_undo 31 = .ok (.ireturn, 1) := by decide +kernel
theorem dX8_undo_32 : decode cX8_undo 32 = .ok (.aload_n 0, 1) := by decide +kernel
theorem dX8_undo_33 : decode cX8_undo 33 = .ok (.dup, 1) := by decide +kernel
theorem dX8_undo_34 : decode cX8_undo 34 = .ok (.getfield 238, 3) := by decide +kernel
theorem dX8_undo_37 : decode cX8_undo 37 = .ok (.iconst 1, 1) := by decide +kernel
theorem dX8_undo_38 : decode cX8_undo 38 = .ok (.isub, 1) := by decide +kernel
theorem dX8_undo_39 : decode cX8_undo 39 = .ok (.putfield 238, 3) := by decide +kernel
theorem dX8_undo_42 : decode cX8_undo 42 = .ok (.aload_n 0, 1) := by decide +kernel
theorem dX8_undo_43 : decode cX8_undo 43 = .ok (.aload_n 0, 1) := by decide +kernel
theorem dX8_undo_44 : decode cX8_undo 44 = .ok (.getfield 93, 3) := by decide +kernel
theorem dX8_undo_47 : decode cX8_undo 47 = .ok (.aload_n 0, 1) := by decide +kernel
theorem dX8_undo_48 : decode cX8_undo 48 = .ok (.getfield 238, 3) := by decide +kernel
theorem dX8_undo_51 : decode cX8_undo 51 = .ok (.iaload, 1) := by decide +kernel
theorem dX8_undo_52 : decode cX8_undo 52 = .ok (.putfield 235, 3) := by decide +kernel
theorem dX8_undo_55 : decode cX8_undo 55 = .ok (.iconst 0, 1) := by decide +kernel
theorem dX8_undo_56 : decode cX8_undo 56 = .ok (.istore_n 1, 1) := by decide +kernel
theorem dX8_undo_57 : decode cX8_undo 57 = .ok (.iload_n 1, 1) := by decide +kernel
theorem dX8_undo_58 : decode cX8_undo 58 = .ok (.bipush 9, 2) := by decide +kernel
theorem dX8_undo_60 : decode cX8_undo 60 = .ok (.if_icmp .ge 29, 3) := by decide +kernel
theorem dX8_undo_63 : decode cX8_undo 63 = .ok (.aload_n 0, 1) := by decide +kernel
theorem dX8_undo_64 : decode cX8_undo 64 = .ok (.getfield 19, 3) := by decide +kernel
theorem dX8_undo_67 : decode cX8_undo 67 = .ok (.iload_n 1, 1) := by decide +kernel
theorem dX8_undo_68 : decode cX8_undo 68 = .ok (.aload_n 0, 1) := by decide +kernel
theorem dX8_undo_69 : decode cX8_undo 69 = .ok (.getfield 87, 3) := by decide +kernel
theorem dX8_undo_72 : decode cX8_undo 72 = .ok (.bipush 9, 2) := by decide +kernel
theorem dX8_undo_74 : decode cX8_undo 74 = .ok (.aload_n 0, 1) := by decide +kernel
theorem dX8_undo_75 : decode cX8_undo 75 = .ok (.getfield 238, 3) := by decide +kernel
theorem dX8_undo_78 : decode cX8_undo 78 = .ok (.imul, 1) := by decide +kernel
theorem dX8_undo_79 : decode cX8_undo 79 = .ok (.iload_n 1, 1) := by decide +kernel
theorem dX8_undo_80 : decode cX8_undo 80 = .ok (.iadd, 1) := by decide +kernel
theorem dX8_undo_81 : decode cX8_undo 81 = .ok (.iaload, 1) := by decide +kernel
theorem dX8_undo_82 : decode cX8_undo 82 = .ok (.iastore, 1) := by decide +kernel
theorem dX8_undo_83 : decode cX8_undo 83 = .ok (.iinc 1 1, 3) := by decide +kernel
theorem dX8_undo_86 : decode cX8_undo 86 = .ok (.goto (-29), 3) := by decide +kernel
theorem dX8_undo_89 : decode cX8_undo 89 = .ok (.iconst 0, 1) := by decide +kernel
theorem dX8_undo_90 : decode cX8_undo 90 = .ok (.istore_n 1, 1) := by decide +kernel
theorem dX8_undo_91 : decode cX8_undo 91 = .ok (.iload_n 1, 1) := by decide +kernel
theorem dX8_undo_92 : decode cX8_undo 92 = .ok (.bipush 14, 2) := by decide +kernel
theorem dX8_undo_94 : decode cX8_undo 94 = .ok (.if_icmp .ge 29, 3) := by decide +kernel
theorem dX8_undo_97 : decode cX8_undo 97 = .ok (.aload_n 0, 1) := by decide +kernel
theorem dX8_undo_98 : decode cX8_undo 98 = .ok (.getfield 37, 3) := by decide +kernel
theorem dX8_undo_101 : decode cX8_undo 101 = .ok (.iload_n 1, 1) := by decide +kernel
theorem dX8_undo_102 : decode cX8_undo 102 = .ok (.aload_n 0, 1) := by decide +kernel
theorem dX8_undo_103 : decode cX8_undo 103 = .ok (.getfield 90, 3) := by decide +kernel
theorem dX8_undo_106 : decode cX8_undo 106 = .ok (.bipush 14, 2) := by decide +kernel
theorem dX8_undo_108 : decode cX8_undo 108 = .ok (.aload_n 0, 1) := by decide +kernel
theorem dX8_undo_109 : decode cX8_undo 109 = .ok (.getfield 238, 3) := by decide +kernel
theorem dX8_undo_112 : decode cX8_undo 112 = .ok (.imul, 1) := by decide +kernel
theorem dX8_undo_113 : decode cX8_undo 113 = .ok (.iload_n 1, 1) := by decide +kernel
theorem dX8_undo_114 : decode cX8_undo 114 = .ok (.iadd, 1) := by decide +kernel
theorem dX8_undo_115 : decode cX8_undo 115 = .ok (.iaload, 1) := by decide +kernel
theorem dX8_undo_116 : decode cX8_undo 116 = .ok (.iastore, 1) := by decide +kernel
theorem dX8_undo_117 : decode cX8_undo 117 = .ok (.iinc 1 1, 3) := by decide +kernel
theorem dX8_undo_120 : decode cX8_undo 120 = .ok (.goto (-29), 3) := by decide +kernel
theorem dX8_undo_123 : decode cX8_undo 123 = .ok (.aload_n 0, 1) := by decide +kernel
theorem dX8_undo_124 : decode cX8_undo 124 = .ok (.invokevirtual 260, 3) := by decide +kernel
theorem dX8_undo_127 : decode cX8_undo 127 = .ok (.aload_n 0, 1) := by decide +kernel
theorem dX8_undo_128 : decode cX8_undo 128 = .ok (.getfield 238, 3) := by decide +kernel
theorem dX8_undo_131 : decode cX8_undo 131 = .ok (.ireturn, 1) := by decide +kernel
theorem dX8_named_0 : decode cX8_named 0 = .ok (.aload_n 0, 1) := by decide +kernel
theorem dX8_named_1 : decode cX8_named 1 = .ok (.iconst 0, 1) := by decide +kernel
theorem dX8_named_2 : decode cX8_named 2 = .ok (.putfield 96, 3) := by decide +kernel
theorem dX8_named_5 : decode cX8_named 5 = .ok (.iconst 0, 1) := by decide +kernel
theorem dX8_named_6 : decode cX8_named 6 = .ok (.istore_n 2, 1) := by decide +kernel
theorem dX8_named_7 : decode cX8_named 7 = .ok (.iload_n 1, 1) := by decide +kernel
theorem dX8_named_8 : decode cX8_named 8 = .ok (.i2l, 1) := by decide +kernel
theorem dX8_named_9 : decode cX8_named 9 = .ok (.lconst 0, 1) := by decide +kernel
theorem dX8_named_10 : decode cX8_named 10 = .ok (.aload_n 0, 1) := by decide +kernel
theorem dX8_named_11 : decode cX8_named 11 = .ok (.getfield 104, 3) := by decide +kernel
theorem dX8_named_14 : decode cX8_named 14 = .ok (.i2l, 1) := by decide +kernel
theorem dX8_named_15 : decode cX8_named 15 = .ok (.invokestatic 131, 3) := by decide +kernel
theorem dX8_named_18 : decode cX8_named 18 = .ok (.ifCond .eq 7, 3) := by decide +kernel
theorem dX8_named_21 : decode cX8_named 21 = .ok (.iload_n 1, 1) := by decide +kernel
theorem dX8_named_22 : decode cX8_named 22 = .ok (.goto 4, 3) := by decide +kernel
theorem dX8_named_25 : decode cX8_named 25 = .ok (.iconst 0, 1) := by decide +kernel
theorem dX8_named_26 : decode cX8_named 26 = .ok (.istore_n 3, 1) := by decide +kernel
theorem dX8_named_27 : decode cX8_named 27 = .ok (.iload_n 2, 1) := by decide +kernel
theorem dX8_named_28 : decode cX8_named 28 = .ok (.iload_n 3, 1) := by decide +kernel
theorem dX8_named_29 : decode cX8_named 29 = .ok (.if_icmp .ge 20, 3) := by decide +kernel
theorem dX8_named_32 : decode cX8_named 32 = .ok (.aload_n 0, 1) := by decide +kernel
theorem dX8_named_33 : decode cX8_named 33 = .ok (.getfield 15, 3) := by decide +kernel
theorem dX8_named_36 : decode cX8_named 36 = .ok (.iload_n 2, 1) := by decide +kernel
theorem dX8_named_37 : decode cX8_named 37 = .ok (.iaload, 1) := by decide +kernel
theorem dX8_named_38 : decode cX8_named 38 = .ok (.bipush 32, 2) := by decide +kernel
theorem dX8_named_40 : decode cX8_named 40 = .ok (.if_icmp .ne 9, 3) := by decide +kernel
theorem dX8_named_43 : decode cX8_named 43 = .ok (.iinc 2 1, 3) := by decide +kernel
theorem dX8_named_46 : decode cX8_named 46 = .ok (.goto (-19), 3) := by decide +kernel
theorem dX8_named_49 : decode cX8_named 49 = .ok (.iload_n 3, 1) := by decide +kernel
theorem dX8_named_50 : decode cX8_named 50 = .ok (.iload_n 2, 1) := by decide +kernel
theorem dX8_named_51 : decode cX8_named 51 = .ok (.if_icmp .le 22, 3) := by decide +kernel
theorem dX8_named_54 : decode cX8_named 54 = .ok (.aload_n 0, 1) := by decide +kernel
theorem dX8_named_55 : decode cX8_named 55 = .ok (.getfield 15, 3) := by decide +kernel
theorem dX8_named_58 : decode cX8_named 58 = .ok (.iload_n 3, 1) := by decide +kernel
theorem dX8_named_59 : decode cX8_named 59 = .ok (.iconst 1, 1) := by decide +kernel
theorem dX8_named_60 : decode cX8_named 60 = .ok (.isub, 1) := by decide +kernel
theorem dX8_named_61 : decode cX8_named 61 = .ok (.iaload, 1) := by decide +kernel
theorem dX8_named_62 : decode cX8_named 62 = .ok (.bipush 32, 2) := by decide +kernel
theorem dX8_named_64 : decode cX8_named 64 = .ok (.if_icmp .ne 9, 3) := by decide +kernel
theorem dX8_named_67 : decode cX8_named 67 = .ok (.iinc 3 (-1), 3) := by decide +kernel
theorem dX8_named_70 : decode cX8_named 70 = .ok (.goto (-21), 3) := by decide +kernel
theorem dX8_named_73 : decode cX8_named 73 = .ok (.iconst 0, 1) := by decide +kernel
theorem dX8_named_74 : decode cX8_named 74 = .ok (.istore 4, 2) := by decide +kernel
theorem dX8_named_76 : decode cX8_named 76 = .ok (.iload_n 3, 1) := by decide +kernel
theorem dX8_named_77 : decode cX8_named 77 = .ok (.iload_n 2, 1) := by decide +kernel
theorem dX8_named_78 : decode cX8_named 78 = .ok (.if_icmp .le 35, 3) := by decide +kernel
theorem dX8_named_81 : decode cX8_named 81 = .ok (.iload 4, 2) := by decide +kernel
theorem dX8_named_83 : decode cX8_named 83 = .ok (.aload_n 0, 1) := by decide +kernel
theorem dX8_named_84 : decode cX8_named 84 = .ok (.getfield 229, 3) := by decide +kernel
theorem dX8_named_87 : decode cX8_named 87 = .ok (.if_icmp .ge 26, 3) := by decide +kernel
theorem dX8_named_90 : decode cX8_named 90 = .ok (.aload_n 0, 1) := by decide +kernel
theorem dX8_named_91 : decode cX8_named 91 = .ok (.bipush 6, 2) := by decide +kernel
theorem dX8_named_93 : decode cX8_named 93 = .ok (.iload 4, 2) := by decide +kernel
theorem dX8_named_95 : decode cX8_named 95 = .ok (.imul, 1) := by decide +kernel
theorem dX8_named_96 : decode cX8_named 96 = .ok (.iload_n 2, 1) := by decide +kernel
theorem dX8_named_97 : decode cX8_named 97 = .ok (.iload_n 3, 1) := by decide +kernel
theorem dX8_named_98 : decode cX8_named 98 = .ok (.invokevirtual 177, 3) := by decide +kernel
theorem dX8_named_101 : decode cX8_named 101 = .ok (.ifCond .eq 6, 3) := by decide +kernel
theorem dX8_named_104 : decode cX8_named 104 = .ok (.iload 4, 2) := by decide +kernel
theorem dX8_named_106 : decode cX8_named 106 = .ok (.ireturn, 1) := by decide +kernel
theorem dX8_named_107 : decode cX8_named 107 = .ok (.iinc 4 1, 3) := by decide +kernel
theorem dX8_named_110 : decode cX8_named 110 = .ok (.goto (-34), 3) := by decide +kernel
theorem dX8_named_113 : decode cX8_named 113 = .ok (.aload_n 0, 1) := by decide +kernel
theorem dX8_named_114 : decode cX8_named 114 = .ok (.iconst 1, 1) := by decide +kernel
theorem dX8_named_115 : decode cX8_named 115 = .ok (.putfield 96, 3) := by decide +kernel
theorem dX8_named_118 : decode cX8_named 118 = .ok (.iconst 0, 1) := by decide +kernel
theorem dX8_named_119 : decode cX8_named 119 = .ok (.ireturn, 1) := by decide +kernel
theorem dX8_size_0 : decode cX8_size 0 = .ok (.aload_n 0, 1) := by decide +kernel
theorem dX8_size_1 : decode cX8_size 1 = .ok (.iconst 0, 1) := by decide +kernel
theorem dX8_size_2 : decode cX8_size 2 = .ok (.putfield 96, 3) := by decide +kernel
theorem dX8_size_5 : decode cX8_size 5 = .ok (.aload_n 0, 1) := by decide +kernel
theorem dX8_size_6 : decode cX8_size 6 = .ok (.getfield 104, 3) := by decide +kernel
theorem dX8_size_9 : decode cX8_size 9 = .ok (.ireturn, 1) := by decide +kernel
theorem dX8_trouble_0 : decode cX8_trouble 0 = .ok (.aload_n 0, 1) := by decide +kernel
theorem dX8_trouble_1 : decode cX8_trouble 1 = .ok (.iconst 0, 1) := by decide +kernel
theorem dX8_trouble_2 : decode cX8_trouble 2 = .ok (.putfield 96, 3) := by decide +kernel
theorem dX8_trouble_5 : decode cX8_trouble 5 = .ok (.aload_n 0, 1) := by decide +kernel
theorem dX8_trouble_6 : decode cX8_trouble 6 = .ok (.getfield 99, 3) := by decide +kernel
theorem dX8_trouble_9 : decode cX8_trouble 9 = .ok (.ireturn, 1) := by decide +kernel
end
section
theorem dJ6_bitCount_0f7a4_0 : decode cJ6_bitCount_0f7a4 0 = .ok (.iload_n 0, 1) := by decide +kernel
theorem dJ6_bitCount_0f7a4_1 : decode cJ6_bitCount_0f7a4 1 = .ok (.iload_n 0, 1) := by decide +kernel
theorem dJ6_bitCount_0f7a4_2 : decode cJ6_bitCount_0f7a4 2 = .ok (.iconst 1, 1) := by decide +kernel
theorem dJ6_bitCount_0f7a4_3 : decode cJ6_bitCount_0f7a4 3 = .ok (.iushr, 1) := by decide +kernel
theorem dJ6_bitCount_0f7a4_4 : decode cJ6_bitCount_0f7a4 4 = .ok (.ldc_w 265, 3) := by decide +kernel
theorem dJ6_bitCount_0f7a4_7 : decode cJ6_bitCount_0f7a4 7 = .ok (.iand, 1) := by decide +kernel
theorem dJ6_bitCount_0f7a4_8 : decode cJ6_bitCount_0f7a4 8 = .ok (.isub, 1) := by decide +kernel
theorem dJ6_bitCount_0f7a4_9 : decode cJ6_bitCount_0f7a4 9 = .ok (.istore_n 0, 1) := by decide +kernel
theorem dJ6_bitCount_0f7a4_10 : decode cJ6_bitCount_0f7a4 10 = .ok (.iload_n 0, 1) := by decide +kernel
theorem dJ6_bitCount_0f7a4_11 : decode cJ6_bitCount_0f7a4 11 = .ok (.ldc_w 266, 3) := by decide +kernel
theorem dJ6_bitCount_0f7a4_14 : decode cJ6_bitCount_0f7a4 14 = .ok (.iand, 1) := by decide +kernel
theorem dJ6_bitCount_0f7a4_15 : decode cJ6_bitCount_0f7a4 15 = .ok (.iload_n 0, 1) := by decide +kernel
theorem dJ6_bitCount_0f7a4_16 : decode cJ6_bitCount_0f7a4 16 = .ok (.iconst 2, 1) := by decide +kernel
theorem dJ6_bitCount_0f7a4_17 : decode cJ6_bitCount_0f7a4 17 = .ok (.iushr, 1) := by decide +kernel
theorem dJ6_bitCount_0f7a4_18 : decode cJ6_bitCount_0f7a4 18 = .ok (.ldc_w 266, 3) := by decide +kernel
theorem dJ6_bitCount_0f7a4_21 : decode cJ6_bitCount_0f7a4 21 = .ok (.iand, 1) := by decide +kernel
theorem dJ6_bitCount_0f7a4_22 : decode cJ6_bitCount_0f7a4 22 = .ok (.iadd, 1) := by decide +kernel
theorem dJ6_bitCount_0f7a4_23 : decode cJ6_bitCount_0f7a4 23 = .ok (.istore_n 0, 1) := by decide +kernel
theorem dJ6_bitCount_0f7a4_24 : decode cJ6_bitCount_0f7a4 24 = .ok (.iload_n 0, 1) := by decide +kernel
theorem dJ6_bitCount_0f7a4_25 : decode cJ6_bitCount_0f7a4 25 = .ok (.iload_n 0, 1) := by decide +kernel
theorem dJ6_bitCount_0f7a4_26 : decode cJ6_bitCount_0f7a4 26 = .ok (.iconst 4, 1) := by decide +kernel
theorem dJ6_bitCount_0f7a4_27 : decode cJ6_bitCount_0f7a4 27 = .ok (.iushr, 1) := by decide +kernel
theorem dJ6_bitCount_0f7a4_28 : decode cJ6_bitCount_0f7a4 28 = .ok (.iadd, 1) := by decide +kernel
theorem dJ6_bitCount_0f7a4_29 : decode cJ6_bitCount_0f7a4 29 = .ok (.ldc_w 267, 3) := by decide +kernel
theorem dJ6_bitCount_0f7a4_32 : decode cJ6_bitCount_0f7a4 32 = .ok (.iand, 1) := by decide +kernel
theorem dJ6_bitCount_0f7a4_33 : decode cJ6_bitCount_0f7a4 33 = .ok (.istore_n 0, 1) := by decide +kernel
theorem dJ6_bitCount_0f7a4_34 : decode cJ6_bitCount_0f7a4 34 = .ok (.iload_n 0, 1) := by decide +kernel
theorem dJ6_bitCount_0f7a4_35 : decode cJ6_bitCount_0f7a4 35 = .ok (.iload_n 0, 1) := by decide +kernel
theorem dJ6_bitCount_0f7a4_36 : decode cJ6_bitCount_0f7a4 36 = .ok (.bipush 8, 2) := by decide +kernel
theorem dJ6_bitCount_0f7a4_38 : decode cJ6_bitCount_0f7a4 38 = .ok (.iushr, 1) := by decide +kernel
theorem dJ6_bitCount_0f7a4_39 : decode cJ6_bitCount_0f7a4 39 = .ok (.iadd, 1) := by decide +kernel
theorem dJ6_bitCount_0f7a4_40 : decode cJ6_bitCount_0f7a4 40 = .ok (.istore_n 0, 1) := by decide +kernel
theorem dJ6_bitCount_0f7a4_41 : decode cJ6_bitCount_0f7a4 41 = .ok (.iload_n 0, 1) := by decide +kernel
theorem dJ6_bitCount_0f7a4_42 : decode cJ6_bitCount_0f7a4 42 = .ok (.iload_n 0, 1) := by decide +kernel
theorem dJ6_bitCount_0f7a4_43 : decode cJ6_bitCount_0f7a4 43 = .ok (.bipush 16, 2) := by decide +kernel
theorem dJ6_bitCount_0f7a4_45 : decode cJ6_bitCount_0f7a4 45 = .ok (.iushr, 1) := by decide +kernel
theorem dJ6_bitCount_0f7a4_46 : decode cJ6_bitCount_0f7a4 46 = .ok (.iadd, 1) := by decide +kernel
theorem dJ6_bitCount_0f7a4_47 : decode cJ6_bitCount_0f7a4 47 = .ok (.istore_n 0, 1) := by decide +kernel
theorem dJ6_bitCount_0f7a4_48 : decode cJ6_bitCount_0f7a4 48 = .ok (.iload_n 0, 1) := by decide +kernel
theorem dJ6_bitCount_0f7a4_49 : decode cJ6_bitCount_0f7a4 49 = .ok (.bipush 63, 2) := by decide +kernel
theorem dJ6_bitCount_0f7a4_51 : decode cJ6_bitCount_0f7a4 51 = .ok (.iand, 1) := by decide +kernel
theorem dJ6_bitCount_0f7a4_52 : decode cJ6_bitCount_0f7a4 52 = .ok (.ireturn, 1) := by decide +kernel
theorem dJ9_abs_067f4_0 : decode cJ9_abs_067f4 0 = .ok (.lload_n 0, 1) := by decide +kernel
theorem dJ9_abs_067f4_1 : decode cJ9_abs_067f4 1 = .ok (.lconst 0, 1) := by decide +kernel
theorem dJ9_abs_067f4_2 : decode cJ9_abs_067f4 2 = .ok (.lcmp, 1) := by decide +kernel
theorem dJ9_abs_067f4_3 : decode cJ9_abs_067f4 3 = .ok (.ifCond .ge 8, 3) := by decide +kernel
theorem dJ9_abs_067f4_6 : decode cJ9_abs_067f4 6 = .ok (.lload_n 0, 1) := by decide +kernel
theorem dJ9_abs_067f4_7 : decode cJ9_abs_067f4 7 = .ok (.lneg, 1) := by decide +kernel
theorem dJ9_abs_067f4_8 : decode cJ9_abs_067f4 8 = .ok (.goto 4, 3) := by decide +kernel
theorem dJ9_abs_067f4_11 : decode cJ9_abs_067f4 11 = .ok (.lload_n 0, 1) := by decide +kernel
theorem dJ9_abs_067f4_12 : decode cJ9_abs_067f4 12 = .ok (.lreturn, 1) := by decide +kernel
theorem dJ9_max_f86c9_0 : decode cJ9_max_f86c9 0 = .ok (.lload_n 0, 1) := by decide +kernel
theorem dJ9_max_f86c9_1 : decode cJ9_max_f86c9 1 = .ok (.lload_n 2, 1) := by decide +kernel
theorem dJ9_max_f86c9_2 : decode cJ9_max_f86c9 2 = .ok (.lcmp, 1) := by decide +kernel
theorem dJ9_max_f86c9_3 : decode cJ9_max_f86c9 3 = .ok (.ifCond .lt 7, 3) := by decide +kernel
theorem dJ9_max_f86c9_6 : decode cJ9_max_f86c9 6 = .ok (.lload_n 0, 1) := by decide +kernel
theorem dJ9_max_f86c9_7 : decode cJ9_max_f86c9 7 = .ok (.goto 4, 3) := by decide +kernel
theorem dJ9_max_f86c9_10 : decode cJ9_max_f86c9 10 = .ok (.lload_n 2, 1) := by decide +kernel
theorem dJ9_max_f86c9_11 : decode cJ9_max_f86c9 11 = .ok (.lreturn, 1) := by decide +kernel
theorem dJ9_min_f86c9_0 : decode cJ9_min_f86c9 0 = .ok (.lload_n 0, 1) := by decide +kernel
theorem dJ9_min_f86c9_1 : decode cJ9_min_f86c9 1 = .ok (.lload_n 2, 1) := by decide +kernel
theorem dJ9_min_f86c9_2 : decode cJ9_min_f86c9 2 = .ok (.lcmp, 1) := by decide +kernel
theorem dJ9_min_f86c9_3 : decode cJ9_min_f86c9 3 = .ok (.ifCond .gt 7, 3) := by decide +kernel
theorem dJ9_min_f86c9_6 : decode cJ9_min_f86c9 6 = .ok (.lload_n 0, 1) := by decide +kernel
theorem dJ9_min_f86c9_7 : decode cJ9_min_f86c9 7 = .ok (.goto 4, 3) := by decide +kernel
theorem dJ9_min_f86c9_10 : decode cJ9_min_f86c9 10 = .ok (.lload_n 2, 1) := by decide +kernel
theorem dJ9_min_f86c9_11 : decode cJ9_min_f86c9 11 = .ok (.lreturn, 1) := by decide +kernel
theorem dJ0_length_8abf5_0 : decode cJ0_length_8abf5 0 = .ok (.aload_n 0, 1) := by decide +kernel
theorem dJ0_length_8abf5_1 : decode cJ0_length_8abf5 1 = .ok (.getfield 9, 3) := by decide +kernel
theorem dJ0_length_8abf5_4 : decode cJ0_length_8abf5 4 = .ok (.arraylength, 1) := by decide +kernel
theorem dJ0_length_8abf5_5 : decode cJ0_length_8abf5 5 = .ok (.aload_n 0, 1) := by decide +kernel
theorem dJ0_length_8abf5_6 : decode cJ0_length_8abf5 6 = .ok (.invokevirtual 335, 3) := by decide +kernel
theorem dJ0_length_8abf5_9 : decode cJ0_length_8abf5 9 = .ok (.ishr, 1) := by decide +kernel
theorem dJ0_length_8abf5_10 : decode cJ0_length_8abf5 10 = .ok (.ireturn, 1) := by decide +kernel
theorem dJ0_charAt_5068e_0 : decode cJ0_charAt_5068e 0 = .ok (.aload_n 0, 1) := by decide +kernel
theorem dJ0_charAt_5068e_1 : decode cJ0_charAt_5068e 1 = .ok (.invokevirtual 492, 3) := by decide +kernel
theorem dJ0_charAt_5068e_4 : decode cJ0_charAt_5068e 4 = .ok (.ifCond .eq 12, 3) := by decide +kernel
theorem dJ0_charAt_5068e_7 : decode cJ0_charAt_5068e 7 = .ok (.aload_n 0, 1) := by decide +kernel
theorem dJ0_charAt_5068e_8 : decode cJ0_charAt_5068e 8 = .ok (.getfield 9, 3) := by decide +kernel
theorem dJ0_charAt_5068e_11 : decode cJ0_charAt_5068e 11 = .ok (.iload_n 1, 1) := by decide +kernel
theorem dJ0_charAt_5068e_12 : decode cJ0_charAt_5068e 12 = .ok (.invokestatic 495, 3) := by decide +kernel
theorem dJ0_charAt_5068e_15 : decode cJ0_charAt_5068e 15 = .ok (.ireturn, 1) := by decide +kernel
theorem dJ0_charAt_5068e_16 : decode cJ0_charAt_5068e 16 = .ok (.aload_n 0, 1) := by decide +kernel
theorem dJ0_charAt_5068e_17 : decode cJ0_charAt_5068e 17 = .ok (.getfield 9, 3) := by decide +kernel
theorem dJ0_charAt_5068e_20 : decode cJ0_charAt_5068e 20 = .ok (.iload_n 1, 1) := by decide +kernel
theorem dJ0_charAt_5068e_21 : decode cJ0_charAt_5068e 21 = .ok (.invokestatic 498, 3) := by decide +kernel
theorem dJ0_charAt_5068e_24 : decode cJ0_charAt_5068e 24 = .ok (.ireturn, 1) := by decide +kernel
theorem dJ0_coder_7d493_0 : decode cJ0_coder_7d493 0 = .ok (.getstatic 38, 3) := by decide +kernel
theorem dJ0_coder_7d493_3 : decode cJ0_coder_7d493 3 = .ok (.ifCond .eq 10, 3) := by decide +kernel
theorem dJ0_coder_7d493_6 : decode cJ0_coder_7d493 6 = .ok (.aload_n 0, 1) := by decide +kernel
theorem dJ0_coder_7d493_7 : decode cJ0_coder_7d493 7 = .ok (.getfield 15, 3) := by decide +kernel
theorem dJ0_coder_7d493_10 : decode cJ0_coder_7d493 10 = .ok (.goto 4, 3) := by decide +kernel
theorem dJ0_coder_7d493_13 : decode cJ0_coder_7d493 13 = .ok (.iconst 1, 1) := by decide +kernel
theorem dJ0_coder_7d493_14 : decode cJ0_coder_7d493 14 = .ok (.ireturn, 1) := by decide +kernel
theorem dJ0_isLatin1_aae02_0 : decode cJ0_isLatin1_aae02 0 = .ok (.getstatic 38, 3) := by decide +kernel
theorem dJ0_isLatin1_aae02_3 : decode cJ0_isLatin1_aae02 3 = .ok (.ifCond .eq 14, 3) := by decide +kernel
theorem dJ0_isLatin1_aae02_6 : decode cJ0_isLatin1_aae02 6 = .ok (.aload_n 0, 1) := by decide +kernel
theorem dJ0_isLatin1_aae02_7 : decode cJ0_isLatin1_aae02 7 = .ok (.getfield 15, 3) := by decide +kernel
theorem dJ0_isLatin1_aae02_10 : decode cJ0_isLatin1_aae02 10 = .ok (.ifCond .ne 7, 3) := by decide +kernel
theorem dJ0_isLatin1_aae02_13 : decode cJ0_isLatin1_aae02 13 = .ok (.iconst 1, 1) := by decide +kernel
theorem dJ0_isLatin1_aae02_14 : decode cJ0_isLatin1_aae02 14 = .ok (.goto 4, 3) := by decide +kernel
theorem dJ0_isLatin1_aae02_17 : decode cJ0_isLatin1_aae02 17 = .ok (.iconst 0, 1) := by decide +kernel
theorem dJ0_isLatin1_aae02_18 : decode cJ0_isLatin1_aae02 18 = .ok (.ireturn, 1) := by decide +kernel
theorem dJ0_checkIndex_df160_0 : decode cJ0_checkIndex_df160 0 = .ok (.iload_n 0, 1) := by decide +kernel
theorem dJ0_checkIndex_df160_1 : decode cJ0_checkIndex_df160 1 = .ok (.iload_n 1, 1) := by decide +kernel
theorem dJ0_checkIndex_df160_2 : decode cJ0_checkIndex_df160 2 = .ok (.getstatic 1053, 3) := by decide +kernel
theorem dJ0_checkIndex_df160_5 : decode cJ0_checkIndex_df160 5 = .ok (.invokestatic 1059, 3) := by decide +kernel
theorem dJ0_checkIndex_df160_8 : decode cJ0_checkIndex_df160 8 = .ok (.pop, 1) := by decide +kernel
theorem dJ0_checkIndex_df160_9 : decode cJ0_checkIndex_df160 9 = .ok (.return_, 1) := by decide +kernel
theorem dJ1_charAt_3b067_0 : decode cJ1_charAt_3b067 0 = .ok (.iload_n 1, 1) := by decide +kernel
theorem dJ1_charAt_3b067_1 : decode cJ1_charAt_3b067 1 = .ok (.aload_n 0, 1) := by decide +kernel
theorem dJ1_charAt_3b067_2 : decode cJ1_charAt_3b067 2 = .ok (.arraylength, 1) := by decide +kernel
theorem dJ1_charAt_3b067_3 : decode cJ1_charAt_3b067 3 = .ok (.invokestatic 9, 3) := by decide +kernel
theorem dJ1_charAt_3b067_6 : decode cJ1_charAt_3b067 6 = .ok (.aload_n 0, 1) := by decide +kernel
theorem dJ1_charAt_3b067_7 : decode cJ1_charAt_3b067 7 = .ok (.iload_n 1, 1) := by decide +kernel
theorem dJ1_charAt_3b067_8 : decode cJ1_charAt_3b067 8 = .ok (.baload, 1) := by decide +kernel
theorem dJ1_charAt_3b067_9 : decode cJ1_charAt_3b067 9 = .ok (.sipush 255, 3) := by decide +kernel
theorem dJ1_charAt_3b067_12 : decode cJ1_charAt_3b067 12 = .ok (.iand, 1) := by decide +kernel
theorem dJ1_charAt_3b067_13 : decode cJ1_charAt_3b067 13 = .ok (.i2c, 1) := by decide +kernel
theorem dJ1_charAt_3b067_14 : decode cJ1_charAt_3b067 14 = .ok (.ireturn, 1) := by decide +kernel
theorem dJ2_getChar_3b067_0 : decode cJ2_getChar_3b067 0 = .ok (.getstatic 44, 3) := by decide +kernel
theorem dJ2_getChar_3b067_3 : decode cJ2_getChar_3b067 3 = .ok (.ifCond .ne 25, 3) := by decide +kernel
theorem dJ2_getChar_3b067_6 : decode cJ2_getChar_3b067 6 = .ok (.iload_n 1, 1) := by decide +kernel
theorem dJ2_getChar_3b067_7 : decode cJ2_getChar_3b067 7 = .ok (.ifCond .lt 11, 3) := by decide +kernel
theorem dJ2_getChar_3b067_10 : decode cJ2_getChar_3b067 10 = .ok (.iload_n 1, 1) := by decide +kernel
theorem dJ2_getChar_3b067_11 : decode cJ2_getChar_3b067 11 = .ok (.aload_n 0, 1) := by decide +kernel
theorem dJ2_getChar_3b067_12 : decode cJ2_getChar_3b067 12 = .ok (.invokestatic 48, 3) := by decide +kernel
theorem dJ2_getChar_3b067_15 : decode cJ2_getChar_3b067 15 = .ok (.if_icmp .lt 13, 3) := by decide +kernel
theorem dJ2_getChar_3b067_18 : decode cJ2_getChar_3b067 18 = .ok (.new 52, 3) := by decide +kernel
theorem dJ2_getChar_3b067_21 : decode cJ2_getChar_3b067 21 = .ok (.dup, 1) := by decide +kernel
theorem dJ2_getChar_3b067_22 : decode cJ2_getChar_3b067 22 = .ok (.ldc 54, 2) := by decide +kernel
theorem dJ2_getChar_3b067_24 : decode cJ2_getChar_3b067 24 = .ok (.invokespecial 56, 3) := by decide +kernel
theorem dJ2_getChar_3b067_27 : decode cJ2_getChar_3b067 27 = .ok (.athrow, 1) := by decide +kernel
theorem dJ2_getChar_3b067_28 : decode cJ2_getChar_3b067 28 = .ok (.iload_n 1, 1) := by decide +kernel
theorem dJ2_getChar_3b067_29 : decode cJ2_getChar_3b067 29 = .ok (.iconst 1, 1) := by decide +kernel
theorem dJ2_getChar_3b067_30 : decode cJ2_getChar_3b067 30 = .ok (.ishl, 1) := by decide +kernel
theorem dJ2_getChar_3b067_31 : decode cJ2_getChar_3b067 31 = .ok (.istore_n 1, 1) := by decide +kernel
theorem dJ2_getChar_3b067_32 : decode cJ2_getChar_3b067 32 = .ok (.aload_n 0, 1) := by decide +kernel
theorem dJ2_getChar_3b067_33 : decode cJ2_getChar_3b067 33 = .ok (.iload_n 1, 1) := by decide +kernel
theorem dJ2_getChar_3b067_34 : decode cJ2_getChar_3b067 34 = .ok (.iinc 1 1, 3) := by decide +kernel
theorem dJ2_getChar_3b067_37 : decode cJ2_getChar_3b067 37 = .ok (.baload, 1) := by decide +kernel
theorem dJ2_getChar_3b067_38 : decode cJ2_getChar_3b067 38 = .ok (.sipush 255, 3) := by decide +kernel
theorem dJ2_getChar_3b067_41 : decode cJ2_getChar_3b067 41 = .ok (.iand, 1) := by decide +kernel
theorem dJ2_getChar_3b067_42 : decode cJ2_getChar_3b067 42 = .ok (.getstatic 59, 3) := by decide +kernel
theorem dJ2_getChar_3b067_45 : decode cJ2_getChar_3b067 45 = .ok (.ishl, 1) := by decide +kernel
theorem dJ2_getChar_3b067_46 : decode cJ2_getChar_3b067 46 = .ok (.aload_n 0, 1) := by decide +kernel
theorem dJ2_getChar_3b067_47 : decode cJ2_getChar_3b067 47 = .ok (.iload_n 1, 1) := by decide +kernel
theorem dJ2_getChar_3b067_48 : decode cJ2_getChar_3b067 48 = .ok (.baload, 1) := by decide +kernel
theorem dJ2_getChar_3b067_49 : decode cJ2_getChar_3b067 49 = .ok (.sipush 255, 3) := by decide +kernel
theorem dJ2_getChar_3b067_52 : decode cJ2_getChar_3b067 52 = .ok (.iand, 1) := by decide +kernel
theorem dJ2_getChar_3b067_53 : decode cJ2_getChar_3b067 53 = .ok (.getstatic 63, 3) := by decide +kernel
theorem dJ2_getChar_3b067_56 : decode cJ2_getChar_3b067 56 = .ok (.ishl, 1) := by decide +kernel
theorem dJ2_getChar_3b067_57 : decode cJ2_getChar_3b067 57 = .ok (.ior, 1) := by decide +kernel
theorem dJ2_getChar_3b067_58 : decode cJ2_getChar_3b067 58 = .ok (.i2c, 1) := by decide +kernel
theorem dJ2_getChar_3b067_59 : decode cJ2_getChar_3b067 59 = .ok (.ireturn, 1) := by decide +kernel
theorem dJ2_length_9d52b_0 : decode cJ2_length_9d52b 0 = .ok (.aload_n 0, 1) := by decide +kernel
theorem dJ2_length_9d52b_1 : decode cJ2_length_9d52b 1 = .ok (.arraylength, 1) := by decide +kernel
theorem dJ2_length_9d52b_2 : decode cJ2_length_9d52b 2 = .ok (.iconst 1, 1) := by decide +kernel
theorem dJ2_length_9d52b_3 : decode cJ2_length_9d52b 3 = .ok (.ishr, 1) := by decide +kernel
theorem dJ2_length_9d52b_4 : decode cJ2_length_9d52b 4 = .ok (.ireturn, 1) := by decide +kernel
theorem dJ2_charAt_3b067_0 : decode cJ2_charAt_3b067 0 = .ok (.iload_n 1, 1) := by decide +kernel
theorem dJ2_charAt_3b067_1 : decode cJ2_charAt_3b067 1 = .ok (.aload_n 0, 1) := by decide +kernel
theorem dJ2_charAt_3b067_2 : decode cJ2_charAt_3b067 2 = .ok (.invokestatic 67, 3) := by decide +kernel
theorem dJ2_charAt_3b067_5 : decode cJ2_charAt_3b067 5 = .ok (.aload_n 0, 1) := by decide +kernel
theorem dJ2_charAt_3b067_6 : decode cJ2_charAt_3b067 6 = .ok (.iload_n 1, 1) := by decide +kernel
theorem dJ2_charAt_3b067_7 : decode cJ2_charAt_3b067 7 = .ok (.invokestatic 71, 3) := by decide +kernel
theorem dJ2_charAt_3b067_10 : decode cJ2_charAt_3b067 10 = .ok (.ireturn, 1) := by decide +kernel
theorem dJ2_checkIndex_2214a_0 : decode cJ2_checkIndex_2214a 0 = .ok (.iload_n 0, 1) := by decide +kernel
theorem dJ2_checkIndex_2214a_1 : decode cJ2_checkIndex_2214a 1 = .ok (.aload_n 1, 1) := by decide +kernel
theorem dJ2_checkIndex_2214a_2 : decode cJ2_checkIndex_2214a 2 = .ok (.invokestatic 48, 3) := by decide +kernel
theorem dJ2_checkIndex_2214a_5 : decode cJ2_checkIndex_2214a 5 = .ok (.invokestatic 414, 3) := by decide +kernel
theorem dJ2_checkIndex_2214a_8 : decode cJ2_checkIndex_2214a 8 = .ok (.return_, 1) := by decide +kernel
theorem dJ7_fill_d0a16_0 : decode cJ7_fill_d0a16 0 = .ok (.iconst 0, 1) := by decide +kernel
theorem dJ7_fill_d0a16_1 : decode cJ7_fill_d0a16 1 = .ok (.istore_n 3, 1) := by decide +kernel
theorem dJ7_fill_d0a16_2 : decode cJ7_fill_d0a16 2 = .ok (.aload_n 0, 1) := by decide +kernel
theorem dJ7_fill_d0a16_3 : decode cJ7_fill_d0a16 3 = .ok (.arraylength, 1) := by decide +kernel
theorem dJ7_fill_d0a16_4 : decode cJ7_fill_d0a16 4 = .ok (.istore 4, 2) := by decide +kernel
theorem dJ7_fill_d0a16_6 : decode cJ7_fill_d0a16 6 = .ok (.iload_n 3, 1) := by decide +kernel
theorem dJ7_fill_d0a16_7 : decode cJ7_fill_d0a16 7 = .ok (.iload 4, 2) := by decide +kernel
theorem dJ7_fill_d0a16_9 : decode cJ7_fill_d0a16 9 = .ok (.if_icmp .ge 13, 3) := by decide +kernel
theorem dJ7_fill_d0a16_12 : decode cJ7_fill_d0a16 12 = .ok (.aload_n 0, 1) := by decide +kernel
theorem dJ7_fill_d0a16_13 : decode cJ7_fill_d0a16 13 = .ok (.iload_n 3, 1) := by decide +kernel
theorem dJ7_fill_d0a16_14 : decode cJ7_fill_d0a16 14 = .ok (.lload_n 1, 1) := by decide +kernel
theorem dJ7_fill_d0a16_15 : decode cJ7_fill_d0a16 15 = .ok (.lastore, 1) := by decide +kernel
theorem dJ7_fill_d0a16_16 : decode cJ7_fill_d0a16 16 = .ok (.iinc 3 1, 3) := by decide +kernel
theorem dJ7_fill_d0a16_19 : decode cJ7_fill_d0a16 19 = .ok (.goto (-13), 3) := by decide +kernel
theorem dJ7_fill_d0a16_22 : decode cJ7_fill_d0a16 22 = .ok (.return_, 1) := by decide +kernel
theorem dJ7_fill_53178_0 : decode cJ7_fill_53178 0 = .ok (.iconst 0, 1) := by decide +kernel
theorem dJ7_fill_53178_1 : decode cJ7_fill_53178 1 = .ok (.istore_n 2, 1) := by decide +kernel
theorem dJ7_fill_53178_2 : decode cJ7_fill_53178 2 = .ok (.aload_n 0, 1) := by decide +kernel
theorem dJ7_fill_53178_3 : decode cJ7_fill_53178 3 = .ok (.arraylength, 1) := by decide +kernel
theorem dJ7_fill_53178_4 : decode cJ7_fill_53178 4 = .ok (.istore_n 3, 1) := by decide +kernel
theorem dJ7_fill_53178_5 : decode cJ7_fill_53178 5 = .ok (.iload_n 2, 1) := by decide +kernel
theorem dJ7_fill_53178_6 : decode cJ7_fill_53178 6 = .ok (.iload_n 3, 1) := by decide +kernel
theorem dJ7_fill_53178_7 : decode cJ7_fill_53178 7 = .ok (.if_icmp .ge 13, 3) := by decide +kernel
theorem dJ7_fill_53178_10 : decode cJ7_fill_53178 10 = .ok (.aload_n 0, 1) := by decide +kernel
theorem dJ7_fill_53178_11 : decode cJ7_fill_53178 11 = .ok (.iload_n 2, 1) := by decide +kernel
theorem dJ7_fill_53178_12 : decode cJ7_fill_53178 12 = .ok (.iload_n 1, 1) := by decide +kernel
theorem dJ7_fill_53178_13 : decode cJ7_fill_53178 13 = .ok (.iastore, 1) := by decide +kernel
theorem dJ7_fill_53178_14 : decode cJ7_fill_53178 14 = .ok (.iinc 2 1, 3) := by decide +kernel
theorem dJ7_fill_53178_17 : decode cJ7_fill_53178 17 = .ok (.goto (-12), 3) := by decide +kernel
theorem dJ7_fill_53178_20 : decode cJ7_fill_53178 20 = .ok (.return_, 1) := by decide +kernel
theorem dJ3_checkIndex_8e157_0 : decode cJ3_checkIndex_8e157 0 = .ok (.iload_n 0, 1) := by decide +kernel
theorem dJ3_checkIndex_8e157_1 : decode cJ3_checkIndex_8e157 1 = .ok (.ifCond .lt 8, 3) := by decide +kernel
theorem dJ3_checkIndex_8e157_4 : decode cJ3_checkIndex_8e157 4 = .ok (.iload_n 0, 1) := by decide +kernel
theorem dJ3_checkIndex_8e157_5 : decode cJ3_checkIndex_8e157 5 = .ok (.iload_n 1, 1) := by decide +kernel
theorem dJ3_checkIndex_8e157_6 : decode cJ3_checkIndex_8e157 6 = .ok (.if_icmp .lt 10, 3) := by decide +kernel
theorem dJ3_checkIndex_8e157_9 : decode cJ3_checkIndex_8e157 9 = .ok (.aload_n 2, 1) := by decide +kernel
theorem dJ3_checkIndex_8e157_10 : decode cJ3_checkIndex_8e157 10 = .ok (.iload_n 0, 1) := by decide +kernel
theorem dJ3_checkIndex_8e157_11 : decode cJ3_checkIndex_8e157 11 = .ok (.iload_n 1, 1) := by decide +kernel
theorem dJ3_checkIndex_8e157_12 : decode cJ3_checkIndex_8e157 12 = .ok (.invokestatic 95, 3) := by decide +kernel
theorem dJ3_checkIndex_8e157_15 : decode cJ3_checkIndex_8e157 15 = .ok (.athrow, 1) := by decide +kernel
theorem dJ3_checkIndex_8e157_16 : decode cJ3_checkIndex_8e157 16 = .ok (.iload_n 0, 1) := by decide +kernel
theorem dJ3_checkIndex_8e157_17 : decode cJ3_checkIndex_8e157 17 = .ok (.ireturn, 1) := by decide +kernel
end
section
theorem dL_named_0 : decode cL_named 0 = .ok (.aload_n 2, 1) := by decide +kernel
theorem dL_named_1 : decode cL_named 1 = .ok (.iconst 0, 1) := by decide +kernel
theorem dL_named_2 : decode cL_named 2 = .ok (.aload_n 0, 1) := by decide +kernel
theorem dL_named_3 : decode cL_named 3 = .ok (.iload_n 1, 1) := by decide +kernel
theorem dL_named_4 : decode cL_named 4 = .ok (.invokevirtual 7, 3) := by decide +kernel
theorem dL_named_7 : decode cL_named 7 = .ok (.i2l, 1) := by decide +kernel
theorem dL_named_8 : decode cL_named 8 = .ok (.lastore, 1) := by decide +kernel
theorem dL_named_9 : decode cL_named 9 = .ok (.goto 6, 3) := by decide +kernel
theorem dL_named_12 : decode cL_named 12 = .ok (.astore_n 3, 1) := by decide +kernel
theorem dL_named_13 : decode cL_named 13 = .ok (.iconst 1, 1) := by decide +kernel
theorem dL_named_14 : decode cL_named 14 = .ok (.ireturn, 1) := by decide +kernel
theorem dL_named_15 : decode cL_named 15 = .ok (.iconst 0, 1) := by decide +kernel
theorem dL_named_16 : decode cL_named 16 = .ok (.ireturn, 1) := by decide +kernel
theorem dL_law_0 : decode cL_law 0 = .ok (.new 8, 3) := by decide +kernel
theorem dL_law_3 : decode cL_law 3 = .ok (.dup, 1) := by decide +kernel
theorem dL_law_4 : decode cL_law 4 = .ok (.invokespecial 15, 3) := by decide +kernel
theorem dL_law_7 : decode cL_law 7 = .ok (.astore_n 1, 1) := by decide +kernel
theorem dL_law_8 : decode cL_law 8 = .ok (.new 16, 3) := by decide +kernel
theorem dL_law_11 : decode cL_law 11 = .ok (.dup, 1) := by decide +kernel
theorem dL_law_12 : decode cL_law 12 = .ok (.invokespecial 18, 3) := by decide +kernel
theorem dL_law_15 : decode cL_law 15 = .ok (.astore_n 2, 1) := by decide +kernel
theorem dL_law_16 : decode cL_law 16 = .ok (.iconst 1, 1) := by decide +kernel
theorem dL_law_17 : decode cL_law 17 = .ok (.newarray .long, 2) := by decide +kernel
theorem dL_law_19 : decode cL_law 19 = .ok (.astore_n 3, 1) := by decide +kernel
theorem dL_law_20 : decode cL_law 20 = .ok (.iconst 0, 1) := by decide +kernel
theorem dL_law_21 : decode cL_law 21 = .ok (.istore 4, 2) := by decide +kernel
theorem dL_law_23 : decode cL_law 23 = .ok (.iload 4, 2) := by decide +kernel
theorem dL_law_25 : decode cL_law 25 = .ok (.aload_n 0, 1) := by decide +kernel
theorem dL_law_26 : decode cL_law 26 = .ok (.arraylength, 1) := by decide +kernel
theorem dL_law_27 : decode cL_law 27 = .ok (.bipush 6, 2) := by decide +kernel
theorem dL_law_29 : decode cL_law 29 = .ok (.isub, 1) := by decide +kernel
theorem dL_law_30 : decode cL_law 30 = .ok (.if_icmp .gt 1313, 3) := by decide +kernel
theorem dL_law_33 : decode cL_law 33 = .ok (.aload_n 0, 1) := by decide +kernel
theorem dL_law_34 : decode cL_law 34 = .ok (.iload 4, 2) := by decide +kernel
theorem dL_law_36 : decode cL_law 36 = .ok (.iaload, 1) := by decide +kernel
theorem dL_law_37 : decode cL_law 37 = .ok (.bipush 63, 2) := by decide +kernel
theorem dL_law_39 : decode cL_law 39 = .ok (.iand, 1) := by decide +kernel
theorem dL_law_40 : decode cL_law 40 = .ok (.tableswitch 1297 0 39 #[176, 249, 274, 287, 300, 325, 362, 388, 414, 451, 477, 503, 516, 553, 591, 629, 643, 669, 695, 745, 770, 796, 821, 834, 871, 896, 909, 922, 936, 973, 986, 1024, 1050, 1103, 1140, 1165, 1202, 1215, 1271, 1284], 176) := by decide +kernel
theorem dL_law_216 : decode cL_law 216 = .ok (.aload_n 1, 1) := by decide +kernel
theorem dL_law_217 : decode cL_law 217 = .ok (.aload_n 0, 1) := by decide +kernel
theorem dL_law_218 : decode cL_law 218 = .ok (.iload 4, 2) := by decide +kernel
theorem dL_law_220 : decode cL_law 220 = .ok (.iconst 1, 1) := by decide +kernel
theorem dL_law_221 : decode cL_law 221 = .ok (.iadd, 1) := by decide +kernel
theorem dL_law_222 : decode cL_law 222 = .ok (.iaload, 1) := by decide +kernel
theorem dL_law_223 : decode cL_law 223 = .ok (.aload_n 0, 1) := by decide +kernel
theorem dL_law_224 : decode cL_law 224 = .ok (.iload 4, 2) := by decide +kernel
theorem dL_law_226 : decode cL_law 226 = .ok (.iconst 2, 1) := by decide +kernel
theorem dL_law_227 : decode cL_law 227 = .ok (.iadd, 1) := by decide +kernel
theorem dL_law_228 : decode cL_law 228 = .ok (.iaload, 1) := by decide +kernel
theorem dL_law_229 : decode cL_law 229 = .ok (.aload_n 0, 1) := by decide +kernel
theorem dL_law_230 : decode cL_law 230 = .ok (.iload 4, 2) := by decide +kernel
theorem dL_law_232 : decode cL_law 232 = .ok (.iconst 3, 1) := by decide +kernel
theorem dL_law_233 : decode cL_law 233 = .ok (.iadd, 1) := by decide +kernel
theorem dL_law_234 : decode cL_law 234 = .ok (.iaload, 1) := by decide +kernel
theorem dL_law_235 : decode cL_law 235 = .ok (.aload_n 0, 1) := by decide +kernel
theorem dL_law_236 : decode cL_law 236 = .ok (.iload 4, 2) := by decide +kernel
theorem dL_law_238 : decode cL_law 238 = .ok (.iconst 4, 1) := by decide +kernel
theorem dL_law_239 : decode cL_law 239 = .ok (.iadd, 1) := by decide +kernel
theorem dL_law_240 : decode cL_law 240 = .ok (.iaload, 1) := by decide +kernel
theorem dL_law_241 : decode cL_law 241 = .ok (.aload_n 0, 1) := by decide +kernel
theorem dL_law_242 : decode cL_law 242 = .ok (.iload 4, 2) := by decide +kernel
theorem dL_law_244 : decode cL_law 244 = .ok (.iconst 5, 1) := by decide +kernel
theorem dL_law_245 : decode cL_law 245 = .ok (.iadd, 1) := by decide +kernel
theorem dL_law_246 : decode cL_law 246 = .ok (.iaload, 1) := by decide +kernel
theorem dL_law_247 : decode cL_law 247 = .ok (.invokevirtual 19, 3) := by decide +kernel
theorem dL_law_250 : decode cL_law 250 = .ok (.aload_n 2, 1) := by decide +kernel
theorem dL_law_251 : decode cL_law 251 = .ok (.aload_n 0, 1) := by decide +kernel
theorem dL_law_252 : decode cL_law 252 = .ok (.iload 4, 2) := by decide +kernel
theorem dL_law_254 : decode cL_law 254 = .ok (.iconst 1, 1) := by decide +kernel
theorem dL_law_255 : decode cL_law 255 = .ok (.iadd, 1) := by decide +kernel
theorem dL_law_256 : decode cL_law 256 = .ok (.iaload, 1) := by decide +kernel
theorem dL_law_257 : decode cL_law 257 = .ok (.aload_n 0, 1) := by decide +kernel
theorem dL_law_258 : decode cL_law 258 = .ok (.iload 4, 2) := by decide +kernel
theorem dL_law_260 : decode cL_law 260 = .ok (.iconst 2, 1) := by decide +kernel
theorem dL_law_261 : decode cL_law 261 = .ok (.iadd, 1) := by decide +kernel
theorem dL_law_262 : decode cL_law 262 = .ok (.iaload, 1) := by decide +kernel
theorem dL_law_263 : decode cL_law 263 = .ok (.aload_n 0, 1) := by decide +kernel
theorem dL_law_264 : decode cL_law 264 = .ok (.iload 4, 2) := by decide +kernel
theorem dL_law_266 : decode cL_law 266 = .ok (.iconst 3, 1) := by decide +kernel
theorem dL_law_267 : decode cL_law 267 = .ok (.iadd, 1) := by decide +kernel
theorem dL_law_268 : decode cL_law 268 = .ok (.iaload, 1) := by decide +kernel
theorem dL_law_269 : decode cL_law 269 = .ok (.aload_n 0, 1) := by decide +kernel
theorem dL_law_270 : decode cL_law 270 = .ok (.iload 4, 2) := by decide +kernel
theorem dL_law_272 : decode cL_law 272 = .ok (.iconst 4, 1) := by decide +kernel
theorem dL_law_273 : decode cL_law 273 = .ok (.iadd, 1) := by decide +kernel
theorem dL_law_274 : decode cL_law 274 = .ok (.iaload, 1) := by decide +kernel
theorem dL_law_275 : decode cL_law 275 = .ok (.aload_n 0, 1) := by decide +kernel
theorem dL_law_276 : decode cL_law 276 = .ok (.iload 4, 2) := by decide +kernel
theorem dL_law_278 : decode cL_law 278 = .ok (.iconst 5, 1) := by decide +kernel
theorem dL_law_279 : decode cL_law 279 = .ok (.iadd, 1) := by decide +kernel
theorem dL_law_280 : decode cL_law 280 = .ok (.iaload, 1) := by decide +kernel
theorem dL_law_281 : decode cL_law 281 = .ok (.invokevirtual 23, 3) := by decide +kernel
theorem dL_law_284 : decode cL_law 284 = .ok (.if_icmp .eq 1053, 3) := by decide +kernel
theorem dL_law_287 : decode cL_law 287 = .ok (.iconst 0, 1) := by decide +kernel
theorem dL_law_288 : decode cL_law 288 = .ok (.ireturn, 1) := by decide +kernel
theorem dL_law_289 : decode cL_law 289 = .ok (.aload_n 1, 1) := by decide +kernel
theorem dL_law_290 : decode cL_law 290 = .ok (.aload_n 0, 1) := by decide +kernel
theorem dL_law_291 : decode cL_law 291 = .ok (.iload 4, 2) := by decide +kernel
theorem dL_law_293 : decode cL_law 293 = .ok (.iconst 1, 1) := by decide +kernel
theorem dL_law_294 : decode cL_law 294 = .ok (.iadd, 1) := by decide +kernel
theorem dL_law_295 : decode cL_law 295 = .ok (.iaload, 1) := by decide +kernel
theorem dL_law_296 : decode cL_law 296 = .ok (.invokevirtual 24, 3) := by decide +kernel
theorem dL_law_299 : decode cL_law 299 = .ok (.aload_n 2, 1) := by decide +kernel
theorem dL_law_300 : decode cL_law 300 = .ok (.aload_n 0, 1) := by decide +kernel
theorem dL_law_301 : decode cL_law 301 = .ok (.iload 4, 2) := by decide +kernel
theorem dL_law_303 : decode cL_law 303 = .ok (.iconst 1, 1) := by decide +kernel
theorem dL_law_304 : decode cL_law 304 = .ok (.iadd, 1) := by decide +kernel
theorem dL_law_305 : decode cL_law 305 = .ok (.iaload, 1) := by decide +kernel
theorem dL_law_306 : decode cL_law 306 = .ok (.invokevirtual 27, 3) := by decide +kernel
theorem dL_law_309 : decode cL_law 309 = .ok (.if_icmp .eq 1028, 3) := by decide +kernel
theorem dL_law_312 : decode cL_law 312 = .ok (.iconst 0, 1) := by decide +kernel
theorem dL_law_313 : decode cL_law 313 = .ok (.ireturn, 1) := by decide +kernel
theorem dL_law_314 : decode cL_law 314 = .ok (.aload_n 1, 1) := by decide +kernel
theorem dL_law_315 : decode cL_law 315 = .ok (.invokevirtual 28, 3) := by decide +kernel
theorem dL_law_318 : decode cL_law 318 = .ok (.aload_n 2, 1) := by decide +kernel
theorem dL_law_319 : decode cL_law 319 = .ok (.invokevirtual 32, 3) := by decide +kernel
theorem dL_law_322 : decode cL_law 322 = .ok (.if_icmp .eq 1015, 3) := by decide +kernel
theorem dL_law_325 : decode cL_law 325 = .ok (.iconst 0, 1) := by decide +kernel
theorem dL_law_326 : decode cL_law 326 = .ok (.ireturn, 1) := by decide +kernel
theorem dL_law_327 : decode cL_law 327 = .ok (.aload_n 1, 1) := by decide +kernel
theorem dL_law_328 : decode cL_law 328 = .ok (.invokevirtual 33, 3) := by decide +kernel
theorem dL_law_331 : decode cL_law 331 = .ok (.aload_n 2, 1) := by decide +kernel
theorem dL_law_332 : decode cL_law 332 = .ok (.invokevirtual 36, 3) := by decide +kernel
theorem dL_law_335 : decode cL_law 335 = .ok (.if_icmp .eq 1002, 3) := by decide +kernel
theorem dL_law_338 : decode cL_law 338 = .ok (.iconst 0, 1) := by decide +kernel
theorem dL_law_339 : decode cL_law 339 = .ok (.ireturn, 1) := by decide +kernel
theorem dL_law_340 : decode cL_law 340 = .ok (.aload_n 1, 1) := by decide +kernel
theorem dL_law_341 : decode cL_law 341 = .ok (.aload_n 0, 1) := by decide +kernel
theorem dL_law_342 : decode cL_law 342 = .ok (.iload 4, 2) := by decide +kernel
theorem dL_law_344 : decode cL_law 344 = .ok (.iconst 1, 1) := by decide +kernel
theorem dL_law_345 : decode cL_law 345 = .ok (.iadd, 1) := by decide +kernel
theorem dL_law_346 : decode cL_law 346 = .ok (.iaload, 1) := by decide +kernel
theorem dL_law_347 : decode cL_law 347 = .ok (.invokevirtual 37, 3) := by decide +kernel
theorem dL_law_350 : decode cL_law 350 = .ok (.aload_n 2, 1) := by decide +kernel
theorem dL_law_351 : decode cL_law 351 = .ok (.aload_n 0, 1) := by decide +kernel
theorem dL_law_352 : decode cL_law 352 = .ok (.iload 4, 2) := by decide +kernel
theorem dL_law_354 : decode cL_law 354 = .ok (.iconst 1, 1) := by decide +kernel
theorem dL_law_355 : decode cL_law 355 = .ok (.iadd, 1) := by decide +kernel
theorem dL_law_356 : decode cL_law 356 = .ok (.iaload, 1) := by decide +kernel
theorem dL_law_357 : decode cL_law 357 = .ok (.invokevirtual 40, 3) := by decide +kernel
theorem dL_law_360 : decode cL_law 360 = .ok (.if_icmp .eq 977, 3) := by decide +kernel
theorem dL_law_363 : decode cL_law 363 = .ok (.iconst 0, 1) := by decide +kernel
theorem dL_law_364 : decode cL_law 364 = .ok (.ireturn, 1) := by decide +kernel
theorem dL_law_365 : decode cL_law 365 = .ok (.aload_n 1, 1) := by decide +kernel
theorem dL_law_366 : decode cL_law 366 = .ok (.aload_n 0, 1) := by decide +kernel
theorem dL_law_367 : decode cL_law 367 = .ok (.iload 4, 2) := by decide +kernel
theorem dL_law_369 : decode cL_law 369 = .ok (.iconst 1, 1) := by decide +kernel
theorem dL_law_370 : decode cL_law 370 = .ok (.iadd, 1) := by decide +kernel
theorem dL_law_371 : decode cL_law 371 = .ok (.iaload, 1) := by decide +kernel
theorem dL_law_372 : decode cL_law 372 = .ok (.aload_n 0, 1) := by decide +kernel
theorem dL_law_373 : decode cL_law 373 = .ok (.iload 4, 2) := by decide +kernel
theorem dL_law_375 : decode cL_law 375 = .ok (.iconst 2, 1) := by decide +kernel
theorem dL_law_376 : decode cL_law 376 = .ok (.iadd, 1) := by decide +kernel
theorem dL_law_377 : decode cL_law 377 = .ok (.iaload, 1) := by decide +kernel
theorem dL_law_378 : decode cL_law 378 = .ok (.invokevirtual 41, 3) := by decide +kernel
theorem dL_law_381 : decode cL_law 381 = .ok (.aload_n 2, 1) := by decide +kernel
theorem dL_law_382 : decode cL_law 382 = .ok (.aload_n 0, 1) := by decide +kernel
theorem dL_law_383 : decode cL_law 383 = .ok (.iload 4, 2) := by decide +kernel
theorem dL_law_385 : decode cL_law 385 = .ok (.iconst 1, 1) := by decide +kernel
theorem dL_law_386 : decode cL_law 386 = .ok (.iadd, 1) := by decide +kernel
theorem dL_law_387 : decode cL_law 387 = .ok (.iaload, 1) := by decide +kernel
theorem dL_law_388 : decode cL_law 388 = .ok (.aload_n 0, 1) := by decide +kernel
theorem dL_law_389 : decode cL_law 389 = .ok (.iload 4, 2) := by decide +kernel
theorem dL_law_391 : decode cL_law 391 = .ok (.iconst 2, 1) := by decide +kernel
theorem dL_law_392 : decode cL_law 392 = .ok (.iadd, 1) := by decide +kernel
theorem dL_law_393 : decode cL_law 393 = .ok (.iaload, 1) := by decide +kernel
theorem dL_law_394 : decode cL_law 394 = .ok (.invokevirtual 45, 3) := by decide +kernel
theorem dL_law_397 : decode cL_law 397 = .ok (.if_icmp .eq 940, 3) := by decide +kernel
theorem dL_law_400 : decode cL_law 400 = .ok (.iconst 0, 1) := by decide +kernel
theorem dL_law_401 : decode cL_law 401 = .ok (.ireturn, 1) := by decide +kernel
theorem dL_law_402 : decode cL_law 402 = .ok (.aload_n 1, 1) := by decide +kernel
theorem dL_law_403 : decode cL_law 403 = .ok (.aload_n 0, 1) := by decide +kernel
theorem dL_law_404 : decode cL_law 404 = .ok (.iload 4, 2) := by decide +kernel
theorem dL_law_406 : decode cL_law 406 = .ok (.iconst 1, 1) := by decide +kernel
theorem dL_law_407 : decode cL_law 407 = .ok (.iadd, 1) := by decide +kernel
theorem dL_law_408 : decode cL_law 408 = .ok (.iaload, 1) := by decide +kernel
theorem dL_law_409 : decode cL_law 409 = .ok (.invokevirtual 46, 3) := by decide +kernel
theorem dL_law_412 : decode cL_law 412 = .ok (.aload_n 2, 1) := by decide +kernel
theorem dL_law_413 : decode cL_law 413 = .ok (.aload_n 0, 1) := by decide +kernel
theorem dL_law_414 : decode cL_law 414 = .ok (.iload 4, 2) := by decide +kernel
theorem dL_law_416 : decode cL_law 416 = .ok (.iconst 1, 1) := by decide +kernel
theorem dL_law_417 : decode cL_law 417 = .ok (.iadd, 1) := by decide +kernel
theorem dL_law_418 : decode cL_law 418 = .ok (.iaload, 1) := by decide +kernel
theorem dL_law_419 : decode cL_law 419 = .ok (.invokevirtual 50, 3) := by decide +kernel
theorem dL_law_422 : decode cL_law 422 = .ok (.lcmp, 1) := by decide +kernel
theorem dL_law_423 : decode cL_law 423 = .ok (.ifCond .eq 914, 3) := by decide +kernel
theorem dL_law_426 : decode cL_law 426 = .ok (.iconst 0, 1) := by decide +kernel
theorem dL_law_427 : decode cL_law 427 = .ok (.ireturn, 1) := by decide +kernel
theorem dL_law_428 : decode cL_law 428 = .ok (.aload_n 1, 1) := by decide +kernel
theorem dL_law_429 : decode cL_law 429 = .ok (.aload_n 0, 1) := by decide +kernel
theorem dL_law_430 : decode cL_law 430 = .ok (.iload 4, 2) := by decide +kernel
theorem dL_law_432 : decode cL_law 432 = .ok (.iconst 1, 1) := by decide +kernel
theorem dL_law_433 : decode cL_law 433 = .ok (.iadd, 1) := by decide +kernel
theorem dL_law_434 : decode cL_law 434 = .ok (.iaload, 1) := by decide +kernel
theorem dL_law_435 : decode cL_law 435 = .ok (.invokevirtual 51, 3) := by decide +kernel
theorem dL_law_438 : decode cL_law 438 = .ok (.aload_n 2, 1) := by decide +kernel
theorem dL_law_439 : decode cL_law 439 = .ok (.aload_n 0, 1) := by decide +kernel
theorem dL_law_440 : decode cL_law 440 = .ok (.iload 4, 2) := by decide +kernel
theorem dL_law_442 : decode cL_law 442 = .ok (.iconst 1, 1) := by decide +kernel
theorem dL_law_443 : decode cL_law 443 = .ok (.iadd, 1) := by decide +kernel
theorem dL_law_444 : decode cL_law 444 = .ok (.iaload, 1) := by decide +kernel
theorem dL_law_445 : decode cL_law 445 = .ok (.invokevirtual 54, 3) := by decide +kernel
theorem dL_law_448 : decode cL_law 448 = .ok (.lcmp, 1) := by decide +kernel
theorem dL_law_449 : decode cL_law 449 = .ok (.ifCond .eq 888, 3) := by decide +kernel
theorem dL_law_452 : decode cL_law 452 = .ok (.iconst 0, 1) := by decide +kernel
theorem dL_law_453 : decode cL_law 453 = .ok (.ireturn, 1) := by decide +kernel
theorem dL_law_454 : decode cL_law 454 = .ok (.aload_n 1, 1) := by decide +kernel
theorem dL_law_455 : decode cL_law 455 = .ok (.aload_n 0, 1) := by decide +kernel
theorem dL_law_456 : decode cL_law 456 = .ok (.iload 4, 2) := by decide +kernel
theorem dL_law_458 : decode cL_law 458 = .ok (.iconst 1, 1) := by decide +kernel
theorem dL_law_459 : decode cL_law 459 = .ok (.iadd, 1) := by decide +kernel
theorem dL_law_460 : decode cL_law 460 = .ok (.iaload, 1) := by decide +kernel
theorem dL_law_461 : decode cL_law 461 = .ok (.aload_n 0, 1) := by decide +kernel
theorem dL_law_462 : decode cL_law 462 = .ok (.iload 4, 2) := by decide +kernel
theorem dL_law_464 : decode cL_law 464 = .ok (.iconst 2, 1) := by decide +kernel
theorem dL_law_465 : decode cL_law 465 = .ok (.iadd, 1) := by decide +kernel
theorem dL_law_466 : decode cL_law 466 = .ok (.iaload, 1) := by decide +kernel
theorem dL_law_467 : decode cL_law 467 = .ok (.invokevirtual 55, 3) := by decide +kernel
theorem dL_law_470 : decode cL_law 470 = .ok (.aload_n 2, 1) := by decide +kernel
theorem dL_law_471 : decode cL_law 471 = .ok (.aload_n 0, 1) := by decide +kernel
theorem dL_law_472 : decode cL_law 472 = .ok (.iload 4, 2) := by decide +kernel
theorem dL_law_474 : decode cL_law 474 = .ok (.iconst 1, 1) := by decide +kernel
theorem dL_law_475 : decode cL_law 475 = .ok (.iadd, 1) := by decide +kernel
theorem dL_law_476 : decode cL_law 476 = .ok (.iaload, 1) := by decide +kernel
theorem dL_law_477 : decode cL_law 477 = .ok (.aload_n 0, 1) := by decide +kernel
theorem dL_law_478 : decode cL_law 478 = .ok (.iload 4, 2) := by decide +kernel
theorem dL_law_480 : decode cL_law 480 = .ok (.iconst 2, 1) := by decide +kernel
theorem dL_law_481 : decode cL_law 481 = .ok (.iadd, 1) := by decide +kernel
theorem dL_law_482 : decode cL_law 482 = .ok (.iaload, 1) := by decide +kernel
theorem dL_law_483 : decode cL_law 483 = .ok (.invokevirtual 58, 3) := by decide +kernel
theorem dL_law_486 : decode cL_law 486 = .ok (.if_icmp .eq 851, 3) := by decide +kernel
theorem dL_law_489 : decode cL_law 489 = .ok (.iconst 0, 1) := by decide +kernel
theorem dL_law_490 : decode cL_law 490 = .ok (.ireturn, 1) := by decide +kernel
theorem dL_law_491 : decode cL_law 491 = .ok (.aload_n 1, 1) := by decide +kernel
theorem dL_law_492 : decode cL_law 492 = .ok (.aload_n 0, 1) := by decide +kernel
theorem dL_law_493 : decode cL_law 493 = .ok (.iload 4, 2) := by decide +kernel
theorem dL_law_495 : decode cL_law 495 = .ok (.iconst 1, 1) := by decide +kernel
theorem dL_law_496 : decode cL_law 496 = .ok (.iadd, 1) := by decide +kernel
theorem dL_law_497 : decode cL_law 497 = .ok (.iaload, 1) := by decide +kernel
theorem dL_law_498 : decode cL_law 498 = .ok (.invokevirtual 59, 3) := by decide +kernel
theorem dL_law_501 : decode cL_law 501 = .ok (.aload_n 2, 1) := by decide +kernel
theorem dL_law_502 : decode cL_law 502 = .ok (.aload_n 0, 1) := by decide +kernel
theorem dL_law_503 : decode cL_law 503 = .ok (.iload 4, 2) := by decide +kernel
theorem dL_law_505 : decode cL_law 505 = .ok (.iconst 1, 1) := by decide +kernel
theorem dL_law_506 : decode cL_law 506 = .ok (.iadd, 1) := by decide +kernel
theorem dL_law_507 : decode cL_law 507 = .ok (.iaload, 1) := by decide +kernel
theorem dL_law_508 : decode cL_law 508 = .ok (.invokevirtual 62, 3) := by decide +kernel
theorem dL_law_511 : decode cL_law 511 = .ok (.lcmp, 1) := by decide +kernel
theorem dL_law_512 : decode cL_law 512 = .ok (.ifCond .eq 825, 3) := by decide +kernel
theorem dL_law_515 : decode cL_law 515 = .ok (.iconst 0, 1) := by decide +kernel
theorem dL_law_516 : decode cL_law 516 = .ok (.ireturn, 1) := by decide +kernel
theorem dL_law_517 : decode cL_law 517 = .ok (.aload_n 1, 1) := by decide +kernel
theorem dL_law_518 : decode cL_law 518 = .ok (.aload_n 0, 1) := by decide +kernel
theorem dL_law_519 : decode cL_law 519 = .ok (.iload 4, 2) := by decide +kernel
theorem dL_law_521 : decode cL_law 521 = .ok (.iconst 1, 1) := by decide +kernel
theorem dL_law_522 : decode cL_law 522 = .ok (.iadd, 1) := by decide +kernel
theorem dL_law_523 : decode cL_law 523 = .ok (.iaload, 1) := by decide +kernel
theorem dL_law_524 : decode cL_law 524 = .ok (.invokevirtual 63, 3) := by decide +kernel
theorem dL_law_527 : decode cL_law 527 = .ok (.aload_n 2, 1) := by decide +kernel
theorem dL_law_528 : decode cL_law 528 = .ok (.aload_n 0, 1) := by decide +kernel
theorem dL_law_529 : decode cL_law 529 = .ok (.iload 4, 2) := by decide +kernel
theorem dL_law_531 : decode cL_law 531 = .ok (.iconst 1, 1) := by decide +kernel
theorem dL_law_532 : decode cL_law 532 = .ok (.iadd, 1) := by decide +kernel
theorem dL_law_533 : decode cL_law 533 = .ok (.iaload, 1) := by decide +kernel
theorem dL_law_534 : decode cL_law 534 = .ok (.invokevirtual 66, 3) := by decide +kernel
theorem dL_law_537 : decode cL_law 537 = .ok (.lcmp, 1) := by decide +kernel
theorem dL_law_538 : decode cL_law 538 = .ok (.ifCond .eq 799, 3) := by decide +kernel
theorem dL_law_541 : decode cL_law 541 = .ok (.iconst 0, 1) := by decide +kernel
theorem dL_law_542 : decode cL_law 542 = .ok (.ireturn, 1) := by decide +kernel
theorem dL_law_543 : decode cL_law 543 = .ok (.aload_n 1, 1) := by decide +kernel
theorem dL_law_544 : decode cL_law 544 = .ok (.invokevirtual 67, 3) := by decide +kernel
theorem dL_law_547 : decode cL_law 547 = .ok (.aload_n 2, 1) := by decide +kernel
theorem dL_law_548 : decode cL_law 548 = .ok (.invokevirtual 70, 3) := by decide +kernel
theorem dL_law_551 : decode cL_law 551 = .ok (.if_icmp .eq 786, 3) := by decide +kernel
theorem dL_law_554 : decode cL_law 554 = .ok (.iconst 0, 1) := by decide +kernel
theorem dL_law_555 : decode cL_law 555 = .ok (.ireturn, 1) := by decide +kernel
theorem dL_law_556 : decode cL_law 556 = .ok (.aload_n 1, 1) := by decide +kernel
theorem dL_law_557 : decode cL_law 557 = .ok (.aload_n 0, 1) := by decide +kernel
theorem dL_law_558 : decode cL_law 558 = .ok (.iload 4, 2) := by decide +kernel
theorem dL_law_560 : decode cL_law 560 = .ok (.iconst 1, 1) := by decide +kernel
theorem dL_law_561 : decode cL_law 561 = .ok (.iadd, 1) := by decide +kernel
theorem dL_law_562 : decode cL_law 562 = .ok (.iaload, 1) := by decide +kernel
theorem dL_law_563 : decode cL_law 563 = .ok (.aload_n 0, 1) := by decide +kernel
theorem dL_law_564 : decode cL_law 564 = .ok (.iload 4, 2) := by decide +kernel
theorem dL_law_566 : decode cL_law 566 = .ok (.iconst 2, 1) := by decide +kernel
theorem dL_law_567 : decode cL_law 567 = .ok (.iadd, 1) := by decide +kernel
theorem dL_law_568 : decode cL_law 568 = .ok (.iaload, 1) := by decide +kernel
theorem dL_law_569 : decode cL_law 569 = .ok (.invokevirtual 71, 3) := by decide +kernel
theorem dL_law_572 : decode cL_law 572 = .ok (.aload_n 2, 1) := by decide +kernel
theorem dL_law_573 : decode cL_law 573 = .ok (.aload_n 0, 1) := by decide +kernel
theorem dL_law_574 : decode cL_law 574 = .ok (.iload 4, 2) := by decide +kernel
theorem dL_law_576 : decode cL_law 576 = .ok (.iconst 1, 1) := by decide +kernel
theorem dL_law_577 : decode cL_law 577 = .ok (.iadd, 1) := by decide +kernel
theorem dL_law_578 : decode cL_law 578 = .ok (.iaload, 1) := by decide +kernel
theorem dL_law_579 : decode cL_law 579 = .ok (.aload_n 0, 1) := by decide +kernel
theorem dL_law_580 : decode cL_law 580 = .ok (.iload 4, 2) := by decide +kernel
theorem dL_law_582 : decode cL_law 582 = .ok (.iconst 2, 1) := by decide +kernel
theorem dL_law_583 : decode cL_law 583 = .ok (.iadd, 1) := by decide +kernel
theorem dL_law_584 : decode cL_law 584 = .ok (.iaload, 1) := by decide +kernel
theorem dL_law_585 : decode cL_law 585 = .ok (.invokevirtual 74, 3) := by decide +kernel
end
section
theorem dL_law_588 : decode cL_law 588 = .ok (.if_icmp .eq 749, 3) := by decide +kernel
theorem dL_law_591 : decode cL_law 591 = .ok (.iconst 0, 1) := by decide +kernel
theorem dL_law_592 : decode cL_law 592 = .ok (.ireturn, 1) := by decide +kernel
theorem dL_law_593 : decode cL_law 593 = .ok (.aload_n 1, 1) := by decide +kernel
theorem dL_law_594 : decode cL_law 594 = .ok (.aload_n 0, 1) := by decide +kernel
theorem dL_law_595 : decode cL_law 595 = .ok (.iload 4, 2) := by decide +kernel
theorem dL_law_597 : decode cL_law 597 = .ok (.iconst 1, 1) := by decide +kernel
theorem dL_law_598 : decode cL_law 598 = .ok (.iadd, 1) := by decide +kernel
theorem dL_law_599 : decode cL_law 599 = .ok (.iaload, 1) := by decide +kernel
theorem dL_law_600 : decode cL_law 600 = .ok (.aload_n 0, 1) := by decide +kernel
theorem dL_law_601 : decode cL_law 601 = .ok (.iload 4, 2) := by decide +kernel
theorem dL_law_603 : decode cL_law 603 = .ok (.iconst 2, 1) := by decide +kernel
theorem dL_law_604 : decode cL_law 604 = .ok (.iadd, 1) := by decide +kernel
theorem dL_law_605 : decode cL_law 605 = .ok (.iaload, 1) := by decide +kernel
theorem dL_law_606 : decode cL_law 606 = .ok (.invokevirtual 75, 3) := by decide +kernel
theorem dL_law_609 : decode cL_law 609 = .ok (.aload_n 2, 1) := by decide +kernel
theorem dL_law_610 : decode cL_law 610 = .ok (.aload_n 0, 1) := by decide +kernel
theorem dL_law_611 : decode cL_law 611 = .ok (.iload 4, 2) := by decide +kernel
theorem dL_law_613 : decode cL_law 613 = .ok (.iconst 1, 1) := by decide +kernel
theorem dL_law_614 : decode cL_law 614 = .ok (.iadd, 1) := by decide +kernel
theorem dL_law_615 : decode cL_law 615 = .ok (.iaload, 1) := by decide +kernel
theorem dL_law_616 : decode cL_law 616 = .ok (.aload_n 0, 1) := by decide +kernel
theorem dL_law_617 : decode cL_law 617 = .ok (.iload 4, 2) := by decide +kernel
theorem dL_law_619 : decode cL_law 619 = .ok (.iconst 2, 1) := by decide +kernel
theorem dL_law_620 : decode cL_law 620 = .ok (.iadd, 1) := by decide +kernel
theorem dL_law_621 : decode cL_law 621 = .ok (.iaload, 1) := by decide +kernel
theorem dL_law_622 : decode cL_law 622 = .ok (.invokevirtual 79, 3) := by decide +kernel
theorem dL_law_625 : decode cL_law 625 = .ok (.lcmp, 1) := by decide +kernel
theorem dL_law_626 : decode cL_law 626 = .ok (.ifCond .eq 711, 3) := by decide +kernel
theorem dL_law_629 : decode cL_law 629 = .ok (.iconst 0, 1) := by decide +kernel
theorem dL_law_630 : decode cL_law 630 = .ok (.ireturn, 1) := by decide +kernel
theorem dL_law_631 : decode cL_law 631 = .ok (.aload_n 1, 1) := by decide +kernel
theorem dL_law_632 : decode cL_law 632 = .ok (.aload_n 0, 1) := by decide +kernel
theorem dL_law_633 : decode cL_law 633 = .ok (.iload 4, 2) := by decide +kernel
theorem dL_law_635 : decode cL_law 635 = .ok (.iconst 1, 1) := by decide +kernel
theorem dL_law_636 : decode cL_law 636 = .ok (.iadd, 1) := by decide +kernel
theorem dL_law_637 : decode cL_law 637 = .ok (.iaload, 1) := by decide +kernel
theorem dL_law_638 : decode cL_law 638 = .ok (.aload_n 0, 1) := by decide +kernel
theorem dL_law_639 : decode cL_law 639 = .ok (.iload 4, 2) := by decide +kernel
theorem dL_law_641 : decode cL_law 641 = .ok (.iconst 2, 1) := by decide +kernel
theorem dL_law_642 : decode cL_law 642 = .ok (.iadd, 1) := by decide +kernel
theorem dL_law_643 : decode cL_law 643 = .ok (.iaload, 1) := by decide +kernel
theorem dL_law_644 : decode cL_law 644 = .ok (.invokevirtual 80, 3) := by decide +kernel
theorem dL_law_647 : decode cL_law 647 = .ok (.aload_n 2, 1) := by decide +kernel
theorem dL_law_648 : decode cL_law 648 = .ok (.aload_n 0, 1) := by decide +kernel
theorem dL_law_649 : decode cL_law 649 = .ok (.iload 4, 2) := by decide +kernel
theorem dL_law_651 : decode cL_law 651 = .ok (.iconst 1, 1) := by decide +kernel
theorem dL_law_652 : decode cL_law 652 = .ok (.iadd, 1) := by decide +kernel
theorem dL_law_653 : decode cL_law 653 = .ok (.iaload, 1) := by decide +kernel
theorem dL_law_654 : decode cL_law 654 = .ok (.aload_n 0, 1) := by decide +kernel
theorem dL_law_655 : decode cL_law 655 = .ok (.iload 4, 2) := by decide +kernel
theorem dL_law_657 : decode cL_law 657 = .ok (.iconst 2, 1) := by decide +kernel
theorem dL_law_658 : decode cL_law 658 = .ok (.iadd, 1) := by decide +kernel
theorem dL_law_659 : decode cL_law 659 = .ok (.iaload, 1) := by decide +kernel
theorem dL_law_660 : decode cL_law 660 = .ok (.invokevirtual 83, 3) := by decide +kernel
theorem dL_law_663 : decode cL_law 663 = .ok (.lcmp, 1) := by decide +kernel
theorem dL_law_664 : decode cL_law 664 = .ok (.ifCond .eq 673, 3) := by decide +kernel
theorem dL_law_667 : decode cL_law 667 = .ok (.iconst 0, 1) := by decide +kernel
theorem dL_law_668 : decode cL_law 668 = .ok (.ireturn, 1) := by decide +kernel
theorem dL_law_669 : decode cL_law 669 = .ok (.aload_n 1, 1) := by decide +kernel
theorem dL_law_670 : decode cL_law 670 = .ok (.invokevirtual 84, 3) := by decide +kernel
theorem dL_law_673 : decode cL_law 673 = .ok (.aload_n 2, 1) := by decide +kernel
theorem dL_law_674 : decode cL_law 674 = .ok (.invokevirtual 88, 3) := by decide +kernel
theorem dL_law_677 : decode cL_law 677 = .ok (.lcmp, 1) := by decide +kernel
theorem dL_law_678 : decode cL_law 678 = .ok (.ifCond .eq 659, 3) := by decide +kernel
theorem dL_law_681 : decode cL_law 681 = .ok (.iconst 0, 1) := by decide +kernel
theorem dL_law_682 : decode cL_law 682 = .ok (.ireturn, 1) := by decide +kernel
theorem dL_law_683 : decode cL_law 683 = .ok (.aload_n 1, 1) := by decide +kernel
theorem dL_law_684 : decode cL_law 684 = .ok (.aload_n 0, 1) := by decide +kernel
theorem dL_law_685 : decode cL_law 685 = .ok (.iload 4, 2) := by decide +kernel
theorem dL_law_687 : decode cL_law 687 = .ok (.iconst 1, 1) := by decide +kernel
theorem dL_law_688 : decode cL_law 688 = .ok (.iadd, 1) := by decide +kernel
theorem dL_law_689 : decode cL_law 689 = .ok (.iaload, 1) := by decide +kernel
theorem dL_law_690 : decode cL_law 690 = .ok (.invokevirtual 89, 3) := by decide +kernel
theorem dL_law_693 : decode cL_law 693 = .ok (.aload_n 2, 1) := by decide +kernel
theorem dL_law_694 : decode cL_law 694 = .ok (.aload_n 0, 1) := by decide +kernel
theorem dL_law_695 : decode cL_law 695 = .ok (.iload 4, 2) := by decide +kernel
theorem dL_law_697 : decode cL_law 697 = .ok (.iconst 1, 1) := by decide +kernel
theorem dL_law_698 : decode cL_law 698 = .ok (.iadd, 1) := by decide +kernel
theorem dL_law_699 : decode cL_law 699 = .ok (.iaload, 1) := by decide +kernel
theorem dL_law_700 : decode cL_law 700 = .ok (.invokevirtual 92, 3) := by decide +kernel
theorem dL_law_703 : decode cL_law 703 = .ok (.lcmp, 1) := by decide +kernel
theorem dL_law_704 : decode cL_law 704 = .ok (.ifCond .eq 633, 3) := by decide +kernel
theorem dL_law_707 : decode cL_law 707 = .ok (.iconst 0, 1) := by decide +kernel
theorem dL_law_708 : decode cL_law 708 = .ok (.ireturn, 1) := by decide +kernel
theorem dL_law_709 : decode cL_law 709 = .ok (.aload_n 1, 1) := by decide +kernel
theorem dL_law_710 : decode cL_law 710 = .ok (.aload_n 0, 1) := by decide +kernel
theorem dL_law_711 : decode cL_law 711 = .ok (.iload 4, 2) := by decide +kernel
theorem dL_law_713 : decode cL_law 713 = .ok (.iconst 1, 1) := by decide +kernel
theorem dL_law_714 : decode cL_law 714 = .ok (.iadd, 1) := by decide +kernel
theorem dL_law_715 : decode cL_law 715 = .ok (.iaload, 1) := by decide +kernel
theorem dL_law_716 : decode cL_law 716 = .ok (.invokevirtual 93, 3) := by decide +kernel
theorem dL_law_719 : decode cL_law 719 = .ok (.aload_n 2, 1) := by decide +kernel
theorem dL_law_720 : decode cL_law 720 = .ok (.aload_n 0, 1) := by decide +kernel
theorem dL_law_721 : decode cL_law 721 = .ok (.iload 4, 2) := by decide +kernel
theorem dL_law_723 : decode cL_law 723 = .ok (.iconst 1, 1) := by decide +kernel
theorem dL_law_724 : decode cL_law 724 = .ok (.iadd, 1) := by decide +kernel
theorem dL_law_725 : decode cL_law 725 = .ok (.iaload, 1) := by decide +kernel
theorem dL_law_726 : decode cL_law 726 = .ok (.invokevirtual 96, 3) := by decide +kernel
theorem dL_law_729 : decode cL_law 729 = .ok (.lcmp, 1) := by decide +kernel
theorem dL_law_730 : decode cL_law 730 = .ok (.ifCond .eq 607, 3) := by decide +kernel
theorem dL_law_733 : decode cL_law 733 = .ok (.iconst 0, 1) := by decide +kernel
theorem dL_law_734 : decode cL_law 734 = .ok (.ireturn, 1) := by decide +kernel
theorem dL_law_735 : decode cL_law 735 = .ok (.aload_n 1, 1) := by decide +kernel
theorem dL_law_736 : decode cL_law 736 = .ok (.aload_n 0, 1) := by decide +kernel
theorem dL_law_737 : decode cL_law 737 = .ok (.iload 4, 2) := by decide +kernel
theorem dL_law_739 : decode cL_law 739 = .ok (.iconst 1, 1) := by decide +kernel
theorem dL_law_740 : decode cL_law 740 = .ok (.iadd, 1) := by decide +kernel
theorem dL_law_741 : decode cL_law 741 = .ok (.iaload, 1) := by decide +kernel
theorem dL_law_742 : decode cL_law 742 = .ok (.aload_n 0, 1) := by decide +kernel
theorem dL_law_743 : decode cL_law 743 = .ok (.iload 4, 2) := by decide +kernel
theorem dL_law_745 : decode cL_law 745 = .ok (.iconst 2, 1) := by decide +kernel
theorem dL_law_746 : decode cL_law 746 = .ok (.iadd, 1) := by decide +kernel
theorem dL_law_747 : decode cL_law 747 = .ok (.iaload, 1) := by decide +kernel
theorem dL_law_748 : decode cL_law 748 = .ok (.aload_n 0, 1) := by decide +kernel
theorem dL_law_749 : decode cL_law 749 = .ok (.iload 4, 2) := by decide +kernel
theorem dL_law_751 : decode cL_law 751 = .ok (.iconst 3, 1) := by decide +kernel
theorem dL_law_752 : decode cL_law 752 = .ok (.iadd, 1) := by decide +kernel
theorem dL_law_753 : decode cL_law 753 = .ok (.iaload, 1) := by decide +kernel
theorem dL_law_754 : decode cL_law 754 = .ok (.invokevirtual 97, 3) := by decide +kernel
theorem dL_law_757 : decode cL_law 757 = .ok (.aload_n 2, 1) := by decide +kernel
theorem dL_law_758 : decode cL_law 758 = .ok (.aload_n 0, 1) := by decide +kernel
theorem dL_law_759 : decode cL_law 759 = .ok (.iload 4, 2) := by decide +kernel
theorem dL_law_761 : decode cL_law 761 = .ok (.iconst 1, 1) := by decide +kernel
theorem dL_law_762 : decode cL_law 762 = .ok (.iadd, 1) := by decide +kernel
theorem dL_law_763 : decode cL_law 763 = .ok (.iaload, 1) := by decide +kernel
theorem dL_law_764 : decode cL_law 764 = .ok (.aload_n 0, 1) := by decide +kernel
theorem dL_law_765 : decode cL_law 765 = .ok (.iload 4, 2) := by decide +kernel
theorem dL_law_767 : decode cL_law 767 = .ok (.iconst 2, 1) := by decide +kernel
theorem dL_law_768 : decode cL_law 768 = .ok (.iadd, 1) := by decide +kernel
theorem dL_law_769 : decode cL_law 769 = .ok (.iaload, 1) := by decide +kernel
theorem dL_law_770 : decode cL_law 770 = .ok (.aload_n 0, 1) := by decide +kernel
theorem dL_law_771 : decode cL_law 771 = .ok (.iload 4, 2) := by decide +kernel
theorem dL_law_773 : decode cL_law 773 = .ok (.iconst 3, 1) := by decide +kernel
theorem dL_law_774 : decode cL_law 774 = .ok (.iadd, 1) := by decide +kernel
theorem dL_law_775 : decode cL_law 775 = .ok (.iaload, 1) := by decide +kernel
theorem dL_law_776 : decode cL_law 776 = .ok (.invokevirtual 101, 3) := by decide +kernel
theorem dL_law_779 : decode cL_law 779 = .ok (.lcmp, 1) := by decide +kernel
theorem dL_law_780 : decode cL_law 780 = .ok (.ifCond .eq 557, 3) := by decide +kernel
theorem dL_law_783 : decode cL_law 783 = .ok (.iconst 0, 1) := by decide +kernel
theorem dL_law_784 : decode cL_law 784 = .ok (.ireturn, 1) := by decide +kernel
theorem dL_law_785 : decode cL_law 785 = .ok (.aload_n 1, 1) := by decide +kernel
theorem dL_law_786 : decode cL_law 786 = .ok (.aload_n 0, 1) := by decide +kernel
theorem dL_law_787 : decode cL_law 787 = .ok (.iload 4, 2) := by decide +kernel
theorem dL_law_789 : decode cL_law 789 = .ok (.iconst 1, 1) := by decide +kernel
theorem dL_law_790 : decode cL_law 790 = .ok (.iadd, 1) := by decide +kernel
theorem dL_law_791 : decode cL_law 791 = .ok (.iaload, 1) := by decide +kernel
theorem dL_law_792 : decode cL_law 792 = .ok (.invokevirtual 102, 3) := by decide +kernel
theorem dL_law_795 : decode cL_law 795 = .ok (.aload_n 2, 1) := by decide +kernel
theorem dL_law_796 : decode cL_law 796 = .ok (.aload_n 0, 1) := by decide +kernel
theorem dL_law_797 : decode cL_law 797 = .ok (.iload 4, 2) := by decide +kernel
theorem dL_law_799 : decode cL_law 799 = .ok (.iconst 1, 1) := by decide +kernel
theorem dL_law_800 : decode cL_law 800 = .ok (.iadd, 1) := by decide +kernel
theorem dL_law_801 : decode cL_law 801 = .ok (.iaload, 1) := by decide +kernel
theorem dL_law_802 : decode cL_law 802 = .ok (.invokevirtual 105, 3) := by decide +kernel
theorem dL_law_805 : decode cL_law 805 = .ok (.if_icmp .eq 532, 3) := by decide +kernel
theorem dL_law_808 : decode cL_law 808 = .ok (.iconst 0, 1) := by decide +kernel
theorem dL_law_809 : decode cL_law 809 = .ok (.ireturn, 1) := by decide +kernel
theorem dL_law_810 : decode cL_law 810 = .ok (.aload_n 1, 1) := by decide +kernel
theorem dL_law_811 : decode cL_law 811 = .ok (.aload_n 0, 1) := by decide +kernel
theorem dL_law_812 : decode cL_law 812 = .ok (.iload 4, 2) := by decide +kernel
theorem dL_law_814 : decode cL_law 814 = .ok (.iconst 1, 1) := by decide +kernel
theorem dL_law_815 : decode cL_law 815 = .ok (.iadd, 1) := by decide +kernel
theorem dL_law_816 : decode cL_law 816 = .ok (.iaload, 1) := by decide +kernel
theorem dL_law_817 : decode cL_law 817 = .ok (.invokevirtual 106, 3) := by decide +kernel
theorem dL_law_820 : decode cL_law 820 = .ok (.aload_n 2, 1) := by decide +kernel
theorem dL_law_821 : decode cL_law 821 = .ok (.aload_n 0, 1) := by decide +kernel
theorem dL_law_822 : decode cL_law 822 = .ok (.iload 4, 2) := by decide +kernel
theorem dL_law_824 : decode cL_law 824 = .ok (.iconst 1, 1) := by decide +kernel
theorem dL_law_825 : decode cL_law 825 = .ok (.iadd, 1) := by decide +kernel
theorem dL_law_826 : decode cL_law 826 = .ok (.iaload, 1) := by decide +kernel
theorem dL_law_827 : decode cL_law 827 = .ok (.invokevirtual 109, 3) := by decide +kernel
theorem dL_law_830 : decode cL_law 830 = .ok (.lcmp, 1) := by decide +kernel
theorem dL_law_831 : decode cL_law 831 = .ok (.ifCond .eq 506, 3) := by decide +kernel
theorem dL_law_834 : decode cL_law 834 = .ok (.iconst 0, 1) := by decide +kernel
theorem dL_law_835 : decode cL_law 835 = .ok (.ireturn, 1) := by decide +kernel
theorem dL_law_836 : decode cL_law 836 = .ok (.aload_n 1, 1) := by decide +kernel
theorem dL_law_837 : decode cL_law 837 = .ok (.aload_n 0, 1) := by decide +kernel
theorem dL_law_838 : decode cL_law 838 = .ok (.iload 4, 2) := by decide +kernel
theorem dL_law_840 : decode cL_law 840 = .ok (.iconst 1, 1) := by decide +kernel
theorem dL_law_841 : decode cL_law 841 = .ok (.iadd, 1) := by decide +kernel
theorem dL_law_842 : decode cL_law 842 = .ok (.iaload, 1) := by decide +kernel
theorem dL_law_843 : decode cL_law 843 = .ok (.invokevirtual 110, 3) := by decide +kernel
theorem dL_law_846 : decode cL_law 846 = .ok (.aload_n 2, 1) := by decide +kernel
theorem dL_law_847 : decode cL_law 847 = .ok (.aload_n 0, 1) := by decide +kernel
theorem dL_law_848 : decode cL_law 848 = .ok (.iload 4, 2) := by decide +kernel
theorem dL_law_850 : decode cL_law 850 = .ok (.iconst 1, 1) := by decide +kernel
theorem dL_law_851 : decode cL_law 851 = .ok (.iadd, 1) := by decide +kernel
theorem dL_law_852 : decode cL_law 852 = .ok (.iaload, 1) := by decide +kernel
theorem dL_law_853 : decode cL_law 853 = .ok (.invokevirtual 113, 3) := by decide +kernel
theorem dL_law_856 : decode cL_law 856 = .ok (.if_icmp .eq 481, 3) := by decide +kernel
theorem dL_law_859 : decode cL_law 859 = .ok (.iconst 0, 1) := by decide +kernel
theorem dL_law_860 : decode cL_law 860 = .ok (.ireturn, 1) := by decide +kernel
theorem dL_law_861 : decode cL_law 861 = .ok (.aload_n 1, 1) := by decide +kernel
theorem dL_law_862 : decode cL_law 862 = .ok (.invokevirtual 114, 3) := by decide +kernel
theorem dL_law_865 : decode cL_law 865 = .ok (.aload_n 2, 1) := by decide +kernel
theorem dL_law_866 : decode cL_law 866 = .ok (.invokevirtual 117, 3) := by decide +kernel
theorem dL_law_869 : decode cL_law 869 = .ok (.if_icmp .eq 468, 3) := by decide +kernel
theorem dL_law_872 : decode cL_law 872 = .ok (.iconst 0, 1) := by decide +kernel
theorem dL_law_873 : decode cL_law 873 = .ok (.ireturn, 1) := by decide +kernel
theorem dL_law_874 : decode cL_law 874 = .ok (.aload_n 1, 1) := by decide +kernel
theorem dL_law_875 : decode cL_law 875 = .ok (.aload_n 0, 1) := by decide +kernel
theorem dL_law_876 : decode cL_law 876 = .ok (.iload 4, 2) := by decide +kernel
theorem dL_law_878 : decode cL_law 878 = .ok (.iconst 1, 1) := by decide +kernel
theorem dL_law_879 : decode cL_law 879 = .ok (.iadd, 1) := by decide +kernel
theorem dL_law_880 : decode cL_law 880 = .ok (.iaload, 1) := by decide +kernel
theorem dL_law_881 : decode cL_law 881 = .ok (.aload_n 0, 1) := by decide +kernel
theorem dL_law_882 : decode cL_law 882 = .ok (.iload 4, 2) := by decide +kernel
theorem dL_law_884 : decode cL_law 884 = .ok (.iconst 2, 1) := by decide +kernel
theorem dL_law_885 : decode cL_law 885 = .ok (.iadd, 1) := by decide +kernel
theorem dL_law_886 : decode cL_law 886 = .ok (.iaload, 1) := by decide +kernel
theorem dL_law_887 : decode cL_law 887 = .ok (.invokevirtual 118, 3) := by decide +kernel
theorem dL_law_890 : decode cL_law 890 = .ok (.aload_n 2, 1) := by decide +kernel
theorem dL_law_891 : decode cL_law 891 = .ok (.aload_n 0, 1) := by decide +kernel
theorem dL_law_892 : decode cL_law 892 = .ok (.iload 4, 2) := by decide +kernel
theorem dL_law_894 : decode cL_law 894 = .ok (.iconst 1, 1) := by decide +kernel
theorem dL_law_895 : decode cL_law 895 = .ok (.iadd, 1) := by decide +kernel
theorem dL_law_896 : decode cL_law 896 = .ok (.iaload, 1) := by decide +kernel
theorem dL_law_897 : decode cL_law 897 = .ok (.aload_n 0, 1) := by decide +kernel
theorem dL_law_898 : decode cL_law 898 = .ok (.iload 4, 2) := by decide +kernel
theorem dL_law_900 : decode cL_law 900 = .ok (.iconst 2, 1) := by decide +kernel
theorem dL_law_901 : decode cL_law 901 = .ok (.iadd, 1) := by decide +kernel
theorem dL_law_902 : decode cL_law 902 = .ok (.iaload, 1) := by decide +kernel
theorem dL_law_903 : decode cL_law 903 = .ok (.invokevirtual 121, 3) := by decide +kernel
theorem dL_law_906 : decode cL_law 906 = .ok (.if_icmp .eq 431, 3) := by decide +kernel
theorem dL_law_909 : decode cL_law 909 = .ok (.iconst 0, 1) := by decide +kernel
theorem dL_law_910 : decode cL_law 910 = .ok (.ireturn, 1) := by decide +kernel
theorem dL_law_911 : decode cL_law 911 = .ok (.aload_n 1, 1) := by decide +kernel
theorem dL_law_912 : decode cL_law 912 = .ok (.aload_n 0, 1) := by decide +kernel
theorem dL_law_913 : decode cL_law 913 = .ok (.iload 4, 2) := by decide +kernel
theorem dL_law_915 : decode cL_law 915 = .ok (.iconst 1, 1) := by decide +kernel
theorem dL_law_916 : decode cL_law 916 = .ok (.iadd, 1) := by decide +kernel
theorem dL_law_917 : decode cL_law 917 = .ok (.iaload, 1) := by decide +kernel
theorem dL_law_918 : decode cL_law 918 = .ok (.invokevirtual 122, 3) := by decide +kernel
theorem dL_law_921 : decode cL_law 921 = .ok (.aload_n 2, 1) := by decide +kernel
theorem dL_law_922 : decode cL_law 922 = .ok (.aload_n 0, 1) := by decide +kernel
theorem dL_law_923 : decode cL_law 923 = .ok (.iload 4, 2) := by decide +kernel
theorem dL_law_925 : decode cL_law 925 = .ok (.iconst 1, 1) := by decide +kernel
theorem dL_law_926 : decode cL_law 926 = .ok (.iadd, 1) := by decide +kernel
theorem dL_law_927 : decode cL_law 927 = .ok (.iaload, 1) := by decide +kernel
theorem dL_law_928 : decode cL_law 928 = .ok (.invokevirtual 125, 3) := by decide +kernel
theorem dL_law_931 : decode cL_law 931 = .ok (.if_icmp .eq 406, 3) := by decide +kernel
theorem dL_law_934 : decode cL_law 934 = .ok (.iconst 0, 1) := by decide +kernel
theorem dL_law_935 : decode cL_law 935 = .ok (.ireturn, 1) := by decide +kernel
theorem dL_law_936 : decode cL_law 936 = .ok (.aload_n 1, 1) := by decide +kernel
theorem dL_law_937 : decode cL_law 937 = .ok (.invokevirtual 126, 3) := by decide +kernel
theorem dL_law_940 : decode cL_law 940 = .ok (.aload_n 2, 1) := by decide +kernel
theorem dL_law_941 : decode cL_law 941 = .ok (.invokevirtual 129, 3) := by decide +kernel
theorem dL_law_944 : decode cL_law 944 = .ok (.if_icmp .eq 393, 3) := by decide +kernel
theorem dL_law_947 : decode cL_law 947 = .ok (.iconst 0, 1) := by decide +kernel
theorem dL_law_948 : decode cL_law 948 = .ok (.ireturn, 1) := by decide +kernel
theorem dL_law_949 : decode cL_law 949 = .ok (.aload_n 1, 1) := by decide +kernel
theorem dL_law_950 : decode cL_law 950 = .ok (.invokevirtual 130, 3) := by decide +kernel
theorem dL_law_953 : decode cL_law 953 = .ok (.aload_n 2, 1) := by decide +kernel
theorem dL_law_954 : decode cL_law 954 = .ok (.invokevirtual 133, 3) := by decide +kernel
theorem dL_law_957 : decode cL_law 957 = .ok (.if_icmp .eq 380, 3) := by decide +kernel
theorem dL_law_960 : decode cL_law 960 = .ok (.iconst 0, 1) := by decide +kernel
theorem dL_law_961 : decode cL_law 961 = .ok (.ireturn, 1) := by decide +kernel
theorem dL_law_962 : decode cL_law 962 = .ok (.aload_n 1, 1) := by decide +kernel
theorem dL_law_963 : decode cL_law 963 = .ok (.invokevirtual 134, 3) := by decide +kernel
theorem dL_law_966 : decode cL_law 966 = .ok (.aload_n 2, 1) := by decide +kernel
theorem dL_law_967 : decode cL_law 967 = .ok (.invokevirtual 137, 3) := by decide +kernel
theorem dL_law_970 : decode cL_law 970 = .ok (.lcmp, 1) := by decide +kernel
theorem dL_law_971 : decode cL_law 971 = .ok (.ifCond .eq 366, 3) := by decide +kernel
theorem dL_law_974 : decode cL_law 974 = .ok (.iconst 0, 1) := by decide +kernel
theorem dL_law_975 : decode cL_law 975 = .ok (.ireturn, 1) := by decide +kernel
theorem dL_law_976 : decode cL_law 976 = .ok (.aload_n 1, 1) := by decide +kernel
theorem dL_law_977 : decode cL_law 977 = .ok (.aload_n 0, 1) := by decide +kernel
theorem dL_law_978 : decode cL_law 978 = .ok (.iload 4, 2) := by decide +kernel
theorem dL_law_980 : decode cL_law 980 = .ok (.iconst 1, 1) := by decide +kernel
theorem dL_law_981 : decode cL_law 981 = .ok (.iadd, 1) := by decide +kernel
theorem dL_law_982 : decode cL_law 982 = .ok (.iaload, 1) := by decide +kernel
theorem dL_law_983 : decode cL_law 983 = .ok (.aload_n 0, 1) := by decide +kernel
theorem dL_law_984 : decode cL_law 984 = .ok (.iload 4, 2) := by decide +kernel
theorem dL_law_986 : decode cL_law 986 = .ok (.iconst 2, 1) := by decide +kernel
theorem dL_law_987 : decode cL_law 987 = .ok (.iadd, 1) := by decide +kernel
theorem dL_law_988 : decode cL_law 988 = .ok (.iaload, 1) := by decide +kernel
theorem dL_law_989 : decode cL_law 989 = .ok (.invokevirtual 138, 3) := by decide +kernel
theorem dL_law_992 : decode cL_law 992 = .ok (.aload_n 2, 1) := by decide +kernel
theorem dL_law_993 : decode cL_law 993 = .ok (.aload_n 0, 1) := by decide +kernel
theorem dL_law_994 : decode cL_law 994 = .ok (.iload 4, 2) := by decide +kernel
theorem dL_law_996 : decode cL_law 996 = .ok (.iconst 1, 1) := by decide +kernel
theorem dL_law_997 : decode cL_law 997 = .ok (.iadd, 1) := by decide +kernel
theorem dL_law_998 : decode cL_law 998 = .ok (.iaload, 1) := by decide +kernel
theorem dL_law_999 : decode cL_law 999 = .ok (.aload_n 0, 1) := by decide +kernel
theorem dL_law_1000 : decode cL_law 1000 = .ok (.iload 4, 2) := by decide +kernel
theorem dL_law_1002 : decode cL_law 1002 = .ok (.iconst 2, 1) := by decide +kernel
theorem dL_law_1003 : decode cL_law 1003 = .ok (.iadd, 1) := by decide +kernel
theorem dL_law_1004 : decode cL_law 1004 = .ok (.iaload, 1) := by decide +kernel
theorem dL_law_1005 : decode cL_law 1005 = .ok (.invokevirtual 141, 3) := by decide +kernel
theorem dL_law_1008 : decode cL_law 1008 = .ok (.if_icmp .eq 329, 3) := by decide +kernel
theorem dL_law_1011 : decode cL_law 1011 = .ok (.iconst 0, 1) := by decide +kernel
theorem dL_law_1012 : decode cL_law 1012 = .ok (.ireturn, 1) := by decide +kernel
theorem dL_law_1013 : decode cL_law 1013 = .ok (.aload_n 1, 1) := by decide +kernel
theorem dL_law_1014 : decode cL_law 1014 = .ok (.invokevirtual 142, 3) := by decide +kernel
theorem dL_law_1017 : decode cL_law 1017 = .ok (.aload_n 2, 1) := by decide +kernel
theorem dL_law_1018 : decode cL_law 1018 = .ok (.invokevirtual 145, 3) := by decide +kernel
theorem dL_law_1021 : decode cL_law 1021 = .ok (.if_icmp .eq 316, 3) := by decide +kernel
theorem dL_law_1024 : decode cL_law 1024 = .ok (.iconst 0, 1) := by decide +kernel
theorem dL_law_1025 : decode cL_law 1025 = .ok (.ireturn, 1) := by decide +kernel
end
section
theorem dL_law_1026 : decode cL_law 1026 = .ok (.aload_n 1, 1) := by decide +kernel
theorem dL_law_1027 : decode cL_law 1027 = .ok (.aload_n 0, 1) := by decide +kernel
theorem dL_law_1028 : decode cL_law 1028 = .ok (.iload 4, 2) := by decide +kernel
theorem dL_law_1030 : decode cL_law 1030 = .ok (.iconst 1, 1) := by decide +kernel
theorem dL_law_1031 : decode cL_law 1031 = .ok (.iadd, 1) := by decide +kernel
theorem dL_law_1032 : decode cL_law 1032 = .ok (.iaload, 1) := by decide +kernel
theorem dL_law_1033 : decode cL_law 1033 = .ok (.aload_n 0, 1) := by decide +kernel
theorem dL_law_1034 : decode cL_law 1034 = .ok (.iload 4, 2) := by decide +kernel
theorem dL_law_1036 : decode cL_law 1036 = .ok (.iconst 2, 1) := by decide +kernel
theorem dL_law_1037 : decode cL_law 1037 = .ok (.iadd, 1) := by decide +kernel
theorem dL_law_1038 : decode cL_law 1038 = .ok (.iaload, 1) := by decide +kernel
theorem dL_law_1039 : decode cL_law 1039 = .ok (.invokevirtual 146, 3) := by decide +kernel
theorem dL_law_1042 : decode cL_law 1042 = .ok (.aload_n 2, 1) := by decide +kernel
theorem dL_law_1043 : decode cL_law 1043 = .ok (.aload_n 0, 1) := by decide +kernel
theorem dL_law_1044 : decode cL_law 1044 = .ok (.iload 4, 2) := by decide +kernel
theorem dL_law_1046 : decode cL_law 1046 = .ok (.iconst 1, 1) := by decide +kernel
theorem dL_law_1047 : decode cL_law 1047 = .ok (.iadd, 1) := by decide +kernel
theorem dL_law_1048 : decode cL_law 1048 = .ok (.iaload, 1) := by decide +kernel
theorem dL_law_1049 : decode cL_law 1049 = .ok (.aload_n 0, 1) := by decide +kernel
theorem dL_law_1050 : decode cL_law 1050 = .ok (.iload 4, 2) := by decide +kernel
theorem dL_law_1052 : decode cL_law 1052 = .ok (.iconst 2, 1) := by decide +kernel
theorem dL_law_1053 : decode cL_law 1053 = .ok (.iadd, 1) := by decide +kernel
theorem dL_law_1054 : decode cL_law 1054 = .ok (.iaload, 1) := by decide +kernel
theorem dL_law_1055 : decode cL_law 1055 = .ok (.invokevirtual 149, 3) := by decide +kernel
theorem dL_law_1058 : decode cL_law 1058 = .ok (.lcmp, 1) := by decide +kernel
theorem dL_law_1059 : decode cL_law 1059 = .ok (.ifCond .eq 278, 3) := by decide +kernel
theorem dL_law_1062 : decode cL_law 1062 = .ok (.iconst 0, 1) := by decide +kernel
theorem dL_law_1063 : decode cL_law 1063 = .ok (.ireturn, 1) := by decide +kernel
theorem dL_law_1064 : decode cL_law 1064 = .ok (.aload_n 1, 1) := by decide +kernel
theorem dL_law_1065 : decode cL_law 1065 = .ok (.aload_n 0, 1) := by decide +kernel
theorem dL_law_1066 : decode cL_law 1066 = .ok (.iload 4, 2) := by decide +kernel
theorem dL_law_1068 : decode cL_law 1068 = .ok (.iconst 1, 1) := by decide +kernel
theorem dL_law_1069 : decode cL_law 1069 = .ok (.iadd, 1) := by decide +kernel
theorem dL_law_1070 : decode cL_law 1070 = .ok (.iaload, 1) := by decide +kernel
theorem dL_law_1071 : decode cL_law 1071 = .ok (.invokevirtual 150, 3) := by decide +kernel
theorem dL_law_1074 : decode cL_law 1074 = .ok (.aload_n 2, 1) := by decide +kernel
theorem dL_law_1075 : decode cL_law 1075 = .ok (.aload_n 0, 1) := by decide +kernel
theorem dL_law_1076 : decode cL_law 1076 = .ok (.iload 4, 2) := by decide +kernel
theorem dL_law_1078 : decode cL_law 1078 = .ok (.iconst 1, 1) := by decide +kernel
theorem dL_law_1079 : decode cL_law 1079 = .ok (.iadd, 1) := by decide +kernel
theorem dL_law_1080 : decode cL_law 1080 = .ok (.iaload, 1) := by decide +kernel
theorem dL_law_1081 : decode cL_law 1081 = .ok (.invokevirtual 153, 3) := by decide +kernel
theorem dL_law_1084 : decode cL_law 1084 = .ok (.lcmp, 1) := by decide +kernel
theorem dL_law_1085 : decode cL_law 1085 = .ok (.ifCond .eq 252, 3) := by decide +kernel
theorem dL_law_1088 : decode cL_law 1088 = .ok (.iconst 0, 1) := by decide +kernel
theorem dL_law_1089 : decode cL_law 1089 = .ok (.ireturn, 1) := by decide +kernel
theorem dL_law_1090 : decode cL_law 1090 = .ok (.aload_n 1, 1) := by decide +kernel
theorem dL_law_1091 : decode cL_law 1091 = .ok (.aload_n 0, 1) := by decide +kernel
theorem dL_law_1092 : decode cL_law 1092 = .ok (.iload 4, 2) := by decide +kernel
theorem dL_law_1094 : decode cL_law 1094 = .ok (.iconst 1, 1) := by decide +kernel
theorem dL_law_1095 : decode cL_law 1095 = .ok (.iadd, 1) := by decide +kernel
theorem dL_law_1096 : decode cL_law 1096 = .ok (.iaload, 1) := by decide +kernel
theorem dL_law_1097 : decode cL_law 1097 = .ok (.aload_n 0, 1) := by decide +kernel
theorem dL_law_1098 : decode cL_law 1098 = .ok (.iload 4, 2) := by decide +kernel
theorem dL_law_1100 : decode cL_law 1100 = .ok (.iconst 2, 1) := by decide +kernel
theorem dL_law_1101 : decode cL_law 1101 = .ok (.iadd, 1) := by decide +kernel
theorem dL_law_1102 : decode cL_law 1102 = .ok (.iaload, 1) := by decide +kernel
theorem dL_law_1103 : decode cL_law 1103 = .ok (.ifCond .eq 7, 3) := by decide +kernel
theorem dL_law_1106 : decode cL_law 1106 = .ok (.iconst 1, 1) := by decide +kernel
theorem dL_law_1107 : decode cL_law 1107 = .ok (.goto 4, 3) := by decide +kernel
theorem dL_law_1110 : decode cL_law 1110 = .ok (.iconst 0, 1) := by decide +kernel
theorem dL_law_1111 : decode cL_law 1111 = .ok (.invokevirtual 154, 3) := by decide +kernel
theorem dL_law_1114 : decode cL_law 1114 = .ok (.aload_n 2, 1) := by decide +kernel
theorem dL_law_1115 : decode cL_law 1115 = .ok (.aload_n 0, 1) := by decide +kernel
theorem dL_law_1116 : decode cL_law 1116 = .ok (.iload 4, 2) := by decide +kernel
theorem dL_law_1118 : decode cL_law 1118 = .ok (.iconst 1, 1) := by decide +kernel
theorem dL_law_1119 : decode cL_law 1119 = .ok (.iadd, 1) := by decide +kernel
theorem dL_law_1120 : decode cL_law 1120 = .ok (.iaload, 1) := by decide +kernel
theorem dL_law_1121 : decode cL_law 1121 = .ok (.aload_n 0, 1) := by decide +kernel
theorem dL_law_1122 : decode cL_law 1122 = .ok (.iload 4, 2) := by decide +kernel
theorem dL_law_1124 : decode cL_law 1124 = .ok (.iconst 2, 1) := by decide +kernel
theorem dL_law_1125 : decode cL_law 1125 = .ok (.iadd, 1) := by decide +kernel
theorem dL_law_1126 : decode cL_law 1126 = .ok (.iaload, 1) := by decide +kernel
theorem dL_law_1127 : decode cL_law 1127 = .ok (.ifCond .eq 7, 3) := by decide +kernel
theorem dL_law_1130 : decode cL_law 1130 = .ok (.iconst 1, 1) := by decide +kernel
theorem dL_law_1131 : decode cL_law 1131 = .ok (.goto 4, 3) := by decide +kernel
theorem dL_law_1134 : decode cL_law 1134 = .ok (.iconst 0, 1) := by decide +kernel
theorem dL_law_1135 : decode cL_law 1135 = .ok (.invokevirtual 158, 3) := by decide +kernel
theorem dL_law_1138 : decode cL_law 1138 = .ok (.if_icmp .eq 199, 3) := by decide +kernel
theorem dL_law_1141 : decode cL_law 1141 = .ok (.iconst 0, 1) := by decide +kernel
theorem dL_law_1142 : decode cL_law 1142 = .ok (.ireturn, 1) := by decide +kernel
theorem dL_law_1143 : decode cL_law 1143 = .ok (.aload_n 1, 1) := by decide +kernel
theorem dL_law_1144 : decode cL_law 1144 = .ok (.aload_n 0, 1) := by decide +kernel
theorem dL_law_1145 : decode cL_law 1145 = .ok (.iload 4, 2) := by decide +kernel
theorem dL_law_1147 : decode cL_law 1147 = .ok (.iconst 1, 1) := by decide +kernel
theorem dL_law_1148 : decode cL_law 1148 = .ok (.iadd, 1) := by decide +kernel
theorem dL_law_1149 : decode cL_law 1149 = .ok (.iaload, 1) := by decide +kernel
theorem dL_law_1150 : decode cL_law 1150 = .ok (.aload_n 0, 1) := by decide +kernel
theorem dL_law_1151 : decode cL_law 1151 = .ok (.iload 4, 2) := by decide +kernel
theorem dL_law_1153 : decode cL_law 1153 = .ok (.iconst 2, 1) := by decide +kernel
theorem dL_law_1154 : decode cL_law 1154 = .ok (.iadd, 1) := by decide +kernel
theorem dL_law_1155 : decode cL_law 1155 = .ok (.iaload, 1) := by decide +kernel
theorem dL_law_1156 : decode cL_law 1156 = .ok (.invokevirtual 159, 3) := by decide +kernel
theorem dL_law_1159 : decode cL_law 1159 = .ok (.aload_n 2, 1) := by decide +kernel
theorem dL_law_1160 : decode cL_law 1160 = .ok (.aload_n 0, 1) := by decide +kernel
theorem dL_law_1161 : decode cL_law 1161 = .ok (.iload 4, 2) := by decide +kernel
theorem dL_law_1163 : decode cL_law 1163 = .ok (.iconst 1, 1) := by decide +kernel
theorem dL_law_1164 : decode cL_law 1164 = .ok (.iadd, 1) := by decide +kernel
theorem dL_law_1165 : decode cL_law 1165 = .ok (.iaload, 1) := by decide +kernel
theorem dL_law_1166 : decode cL_law 1166 = .ok (.aload_n 0, 1) := by decide +kernel
theorem dL_law_1167 : decode cL_law 1167 = .ok (.iload 4, 2) := by decide +kernel
theorem dL_law_1169 : decode cL_law 1169 = .ok (.iconst 2, 1) := by decide +kernel
theorem dL_law_1170 : decode cL_law 1170 = .ok (.iadd, 1) := by decide +kernel
theorem dL_law_1171 : decode cL_law 1171 = .ok (.iaload, 1) := by decide +kernel
theorem dL_law_1172 : decode cL_law 1172 = .ok (.invokevirtual 162, 3) := by decide +kernel
theorem dL_law_1175 : decode cL_law 1175 = .ok (.if_icmp .eq 162, 3) := by decide +kernel
theorem dL_law_1178 : decode cL_law 1178 = .ok (.iconst 0, 1) := by decide +kernel
theorem dL_law_1179 : decode cL_law 1179 = .ok (.ireturn, 1) := by decide +kernel
theorem dL_law_1180 : decode cL_law 1180 = .ok (.aload_n 1, 1) := by decide +kernel
theorem dL_law_1181 : decode cL_law 1181 = .ok (.aload_n 0, 1) := by decide +kernel
theorem dL_law_1182 : decode cL_law 1182 = .ok (.iload 4, 2) := by decide +kernel
theorem dL_law_1184 : decode cL_law 1184 = .ok (.iconst 1, 1) := by decide +kernel
theorem dL_law_1185 : decode cL_law 1185 = .ok (.iadd, 1) := by decide +kernel
theorem dL_law_1186 : decode cL_law 1186 = .ok (.iaload, 1) := by decide +kernel
theorem dL_law_1187 : decode cL_law 1187 = .ok (.invokevirtual 163, 3) := by decide +kernel
theorem dL_law_1190 : decode cL_law 1190 = .ok (.aload_n 2, 1) := by decide +kernel
theorem dL_law_1191 : decode cL_law 1191 = .ok (.aload_n 0, 1) := by decide +kernel
theorem dL_law_1192 : decode cL_law 1192 = .ok (.iload 4, 2) := by decide +kernel
theorem dL_law_1194 : decode cL_law 1194 = .ok (.iconst 1, 1) := by decide +kernel
theorem dL_law_1195 : decode cL_law 1195 = .ok (.iadd, 1) := by decide +kernel
theorem dL_law_1196 : decode cL_law 1196 = .ok (.iaload, 1) := by decide +kernel
theorem dL_law_1197 : decode cL_law 1197 = .ok (.invokevirtual 166, 3) := by decide +kernel
theorem dL_law_1200 : decode cL_law 1200 = .ok (.if_icmp .eq 137, 3) := by decide +kernel
theorem dL_law_1203 : decode cL_law 1203 = .ok (.iconst 0, 1) := by decide +kernel
theorem dL_law_1204 : decode cL_law 1204 = .ok (.ireturn, 1) := by decide +kernel
theorem dL_law_1205 : decode cL_law 1205 = .ok (.aload_n 1, 1) := by decide +kernel
theorem dL_law_1206 : decode cL_law 1206 = .ok (.aload_n 0, 1) := by decide +kernel
theorem dL_law_1207 : decode cL_law 1207 = .ok (.iload 4, 2) := by decide +kernel
theorem dL_law_1209 : decode cL_law 1209 = .ok (.iconst 1, 1) := by decide +kernel
theorem dL_law_1210 : decode cL_law 1210 = .ok (.iadd, 1) := by decide +kernel
theorem dL_law_1211 : decode cL_law 1211 = .ok (.iaload, 1) := by decide +kernel
theorem dL_law_1212 : decode cL_law 1212 = .ok (.aload_n 0, 1) := by decide +kernel
theorem dL_law_1213 : decode cL_law 1213 = .ok (.iload 4, 2) := by decide +kernel
theorem dL_law_1215 : decode cL_law 1215 = .ok (.iconst 2, 1) := by decide +kernel
theorem dL_law_1216 : decode cL_law 1216 = .ok (.iadd, 1) := by decide +kernel
theorem dL_law_1217 : decode cL_law 1217 = .ok (.iaload, 1) := by decide +kernel
theorem dL_law_1218 : decode cL_law 1218 = .ok (.invokevirtual 167, 3) := by decide +kernel
theorem dL_law_1221 : decode cL_law 1221 = .ok (.aload_n 2, 1) := by decide +kernel
theorem dL_law_1222 : decode cL_law 1222 = .ok (.aload_n 0, 1) := by decide +kernel
theorem dL_law_1223 : decode cL_law 1223 = .ok (.iload 4, 2) := by decide +kernel
theorem dL_law_1225 : decode cL_law 1225 = .ok (.iconst 1, 1) := by decide +kernel
theorem dL_law_1226 : decode cL_law 1226 = .ok (.iadd, 1) := by decide +kernel
theorem dL_law_1227 : decode cL_law 1227 = .ok (.iaload, 1) := by decide +kernel
theorem dL_law_1228 : decode cL_law 1228 = .ok (.aload_n 0, 1) := by decide +kernel
theorem dL_law_1229 : decode cL_law 1229 = .ok (.iload 4, 2) := by decide +kernel
theorem dL_law_1231 : decode cL_law 1231 = .ok (.iconst 2, 1) := by decide +kernel
theorem dL_law_1232 : decode cL_law 1232 = .ok (.iadd, 1) := by decide +kernel
theorem dL_law_1233 : decode cL_law 1233 = .ok (.iaload, 1) := by decide +kernel
theorem dL_law_1234 : decode cL_law 1234 = .ok (.invokevirtual 170, 3) := by decide +kernel
theorem dL_law_1237 : decode cL_law 1237 = .ok (.if_icmp .eq 100, 3) := by decide +kernel
theorem dL_law_1240 : decode cL_law 1240 = .ok (.iconst 0, 1) := by decide +kernel
theorem dL_law_1241 : decode cL_law 1241 = .ok (.ireturn, 1) := by decide +kernel
theorem dL_law_1242 : decode cL_law 1242 = .ok (.aload_n 1, 1) := by decide +kernel
theorem dL_law_1243 : decode cL_law 1243 = .ok (.invokevirtual 171, 3) := by decide +kernel
theorem dL_law_1246 : decode cL_law 1246 = .ok (.aload_n 2, 1) := by decide +kernel
theorem dL_law_1247 : decode cL_law 1247 = .ok (.invokevirtual 174, 3) := by decide +kernel
theorem dL_law_1250 : decode cL_law 1250 = .ok (.if_icmp .eq 87, 3) := by decide +kernel
theorem dL_law_1253 : decode cL_law 1253 = .ok (.iconst 0, 1) := by decide +kernel
theorem dL_law_1254 : decode cL_law 1254 = .ok (.ireturn, 1) := by decide +kernel
theorem dL_law_1255 : decode cL_law 1255 = .ok (.aload_n 1, 1) := by decide +kernel
theorem dL_law_1256 : decode cL_law 1256 = .ok (.aload_n 0, 1) := by decide +kernel
theorem dL_law_1257 : decode cL_law 1257 = .ok (.iload 4, 2) := by decide +kernel
theorem dL_law_1259 : decode cL_law 1259 = .ok (.iconst 1, 1) := by decide +kernel
theorem dL_law_1260 : decode cL_law 1260 = .ok (.iadd, 1) := by decide +kernel
theorem dL_law_1261 : decode cL_law 1261 = .ok (.iaload, 1) := by decide +kernel
theorem dL_law_1262 : decode cL_law 1262 = .ok (.aload_n 3, 1) := by decide +kernel
theorem dL_law_1263 : decode cL_law 1263 = .ok (.invokestatic 175, 3) := by decide +kernel
theorem dL_law_1266 : decode cL_law 1266 = .ok (.istore 5, 2) := by decide +kernel
theorem dL_law_1268 : decode cL_law 1268 = .ok (.aload_n 2, 1) := by decide +kernel
theorem dL_law_1269 : decode cL_law 1269 = .ok (.aload_n 0, 1) := by decide +kernel
theorem dL_law_1270 : decode cL_law 1270 = .ok (.iload 4, 2) := by decide +kernel
theorem dL_law_1272 : decode cL_law 1272 = .ok (.iconst 1, 1) := by decide +kernel
theorem dL_law_1273 : decode cL_law 1273 = .ok (.iadd, 1) := by decide +kernel
theorem dL_law_1274 : decode cL_law 1274 = .ok (.iaload, 1) := by decide +kernel
theorem dL_law_1275 : decode cL_law 1275 = .ok (.invokevirtual 180, 3) := by decide +kernel
theorem dL_law_1278 : decode cL_law 1278 = .ok (.istore 6, 2) := by decide +kernel
theorem dL_law_1280 : decode cL_law 1280 = .ok (.aload_n 2, 1) := by decide +kernel
theorem dL_law_1281 : decode cL_law 1281 = .ok (.invokevirtual 181, 3) := by decide +kernel
theorem dL_law_1284 : decode cL_law 1284 = .ok (.iload 5, 2) := by decide +kernel
theorem dL_law_1286 : decode cL_law 1286 = .ok (.if_icmp .eq 5, 3) := by decide +kernel
theorem dL_law_1289 : decode cL_law 1289 = .ok (.iconst 0, 1) := by decide +kernel
theorem dL_law_1290 : decode cL_law 1290 = .ok (.ireturn, 1) := by decide +kernel
theorem dL_law_1291 : decode cL_law 1291 = .ok (.iload 5, 2) := by decide +kernel
theorem dL_law_1293 : decode cL_law 1293 = .ok (.ifCond .ne 15, 3) := by decide +kernel
theorem dL_law_1296 : decode cL_law 1296 = .ok (.aload_n 3, 1) := by decide +kernel
theorem dL_law_1297 : decode cL_law 1297 = .ok (.iconst 0, 1) := by decide +kernel
theorem dL_law_1298 : decode cL_law 1298 = .ok (.laload, 1) := by decide +kernel
theorem dL_law_1299 : decode cL_law 1299 = .ok (.iload 6, 2) := by decide +kernel
theorem dL_law_1301 : decode cL_law 1301 = .ok (.i2l, 1) := by decide +kernel
theorem dL_law_1302 : decode cL_law 1302 = .ok (.lcmp, 1) := by decide +kernel
theorem dL_law_1303 : decode cL_law 1303 = .ok (.ifCond .eq 5, 3) := by decide +kernel
theorem dL_law_1306 : decode cL_law 1306 = .ok (.iconst 0, 1) := by decide +kernel
theorem dL_law_1307 : decode cL_law 1307 = .ok (.ireturn, 1) := by decide +kernel
theorem dL_law_1308 : decode cL_law 1308 = .ok (.goto 29, 3) := by decide +kernel
theorem dL_law_1311 : decode cL_law 1311 = .ok (.aload_n 1, 1) := by decide +kernel
theorem dL_law_1312 : decode cL_law 1312 = .ok (.invokevirtual 184, 3) := by decide +kernel
theorem dL_law_1315 : decode cL_law 1315 = .ok (.aload_n 2, 1) := by decide +kernel
theorem dL_law_1316 : decode cL_law 1316 = .ok (.invokevirtual 187, 3) := by decide +kernel
theorem dL_law_1319 : decode cL_law 1319 = .ok (.if_icmp .eq 18, 3) := by decide +kernel
theorem dL_law_1322 : decode cL_law 1322 = .ok (.iconst 0, 1) := by decide +kernel
theorem dL_law_1323 : decode cL_law 1323 = .ok (.ireturn, 1) := by decide +kernel
theorem dL_law_1324 : decode cL_law 1324 = .ok (.aload_n 1, 1) := by decide +kernel
theorem dL_law_1325 : decode cL_law 1325 = .ok (.invokevirtual 188, 3) := by decide +kernel
theorem dL_law_1328 : decode cL_law 1328 = .ok (.aload_n 2, 1) := by decide +kernel
theorem dL_law_1329 : decode cL_law 1329 = .ok (.invokevirtual 191, 3) := by decide +kernel
theorem dL_law_1332 : decode cL_law 1332 = .ok (.if_icmp .eq 5, 3) := by decide +kernel
theorem dL_law_1335 : decode cL_law 1335 = .ok (.iconst 0, 1) := by decide +kernel
theorem dL_law_1336 : decode cL_law 1336 = .ok (.ireturn, 1) := by decide +kernel
theorem dL_law_1337 : decode cL_law 1337 = .ok (.iinc 4 6, 3) := by decide +kernel
theorem dL_law_1340 : decode cL_law 1340 = .ok (.goto (-1317), 3) := by decide +kernel
theorem dL_law_1343 : decode cL_law 1343 = .ok (.iconst 1, 1) := by decide +kernel
theorem dL_law_1344 : decode cL_law 1344 = .ok (.ireturn, 1) := by decide +kernel
end
