-- ===== PART A: goes FIRST, ahead of the names: the tables' words, and 'selects' of the private methods out of them =====
/-- a private method of a class that the tables say can be made, by its rows of tables_1 -/
def lw_okq (q : MethodName × Nat) : Prop := (q.1.cls ≠ "java/lang/invoke/MethodHandle" ∧ q.1.cls ≠ "java/lang/invoke/VarHandle") ∧ Cond.instantiable q.1.cls q.2 ∈ tables_1 ∧ Cond.privateMethod q.1 ∈ tables_1 ∧ Cond.instanceMethod q.1 ∈ tables_1
theorem lw_p0 : lw_okq (⟨"MergeJudge$Reader", "next", "()V"⟩, 9) := ⟨⟨by decide +kernel, by decide +kernel⟩, List.mem_of_getElem? (i := 139) (by decide +kernel), List.mem_of_getElem? (i := 374) (by decide +kernel), List.mem_of_getElem? (i := 375) (by decide +kernel)⟩
theorem lw_p1 : lw_okq (⟨"MergeJudge$Reader", "isLetterNext", "()Z"⟩, 9) := ⟨⟨by decide +kernel, by decide +kernel⟩, List.mem_of_getElem? (i := 139) (by decide +kernel), List.mem_of_getElem? (i := 378) (by decide +kernel), List.mem_of_getElem? (i := 379) (by decide +kernel)⟩
theorem lw_p2 : lw_okq (⟨"MergeJudge$Reader", "isDigitNext", "()Z"⟩, 9) := ⟨⟨by decide +kernel, by decide +kernel⟩, List.mem_of_getElem? (i := 139) (by decide +kernel), List.mem_of_getElem? (i := 382) (by decide +kernel), List.mem_of_getElem? (i := 383) (by decide +kernel)⟩
theorem lw_p3 : lw_okq (⟨"MergeJudge$Reader", "readLine", "()Z"⟩, 9) := ⟨⟨by decide +kernel, by decide +kernel⟩, List.mem_of_getElem? (i := 139) (by decide +kernel), List.mem_of_getElem? (i := 389) (by decide +kernel), List.mem_of_getElem? (i := 390) (by decide +kernel)⟩
theorem lw_p4 : lw_okq (⟨"MergeJudge$Reader", "readHead", "()Z"⟩, 9) := ⟨⟨by decide +kernel, by decide +kernel⟩, List.mem_of_getElem? (i := 139) (by decide +kernel), List.mem_of_getElem? (i := 393) (by decide +kernel), List.mem_of_getElem? (i := 394) (by decide +kernel)⟩
theorem lw_p5 : lw_okq (⟨"MergeJudge$Reader", "passWord", "(Ljava/lang/String;)Z"⟩, 9) := ⟨⟨by decide +kernel, by decide +kernel⟩, List.mem_of_getElem? (i := 139) (by decide +kernel), List.mem_of_getElem? (i := 398) (by decide +kernel), List.mem_of_getElem? (i := 399) (by decide +kernel)⟩
theorem lw_p6 : lw_okq (⟨"MergeJudge$Reader", "isWord", "(Ljava/lang/String;)Z"⟩, 9) := ⟨⟨by decide +kernel, by decide +kernel⟩, List.mem_of_getElem? (i := 139) (by decide +kernel), List.mem_of_getElem? (i := 402) (by decide +kernel), List.mem_of_getElem? (i := 403) (by decide +kernel)⟩
theorem lw_p7 : lw_okq (⟨"MergeJudge$Reader", "failed", "(I)Z"⟩, 9) := ⟨⟨by decide +kernel, by decide +kernel⟩, List.mem_of_getElem? (i := 139) (by decide +kernel), List.mem_of_getElem? (i := 454) (by decide +kernel), List.mem_of_getElem? (i := 455) (by decide +kernel)⟩
theorem lw_p8 : lw_okq (⟨"MergeJudge$Reader", "passNumber", "(II)Z"⟩, 9) := ⟨⟨by decide +kernel, by decide +kernel⟩, List.mem_of_getElem? (i := 139) (by decide +kernel), List.mem_of_getElem? (i := 459) (by decide +kernel), List.mem_of_getElem? (i := 460) (by decide +kernel)⟩
theorem lw_p9 : lw_okq (⟨"MergeJudge$Reader", "readCell", "()Z"⟩, 9) := ⟨⟨by decide +kernel, by decide +kernel⟩, List.mem_of_getElem? (i := 139) (by decide +kernel), List.mem_of_getElem? (i := 466) (by decide +kernel), List.mem_of_getElem? (i := 467) (by decide +kernel)⟩
theorem lw_p10 : lw_okq (⟨"MergeJudge$Reader", "cellKind", "()I"⟩, 9) := ⟨⟨by decide +kernel, by decide +kernel⟩, List.mem_of_getElem? (i := 139) (by decide +kernel), List.mem_of_getElem? (i := 470) (by decide +kernel), List.mem_of_getElem? (i := 471) (by decide +kernel)⟩
theorem lw_p11 : lw_okq (⟨"MergeJudge$Reader", "readRule", "()Z"⟩, 9) := ⟨⟨by decide +kernel, by decide +kernel⟩, List.mem_of_getElem? (i := 139) (by decide +kernel), List.mem_of_getElem? (i := 479) (by decide +kernel), List.mem_of_getElem? (i := 480) (by decide +kernel)⟩
theorem lw_p12 : lw_okq (⟨"MergeJudge$Reader", "ruleKind", "()I"⟩, 9) := ⟨⟨by decide +kernel, by decide +kernel⟩, List.mem_of_getElem? (i := 139) (by decide +kernel), List.mem_of_getElem? (i := 483) (by decide +kernel), List.mem_of_getElem? (i := 484) (by decide +kernel)⟩
theorem lw_p13 : lw_okq (⟨"MergeJudge$Reader", "passNumbers", "(ILjava/lang/String;[III)Z"⟩, 9) := ⟨⟨by decide +kernel, by decide +kernel⟩, List.mem_of_getElem? (i := 139) (by decide +kernel), List.mem_of_getElem? (i := 500) (by decide +kernel), List.mem_of_getElem? (i := 501) (by decide +kernel)⟩
theorem lw_p14 : lw_okq (⟨"MergeJudge$Reader", "highestOf", "(C)I"⟩, 9) := ⟨⟨by decide +kernel, by decide +kernel⟩, List.mem_of_getElem? (i := 139) (by decide +kernel), List.mem_of_getElem? (i := 504) (by decide +kernel), List.mem_of_getElem? (i := 505) (by decide +kernel)⟩
theorem lw_p15 : lw_okq (⟨"MergeJudge$Reader", "readOp", "()Z"⟩, 9) := ⟨⟨by decide +kernel, by decide +kernel⟩, List.mem_of_getElem? (i := 139) (by decide +kernel), List.mem_of_getElem? (i := 509) (by decide +kernel), List.mem_of_getElem? (i := 510) (by decide +kernel)⟩
def lw_privs_1 : List (MethodName × Nat) := [(⟨"MergeJudge$Reader", "next", "()V"⟩, 9), (⟨"MergeJudge$Reader", "isLetterNext", "()Z"⟩, 9), (⟨"MergeJudge$Reader", "isDigitNext", "()Z"⟩, 9), (⟨"MergeJudge$Reader", "readLine", "()Z"⟩, 9), (⟨"MergeJudge$Reader", "readHead", "()Z"⟩, 9), (⟨"MergeJudge$Reader", "passWord", "(Ljava/lang/String;)Z"⟩, 9), (⟨"MergeJudge$Reader", "isWord", "(Ljava/lang/String;)Z"⟩, 9), (⟨"MergeJudge$Reader", "failed", "(I)Z"⟩, 9), (⟨"MergeJudge$Reader", "passNumber", "(II)Z"⟩, 9), (⟨"MergeJudge$Reader", "readCell", "()Z"⟩, 9), (⟨"MergeJudge$Reader", "cellKind", "()I"⟩, 9), (⟨"MergeJudge$Reader", "readRule", "()Z"⟩, 9), (⟨"MergeJudge$Reader", "ruleKind", "()I"⟩, 9), (⟨"MergeJudge$Reader", "passNumbers", "(ILjava/lang/String;[III)Z"⟩, 9), (⟨"MergeJudge$Reader", "highestOf", "(C)I"⟩, 9), (⟨"MergeJudge$Reader", "readOp", "()Z"⟩, 9)]
theorem lw_r1 : ∀ q ∈ lw_privs_1, lw_okq q := List.forall_mem_cons.mpr ⟨lw_p0, List.forall_mem_cons.mpr ⟨lw_p1, List.forall_mem_cons.mpr ⟨lw_p2, List.forall_mem_cons.mpr ⟨lw_p3, List.forall_mem_cons.mpr ⟨lw_p4, List.forall_mem_cons.mpr ⟨lw_p5, List.forall_mem_cons.mpr ⟨lw_p6, List.forall_mem_cons.mpr ⟨lw_p7, List.forall_mem_cons.mpr ⟨lw_p8, List.forall_mem_cons.mpr ⟨lw_p9, List.forall_mem_cons.mpr ⟨lw_p10, List.forall_mem_cons.mpr ⟨lw_p11, List.forall_mem_cons.mpr ⟨lw_p12, List.forall_mem_cons.mpr ⟨lw_p13, List.forall_mem_cons.mpr ⟨lw_p14, List.forall_mem_cons.mpr ⟨lw_p15, fun _ h => absurd h List.not_mem_nil⟩⟩⟩⟩⟩⟩⟩⟩⟩⟩⟩⟩⟩⟩⟩⟩
theorem lw_p16 : lw_okq (⟨"MergeJudge$Reader", "opKind", "()I"⟩, 9) := ⟨⟨by decide +kernel, by decide +kernel⟩, List.mem_of_getElem? (i := 139) (by decide +kernel), List.mem_of_getElem? (i := 513) (by decide +kernel), List.mem_of_getElem? (i := 514) (by decide +kernel)⟩
theorem lw_p17 : lw_okq (⟨"MergeJudge", "become", "(LMergeJudge$Base;)V"⟩, 10) := ⟨⟨by decide +kernel, by decide +kernel⟩, List.mem_of_getElem? (i := 20) (by decide +kernel), List.mem_of_getElem? (i := 526) (by decide +kernel), List.mem_of_getElem? (i := 527) (by decide +kernel)⟩
theorem lw_p18 : lw_okq (⟨"MergeJudge$Space", "packedOf", "(I)I"⟩, 8) := ⟨⟨by decide +kernel, by decide +kernel⟩, List.mem_of_getElem? (i := 175) (by decide +kernel), List.mem_of_getElem? (i := 542) (by decide +kernel), List.mem_of_getElem? (i := 543) (by decide +kernel)⟩
theorem lw_p19 : lw_okq (⟨"MergeJudge$Space", "holdersOf", "([II)J"⟩, 8) := ⟨⟨by decide +kernel, by decide +kernel⟩, List.mem_of_getElem? (i := 175) (by decide +kernel), List.mem_of_getElem? (i := 546) (by decide +kernel), List.mem_of_getElem? (i := 547) (by decide +kernel)⟩
theorem lw_p20 : lw_okq (⟨"MergeJudge$Space", "holdsRow", "([III)Z"⟩, 8) := ⟨⟨by decide +kernel, by decide +kernel⟩, List.mem_of_getElem? (i := 175) (by decide +kernel), List.mem_of_getElem? (i := 550) (by decide +kernel), List.mem_of_getElem? (i := 551) (by decide +kernel)⟩
theorem lw_p21 : lw_okq (⟨"MergeJudge$Space", "resultOf", "([III)I"⟩, 8) := ⟨⟨by decide +kernel, by decide +kernel⟩, List.mem_of_getElem? (i := 175) (by decide +kernel), List.mem_of_getElem? (i := 558) (by decide +kernel), List.mem_of_getElem? (i := 559) (by decide +kernel)⟩
theorem lw_p22 : lw_okq (⟨"MergeJudge$Space", "shifted", "(III)I"⟩, 8) := ⟨⟨by decide +kernel, by decide +kernel⟩, List.mem_of_getElem? (i := 175) (by decide +kernel), List.mem_of_getElem? (i := 562) (by decide +kernel), List.mem_of_getElem? (i := 563) (by decide +kernel)⟩
theorem lw_p23 : lw_okq (⟨"MergeJudge$Judge", "suppose", "(II)V"⟩, 12) := ⟨⟨by decide +kernel, by decide +kernel⟩, List.mem_of_getElem? (i := 216) (by decide +kernel), List.mem_of_getElem? (i := 588) (by decide +kernel), List.mem_of_getElem? (i := 589) (by decide +kernel)⟩
theorem lw_p24 : lw_okq (⟨"MergeJudge", "noCell", "(I)Z"⟩, 10) := ⟨⟨by decide +kernel, by decide +kernel⟩, List.mem_of_getElem? (i := 20) (by decide +kernel), List.mem_of_getElem? (i := 600) (by decide +kernel), List.mem_of_getElem? (i := 601) (by decide +kernel)⟩
theorem lw_p25 : lw_okq (⟨"MergeJudge", "noRule", "(I)Z"⟩, 10) := ⟨⟨by decide +kernel, by decide +kernel⟩, List.mem_of_getElem? (i := 20) (by decide +kernel), List.mem_of_getElem? (i := 608) (by decide +kernel), List.mem_of_getElem? (i := 609) (by decide +kernel)⟩
theorem lw_p26 : lw_okq (⟨"MergeJudge", "noOp", "(I)Z"⟩, 10) := ⟨⟨by decide +kernel, by decide +kernel⟩, List.mem_of_getElem? (i := 20) (by decide +kernel), List.mem_of_getElem? (i := 616) (by decide +kernel), List.mem_of_getElem? (i := 617) (by decide +kernel)⟩
theorem lw_p27 : lw_okq (⟨"MergeJudge", "isTold", "()Z"⟩, 10) := ⟨⟨by decide +kernel, by decide +kernel⟩, List.mem_of_getElem? (i := 20) (by decide +kernel), List.mem_of_getElem? (i := 624) (by decide +kernel), List.mem_of_getElem? (i := 625) (by decide +kernel)⟩
theorem lw_p28 : lw_okq (⟨"MergeJudge", "noState", "(I)Z"⟩, 10) := ⟨⟨by decide +kernel, by decide +kernel⟩, List.mem_of_getElem? (i := 20) (by decide +kernel), List.mem_of_getElem? (i := 632) (by decide +kernel), List.mem_of_getElem? (i := 633) (by decide +kernel)⟩
theorem lw_p29 : lw_okq (⟨"MergeJudge$Judge", "isBrokenBy", "(II)Z"⟩, 12) := ⟨⟨by decide +kernel, by decide +kernel⟩, List.mem_of_getElem? (i := 216) (by decide +kernel), List.mem_of_getElem? (i := 679) (by decide +kernel), List.mem_of_getElem? (i := 680) (by decide +kernel)⟩
theorem lw_p30 : lw_okq (⟨"MergeJudge", "noDepth", "(I)Z"⟩, 10) := ⟨⟨by decide +kernel, by decide +kernel⟩, List.mem_of_getElem? (i := 20) (by decide +kernel), List.mem_of_getElem? (i := 784) (by decide +kernel), List.mem_of_getElem? (i := 785) (by decide +kernel)⟩
theorem lw_p31 : lw_okq (⟨"MergeJudge$Judge", "mark", "(IJJ)V"⟩, 12) := ⟨⟨by decide +kernel, by decide +kernel⟩, List.mem_of_getElem? (i := 216) (by decide +kernel), List.mem_of_getElem? (i := 827) (by decide +kernel), List.mem_of_getElem? (i := 828) (by decide +kernel)⟩
def lw_privs_2 : List (MethodName × Nat) := [(⟨"MergeJudge$Reader", "opKind", "()I"⟩, 9), (⟨"MergeJudge", "become", "(LMergeJudge$Base;)V"⟩, 10), (⟨"MergeJudge$Space", "packedOf", "(I)I"⟩, 8), (⟨"MergeJudge$Space", "holdersOf", "([II)J"⟩, 8), (⟨"MergeJudge$Space", "holdsRow", "([III)Z"⟩, 8), (⟨"MergeJudge$Space", "resultOf", "([III)I"⟩, 8), (⟨"MergeJudge$Space", "shifted", "(III)I"⟩, 8), (⟨"MergeJudge$Judge", "suppose", "(II)V"⟩, 12), (⟨"MergeJudge", "noCell", "(I)Z"⟩, 10), (⟨"MergeJudge", "noRule", "(I)Z"⟩, 10), (⟨"MergeJudge", "noOp", "(I)Z"⟩, 10), (⟨"MergeJudge", "isTold", "()Z"⟩, 10), (⟨"MergeJudge", "noState", "(I)Z"⟩, 10), (⟨"MergeJudge$Judge", "isBrokenBy", "(II)Z"⟩, 12), (⟨"MergeJudge", "noDepth", "(I)Z"⟩, 10), (⟨"MergeJudge$Judge", "mark", "(IJJ)V"⟩, 12)]
theorem lw_r2 : ∀ q ∈ lw_privs_2, lw_okq q := List.forall_mem_cons.mpr ⟨lw_p16, List.forall_mem_cons.mpr ⟨lw_p17, List.forall_mem_cons.mpr ⟨lw_p18, List.forall_mem_cons.mpr ⟨lw_p19, List.forall_mem_cons.mpr ⟨lw_p20, List.forall_mem_cons.mpr ⟨lw_p21, List.forall_mem_cons.mpr ⟨lw_p22, List.forall_mem_cons.mpr ⟨lw_p23, List.forall_mem_cons.mpr ⟨lw_p24, List.forall_mem_cons.mpr ⟨lw_p25, List.forall_mem_cons.mpr ⟨lw_p26, List.forall_mem_cons.mpr ⟨lw_p27, List.forall_mem_cons.mpr ⟨lw_p28, List.forall_mem_cons.mpr ⟨lw_p29, List.forall_mem_cons.mpr ⟨lw_p30, List.forall_mem_cons.mpr ⟨lw_p31, fun _ h => absurd h List.not_mem_nil⟩⟩⟩⟩⟩⟩⟩⟩⟩⟩⟩⟩⟩⟩⟩⟩
theorem lw_p32 : lw_okq (⟨"MergeJudge$Judge", "findSmallestFrom", "(I)V"⟩, 12) := ⟨⟨by decide +kernel, by decide +kernel⟩, List.mem_of_getElem? (i := 216) (by decide +kernel), List.mem_of_getElem? (i := 868) (by decide +kernel), List.mem_of_getElem? (i := 869) (by decide +kernel)⟩
theorem lw_p33 : lw_okq (⟨"MergeJudge$Judge", "depthOf", "(I)I"⟩, 12) := ⟨⟨by decide +kernel, by decide +kernel⟩, List.mem_of_getElem? (i := 216) (by decide +kernel), List.mem_of_getElem? (i := 872) (by decide +kernel), List.mem_of_getElem? (i := 873) (by decide +kernel)⟩
theorem lw_p34 : lw_okq (⟨"MergeJudge$Judge", "countHitsFrom", "(I)V"⟩, 12) := ⟨⟨by decide +kernel, by decide +kernel⟩, List.mem_of_getElem? (i := 216) (by decide +kernel), List.mem_of_getElem? (i := 888) (by decide +kernel), List.mem_of_getElem? (i := 889) (by decide +kernel)⟩
theorem lw_p35 : lw_okq (⟨"MergeJudge$Judge", "countHitsOf", "(I)V"⟩, 12) := ⟨⟨by decide +kernel, by decide +kernel⟩, List.mem_of_getElem? (i := 216) (by decide +kernel), List.mem_of_getElem? (i := 892) (by decide +kernel), List.mem_of_getElem? (i := 893) (by decide +kernel)⟩
theorem lw_p36 : lw_okq (⟨"MergeJudge$Judge", "safeLocks", "(I)J"⟩, 12) := ⟨⟨by decide +kernel, by decide +kernel⟩, List.mem_of_getElem? (i := 216) (by decide +kernel), List.mem_of_getElem? (i := 941) (by decide +kernel), List.mem_of_getElem? (i := 942) (by decide +kernel)⟩
theorem lw_p37 : lw_okq (⟨"MergeJudge$Judge", "hasBreakAmong", "(J)Z"⟩, 12) := ⟨⟨by decide +kernel, by decide +kernel⟩, List.mem_of_getElem? (i := 216) (by decide +kernel), List.mem_of_getElem? (i := 945) (by decide +kernel), List.mem_of_getElem? (i := 946) (by decide +kernel)⟩
theorem lw_p38 : lw_okq (⟨"MergeJudge", "refusalOfRow", "(I)I"⟩, 10) := ⟨⟨by decide +kernel, by decide +kernel⟩, List.mem_of_getElem? (i := 20) (by decide +kernel), List.mem_of_getElem? (i := 991) (by decide +kernel), List.mem_of_getElem? (i := 992) (by decide +kernel)⟩
theorem lw_p39 : lw_okq (⟨"MergeJudge", "noSlot", "(I)Z"⟩, 10) := ⟨⟨by decide +kernel, by decide +kernel⟩, List.mem_of_getElem? (i := 20) (by decide +kernel), List.mem_of_getElem? (i := 995) (by decide +kernel), List.mem_of_getElem? (i := 996) (by decide +kernel)⟩
theorem lw_p40 : lw_okq (⟨"MergeJudge", "noGame", "(II)Z"⟩, 10) := ⟨⟨by decide +kernel, by decide +kernel⟩, List.mem_of_getElem? (i := 20) (by decide +kernel), List.mem_of_getElem? (i := 1056) (by decide +kernel), List.mem_of_getElem? (i := 1057) (by decide +kernel)⟩
theorem lw_p41 : lw_okq (⟨"MergeJudge$Chances", "oddsOf", "(I)J"⟩, 4) := ⟨⟨by decide +kernel, by decide +kernel⟩, List.mem_of_getElem? (i := 272) (by decide +kernel), List.mem_of_getElem? (i := 1082) (by decide +kernel), List.mem_of_getElem? (i := 1083) (by decide +kernel)⟩
theorem lw_p42 : lw_okq (⟨"MergeJudge", "act", "(II)I"⟩, 10) := ⟨⟨by decide +kernel, by decide +kernel⟩, List.mem_of_getElem? (i := 20) (by decide +kernel), List.mem_of_getElem? (i := 1122) (by decide +kernel), List.mem_of_getElem? (i := 1123) (by decide +kernel)⟩
theorem lw_p43 : lw_okq (⟨"MergeJudge", "slotsInUse", "()I"⟩, 10) := ⟨⟨by decide +kernel, by decide +kernel⟩, List.mem_of_getElem? (i := 20) (by decide +kernel), List.mem_of_getElem? (i := 1158) (by decide +kernel), List.mem_of_getElem? (i := 1159) (by decide +kernel)⟩
theorem lw_p44 : lw_okq (⟨"MergeJudgeModel", "advance", "()V"⟩, 42) := ⟨⟨by decide +kernel, by decide +kernel⟩, List.mem_of_getElem? (i := 1195) (by decide +kernel), List.mem_of_getElem? (i := 1355) (by decide +kernel), List.mem_of_getElem? (i := 1356) (by decide +kernel)⟩
theorem lw_p45 : lw_okq (⟨"MergeJudgeModel", "see", "(I)I"⟩, 42) := ⟨⟨by decide +kernel, by decide +kernel⟩, List.mem_of_getElem? (i := 1195) (by decide +kernel), List.mem_of_getElem? (i := 1359) (by decide +kernel), List.mem_of_getElem? (i := 1360) (by decide +kernel)⟩
theorem lw_p46 : lw_okq (⟨"MergeJudgeModel", "good", "()Z"⟩, 42) := ⟨⟨by decide +kernel, by decide +kernel⟩, List.mem_of_getElem? (i := 1195) (by decide +kernel), List.mem_of_getElem? (i := 1369) (by decide +kernel), List.mem_of_getElem? (i := 1370) (by decide +kernel)⟩
theorem lw_p47 : lw_okq (⟨"MergeJudgeModel", "readLine", "()V"⟩, 42) := ⟨⟨by decide +kernel, by decide +kernel⟩, List.mem_of_getElem? (i := 1195) (by decide +kernel), List.mem_of_getElem? (i := 1373) (by decide +kernel), List.mem_of_getElem? (i := 1374) (by decide +kernel)⟩
def lw_privs_3 : List (MethodName × Nat) := [(⟨"MergeJudge$Judge", "findSmallestFrom", "(I)V"⟩, 12), (⟨"MergeJudge$Judge", "depthOf", "(I)I"⟩, 12), (⟨"MergeJudge$Judge", "countHitsFrom", "(I)V"⟩, 12), (⟨"MergeJudge$Judge", "countHitsOf", "(I)V"⟩, 12), (⟨"MergeJudge$Judge", "safeLocks", "(I)J"⟩, 12), (⟨"MergeJudge$Judge", "hasBreakAmong", "(J)Z"⟩, 12), (⟨"MergeJudge", "refusalOfRow", "(I)I"⟩, 10), (⟨"MergeJudge", "noSlot", "(I)Z"⟩, 10), (⟨"MergeJudge", "noGame", "(II)Z"⟩, 10), (⟨"MergeJudge$Chances", "oddsOf", "(I)J"⟩, 4), (⟨"MergeJudge", "act", "(II)I"⟩, 10), (⟨"MergeJudge", "slotsInUse", "()I"⟩, 10), (⟨"MergeJudgeModel", "advance", "()V"⟩, 42), (⟨"MergeJudgeModel", "see", "(I)I"⟩, 42), (⟨"MergeJudgeModel", "good", "()Z"⟩, 42), (⟨"MergeJudgeModel", "readLine", "()V"⟩, 42)]
theorem lw_r3 : ∀ q ∈ lw_privs_3, lw_okq q := List.forall_mem_cons.mpr ⟨lw_p32, List.forall_mem_cons.mpr ⟨lw_p33, List.forall_mem_cons.mpr ⟨lw_p34, List.forall_mem_cons.mpr ⟨lw_p35, List.forall_mem_cons.mpr ⟨lw_p36, List.forall_mem_cons.mpr ⟨lw_p37, List.forall_mem_cons.mpr ⟨lw_p38, List.forall_mem_cons.mpr ⟨lw_p39, List.forall_mem_cons.mpr ⟨lw_p40, List.forall_mem_cons.mpr ⟨lw_p41, List.forall_mem_cons.mpr ⟨lw_p42, List.forall_mem_cons.mpr ⟨lw_p43, List.forall_mem_cons.mpr ⟨lw_p44, List.forall_mem_cons.mpr ⟨lw_p45, List.forall_mem_cons.mpr ⟨lw_p46, List.forall_mem_cons.mpr ⟨lw_p47, fun _ h => absurd h List.not_mem_nil⟩⟩⟩⟩⟩⟩⟩⟩⟩⟩⟩⟩⟩⟩⟩⟩
theorem lw_p48 : lw_okq (⟨"MergeJudgeModel", "readFirst", "()V"⟩, 42) := ⟨⟨by decide +kernel, by decide +kernel⟩, List.mem_of_getElem? (i := 1195) (by decide +kernel), List.mem_of_getElem? (i := 1377) (by decide +kernel), List.mem_of_getElem? (i := 1378) (by decide +kernel)⟩
theorem lw_p49 : lw_okq (⟨"MergeJudgeModel", "expects", "(Ljava/lang/String;)V"⟩, 42) := ⟨⟨by decide +kernel, by decide +kernel⟩, List.mem_of_getElem? (i := 1195) (by decide +kernel), List.mem_of_getElem? (i := 1382) (by decide +kernel), List.mem_of_getElem? (i := 1383) (by decide +kernel)⟩
theorem lw_p50 : lw_okq (⟨"MergeJudgeModel", "takes", "(Ljava/lang/String;)Z"⟩, 42) := ⟨⟨by decide +kernel, by decide +kernel⟩, List.mem_of_getElem? (i := 1195) (by decide +kernel), List.mem_of_getElem? (i := 1386) (by decide +kernel), List.mem_of_getElem? (i := 1387) (by decide +kernel)⟩
theorem lw_p51 : lw_okq (⟨"MergeJudgeModel", "is", "(Ljava/lang/String;)Z"⟩, 42) := ⟨⟨by decide +kernel, by decide +kernel⟩, List.mem_of_getElem? (i := 1195) (by decide +kernel), List.mem_of_getElem? (i := 1390) (by decide +kernel), List.mem_of_getElem? (i := 1391) (by decide +kernel)⟩
theorem lw_p52 : lw_okq (⟨"MergeJudgeModel", "errs", "(I)V"⟩, 42) := ⟨⟨by decide +kernel, by decide +kernel⟩, List.mem_of_getElem? (i := 1195) (by decide +kernel), List.mem_of_getElem? (i := 1396) (by decide +kernel), List.mem_of_getElem? (i := 1397) (by decide +kernel)⟩
theorem lw_p53 : lw_okq (⟨"MergeJudgeModel", "toldBy", "(Ljava/lang/String;II)I"⟩, 42) := ⟨⟨by decide +kernel, by decide +kernel⟩, List.mem_of_getElem? (i := 1195) (by decide +kernel), List.mem_of_getElem? (i := 1401) (by decide +kernel), List.mem_of_getElem? (i := 1402) (by decide +kernel)⟩
theorem lw_p54 : lw_okq (⟨"MergeJudgeModel", "number", "(II)I"⟩, 42) := ⟨⟨by decide +kernel, by decide +kernel⟩, List.mem_of_getElem? (i := 1195) (by decide +kernel), List.mem_of_getElem? (i := 1405) (by decide +kernel), List.mem_of_getElem? (i := 1406) (by decide +kernel)⟩
theorem lw_p55 : lw_okq (⟨"MergeJudgeModel", "readNext", "()V"⟩, 42) := ⟨⟨by decide +kernel, by decide +kernel⟩, List.mem_of_getElem? (i := 1195) (by decide +kernel), List.mem_of_getElem? (i := 1411) (by decide +kernel), List.mem_of_getElem? (i := 1412) (by decide +kernel)⟩
theorem lw_p56 : lw_okq (⟨"MergeJudgeModel", "isFull", "()Z"⟩, 42) := ⟨⟨by decide +kernel, by decide +kernel⟩, List.mem_of_getElem? (i := 1195) (by decide +kernel), List.mem_of_getElem? (i := 1418) (by decide +kernel), List.mem_of_getElem? (i := 1419) (by decide +kernel)⟩
theorem lw_p57 : lw_okq (⟨"MergeJudgeModel", "readKind", "(Ljava/lang/String;Ljava/lang/String;Ljava/lang/String;Ljava/lang/String;Ljava/lang/String;Ljava/lang/String;)I"⟩, 42) := ⟨⟨by decide +kernel, by decide +kernel⟩, List.mem_of_getElem? (i := 1195) (by decide +kernel), List.mem_of_getElem? (i := 1427) (by decide +kernel), List.mem_of_getElem? (i := 1428) (by decide +kernel)⟩
theorem lw_p58 : lw_okq (⟨"MergeJudgeModel", "kindWord", "(Ljava/lang/String;Ljava/lang/String;Ljava/lang/String;Ljava/lang/String;Ljava/lang/String;Ljava/lang/String;)I"⟩, 42) := ⟨⟨by decide +kernel, by decide +kernel⟩, List.mem_of_getElem? (i := 1195) (by decide +kernel), List.mem_of_getElem? (i := 1431) (by decide +kernel), List.mem_of_getElem? (i := 1432) (by decide +kernel)⟩
theorem lw_p59 : lw_okq (⟨"MergeJudgeModel", "readRule", "()V"⟩, 42) := ⟨⟨by decide +kernel, by decide +kernel⟩, List.mem_of_getElem? (i := 1195) (by decide +kernel), List.mem_of_getElem? (i := 1436) (by decide +kernel), List.mem_of_getElem? (i := 1437) (by decide +kernel)⟩
theorem lw_p60 : lw_okq (⟨"MergeJudgeModel", "readCell", "()I"⟩, 42) := ⟨⟨by decide +kernel, by decide +kernel⟩, List.mem_of_getElem? (i := 1195) (by decide +kernel), List.mem_of_getElem? (i := 1446) (by decide +kernel), List.mem_of_getElem? (i := 1447) (by decide +kernel)⟩
theorem lw_p61 : lw_okq (⟨"MergeJudgeModel", "readOther", "(I)I"⟩, 42) := ⟨⟨by decide +kernel, by decide +kernel⟩, List.mem_of_getElem? (i := 1195) (by decide +kernel), List.mem_of_getElem? (i := 1450) (by decide +kernel), List.mem_of_getElem? (i := 1451) (by decide +kernel)⟩
theorem lw_p62 : lw_okq (⟨"MergeJudgeModel", "readOp", "()V"⟩, 42) := ⟨⟨by decide +kernel, by decide +kernel⟩, List.mem_of_getElem? (i := 1195) (by decide +kernel), List.mem_of_getElem? (i := 1454) (by decide +kernel), List.mem_of_getElem? (i := 1455) (by decide +kernel)⟩
theorem lw_p63 : lw_okq (⟨"MergeJudgeModel", "isCell", "(I)Z"⟩, 42) := ⟨⟨by decide +kernel, by decide +kernel⟩, List.mem_of_getElem? (i := 1195) (by decide +kernel), List.mem_of_getElem? (i := 1466) (by decide +kernel), List.mem_of_getElem? (i := 1467) (by decide +kernel)⟩
def lw_privs_4 : List (MethodName × Nat) := [(⟨"MergeJudgeModel", "readFirst", "()V"⟩, 42), (⟨"MergeJudgeModel", "expects", "(Ljava/lang/String;)V"⟩, 42), (⟨"MergeJudgeModel", "takes", "(Ljava/lang/String;)Z"⟩, 42), (⟨"MergeJudgeModel", "is", "(Ljava/lang/String;)Z"⟩, 42), (⟨"MergeJudgeModel", "errs", "(I)V"⟩, 42), (⟨"MergeJudgeModel", "toldBy", "(Ljava/lang/String;II)I"⟩, 42), (⟨"MergeJudgeModel", "number", "(II)I"⟩, 42), (⟨"MergeJudgeModel", "readNext", "()V"⟩, 42), (⟨"MergeJudgeModel", "isFull", "()Z"⟩, 42), (⟨"MergeJudgeModel", "readKind", "(Ljava/lang/String;Ljava/lang/String;Ljava/lang/String;Ljava/lang/String;Ljava/lang/String;Ljava/lang/String;)I"⟩, 42), (⟨"MergeJudgeModel", "kindWord", "(Ljava/lang/String;Ljava/lang/String;Ljava/lang/String;Ljava/lang/String;Ljava/lang/String;Ljava/lang/String;)I"⟩, 42), (⟨"MergeJudgeModel", "readRule", "()V"⟩, 42), (⟨"MergeJudgeModel", "readCell", "()I"⟩, 42), (⟨"MergeJudgeModel", "readOther", "(I)I"⟩, 42), (⟨"MergeJudgeModel", "readOp", "()V"⟩, 42), (⟨"MergeJudgeModel", "isCell", "(I)Z"⟩, 42)]
theorem lw_r4 : ∀ q ∈ lw_privs_4, lw_okq q := List.forall_mem_cons.mpr ⟨lw_p48, List.forall_mem_cons.mpr ⟨lw_p49, List.forall_mem_cons.mpr ⟨lw_p50, List.forall_mem_cons.mpr ⟨lw_p51, List.forall_mem_cons.mpr ⟨lw_p52, List.forall_mem_cons.mpr ⟨lw_p53, List.forall_mem_cons.mpr ⟨lw_p54, List.forall_mem_cons.mpr ⟨lw_p55, List.forall_mem_cons.mpr ⟨lw_p56, List.forall_mem_cons.mpr ⟨lw_p57, List.forall_mem_cons.mpr ⟨lw_p58, List.forall_mem_cons.mpr ⟨lw_p59, List.forall_mem_cons.mpr ⟨lw_p60, List.forall_mem_cons.mpr ⟨lw_p61, List.forall_mem_cons.mpr ⟨lw_p62, List.forall_mem_cons.mpr ⟨lw_p63, fun _ h => absurd h List.not_mem_nil⟩⟩⟩⟩⟩⟩⟩⟩⟩⟩⟩⟩⟩⟩⟩⟩
theorem lw_p64 : lw_okq (⟨"MergeJudgeModel", "cells", "()I"⟩, 42) := ⟨⟨by decide +kernel, by decide +kernel⟩, List.mem_of_getElem? (i := 1195) (by decide +kernel), List.mem_of_getElem? (i := 1470) (by decide +kernel), List.mem_of_getElem? (i := 1471) (by decide +kernel)⟩
theorem lw_p65 : lw_okq (⟨"MergeJudgeModel", "isRule", "(I)Z"⟩, 42) := ⟨⟨by decide +kernel, by decide +kernel⟩, List.mem_of_getElem? (i := 1195) (by decide +kernel), List.mem_of_getElem? (i := 1478) (by decide +kernel), List.mem_of_getElem? (i := 1479) (by decide +kernel)⟩
theorem lw_p66 : lw_okq (⟨"MergeJudgeModel", "rules", "()I"⟩, 42) := ⟨⟨by decide +kernel, by decide +kernel⟩, List.mem_of_getElem? (i := 1195) (by decide +kernel), List.mem_of_getElem? (i := 1482) (by decide +kernel), List.mem_of_getElem? (i := 1483) (by decide +kernel)⟩
theorem lw_p67 : lw_okq (⟨"MergeJudgeModel", "ruleOf", "(II)I"⟩, 42) := ⟨⟨by decide +kernel, by decide +kernel⟩, List.mem_of_getElem? (i := 1195) (by decide +kernel), List.mem_of_getElem? (i := 1487) (by decide +kernel), List.mem_of_getElem? (i := 1488) (by decide +kernel)⟩
theorem lw_p68 : lw_okq (⟨"MergeJudgeModel", "isOp", "(I)Z"⟩, 42) := ⟨⟨by decide +kernel, by decide +kernel⟩, List.mem_of_getElem? (i := 1195) (by decide +kernel), List.mem_of_getElem? (i := 1498) (by decide +kernel), List.mem_of_getElem? (i := 1499) (by decide +kernel)⟩
theorem lw_p69 : lw_okq (⟨"MergeJudgeModel", "ops", "()I"⟩, 42) := ⟨⟨by decide +kernel, by decide +kernel⟩, List.mem_of_getElem? (i := 1195) (by decide +kernel), List.mem_of_getElem? (i := 1502) (by decide +kernel), List.mem_of_getElem? (i := 1503) (by decide +kernel)⟩
theorem lw_p70 : lw_okq (⟨"MergeJudgeModel", "opOf", "(II)I"⟩, 42) := ⟨⟨by decide +kernel, by decide +kernel⟩, List.mem_of_getElem? (i := 1195) (by decide +kernel), List.mem_of_getElem? (i := 1507) (by decide +kernel), List.mem_of_getElem? (i := 1508) (by decide +kernel)⟩
theorem lw_p71 : lw_okq (⟨"MergeJudgeModel", "isBase", "()Z"⟩, 42) := ⟨⟨by decide +kernel, by decide +kernel⟩, List.mem_of_getElem? (i := 1195) (by decide +kernel), List.mem_of_getElem? (i := 1518) (by decide +kernel), List.mem_of_getElem? (i := 1519) (by decide +kernel)⟩
theorem lw_p72 : lw_okq (⟨"MergeJudgeModel", "stateMany", "()I"⟩, 42) := ⟨⟨by decide +kernel, by decide +kernel⟩, List.mem_of_getElem? (i := 1195) (by decide +kernel), List.mem_of_getElem? (i := 1522) (by decide +kernel), List.mem_of_getElem? (i := 1523) (by decide +kernel)⟩
theorem lw_p73 : lw_okq (⟨"MergeJudgeModel", "isState", "(J)Z"⟩, 42) := ⟨⟨by decide +kernel, by decide +kernel⟩, List.mem_of_getElem? (i := 1195) (by decide +kernel), List.mem_of_getElem? (i := 1530) (by decide +kernel), List.mem_of_getElem? (i := 1531) (by decide +kernel)⟩
theorem lw_p74 : lw_okq (⟨"MergeJudgeModel", "valueOf", "(II)I"⟩, 42) := ⟨⟨by decide +kernel, by decide +kernel⟩, List.mem_of_getElem? (i := 1195) (by decide +kernel), List.mem_of_getElem? (i := 1534) (by decide +kernel), List.mem_of_getElem? (i := 1535) (by decide +kernel)⟩
theorem lw_p75 : lw_okq (⟨"MergeJudgeModel", "holdsIn", "(II)Z"⟩, 42) := ⟨⟨by decide +kernel, by decide +kernel⟩, List.mem_of_getElem? (i := 1195) (by decide +kernel), List.mem_of_getElem? (i := 1546) (by decide +kernel), List.mem_of_getElem? (i := 1547) (by decide +kernel)⟩
theorem lw_p76 : lw_okq (⟨"MergeJudgeModel", "asks", "()Z"⟩, 42) := ⟨⟨by decide +kernel, by decide +kernel⟩, List.mem_of_getElem? (i := 1195) (by decide +kernel), List.mem_of_getElem? (i := 1554) (by decide +kernel), List.mem_of_getElem? (i := 1555) (by decide +kernel)⟩
theorem lw_p77 : lw_okq (⟨"MergeJudgeModel", "asItIs", "()V"⟩, 42) := ⟨⟨by decide +kernel, by decide +kernel⟩, List.mem_of_getElem? (i := 1195) (by decide +kernel), List.mem_of_getElem? (i := 1558) (by decide +kernel), List.mem_of_getElem? (i := 1559) (by decide +kernel)⟩
theorem lw_p78 : lw_okq (⟨"MergeJudgeModel", "layStates", "()V"⟩, 42) := ⟨⟨by decide +kernel, by decide +kernel⟩, List.mem_of_getElem? (i := 1195) (by decide +kernel), List.mem_of_getElem? (i := 1562) (by decide +kernel), List.mem_of_getElem? (i := 1563) (by decide +kernel)⟩
theorem lw_p79 : lw_okq (⟨"MergeJudgeModel", "brokenBy", "(I)I"⟩, 42) := ⟨⟨by decide +kernel, by decide +kernel⟩, List.mem_of_getElem? (i := 1195) (by decide +kernel), List.mem_of_getElem? (i := 1566) (by decide +kernel), List.mem_of_getElem? (i := 1567) (by decide +kernel)⟩
def lw_privs_5 : List (MethodName × Nat) := [(⟨"MergeJudgeModel", "cells", "()I"⟩, 42), (⟨"MergeJudgeModel", "isRule", "(I)Z"⟩, 42), (⟨"MergeJudgeModel", "rules", "()I"⟩, 42), (⟨"MergeJudgeModel", "ruleOf", "(II)I"⟩, 42), (⟨"MergeJudgeModel", "isOp", "(I)Z"⟩, 42), (⟨"MergeJudgeModel", "ops", "()I"⟩, 42), (⟨"MergeJudgeModel", "opOf", "(II)I"⟩, 42), (⟨"MergeJudgeModel", "isBase", "()Z"⟩, 42), (⟨"MergeJudgeModel", "stateMany", "()I"⟩, 42), (⟨"MergeJudgeModel", "isState", "(J)Z"⟩, 42), (⟨"MergeJudgeModel", "valueOf", "(II)I"⟩, 42), (⟨"MergeJudgeModel", "holdsIn", "(II)Z"⟩, 42), (⟨"MergeJudgeModel", "asks", "()Z"⟩, 42), (⟨"MergeJudgeModel", "asItIs", "()V"⟩, 42), (⟨"MergeJudgeModel", "layStates", "()V"⟩, 42), (⟨"MergeJudgeModel", "brokenBy", "(I)I"⟩, 42)]
theorem lw_r5 : ∀ q ∈ lw_privs_5, lw_okq q := List.forall_mem_cons.mpr ⟨lw_p64, List.forall_mem_cons.mpr ⟨lw_p65, List.forall_mem_cons.mpr ⟨lw_p66, List.forall_mem_cons.mpr ⟨lw_p67, List.forall_mem_cons.mpr ⟨lw_p68, List.forall_mem_cons.mpr ⟨lw_p69, List.forall_mem_cons.mpr ⟨lw_p70, List.forall_mem_cons.mpr ⟨lw_p71, List.forall_mem_cons.mpr ⟨lw_p72, List.forall_mem_cons.mpr ⟨lw_p73, List.forall_mem_cons.mpr ⟨lw_p74, List.forall_mem_cons.mpr ⟨lw_p75, List.forall_mem_cons.mpr ⟨lw_p76, List.forall_mem_cons.mpr ⟨lw_p77, List.forall_mem_cons.mpr ⟨lw_p78, List.forall_mem_cons.mpr ⟨lw_p79, fun _ h => absurd h List.not_mem_nil⟩⟩⟩⟩⟩⟩⟩⟩⟩⟩⟩⟩⟩⟩⟩⟩
theorem lw_p80 : lw_okq (⟨"MergeJudgeModel", "doneBy", "(II)I"⟩, 42) := ⟨⟨by decide +kernel, by decide +kernel⟩, List.mem_of_getElem? (i := 1195) (by decide +kernel), List.mem_of_getElem? (i := 1573) (by decide +kernel), List.mem_of_getElem? (i := 1574) (by decide +kernel)⟩
theorem lw_p81 : lw_okq (⟨"MergeJudgeModel", "added", "(III)I"⟩, 42) := ⟨⟨by decide +kernel, by decide +kernel⟩, List.mem_of_getElem? (i := 1195) (by decide +kernel), List.mem_of_getElem? (i := 1577) (by decide +kernel), List.mem_of_getElem? (i := 1578) (by decide +kernel)⟩
theorem lw_p82 : lw_okq (⟨"MergeJudgeModel", "withValue", "(III)I"⟩, 42) := ⟨⟨by decide +kernel, by decide +kernel⟩, List.mem_of_getElem? (i := 1195) (by decide +kernel), List.mem_of_getElem? (i := 1581) (by decide +kernel), List.mem_of_getElem? (i := 1582) (by decide +kernel)⟩
theorem lw_p83 : lw_okq (⟨"MergeJudgeModel", "validMany", "()I"⟩, 42) := ⟨⟨by decide +kernel, by decide +kernel⟩, List.mem_of_getElem? (i := 1195) (by decide +kernel), List.mem_of_getElem? (i := 1597) (by decide +kernel), List.mem_of_getElem? (i := 1598) (by decide +kernel)⟩
theorem lw_p84 : lw_okq (⟨"MergeJudgeModel", "goesTo", "(II)I"⟩, 42) := ⟨⟨by decide +kernel, by decide +kernel⟩, List.mem_of_getElem? (i := 1195) (by decide +kernel), List.mem_of_getElem? (i := 1626) (by decide +kernel), List.mem_of_getElem? (i := 1627) (by decide +kernel)⟩
theorem lw_p85 : lw_okq (⟨"MergeJudgeModel", "worksOf", "(I)I"⟩, 42) := ⟨⟨by decide +kernel, by decide +kernel⟩, List.mem_of_getElem? (i := 1195) (by decide +kernel), List.mem_of_getElem? (i := 1634) (by decide +kernel), List.mem_of_getElem? (i := 1635) (by decide +kernel)⟩
theorem lw_p86 : lw_okq (⟨"MergeJudgeModel", "opensOf", "(I)I"⟩, 42) := ⟨⟨by decide +kernel, by decide +kernel⟩, List.mem_of_getElem? (i := 1195) (by decide +kernel), List.mem_of_getElem? (i := 1642) (by decide +kernel), List.mem_of_getElem? (i := 1643) (by decide +kernel)⟩
theorem lw_p87 : lw_okq (⟨"MergeJudgeModel", "areCommuting", "(II)Z"⟩, 42) := ⟨⟨by decide +kernel, by decide +kernel⟩, List.mem_of_getElem? (i := 1195) (by decide +kernel), List.mem_of_getElem? (i := 1654) (by decide +kernel), List.mem_of_getElem? (i := 1655) (by decide +kernel)⟩
theorem lw_p88 : lw_okq (⟨"MergeJudgeModel", "mergeOf", "(III)I"⟩, 42) := ⟨⟨by decide +kernel, by decide +kernel⟩, List.mem_of_getElem? (i := 1195) (by decide +kernel), List.mem_of_getElem? (i := 1666) (by decide +kernel), List.mem_of_getElem? (i := 1667) (by decide +kernel)⟩
theorem lw_p89 : lw_okq (⟨"MergeJudgeModel", "mergedOf", "(IIII)I"⟩, 42) := ⟨⟨by decide +kernel, by decide +kernel⟩, List.mem_of_getElem? (i := 1195) (by decide +kernel), List.mem_of_getElem? (i := 1670) (by decide +kernel), List.mem_of_getElem? (i := 1671) (by decide +kernel)⟩
theorem lw_p90 : lw_okq (⟨"MergeJudgeModel", "lateOf", "(III)I"⟩, 42) := ⟨⟨by decide +kernel, by decide +kernel⟩, List.mem_of_getElem? (i := 1195) (by decide +kernel), List.mem_of_getElem? (i := 1674) (by decide +kernel), List.mem_of_getElem? (i := 1675) (by decide +kernel)⟩
theorem lw_p91 : lw_okq (⟨"MergeJudgeModel", "asksSides", "(I)Z"⟩, 42) := ⟨⟨by decide +kernel, by decide +kernel⟩, List.mem_of_getElem? (i := 1195) (by decide +kernel), List.mem_of_getElem? (i := 1690) (by decide +kernel), List.mem_of_getElem? (i := 1691) (by decide +kernel)⟩
theorem lw_p92 : lw_okq (⟨"MergeJudgeModel", "laySides", "(I)V"⟩, 42) := ⟨⟨by decide +kernel, by decide +kernel⟩, List.mem_of_getElem? (i := 1195) (by decide +kernel), List.mem_of_getElem? (i := 1694) (by decide +kernel), List.mem_of_getElem? (i := 1695) (by decide +kernel)⟩
theorem lw_p93 : lw_okq (⟨"MergeJudgeModel", "layFar", "([III)V"⟩, 42) := ⟨⟨by decide +kernel, by decide +kernel⟩, List.mem_of_getElem? (i := 1195) (by decide +kernel), List.mem_of_getElem? (i := 1698) (by decide +kernel), List.mem_of_getElem? (i := 1699) (by decide +kernel)⟩
theorem lw_p94 : lw_okq (⟨"MergeJudgeModel", "orNone", "(II)I"⟩, 42) := ⟨⟨by decide +kernel, by decide +kernel⟩, List.mem_of_getElem? (i := 1195) (by decide +kernel), List.mem_of_getElem? (i := 1708) (by decide +kernel), List.mem_of_getElem? (i := 1709) (by decide +kernel)⟩
theorem lw_p95 : lw_okq (⟨"MergeJudgeModel", "breaksFrom", "(II)I"⟩, 42) := ⟨⟨by decide +kernel, by decide +kernel⟩, List.mem_of_getElem? (i := 1195) (by decide +kernel), List.mem_of_getElem? (i := 1732) (by decide +kernel), List.mem_of_getElem? (i := 1733) (by decide +kernel)⟩
def lw_privs_6 : List (MethodName × Nat) := [(⟨"MergeJudgeModel", "doneBy", "(II)I"⟩, 42), (⟨"MergeJudgeModel", "added", "(III)I"⟩, 42), (⟨"MergeJudgeModel", "withValue", "(III)I"⟩, 42), (⟨"MergeJudgeModel", "validMany", "()I"⟩, 42), (⟨"MergeJudgeModel", "goesTo", "(II)I"⟩, 42), (⟨"MergeJudgeModel", "worksOf", "(I)I"⟩, 42), (⟨"MergeJudgeModel", "opensOf", "(I)I"⟩, 42), (⟨"MergeJudgeModel", "areCommuting", "(II)Z"⟩, 42), (⟨"MergeJudgeModel", "mergeOf", "(III)I"⟩, 42), (⟨"MergeJudgeModel", "mergedOf", "(IIII)I"⟩, 42), (⟨"MergeJudgeModel", "lateOf", "(III)I"⟩, 42), (⟨"MergeJudgeModel", "asksSides", "(I)Z"⟩, 42), (⟨"MergeJudgeModel", "laySides", "(I)V"⟩, 42), (⟨"MergeJudgeModel", "layFar", "([III)V"⟩, 42), (⟨"MergeJudgeModel", "orNone", "(II)I"⟩, 42), (⟨"MergeJudgeModel", "breaksFrom", "(II)I"⟩, 42)]
theorem lw_r6 : ∀ q ∈ lw_privs_6, lw_okq q := List.forall_mem_cons.mpr ⟨lw_p80, List.forall_mem_cons.mpr ⟨lw_p81, List.forall_mem_cons.mpr ⟨lw_p82, List.forall_mem_cons.mpr ⟨lw_p83, List.forall_mem_cons.mpr ⟨lw_p84, List.forall_mem_cons.mpr ⟨lw_p85, List.forall_mem_cons.mpr ⟨lw_p86, List.forall_mem_cons.mpr ⟨lw_p87, List.forall_mem_cons.mpr ⟨lw_p88, List.forall_mem_cons.mpr ⟨lw_p89, List.forall_mem_cons.mpr ⟨lw_p90, List.forall_mem_cons.mpr ⟨lw_p91, List.forall_mem_cons.mpr ⟨lw_p92, List.forall_mem_cons.mpr ⟨lw_p93, List.forall_mem_cons.mpr ⟨lw_p94, List.forall_mem_cons.mpr ⟨lw_p95, fun _ h => absurd h List.not_mem_nil⟩⟩⟩⟩⟩⟩⟩⟩⟩⟩⟩⟩⟩⟩⟩⟩
theorem lw_p96 : lw_okq (⟨"MergeJudgeModel", "begins", "()V"⟩, 42) := ⟨⟨by decide +kernel, by decide +kernel⟩, List.mem_of_getElem? (i := 1195) (by decide +kernel), List.mem_of_getElem? (i := 1736) (by decide +kernel), List.mem_of_getElem? (i := 1737) (by decide +kernel)⟩
theorem lw_p97 : lw_okq (⟨"MergeJudgeModel", "findFrom", "(II)V"⟩, 42) := ⟨⟨by decide +kernel, by decide +kernel⟩, List.mem_of_getElem? (i := 1195) (by decide +kernel), List.mem_of_getElem? (i := 1740) (by decide +kernel), List.mem_of_getElem? (i := 1741) (by decide +kernel)⟩
theorem lw_p98 : lw_okq (⟨"MergeJudgeModel", "keepBreak", "(III)V"⟩, 42) := ⟨⟨by decide +kernel, by decide +kernel⟩, List.mem_of_getElem? (i := 1195) (by decide +kernel), List.mem_of_getElem? (i := 1744) (by decide +kernel), List.mem_of_getElem? (i := 1745) (by decide +kernel)⟩
theorem lw_p99 : lw_okq (⟨"MergeJudgeModel", "asksIn", "(I)Z"⟩, 42) := ⟨⟨by decide +kernel, by decide +kernel⟩, List.mem_of_getElem? (i := 1195) (by decide +kernel), List.mem_of_getElem? (i := 1752) (by decide +kernel), List.mem_of_getElem? (i := 1753) (by decide +kernel)⟩
theorem lw_p100 : lw_okq (⟨"MergeJudgeModel", "breaksIn", "(I)I"⟩, 42) := ⟨⟨by decide +kernel, by decide +kernel⟩, List.mem_of_getElem? (i := 1195) (by decide +kernel), List.mem_of_getElem? (i := 1756) (by decide +kernel), List.mem_of_getElem? (i := 1757) (by decide +kernel)⟩
theorem lw_p101 : lw_okq (⟨"MergeJudgeModel", "allRules", "()I"⟩, 42) := ⟨⟨by decide +kernel, by decide +kernel⟩, List.mem_of_getElem? (i := 1195) (by decide +kernel), List.mem_of_getElem? (i := 1808) (by decide +kernel), List.mem_of_getElem? (i := 1809) (by decide +kernel)⟩
theorem lw_p102 : lw_okq (⟨"MergeJudgeModel", "isSafeBy", "(III)Z"⟩, 42) := ⟨⟨by decide +kernel, by decide +kernel⟩, List.mem_of_getElem? (i := 1195) (by decide +kernel), List.mem_of_getElem? (i := 1812) (by decide +kernel), List.mem_of_getElem? (i := 1813) (by decide +kernel)⟩
theorem lw_p103 : lw_okq (⟨"MergeJudgeModel", "asksLocks", "(I)Z"⟩, 42) := ⟨⟨by decide +kernel, by decide +kernel⟩, List.mem_of_getElem? (i := 1195) (by decide +kernel), List.mem_of_getElem? (i := 1824) (by decide +kernel), List.mem_of_getElem? (i := 1825) (by decide +kernel)⟩
theorem lw_p104 : lw_okq (⟨"MergeJudgeModel", "findLocks", "(I)V"⟩, 42) := ⟨⟨by decide +kernel, by decide +kernel⟩, List.mem_of_getElem? (i := 1195) (by decide +kernel), List.mem_of_getElem? (i := 1828) (by decide +kernel), List.mem_of_getElem? (i := 1829) (by decide +kernel)⟩
theorem lw_p105 : lw_okq (⟨"MergeJudgeModel", "allOps", "()I"⟩, 42) := ⟨⟨by decide +kernel, by decide +kernel⟩, List.mem_of_getElem? (i := 1195) (by decide +kernel), List.mem_of_getElem? (i := 1832) (by decide +kernel), List.mem_of_getElem? (i := 1833) (by decide +kernel)⟩
theorem lw_p106 : lw_okq (⟨"MergeJudgeModel", "breaksBy", "(I)I"⟩, 42) := ⟨⟨by decide +kernel, by decide +kernel⟩, List.mem_of_getElem? (i := 1195) (by decide +kernel), List.mem_of_getElem? (i := 1851) (by decide +kernel), List.mem_of_getElem? (i := 1852) (by decide +kernel)⟩
theorem lw_p107 : lw_okq (⟨"MergeJudgeModel", "askFits", "(I)I"⟩, 42) := ⟨⟨by decide +kernel, by decide +kernel⟩, List.mem_of_getElem? (i := 1195) (by decide +kernel), List.mem_of_getElem? (i := 1863) (by decide +kernel), List.mem_of_getElem? (i := 1864) (by decide +kernel)⟩
theorem lw_p108 : lw_okq (⟨"MergeJudgeModel", "askSeen", "(I)I"⟩, 42) := ⟨⟨by decide +kernel, by decide +kernel⟩, List.mem_of_getElem? (i := 1195) (by decide +kernel), List.mem_of_getElem? (i := 1867) (by decide +kernel), List.mem_of_getElem? (i := 1868) (by decide +kernel)⟩
theorem lw_p109 : lw_okq (⟨"MergeJudgeModel", "numberAt", "(II)J"⟩, 42) := ⟨⟨by decide +kernel, by decide +kernel⟩, List.mem_of_getElem? (i := 1195) (by decide +kernel), List.mem_of_getElem? (i := 1874) (by decide +kernel), List.mem_of_getElem? (i := 1875) (by decide +kernel)⟩
theorem lw_p110 : lw_okq (⟨"MergeJudgeModel", "layFits", "(I)V"⟩, 42) := ⟨⟨by decide +kernel, by decide +kernel⟩, List.mem_of_getElem? (i := 1195) (by decide +kernel), List.mem_of_getElem? (i := 1878) (by decide +kernel), List.mem_of_getElem? (i := 1879) (by decide +kernel)⟩
theorem lw_p111 : lw_okq (⟨"MergeJudgeModel", "breaksByLaw", "(I)I"⟩, 42) := ⟨⟨by decide +kernel, by decide +kernel⟩, List.mem_of_getElem? (i := 1195) (by decide +kernel), List.mem_of_getElem? (i := 1894) (by decide +kernel), List.mem_of_getElem? (i := 1895) (by decide +kernel)⟩
def lw_privs_7 : List (MethodName × Nat) := [(⟨"MergeJudgeModel", "begins", "()V"⟩, 42), (⟨"MergeJudgeModel", "findFrom", "(II)V"⟩, 42), (⟨"MergeJudgeModel", "keepBreak", "(III)V"⟩, 42), (⟨"MergeJudgeModel", "asksIn", "(I)Z"⟩, 42), (⟨"MergeJudgeModel", "breaksIn", "(I)I"⟩, 42), (⟨"MergeJudgeModel", "allRules", "()I"⟩, 42), (⟨"MergeJudgeModel", "isSafeBy", "(III)Z"⟩, 42), (⟨"MergeJudgeModel", "asksLocks", "(I)Z"⟩, 42), (⟨"MergeJudgeModel", "findLocks", "(I)V"⟩, 42), (⟨"MergeJudgeModel", "allOps", "()I"⟩, 42), (⟨"MergeJudgeModel", "breaksBy", "(I)I"⟩, 42), (⟨"MergeJudgeModel", "askFits", "(I)I"⟩, 42), (⟨"MergeJudgeModel", "askSeen", "(I)I"⟩, 42), (⟨"MergeJudgeModel", "numberAt", "(II)J"⟩, 42), (⟨"MergeJudgeModel", "layFits", "(I)V"⟩, 42), (⟨"MergeJudgeModel", "breaksByLaw", "(I)I"⟩, 42)]
theorem lw_r7 : ∀ q ∈ lw_privs_7, lw_okq q := List.forall_mem_cons.mpr ⟨lw_p96, List.forall_mem_cons.mpr ⟨lw_p97, List.forall_mem_cons.mpr ⟨lw_p98, List.forall_mem_cons.mpr ⟨lw_p99, List.forall_mem_cons.mpr ⟨lw_p100, List.forall_mem_cons.mpr ⟨lw_p101, List.forall_mem_cons.mpr ⟨lw_p102, List.forall_mem_cons.mpr ⟨lw_p103, List.forall_mem_cons.mpr ⟨lw_p104, List.forall_mem_cons.mpr ⟨lw_p105, List.forall_mem_cons.mpr ⟨lw_p106, List.forall_mem_cons.mpr ⟨lw_p107, List.forall_mem_cons.mpr ⟨lw_p108, List.forall_mem_cons.mpr ⟨lw_p109, List.forall_mem_cons.mpr ⟨lw_p110, List.forall_mem_cons.mpr ⟨lw_p111, fun _ h => absurd h List.not_mem_nil⟩⟩⟩⟩⟩⟩⟩⟩⟩⟩⟩⟩⟩⟩⟩⟩
theorem lw_p112 : lw_okq (⟨"MergeJudgeModel", "worthOf", "(I)I"⟩, 42) := ⟨⟨by decide +kernel, by decide +kernel⟩, List.mem_of_getElem? (i := 1195) (by decide +kernel), List.mem_of_getElem? (i := 1906) (by decide +kernel), List.mem_of_getElem? (i := 1907) (by decide +kernel)⟩
theorem lw_p113 : lw_okq (⟨"MergeJudgeModel", "areTwo", "(II)Z"⟩, 42) := ⟨⟨by decide +kernel, by decide +kernel⟩, List.mem_of_getElem? (i := 1195) (by decide +kernel), List.mem_of_getElem? (i := 1929) (by decide +kernel), List.mem_of_getElem? (i := 1930) (by decide +kernel)⟩
theorem lw_p114 : lw_okq (⟨"MergeJudgeModel", "getsBy", "(IIIII)I"⟩, 42) := ⟨⟨by decide +kernel, by decide +kernel⟩, List.mem_of_getElem? (i := 1195) (by decide +kernel), List.mem_of_getElem? (i := 1933) (by decide +kernel), List.mem_of_getElem? (i := 1934) (by decide +kernel)⟩
theorem lw_p115 : lw_okq (⟨"MergeJudgeModel", "asksChance", "(I)Z"⟩, 42) := ⟨⟨by decide +kernel, by decide +kernel⟩, List.mem_of_getElem? (i := 1195) (by decide +kernel), List.mem_of_getElem? (i := 1945) (by decide +kernel), List.mem_of_getElem? (i := 1946) (by decide +kernel)⟩
theorem lw_p116 : lw_okq (⟨"MergeJudgeModel", "layChance", "()V"⟩, 42) := ⟨⟨by decide +kernel, by decide +kernel⟩, List.mem_of_getElem? (i := 1195) (by decide +kernel), List.mem_of_getElem? (i := 1949) (by decide +kernel), List.mem_of_getElem? (i := 1950) (by decide +kernel)⟩
theorem lw_p117 : lw_okq (⟨"MergeJudgeModel", "keepAct", "(I)I"⟩, 42) := ⟨⟨by decide +kernel, by decide +kernel⟩, List.mem_of_getElem? (i := 1195) (by decide +kernel), List.mem_of_getElem? (i := 1962) (by decide +kernel), List.mem_of_getElem? (i := 1963) (by decide +kernel)⟩
theorem lw_p118 : lw_okq (⟨"MergeJudgeModel", "drawnSet", "(J)I"⟩, 42) := ⟨⟨by decide +kernel, by decide +kernel⟩, List.mem_of_getElem? (i := 1195) (by decide +kernel), List.mem_of_getElem? (i := 1990) (by decide +kernel), List.mem_of_getElem? (i := 1991) (by decide +kernel)⟩
def lw_privs_8 : List (MethodName × Nat) := [(⟨"MergeJudgeModel", "worthOf", "(I)I"⟩, 42), (⟨"MergeJudgeModel", "areTwo", "(II)Z"⟩, 42), (⟨"MergeJudgeModel", "getsBy", "(IIIII)I"⟩, 42), (⟨"MergeJudgeModel", "asksChance", "(I)Z"⟩, 42), (⟨"MergeJudgeModel", "layChance", "()V"⟩, 42), (⟨"MergeJudgeModel", "keepAct", "(I)I"⟩, 42), (⟨"MergeJudgeModel", "drawnSet", "(J)I"⟩, 42)]
theorem lw_r8 : ∀ q ∈ lw_privs_8, lw_okq q := List.forall_mem_cons.mpr ⟨lw_p112, List.forall_mem_cons.mpr ⟨lw_p113, List.forall_mem_cons.mpr ⟨lw_p114, List.forall_mem_cons.mpr ⟨lw_p115, List.forall_mem_cons.mpr ⟨lw_p116, List.forall_mem_cons.mpr ⟨lw_p117, List.forall_mem_cons.mpr ⟨lw_p118, fun _ h => absurd h List.not_mem_nil⟩⟩⟩⟩⟩⟩⟩
def lw_privs : List (MethodName × Nat) := lw_privs_1 ++ (lw_privs_2 ++ (lw_privs_3 ++ (lw_privs_4 ++ (lw_privs_5 ++ (lw_privs_6 ++ (lw_privs_7 ++ (lw_privs_8)))))))
def lw_tbl : List Cond := k2_sels lw_privs ++ tables_1
theorem lw_privs_ok : ∀ q ∈ lw_privs, lw_okq q := by
  show ∀ q ∈ lw_privs_1 ++ (lw_privs_2 ++ (lw_privs_3 ++ (lw_privs_4 ++ (lw_privs_5 ++ (lw_privs_6 ++ (lw_privs_7 ++ (lw_privs_8))))))), lw_okq q
  exact List.forall_mem_append.mpr ⟨lw_r1, List.forall_mem_append.mpr ⟨lw_r2, List.forall_mem_append.mpr ⟨lw_r3, List.forall_mem_append.mpr ⟨lw_r4, List.forall_mem_append.mpr ⟨lw_r5, List.forall_mem_append.mpr ⟨lw_r6, List.forall_mem_append.mpr ⟨lw_r7, lw_r8⟩⟩⟩⟩⟩⟩⟩

theorem goodIn_r {big : List Cond} (ws : List Cond) (ps : List Nat) (hp : ws = ps.filterMap (fun i => big[i]?)) (h : ws.all goodWord = true) : GoodIn big ws := by
  intro w hw
  have h1 := List.all_eq_true.mp h w hw
  rw [hp] at hw
  obtain ⟨i, -, hi⟩ := List.mem_filterMap.mp hw
  have hm : w ∈ big := by first | exact List.mem_of_getElem? hi | exact List.getElem?_mem hi
  exact ⟨hm, good_of_word h1⟩
theorem goodIn_app {big a b : List Cond} (ha : GoodIn big a) (hb : GoodIn big b) : GoodIn big (a ++ b) := fun w h => (List.mem_append.mp h).elim (ha w) (hb w)
theorem goodIn_ca {big a b : List Cond} {c : Cond} (ha : GoodIn big (c :: a)) (hb : GoodIn big b) : GoodIn big (c :: (a ++ b)) := fun w h => (List.mem_cons.mp h).elim (fun e => ha w (List.mem_cons.mpr (Or.inl e))) (fun h => (List.mem_append.mp h).elim (fun h => ha w (List.mem_cons.mpr (Or.inr h))) (hb w))
theorem goodIn_sub {big ws : List Cond} (hm : ∀ w ∈ ws, w ∈ big) (h : ws.all goodWord = true) : GoodIn big ws := fun w hw => ⟨hm w hw, good_of_word (List.all_eq_true.mp h w hw)⟩
def RX0 : String := "MergeJudge$Base"
def TX0 : u_T := fun k => match k with
  | 0 => ("MergeJudge$Base", "lines", "I", false)
  | 1 => ("MergeJudge$Base", "top", "I", false)
  | 2 => ("MergeJudge$Base", "law", "I", false)
  | 3 => ("MergeJudge$Base", "odds", "I", false)
  | 4 => ("MergeJudge$Base", "cells", "I", false)
  | 5 => ("MergeJudge$Base", "rules", "I", false)
  | 6 => ("MergeJudge$Base", "ops", "I", false)
  | 7 => ("MergeJudge$Base", "acts", "I", false)
  | 8 => ("MergeJudge$Base", "droppedRules", "I", false)
  | 9 => ("MergeJudge$Base", "lockedOps", "I", false)
  | 10 => ("MergeJudge$Base", "kinds", "[I", true)
  | 11 => ("MergeJudge$Base", "ruleRows", "[I", true)
  | 12 => ("MergeJudge$Base", "opRows", "[I", true)
  | 13 => ("MergeJudge$Base", "formerDropped", "[I", true)
  | _ => ("MergeJudge$Base", "formerLocked", "[I", true)
def tyX0 : Nat → FieldType := fun k => match k with
  | 0 => .int
  | 1 => .int
  | 2 => .int
  | 3 => .int
  | 4 => .int
  | 5 => .int
  | 6 => .int
  | 7 => .int
  | 8 => .int
  | 9 => .int
  | 10 => .array .int
  | 11 => .array .int
  | 12 => .array .int
  | 13 => .array .int
  | _ => .array .int
abbrev wsX00 : List Cond := u_ws RX0 TX0 15
theorem nmX0 : ∀ a, a < 15 → ∀ b, b < 15 → a ≠ b → (TX0 a).2.1 ≠ (TX0 b).2.1 := by decide +kernel
theorem tyX0_ok : ∀ k, k < 15 → parseFieldDescriptor (TX0 k).2.2.1 = some (tyX0 k) := by decide +kernel
abbrev cX0_init : ByteArray := prog_2_method_1_code
def yX0_init : MethodName := ⟨RX0, "<init>", "()V"⟩
abbrev cX0_clear : ByteArray := prog_2_method_2_code
def yX0_clear : MethodName := ⟨RX0, "clear", "()V"⟩
abbrev cX0_copyOf : ByteArray := prog_2_method_3_code
def yX0_copyOf : MethodName := ⟨RX0, "copyOf", "(LMergeJudge$Base;)V"⟩
abbrev cX0_act : ByteArray := prog_2_method_4_code
def yX0_act : MethodName := ⟨RX0, "act", "(II)V"⟩
abbrev cX0_takeBackTo : ByteArray := prog_2_method_5_code
def yX0_takeBackTo : MethodName := ⟨RX0, "takeBackTo", "(I)V"⟩
def RX1 : String := "MergeJudge$Chances"
def TX1 : u_T := fun k => match k with
  | 0 => ("MergeJudge$Chances", "told", "LMergeJudge$Base;", true)
  | 1 => ("MergeJudge$Chances", "judge", "LMergeJudge$Judge;", true)
  | 2 => ("MergeJudge$Chances", "worths", "[I", true)
  | _ => ("MergeJudge$Chances", "breaksBy", "[I", true)
def tyX1 : Nat → FieldType := fun k => match k with
  | 0 => .object "MergeJudge$Base"
  | 1 => .object "MergeJudge$Judge"
  | 2 => .array .int
  | _ => .array .int
abbrev wsX10 : List Cond := u_ws RX1 TX1 4
theorem nmX1 : ∀ a, a < 4 → ∀ b, b < 4 → a ≠ b → (TX1 a).2.1 ≠ (TX1 b).2.1 := by decide +kernel
theorem tyX1_ok : ∀ k, k < 4 → parseFieldDescriptor (TX1 k).2.2.1 = some (tyX1 k) := by decide +kernel
abbrev cX1_init : ByteArray := prog_3_method_1_code
def yX1_init : MethodName := ⟨RX1, "<init>", "(LMergeJudge$Base;LMergeJudge$Judge;)V"⟩
abbrev cX1_othersDropped : ByteArray := prog_3_method_2_code
def yX1_othersDropped : MethodName := ⟨RX1, "othersDropped", "(I)I"⟩
abbrev cX1_shareOf : ByteArray := prog_3_method_3_code
def yX1_shareOf : MethodName := ⟨RX1, "shareOf", "(II)J"⟩
abbrev cX1_factorial : ByteArray := prog_3_method_4_code
def yX1_factorial : MethodName := ⟨RX1, "factorial", "(I)J"⟩
abbrev cX1_lowest : ByteArray := prog_3_method_5_code
def yX1_lowest : MethodName := ⟨RX1, "lowest", "(JJI)J"⟩
abbrev cX1_gain : ByteArray := prog_3_method_6_code
def yX1_gain : MethodName := ⟨RX1, "gain", "(IIII)I"⟩
abbrev cX1_restsOf : ByteArray := prog_3_method_7_code
def yX1_restsOf : MethodName := ⟨RX1, "restsOf", "(II)I"⟩
abbrev cX1_safety : ByteArray := prog_3_method_8_code
def yX1_safety : MethodName := ⟨RX1, "safety", "(I)J"⟩
abbrev cX1_meanOfValids : ByteArray := prog_3_method_9_code
def yX1_meanOfValids : MethodName := ⟨RX1, "meanOfValids", "(I)J"⟩
abbrev cX1_oddsOf : ByteArray := prog_3_method_10_code
def yX1_oddsOf : MethodName := ⟨RX1, "oddsOf", "(I)J"⟩
abbrev cX1_power : ByteArray := prog_3_method_11_code
def yX1_power : MethodName := ⟨RX1, "power", "(II)J"⟩
abbrev cX1_draw : ByteArray := prog_3_method_12_code
def yX1_draw : MethodName := ⟨RX1, "draw", "(J)I"⟩
def RX2 : String := "MergeJudge$Judge"
def TX2 : u_T := fun k => match k with
  | 0 => ("MergeJudge$Judge", "told", "LMergeJudge$Base;", true)
  | 1 => ("MergeJudge$Judge", "space", "LMergeJudge$Space;", true)
  | 2 => ("MergeJudge$Judge", "merger", "LMergeJudge$Merger;", true)
  | 3 => ("MergeJudge$Judge", "dropped", "I", false)
  | 4 => ("MergeJudge$Judge", "locked", "I", false)
  | 5 => ("MergeJudge$Judge", "validStates", "J", false)
  | 6 => ("MergeJudge$Judge", "queue", "[I", true)
  | 7 => ("MergeJudge$Judge", "broken", "[J", true)
  | 8 => ("MergeJudge$Judge", "pairsSeen", "[J", true)
  | 9 => ("MergeJudge$Judge", "within", "[J", true)
  | 10 => ("MergeJudge$Judge", "hitsOf", "[I", true)
  | _ => ("MergeJudge$Judge", "smallest", "[I", true)
def tyX2 : Nat → FieldType := fun k => match k with
  | 0 => .object "MergeJudge$Base"
  | 1 => .object "MergeJudge$Space"
  | 2 => .object "MergeJudge$Merger"
  | 3 => .int
  | 4 => .int
  | 5 => .long
  | 6 => .array .int
  | 7 => .array .long
  | 8 => .array .long
  | 9 => .array .long
  | 10 => .array .int
  | _ => .array .int
abbrev wsX20 : List Cond := u_ws RX2 TX2 12
theorem nmX2 : ∀ a, a < 12 → ∀ b, b < 12 → a ≠ b → (TX2 a).2.1 ≠ (TX2 b).2.1 := by decide +kernel
theorem tyX2_ok : ∀ k, k < 12 → parseFieldDescriptor (TX2 k).2.2.1 = some (tyX2 k) := by decide +kernel
abbrev cX2_init : ByteArray := prog_4_method_1_code
def yX2_init : MethodName := ⟨RX2, "<init>", "(LMergeJudge$Base;LMergeJudge$Space;)V"⟩
abbrev cX2_asTold : ByteArray := prog_4_method_2_code
def yX2_asTold : MethodName := ⟨RX2, "asTold", "()V"⟩
abbrev cX2_suppose : ByteArray := prog_4_method_3_code
def yX2_suppose : MethodName := ⟨RX2, "suppose", "(II)V"⟩
abbrev cX2_validsWith : ByteArray := prog_4_method_4_code
def yX2_validsWith : MethodName := ⟨RX2, "validsWith", "(I)I"⟩
abbrev cX2_totalWith : ByteArray := prog_4_method_5_code
def yX2_totalWith : MethodName := ⟨RX2, "totalWith", "(II)I"⟩
abbrev cX2_isSafeWith : ByteArray := prog_4_method_6_code
def yX2_isSafeWith : MethodName := ⟨RX2, "isSafeWith", "(II)Z"⟩
abbrev cX2_isSafeAlone : ByteArray := prog_4_method_7_code
def yX2_isSafeAlone : MethodName := ⟨RX2, "isSafeAlone", "(II)Z"⟩
abbrev cX2_totalBy : ByteArray := prog_4_method_8_code
def yX2_totalBy : MethodName := ⟨RX2, "totalBy", "(I)I"⟩
abbrev cX2_totalOf : ByteArray := prog_4_method_9_code
def yX2_totalOf : MethodName := ⟨RX2, "totalOf", "(II)I"⟩
abbrev cX2_fitting : ByteArray := prog_4_method_10_code
def yX2_fitting : MethodName := ⟨RX2, "fitting", "(LMergeJudge$Slot;I)J"⟩
abbrev cX2_isValid : ByteArray := prog_4_method_11_code
def yX2_isValid : MethodName := ⟨RX2, "isValid", "(I)Z"⟩
abbrev cX2_firstBroken : ByteArray := prog_4_method_12_code
def yX2_firstBroken : MethodName := ⟨RX2, "firstBroken", "(I)I"⟩
abbrev cX2_isBrokenBy : ByteArray := prog_4_method_13_code
def yX2_isBrokenBy : MethodName := ⟨RX2, "isBrokenBy", "(II)Z"⟩
abbrev cX2_outcome : ByteArray := prog_4_method_14_code
def yX2_outcome : MethodName := ⟨RX2, "outcome", "(II)I"⟩
abbrev cX2_openOps : ByteArray := prog_4_method_15_code
def yX2_openOps : MethodName := ⟨RX2, "openOps", "(I)I"⟩
abbrev cX2_worksFrom : ByteArray := prog_4_method_16_code
def yX2_worksFrom : MethodName := ⟨RX2, "worksFrom", "(I)I"⟩
abbrev cX2_commuting : ByteArray := prog_4_method_17_code
def yX2_commuting : MethodName := ⟨RX2, "commuting", "(II)Z"⟩
abbrev cX2_clashesOf : ByteArray := prog_4_method_18_code
def yX2_clashesOf : MethodName := ⟨RX2, "clashesOf", "(II)I"⟩
abbrev cX2_merged : ByteArray := prog_4_method_19_code
def yX2_merged : MethodName := ⟨RX2, "merged", "(III)I"⟩
abbrev cX2_spread : ByteArray := prog_4_method_20_code
def yX2_spread : MethodName := ⟨RX2, "spread", "(III)J"⟩
abbrev cX2_distance : ByteArray := prog_4_method_21_code
def yX2_distance : MethodName := ⟨RX2, "distance", "(II)I"⟩
abbrev cX2_firstStep : ByteArray := prog_4_method_22_code
def yX2_firstStep : MethodName := ⟨RX2, "firstStep", "(II)I"⟩
abbrev cX2_total : ByteArray := prog_4_method_23_code
def yX2_total : MethodName := ⟨RX2, "total", "(I)I"⟩
abbrev cX2_isSafe : ByteArray := prog_4_method_24_code
def yX2_isSafe : MethodName := ⟨RX2, "isSafe", "(I)Z"⟩
abbrev cX2_breaksFrom : ByteArray := prog_4_method_25_code
def yX2_breaksFrom : MethodName := ⟨RX2, "breaksFrom", "(II)I"⟩
abbrev cX2_mark : ByteArray := prog_4_method_26_code
def yX2_mark : MethodName := ⟨RX2, "mark", "(IJJ)V"⟩
abbrev cX2_unlikePairs : ByteArray := prog_4_method_27_code
def yX2_unlikePairs : MethodName := ⟨RX2, "unlikePairs", "(I)I"⟩
abbrev cX2_countHits : ByteArray := prog_4_method_28_code
def yX2_countHits : MethodName := ⟨RX2, "countHits", "(I)V"⟩
abbrev cX2_countHitsFrom : ByteArray := prog_4_method_29_code
def yX2_countHitsFrom : MethodName := ⟨RX2, "countHitsFrom", "(I)V"⟩
abbrev cX2_countHitsOf : ByteArray := prog_4_method_30_code
def yX2_countHitsOf : MethodName := ⟨RX2, "countHitsOf", "(I)V"⟩
abbrev cX2_findSmallest : ByteArray := prog_4_method_31_code
def yX2_findSmallest : MethodName := ⟨RX2, "findSmallest", "(I)Z"⟩
abbrev cX2_findSmallestFrom : ByteArray := prog_4_method_32_code
def yX2_findSmallestFrom : MethodName := ⟨RX2, "findSmallestFrom", "(I)V"⟩
abbrev cX2_depthOf : ByteArray := prog_4_method_33_code
def yX2_depthOf : MethodName := ⟨RX2, "depthOf", "(I)I"⟩
abbrev cX2_leastLocks : ByteArray := prog_4_method_34_code
def yX2_leastLocks : MethodName := ⟨RX2, "leastLocks", "(I)I"⟩
abbrev cX2_commonLocks : ByteArray := prog_4_method_35_code
def yX2_commonLocks : MethodName := ⟨RX2, "commonLocks", "(I)I"⟩
abbrev cX2_safeLocks : ByteArray := prog_4_method_36_code
def yX2_safeLocks : MethodName := ⟨RX2, "safeLocks", "(I)J"⟩
abbrev cX2_hasBreakAmong : ByteArray := prog_4_method_37_code
def yX2_hasBreakAmong : MethodName := ⟨RX2, "hasBreakAmong", "(J)Z"⟩
def RX3 : String := "MergeJudge$Merger"
def TX3 : u_T := fun k => match k with
  | _ => ("MergeJudge$Merger", "mixed", "[I", true)
def tyX3 : Nat → FieldType := fun k => match k with
  | _ => .array .int
abbrev wsX30 : List Cond := u_ws RX3 TX3 1
theorem nmX3 : ∀ a, a < 1 → ∀ b, b < 1 → a ≠ b → (TX3 a).2.1 ≠ (TX3 b).2.1 := by decide +kernel
theorem tyX3_ok : ∀ k, k < 1 → parseFieldDescriptor (TX3 k).2.2.1 = some (tyX3 k) := by decide +kernel
abbrev cX3_init : ByteArray := prog_5_method_1_code
def yX3_init : MethodName := ⟨RX3, "<init>", "()V"⟩
abbrev cX3_fill : ByteArray := prog_5_method_2_code
def yX3_fill : MethodName := ⟨RX3, "fill", "(LMergeJudge$Base;LMergeJudge$Space;I)V"⟩
abbrev cX3_fillCell : ByteArray := prog_5_method_3_code
def yX3_fillCell : MethodName := ⟨RX3, "fillCell", "(LMergeJudge$Space;III)V"⟩
abbrev cX3_mix : ByteArray := prog_5_method_4_code
def yX3_mix : MethodName := ⟨RX3, "mix", "(IIIIII)I"⟩
abbrev cX3_later : ByteArray := prog_5_method_5_code
def yX3_later : MethodName := ⟨RX3, "later", "(IIII)I"⟩
abbrev cX3_mergePacked : ByteArray := prog_5_method_6_code
def yX3_mergePacked : MethodName := ⟨RX3, "mergePacked", "(III)I"⟩
def RX4 : String := "MergeJudge$Reader"
def TX4 : u_T := fun k => match k with
  | 0 => ("MergeJudge$Reader", "tape", "LMergeJudge$Tape;", true)
  | 1 => ("MergeJudge$Reader", "draft", "LMergeJudge$Base;", true)
  | 2 => ("MergeJudge$Reader", "token", "I", false)
  | 3 => ("MergeJudge$Reader", "start", "I", false)
  | 4 => ("MergeJudge$Reader", "at", "I", false)
  | 5 => ("MergeJudge$Reader", "number", "I", false)
  | 6 => ("MergeJudge$Reader", "passed", "I", false)
  | 7 => ("MergeJudge$Reader", "faultKind", "I", false)
  | _ => ("MergeJudge$Reader", "faultPlace", "I", false)
def tyX4 : Nat → FieldType := fun k => match k with
  | 0 => .object "MergeJudge$Tape"
  | 1 => .object "MergeJudge$Base"
  | 2 => .int
  | 3 => .int
  | 4 => .int
  | 5 => .int
  | 6 => .int
  | 7 => .int
  | _ => .int
abbrev wsX40 : List Cond := u_ws RX4 TX4 9
theorem nmX4 : ∀ a, a < 9 → ∀ b, b < 9 → a ≠ b → (TX4 a).2.1 ≠ (TX4 b).2.1 := by decide +kernel
theorem tyX4_ok : ∀ k, k < 9 → parseFieldDescriptor (TX4 k).2.2.1 = some (tyX4 k) := by decide +kernel
abbrev cX4_init : ByteArray := prog_6_method_1_code
def yX4_init : MethodName := ⟨RX4, "<init>", "(LMergeJudge$Tape;LMergeJudge$Base;)V"⟩
abbrev cX4_readTape : ByteArray := prog_6_method_2_code
def yX4_readTape : MethodName := ⟨RX4, "readTape", "()Z"⟩
abbrev cX4_readLine : ByteArray := prog_6_method_3_code
def yX4_readLine : MethodName := ⟨RX4, "readLine", "()Z"⟩
abbrev cX4_readHead : ByteArray := prog_6_method_4_code
def yX4_readHead : MethodName := ⟨RX4, "readHead", "()Z"⟩
abbrev cX4_readCell : ByteArray := prog_6_method_5_code
def yX4_readCell : MethodName := ⟨RX4, "readCell", "()Z"⟩
abbrev cX4_readRule : ByteArray := prog_6_method_6_code
def yX4_readRule : MethodName := ⟨RX4, "readRule", "()Z"⟩
abbrev cX4_readOp : ByteArray := prog_6_method_7_code
def yX4_readOp : MethodName := ⟨RX4, "readOp", "()Z"⟩
abbrev cX4_cellKind : ByteArray := prog_6_method_8_code
def yX4_cellKind : MethodName := ⟨RX4, "cellKind", "()I"⟩
abbrev cX4_ruleKind : ByteArray := prog_6_method_9_code
def yX4_ruleKind : MethodName := ⟨RX4, "ruleKind", "()I"⟩
abbrev cX4_opKind : ByteArray := prog_6_method_10_code
def yX4_opKind : MethodName := ⟨RX4, "opKind", "()I"⟩
abbrev cX4_ruleShape : ByteArray := prog_6_method_11_code
def yX4_ruleShape : MethodName := ⟨RX4, "ruleShape", "(I)Ljava/lang/String;"⟩
abbrev cX4_opShape : ByteArray := prog_6_method_12_code
def yX4_opShape : MethodName := ⟨RX4, "opShape", "(I)Ljava/lang/String;"⟩
abbrev cX4_passNumbers : ByteArray := prog_6_method_13_code
def yX4_passNumbers : MethodName := ⟨RX4, "passNumbers", "(ILjava/lang/String;[III)Z"⟩
abbrev cX4_highestOf : ByteArray := prog_6_method_14_code
def yX4_highestOf : MethodName := ⟨RX4, "highestOf", "(C)I"⟩
abbrev cX4_passNumber : ByteArray := prog_6_method_15_code
def yX4_passNumber : MethodName := ⟨RX4, "passNumber", "(II)Z"⟩
abbrev cX4_passWord : ByteArray := prog_6_method_16_code
def yX4_passWord : MethodName := ⟨RX4, "passWord", "(Ljava/lang/String;)Z"⟩
abbrev cX4_isWord : ByteArray := prog_6_method_17_code
def yX4_isWord : MethodName := ⟨RX4, "isWord", "(Ljava/lang/String;)Z"⟩
abbrev cX4_failed : ByteArray := prog_6_method_18_code
def yX4_failed : MethodName := ⟨RX4, "failed", "(I)Z"⟩
abbrev cX4_next : ByteArray := prog_6_method_19_code
def yX4_next : MethodName := ⟨RX4, "next", "()V"⟩
abbrev cX4_isLetterNext : ByteArray := prog_6_method_20_code
def yX4_isLetterNext : MethodName := ⟨RX4, "isLetterNext", "()Z"⟩
abbrev cX4_isDigitNext : ByteArray := prog_6_method_21_code
def yX4_isDigitNext : MethodName := ⟨RX4, "isDigitNext", "()Z"⟩
def RX5 : String := "MergeJudge$Slot"
def TX5 : u_T := fun k => match k with
  | 0 => ("MergeJudge$Slot", "there", "Z", false)
  | 1 => ("MergeJudge$Slot", "width", "I", false)
  | 2 => ("MergeJudge$Slot", "size", "I", false)
  | _ => ("MergeJudge$Slot", "numbers", "[J", true)
def tyX5 : Nat → FieldType := fun k => match k with
  | 0 => .boolean
  | 1 => .int
  | 2 => .int
  | _ => .array .long
abbrev wsX50 : List Cond := u_ws RX5 TX5 4
theorem nmX5 : ∀ a, a < 4 → ∀ b, b < 4 → a ≠ b → (TX5 a).2.1 ≠ (TX5 b).2.1 := by decide +kernel
theorem tyX5_ok : ∀ k, k < 4 → parseFieldDescriptor (TX5 k).2.2.1 = some (tyX5 k) := by decide +kernel
abbrev cX5_init : ByteArray := prog_7_method_1_code
def yX5_init : MethodName := ⟨RX5, "<init>", "()V"⟩
abbrev cX5_renew : ByteArray := prog_7_method_2_code
def yX5_renew : MethodName := ⟨RX5, "renew", "(II)V"⟩
abbrev cX5_cut : ByteArray := prog_7_method_3_code
def yX5_cut : MethodName := ⟨RX5, "cut", "(J)J"⟩
abbrev cX5_spans : ByteArray := prog_7_method_4_code
def yX5_spans : MethodName := ⟨RX5, "spans", "(II)Z"⟩
def RX6 : String := "MergeJudge$Space"
def TX6 : u_T := fun k => match k with
  | 0 => ("MergeJudge$Space", "size", "I", false)
  | 1 => ("MergeJudge$Space", "cells", "I", false)
  | 2 => ("MergeJudge$Space", "top", "I", false)
  | 3 => ("MergeJudge$Space", "whole", "J", false)
  | 4 => ("MergeJudge$Space", "place", "[I", true)
  | 5 => ("MergeJudge$Space", "packed", "[I", true)
  | 6 => ("MergeJudge$Space", "holding", "[J", true)
  | _ => ("MergeJudge$Space", "results", "[I", true)
def tyX6 : Nat → FieldType := fun k => match k with
  | 0 => .int
  | 1 => .int
  | 2 => .int
  | 3 => .long
  | 4 => .array .int
  | 5 => .array .int
  | 6 => .array .long
  | _ => .array .int
abbrev wsX60 : List Cond := u_ws RX6 TX6 8
theorem nmX6 : ∀ a, a < 8 → ∀ b, b < 8 → a ≠ b → (TX6 a).2.1 ≠ (TX6 b).2.1 := by decide +kernel
theorem tyX6_ok : ∀ k, k < 8 → parseFieldDescriptor (TX6 k).2.2.1 = some (tyX6 k) := by decide +kernel
abbrev cX6_init : ByteArray := prog_8_method_1_code
def yX6_init : MethodName := ⟨RX6, "<init>", "()V"⟩
abbrev cX6_load : ByteArray := prog_8_method_2_code
def yX6_load : MethodName := ⟨RX6, "load", "(LMergeJudge$Base;)V"⟩
abbrev cX6_packedOf : ByteArray := prog_8_method_3_code
def yX6_packedOf : MethodName := ⟨RX6, "packedOf", "(I)I"⟩
abbrev cX6_digit : ByteArray := prog_8_method_4_code
def yX6_digit : MethodName := ⟨RX6, "digit", "(II)I"⟩
abbrev cX6_holdersOf : ByteArray := prog_8_method_5_code
def yX6_holdersOf : MethodName := ⟨RX6, "holdersOf", "([II)J"⟩
abbrev cX6_holdsRow : ByteArray := prog_8_method_6_code
def yX6_holdsRow : MethodName := ⟨RX6, "holdsRow", "([III)Z"⟩
abbrev cX6_resultOf : ByteArray := prog_8_method_7_code
def yX6_resultOf : MethodName := ⟨RX6, "resultOf", "([III)I"⟩
abbrev cX6_shifted : ByteArray := prog_8_method_8_code
def yX6_shifted : MethodName := ⟨RX6, "shifted", "(III)I"⟩
abbrev cX6_keeps : ByteArray := prog_8_method_9_code
def yX6_keeps : MethodName := ⟨RX6, "keeps", "(II)Z"⟩
abbrev cX6_cellsApart : ByteArray := prog_8_method_10_code
def yX6_cellsApart : MethodName := ⟨RX6, "cellsApart", "(II)I"⟩
def RX7 : String := "MergeJudge$Tape"
def TX7 : u_T := fun k => match k with
  | 0 => ("MergeJudge$Tape", "bytes", "[B", true)
  | _ => ("MergeJudge$Tape", "size", "I", false)
def tyX7 : Nat → FieldType := fun k => match k with
  | 0 => .array .byte
  | _ => .int
abbrev wsX70 : List Cond := u_ws RX7 TX7 2
theorem nmX7 : ∀ a, a < 2 → ∀ b, b < 2 → a ≠ b → (TX7 a).2.1 ≠ (TX7 b).2.1 := by decide +kernel
theorem tyX7_ok : ∀ k, k < 2 → parseFieldDescriptor (TX7 k).2.2.1 = some (tyX7 k) := by decide +kernel
abbrev cX7_init : ByteArray := prog_9_method_1_code
def yX7_init : MethodName := ⟨RX7, "<init>", "()V"⟩
abbrev cX7_put : ByteArray := prog_9_method_2_code
def yX7_put : MethodName := ⟨RX7, "put", "(I)V"⟩
def RX8 : String := "MergeJudge"
def TX8 : u_T := fun k => match k with
  | 0 => ("MergeJudge", "tape", "LMergeJudge$Tape;", true)
  | 1 => ("MergeJudge", "draft", "LMergeJudge$Base;", true)
  | 2 => ("MergeJudge", "told", "LMergeJudge$Base;", true)
  | 3 => ("MergeJudge", "reader", "LMergeJudge$Reader;", true)
  | 4 => ("MergeJudge", "space", "LMergeJudge$Space;", true)
  | 5 => ("MergeJudge", "judge", "LMergeJudge$Judge;", true)
  | 6 => ("MergeJudge", "chances", "LMergeJudge$Chances;", true)
  | 7 => ("MergeJudge", "images", "[LMergeJudge$Base;", true)
  | 8 => ("MergeJudge", "kept", "[Z", true)
  | _ => ("MergeJudge", "slots", "[LMergeJudge$Slot;", true)
def tyX8 : Nat → FieldType := fun k => match k with
  | 0 => .object "MergeJudge$Tape"
  | 1 => .object "MergeJudge$Base"
  | 2 => .object "MergeJudge$Base"
  | 3 => .object "MergeJudge$Reader"
  | 4 => .object "MergeJudge$Space"
  | 5 => .object "MergeJudge$Judge"
  | 6 => .object "MergeJudge$Chances"
  | 7 => .array (.object "MergeJudge$Base")
  | 8 => .array .boolean
  | _ => .array (.object "MergeJudge$Slot")
abbrev wsX80 : List Cond := u_ws RX8 TX8 10
theorem nmX8 : ∀ a, a < 10 → ∀ b, b < 10 → a ≠ b → (TX8 a).2.1 ≠ (TX8 b).2.1 := by decide +kernel
theorem tyX8_ok : ∀ k, k < 10 → parseFieldDescriptor (TX8 k).2.2.1 = some (tyX8 k) := by decide +kernel
abbrev cX8_init : ByteArray := prog_1_method_1_code
def yX8_init : MethodName := ⟨RX8, "<init>", "()V"⟩
abbrev cX8_feed : ByteArray := prog_1_method_2_code
def yX8_feed : MethodName := ⟨RX8, "feed", "(IIIII)I"⟩
abbrev cX8_end : ByteArray := prog_1_method_3_code
def yX8_end : MethodName := ⟨RX8, "end", "(I)I"⟩
abbrev cX8_base : ByteArray := prog_1_method_4_code
def yX8_base : MethodName := ⟨RX8, "base", "()I"⟩
abbrev cX8_fault : ByteArray := prog_1_method_5_code
def yX8_fault : MethodName := ⟨RX8, "fault", "(I)I"⟩
abbrev cX8_cell : ByteArray := prog_1_method_6_code
def yX8_cell : MethodName := ⟨RX8, "cell", "(I)I"⟩
abbrev cX8_rule : ByteArray := prog_1_method_7_code
def yX8_rule : MethodName := ⟨RX8, "rule", "(II)I"⟩
abbrev cX8_op : ByteArray := prog_1_method_8_code
def yX8_op : MethodName := ⟨RX8, "op", "(II)I"⟩
abbrev cX8_states : ByteArray := prog_1_method_9_code
def yX8_states : MethodName := ⟨RX8, "states", "()I"⟩
abbrev cX8_value : ByteArray := prog_1_method_10_code
def yX8_value : MethodName := ⟨RX8, "value", "(II)I"⟩
abbrev cX8_holds : ByteArray := prog_1_method_11_code
def yX8_holds : MethodName := ⟨RX8, "holds", "(II)I"⟩
abbrev cX8_dropped : ByteArray := prog_1_method_12_code
def yX8_dropped : MethodName := ⟨RX8, "dropped", "()I"⟩
abbrev cX8_locked : ByteArray := prog_1_method_13_code
def yX8_locked : MethodName := ⟨RX8, "locked", "()I"⟩
abbrev cX8_valid : ByteArray := prog_1_method_14_code
def yX8_valid : MethodName := ⟨RX8, "valid", "(I)I"⟩
abbrev cX8_valids : ByteArray := prog_1_method_15_code
def yX8_valids : MethodName := ⟨RX8, "valids", "()I"⟩
abbrev cX8_breaks : ByteArray := prog_1_method_16_code
def yX8_breaks : MethodName := ⟨RX8, "breaks", "(I)I"⟩
abbrev cX8_weight : ByteArray := prog_1_method_17_code
def yX8_weight : MethodName := ⟨RX8, "weight", "(I)I"⟩
abbrev cX8_nearest : ByteArray := prog_1_method_18_code
def yX8_nearest : MethodName := ⟨RX8, "nearest", "(I)I"⟩
abbrev cX8_hard : ByteArray := prog_1_method_19_code
def yX8_hard : MethodName := ⟨RX8, "hard", "()I"⟩
abbrev cX8_spare : ByteArray := prog_1_method_20_code
def yX8_spare : MethodName := ⟨RX8, "spare", "(I)I"⟩
abbrev cX8_room : ByteArray := prog_1_method_21_code
def yX8_room : MethodName := ⟨RX8, "room", "(I)I"⟩
abbrev cX8_does : ByteArray := prog_1_method_22_code
def yX8_does : MethodName := ⟨RX8, "does", "(II)I"⟩
abbrev cX8_works : ByteArray := prog_1_method_23_code
def yX8_works : MethodName := ⟨RX8, "works", "(I)I"⟩
abbrev cX8_commute : ByteArray := prog_1_method_24_code
def yX8_commute : MethodName := ⟨RX8, "commute", "(II)I"⟩
abbrev cX8_table : ByteArray := prog_1_method_25_code
def yX8_table : MethodName := ⟨RX8, "table", "()I"⟩
abbrev cX8_opens : ByteArray := prog_1_method_26_code
def yX8_opens : MethodName := ⟨RX8, "opens", "(I)I"⟩
abbrev cX8_dead : ByteArray := prog_1_method_27_code
def yX8_dead : MethodName := ⟨RX8, "dead", "()I"⟩
abbrev cX8_merge : ByteArray := prog_1_method_28_code
def yX8_merge : MethodName := ⟨RX8, "merge", "(III)I"⟩
abbrev cX8_even : ByteArray := prog_1_method_29_code
def yX8_even : MethodName := ⟨RX8, "even", "(III)I"⟩
abbrev cX8_clashes : ByteArray := prog_1_method_30_code
def yX8_clashes : MethodName := ⟨RX8, "clashes", "(II)I"⟩
abbrev cX8_reach : ByteArray := prog_1_method_31_code
def yX8_reach : MethodName := ⟨RX8, "reach", "(II)I"⟩
abbrev cX8_far : ByteArray := prog_1_method_32_code
def yX8_far : MethodName := ⟨RX8, "far", "(II)I"⟩
abbrev cX8_step : ByteArray := prog_1_method_33_code
def yX8_step : MethodName := ⟨RX8, "step", "(II)I"⟩
abbrev cX8_freely : ByteArray := prog_1_method_34_code
def yX8_freely : MethodName := ⟨RX8, "freely", "(II)I"⟩
abbrev cX8_asked : ByteArray := prog_1_method_35_code
def yX8_asked : MethodName := ⟨RX8, "asked", "(II)I"⟩
abbrev cX8_bad : ByteArray := prog_1_method_36_code
def yX8_bad : MethodName := ⟨RX8, "bad", "(II)I"⟩
abbrev cX8_all : ByteArray := prog_1_method_37_code
def yX8_all : MethodName := ⟨RX8, "all", "(I)I"⟩
abbrev cX8_pairs : ByteArray := prog_1_method_38_code
def yX8_pairs : MethodName := ⟨RX8, "pairs", "(I)I"⟩
abbrev cX8_safe : ByteArray := prog_1_method_39_code
def yX8_safe : MethodName := ⟨RX8, "safe", "(I)I"⟩
abbrev cX8_bound : ByteArray := prog_1_method_40_code
def yX8_bound : MethodName := ⟨RX8, "bound", "()I"⟩
abbrev cX8_least : ByteArray := prog_1_method_41_code
def yX8_least : MethodName := ⟨RX8, "least", "(II)I"⟩
abbrev cX8_culprit : ByteArray := prog_1_method_42_code
def yX8_culprit : MethodName := ⟨RX8, "culprit", "(I)I"⟩
abbrev cX8_hits : ByteArray := prog_1_method_43_code
def yX8_hits : MethodName := ⟨RX8, "hits", "(II)I"⟩
abbrev cX8_worst : ByteArray := prog_1_method_44_code
def yX8_worst : MethodName := ⟨RX8, "worst", "(I)I"⟩
abbrev cX8_bare : ByteArray := prog_1_method_45_code
def yX8_bare : MethodName := ⟨RX8, "bare", "(I)I"⟩
abbrev cX8_calm : ByteArray := prog_1_method_46_code
def yX8_calm : MethodName := ⟨RX8, "calm", "(I)I"⟩
abbrev cX8_hot : ByteArray := prog_1_method_47_code
def yX8_hot : MethodName := ⟨RX8, "hot", "(I)I"⟩
abbrev cX8_known : ByteArray := prog_1_method_48_code
def yX8_known : MethodName := ⟨RX8, "known", "(I)I"⟩
abbrev cX8_alone : ByteArray := prog_1_method_49_code
def yX8_alone : MethodName := ⟨RX8, "alone", "(II)I"⟩
abbrev cX8_fine : ByteArray := prog_1_method_50_code
def yX8_fine : MethodName := ⟨RX8, "fine", "(I)I"⟩
abbrev cX8_fewest : ByteArray := prog_1_method_51_code
def yX8_fewest : MethodName := ⟨RX8, "fewest", "(I)I"⟩
abbrev cX8_locks : ByteArray := prog_1_method_52_code
def yX8_locks : MethodName := ⟨RX8, "locks", "(I)I"⟩
abbrev cX8_needed : ByteArray := prog_1_method_53_code
def yX8_needed : MethodName := ⟨RX8, "needed", "(I)I"⟩
abbrev cX8_blame : ByteArray := prog_1_method_54_code
def yX8_blame : MethodName := ⟨RX8, "blame", "()I"⟩
abbrev cX8_cure : ByteArray := prog_1_method_55_code
def yX8_cure : MethodName := ⟨RX8, "cure", "()I"⟩
abbrev cX8_fits : ByteArray := prog_1_method_56_code
def yX8_fits : MethodName := ⟨RX8, "fits", "(I)I"⟩
abbrev cX8_which : ByteArray := prog_1_method_57_code
def yX8_which : MethodName := ⟨RX8, "which", "(I)I"⟩
abbrev cX8_laws : ByteArray := prog_1_method_58_code
def yX8_laws : MethodName := ⟨RX8, "laws", "(I)I"⟩
abbrev cX8_by : ByteArray := prog_1_method_59_code
def yX8_by : MethodName := ⟨RX8, "by", "(I)I"⟩
abbrev cX8_law : ByteArray := prog_1_method_60_code
def yX8_law : MethodName := ⟨RX8, "law", "()I"⟩
abbrev cX8_worth : ByteArray := prog_1_method_61_code
def yX8_worth : MethodName := ⟨RX8, "worth", "(I)I"⟩
abbrev cX8_share : ByteArray := prog_1_method_62_code
def yX8_share : MethodName := ⟨RX8, "share", "(II)I"⟩
abbrev cX8_rests : ByteArray := prog_1_method_63_code
def yX8_rests : MethodName := ⟨RX8, "rests", "(II)I"⟩
abbrev cX8_gets : ByteArray := prog_1_method_64_code
def yX8_gets : MethodName := ⟨RX8, "gets", "(IIII)I"⟩
abbrev cX8_chance : ByteArray := prog_1_method_65_code
def yX8_chance : MethodName := ⟨RX8, "chance", "(I)J"⟩
abbrev cX8_mean : ByteArray := prog_1_method_66_code
def yX8_mean : MethodName := ⟨RX8, "mean", "(I)J"⟩
abbrev cX8_drawn : ByteArray := prog_1_method_67_code
def yX8_drawn : MethodName := ⟨RX8, "drawn", "(II)I"⟩
abbrev cX8_luck : ByteArray := prog_1_method_68_code
def yX8_luck : MethodName := ⟨RX8, "luck", "(II)I"⟩
abbrev cX8_lock : ByteArray := prog_1_method_69_code
def yX8_lock : MethodName := ⟨RX8, "lock", "(I)I"⟩
abbrev cX8_frees : ByteArray := prog_1_method_70_code
def yX8_frees : MethodName := ⟨RX8, "frees", "(I)I"⟩
abbrev cX8_drops : ByteArray := prog_1_method_71_code
def yX8_drops : MethodName := ⟨RX8, "drops", "(I)I"⟩
abbrev cX8_undo : ByteArray := prog_1_method_72_code
def yX8_undo : MethodName := ⟨RX8, "undo", "()I"⟩
abbrev cX8_anew : ByteArray := prog_1_method_73_code
def yX8_anew : MethodName := ⟨RX8, "anew", "()I"⟩
abbrev cX8_rate : ByteArray := prog_1_method_74_code
def yX8_rate : MethodName := ⟨RX8, "rate", "(II)I"⟩
abbrev cX8_count : ByteArray := prog_1_method_75_code
def yX8_count : MethodName := ⟨RX8, "count", "(I)I"⟩
abbrev cX8_image : ByteArray := prog_1_method_76_code
def yX8_image : MethodName := ⟨RX8, "image", "(I)I"⟩
abbrev cX8_back : ByteArray := prog_1_method_77_code
def yX8_back : MethodName := ⟨RX8, "back", "(I)I"⟩
abbrev cX8_row : ByteArray := prog_1_method_78_code
def yX8_row : MethodName := ⟨RX8, "row", "(III)I"⟩
abbrev cX8_write : ByteArray := prog_1_method_79_code
def yX8_write : MethodName := ⟨RX8, "write", "(IIJ)I"⟩
abbrev cX8_paste : ByteArray := prog_1_method_80_code
def yX8_paste : MethodName := ⟨RX8, "paste", "(IIIII)I"⟩
abbrev cX8_isTold : ByteArray := prog_1_method_81_code
def yX8_isTold : MethodName := ⟨RX8, "isTold", "()Z"⟩
abbrev cX8_noCell : ByteArray := prog_1_method_82_code
def yX8_noCell : MethodName := ⟨RX8, "noCell", "(I)Z"⟩
abbrev cX8_noRule : ByteArray := prog_1_method_83_code
def yX8_noRule : MethodName := ⟨RX8, "noRule", "(I)Z"⟩
abbrev cX8_noOp : ByteArray := prog_1_method_84_code
def yX8_noOp : MethodName := ⟨RX8, "noOp", "(I)Z"⟩
abbrev cX8_noState : ByteArray := prog_1_method_85_code
def yX8_noState : MethodName := ⟨RX8, "noState", "(I)Z"⟩
abbrev cX8_noDepth : ByteArray := prog_1_method_86_code
def yX8_noDepth : MethodName := ⟨RX8, "noDepth", "(I)Z"⟩
abbrev cX8_noGame : ByteArray := prog_1_method_87_code
def yX8_noGame : MethodName := ⟨RX8, "noGame", "(II)Z"⟩
abbrev cX8_noSlot : ByteArray := prog_1_method_88_code
def yX8_noSlot : MethodName := ⟨RX8, "noSlot", "(I)Z"⟩
abbrev cX8_become : ByteArray := prog_1_method_89_code
def yX8_become : MethodName := ⟨RX8, "become", "(LMergeJudge$Base;)V"⟩
abbrev cX8_act : ByteArray := prog_1_method_90_code
def yX8_act : MethodName := ⟨RX8, "act", "(II)I"⟩
abbrev cX8_slotsInUse : ByteArray := prog_1_method_91_code
def yX8_slotsInUse : MethodName := ⟨RX8, "slotsInUse", "()I"⟩
abbrev cX8_refusalOfRow : ByteArray := prog_1_method_92_code
def yX8_refusalOfRow : MethodName := ⟨RX8, "refusalOfRow", "(I)I"⟩
def RX9 : String := "MergeJudgeModel"
def TX9 : u_T := fun k => match k with
  | 0 => ("MergeJudgeModel", "thrown", "I", false)
  | 1 => ("MergeJudgeModel", "world", "[I", true)
  | 2 => ("MergeJudgeModel", "images", "[I", true)
  | 3 => ("MergeJudgeModel", "hasImage", "[Z", true)
  | 4 => ("MergeJudgeModel", "tape", "[B", true)
  | 5 => ("MergeJudgeModel", "taped", "I", false)
  | 6 => ("MergeJudgeModel", "five", "[I", true)
  | 7 => ("MergeJudgeModel", "size", "I", false)
  | 8 => ("MergeJudgeModel", "at", "I", false)
  | 9 => ("MergeJudgeModel", "from", "I", false)
  | 10 => ("MergeJudgeModel", "token", "I", false)
  | 11 => ("MergeJudgeModel", "value", "I", false)
  | 12 => ("MergeJudgeModel", "faultKind", "I", false)
  | 13 => ("MergeJudgeModel", "faultPlace", "I", false)
  | 14 => ("MergeJudgeModel", "fresh", "[I", true)
  | 15 => ("MergeJudgeModel", "mergedBy", "[I", true)
  | 16 => ("MergeJudgeModel", "lawNow", "I", false)
  | 17 => ("MergeJudgeModel", "lockedNow", "I", false)
  | 18 => ("MergeJudgeModel", "droppedNow", "I", false)
  | 19 => ("MergeJudgeModel", "isValid", "[Z", true)
  | 20 => ("MergeJudgeModel", "goes", "[I", true)
  | 21 => ("MergeJudgeModel", "farNow", "[I", true)
  | 22 => ("MergeJudgeModel", "freeNow", "[I", true)
  | 23 => ("MergeJudgeModel", "isPair", "[Z", true)
  | 24 => ("MergeJudgeModel", "hitsBy", "[I", true)
  | 25 => ("MergeJudgeModel", "breakMany", "I", false)
  | 26 => ("MergeJudgeModel", "leastOps", "I", false)
  | 27 => ("MergeJudgeModel", "leastBase", "I", false)
  | 28 => ("MergeJudgeModel", "leastFirst", "I", false)
  | 29 => ("MergeJudgeModel", "leastSecond", "I", false)
  | 30 => ("MergeJudgeModel", "bestLocks", "I", false)
  | 31 => ("MergeJudgeModel", "inEach", "I", false)
  | 32 => ("MergeJudgeModel", "fitMany", "I", false)
  | 33 => ("MergeJudgeModel", "fitFirst", "I", false)
  | 34 => ("MergeJudgeModel", "worthBy", "[I", true)
  | 35 => ("MergeJudgeModel", "oftenAll", "J", false)
  | 36 => ("MergeJudgeModel", "oftenSafe", "J", false)
  | 37 => ("MergeJudgeModel", "oftenValid", "J", false)
  | 38 => ("MergeJudgeModel", "many", "[I", true)
  | 39 => ("MergeJudgeModel", "width", "[I", true)
  | 40 => ("MergeJudgeModel", "numbers", "[J", true)
  | _ => ("MergeJudgeModel", "moving", "[J", true)
def tyX9 : Nat → FieldType := fun k => match k with
  | 0 => .int
  | 1 => .array .int
  | 2 => .array .int
  | 3 => .array .boolean
  | 4 => .array .byte
  | 5 => .int
  | 6 => .array .int
  | 7 => .int
  | 8 => .int
  | 9 => .int
  | 10 => .int
  | 11 => .int
  | 12 => .int
  | 13 => .int
  | 14 => .array .int
  | 15 => .array .int
  | 16 => .int
  | 17 => .int
  | 18 => .int
  | 19 => .array .boolean
  | 20 => .array .int
  | 21 => .array .int
  | 22 => .array .int
  | 23 => .array .boolean
  | 24 => .array .int
  | 25 => .int
  | 26 => .int
  | 27 => .int
  | 28 => .int
  | 29 => .int
  | 30 => .int
  | 31 => .int
  | 32 => .int
  | 33 => .int
  | 34 => .array .int
  | 35 => .long
  | 36 => .long
  | 37 => .long
  | 38 => .array .int
  | 39 => .array .int
  | 40 => .array .long
  | _ => .array .long
abbrev wsX90 : List Cond := u_ws RX9 TX9 42
theorem nmX9 : ∀ a, a < 42 → ∀ b, b < 42 → a ≠ b → (TX9 a).2.1 ≠ (TX9 b).2.1 := by decide +kernel
theorem tyX9_ok : ∀ k, k < 42 → parseFieldDescriptor (TX9 k).2.2.1 = some (tyX9 k) := by decide +kernel
abbrev cX9_init : ByteArray := prog_11_method_1_code
def yX9_init : MethodName := ⟨RX9, "<init>", "()V"⟩
abbrev cX9_in : ByteArray := prog_11_method_3_code
def yX9_in : MethodName := ⟨RX9, "in", "(JJJ)Z"⟩
abbrev cX9_bits : ByteArray := prog_11_method_4_code
def yX9_bits : MethodName := ⟨RX9, "bits", "(I)I"⟩
abbrev cX9_bit : ByteArray := prog_11_method_5_code
def yX9_bit : MethodName := ⟨RX9, "bit", "(II)I"⟩
abbrev cX9_image : ByteArray := prog_11_method_6_code
def yX9_image : MethodName := ⟨RX9, "image", "(I)I"⟩
abbrev cX9_back : ByteArray := prog_11_method_7_code
def yX9_back : MethodName := ⟨RX9, "back", "(I)I"⟩
abbrev cX9_isBase : ByteArray := prog_11_method_8_code
def yX9_isBase : MethodName := ⟨RX9, "isBase", "()Z"⟩
abbrev cX9_cells : ByteArray := prog_11_method_9_code
def yX9_cells : MethodName := ⟨RX9, "cells", "()I"⟩
abbrev cX9_rules : ByteArray := prog_11_method_10_code
def yX9_rules : MethodName := ⟨RX9, "rules", "()I"⟩
abbrev cX9_ops : ByteArray := prog_11_method_11_code
def yX9_ops : MethodName := ⟨RX9, "ops", "()I"⟩
abbrev cX9_allRules : ByteArray := prog_11_method_12_code
def yX9_allRules : MethodName := ⟨RX9, "allRules", "()I"⟩
abbrev cX9_allOps : ByteArray := prog_11_method_13_code
def yX9_allOps : MethodName := ⟨RX9, "allOps", "()I"⟩
abbrev cX9_isCell : ByteArray := prog_11_method_14_code
def yX9_isCell : MethodName := ⟨RX9, "isCell", "(I)Z"⟩
abbrev cX9_isRule : ByteArray := prog_11_method_15_code
def yX9_isRule : MethodName := ⟨RX9, "isRule", "(I)Z"⟩
abbrev cX9_isOp : ByteArray := prog_11_method_16_code
def yX9_isOp : MethodName := ⟨RX9, "isOp", "(I)Z"⟩
abbrev cX9_isDepth : ByteArray := prog_11_method_17_code
def yX9_isDepth : MethodName := ⟨RX9, "isDepth", "(I)Z"⟩
abbrev cX9_stateMany : ByteArray := prog_11_method_18_code
def yX9_stateMany : MethodName := ⟨RX9, "stateMany", "()I"⟩
abbrev cX9_isState : ByteArray := prog_11_method_19_code
def yX9_isState : MethodName := ⟨RX9, "isState", "(J)Z"⟩
abbrev cX9_ruleOf : ByteArray := prog_11_method_20_code
def yX9_ruleOf : MethodName := ⟨RX9, "ruleOf", "(II)I"⟩
abbrev cX9_opOf : ByteArray := prog_11_method_21_code
def yX9_opOf : MethodName := ⟨RX9, "opOf", "(II)I"⟩
abbrev cX9_ruleNumbers : ByteArray := prog_11_method_22_code
def yX9_ruleNumbers : MethodName := ⟨RX9, "ruleNumbers", "(I)I"⟩
abbrev cX9_opNumbers : ByteArray := prog_11_method_23_code
def yX9_opNumbers : MethodName := ⟨RX9, "opNumbers", "(I)I"⟩
abbrev cX9_feed : ByteArray := prog_11_method_24_code
def yX9_feed : MethodName := ⟨RX9, "feed", "(IIIII)I"⟩
abbrev cX9_end : ByteArray := prog_11_method_25_code
def yX9_end : MethodName := ⟨RX9, "end", "(I)I"⟩
abbrev cX9_see : ByteArray := prog_11_method_26_code
def yX9_see : MethodName := ⟨RX9, "see", "(I)I"⟩
abbrev cX9_advance : ByteArray := prog_11_method_27_code
def yX9_advance : MethodName := ⟨RX9, "advance", "()V"⟩
abbrev cX9_good : ByteArray := prog_11_method_28_code
def yX9_good : MethodName := ⟨RX9, "good", "()Z"⟩
abbrev cX9_errs : ByteArray := prog_11_method_29_code
def yX9_errs : MethodName := ⟨RX9, "errs", "(I)V"⟩
abbrev cX9_is : ByteArray := prog_11_method_30_code
def yX9_is : MethodName := ⟨RX9, "is", "(Ljava/lang/String;)Z"⟩
abbrev cX9_takes : ByteArray := prog_11_method_31_code
def yX9_takes : MethodName := ⟨RX9, "takes", "(Ljava/lang/String;)Z"⟩
abbrev cX9_expects : ByteArray := prog_11_method_32_code
def yX9_expects : MethodName := ⟨RX9, "expects", "(Ljava/lang/String;)V"⟩
abbrev cX9_number : ByteArray := prog_11_method_33_code
def yX9_number : MethodName := ⟨RX9, "number", "(II)I"⟩
abbrev cX9_toldBy : ByteArray := prog_11_method_34_code
def yX9_toldBy : MethodName := ⟨RX9, "toldBy", "(Ljava/lang/String;II)I"⟩
abbrev cX9_fault : ByteArray := prog_11_method_35_code
def yX9_fault : MethodName := ⟨RX9, "fault", "(I)I"⟩
abbrev cX9_readFirst : ByteArray := prog_11_method_36_code
def yX9_readFirst : MethodName := ⟨RX9, "readFirst", "()V"⟩
abbrev cX9_readCell : ByteArray := prog_11_method_37_code
def yX9_readCell : MethodName := ⟨RX9, "readCell", "()I"⟩
abbrev cX9_readOther : ByteArray := prog_11_method_38_code
def yX9_readOther : MethodName := ⟨RX9, "readOther", "(I)I"⟩
abbrev cX9_kindWord : ByteArray := prog_11_method_39_code
def yX9_kindWord : MethodName := ⟨RX9, "kindWord", "(Ljava/lang/String;Ljava/lang/String;Ljava/lang/String;Ljava/lang/String;Ljava/lang/String;Ljava/lang/String;)I"⟩
abbrev cX9_readKind : ByteArray := prog_11_method_40_code
def yX9_readKind : MethodName := ⟨RX9, "readKind", "(Ljava/lang/String;Ljava/lang/String;Ljava/lang/String;Ljava/lang/String;Ljava/lang/String;Ljava/lang/String;)I"⟩
abbrev cX9_readRule : ByteArray := prog_11_method_41_code
def yX9_readRule : MethodName := ⟨RX9, "readRule", "()V"⟩
abbrev cX9_readOp : ByteArray := prog_11_method_42_code
def yX9_readOp : MethodName := ⟨RX9, "readOp", "()V"⟩
abbrev cX9_isFull : ByteArray := prog_11_method_43_code
def yX9_isFull : MethodName := ⟨RX9, "isFull", "()Z"⟩
abbrev cX9_readNext : ByteArray := prog_11_method_44_code
def yX9_readNext : MethodName := ⟨RX9, "readNext", "()V"⟩
abbrev cX9_readLine : ByteArray := prog_11_method_45_code
def yX9_readLine : MethodName := ⟨RX9, "readLine", "()V"⟩
abbrev cX9_base : ByteArray := prog_11_method_46_code
def yX9_base : MethodName := ⟨RX9, "base", "()I"⟩
abbrev cX9_cell : ByteArray := prog_11_method_47_code
def yX9_cell : MethodName := ⟨RX9, "cell", "(I)I"⟩
abbrev cX9_rule : ByteArray := prog_11_method_48_code
def yX9_rule : MethodName := ⟨RX9, "rule", "(II)I"⟩
abbrev cX9_op : ByteArray := prog_11_method_49_code
def yX9_op : MethodName := ⟨RX9, "op", "(II)I"⟩
abbrev cX9_asItIs : ByteArray := prog_11_method_50_code
def yX9_asItIs : MethodName := ⟨RX9, "asItIs", "()V"⟩
abbrev cX9_valueOf : ByteArray := prog_11_method_51_code
def yX9_valueOf : MethodName := ⟨RX9, "valueOf", "(II)I"⟩
abbrev cX9_holdsIn : ByteArray := prog_11_method_52_code
def yX9_holdsIn : MethodName := ⟨RX9, "holdsIn", "(II)Z"⟩
abbrev cX9_brokenBy : ByteArray := prog_11_method_53_code
def yX9_brokenBy : MethodName := ⟨RX9, "brokenBy", "(I)I"⟩
abbrev cX9_withValue : ByteArray := prog_11_method_54_code
def yX9_withValue : MethodName := ⟨RX9, "withValue", "(III)I"⟩
abbrev cX9_added : ByteArray := prog_11_method_55_code
def yX9_added : MethodName := ⟨RX9, "added", "(III)I"⟩
abbrev cX9_doneBy : ByteArray := prog_11_method_56_code
def yX9_doneBy : MethodName := ⟨RX9, "doneBy", "(II)I"⟩
abbrev cX9_layStates : ByteArray := prog_11_method_57_code
def yX9_layStates : MethodName := ⟨RX9, "layStates", "()V"⟩
abbrev cX9_goesTo : ByteArray := prog_11_method_58_code
def yX9_goesTo : MethodName := ⟨RX9, "goesTo", "(II)I"⟩
abbrev cX9_asks : ByteArray := prog_11_method_59_code
def yX9_asks : MethodName := ⟨RX9, "asks", "()Z"⟩
abbrev cX9_validMany : ByteArray := prog_11_method_60_code
def yX9_validMany : MethodName := ⟨RX9, "validMany", "()I"⟩
abbrev cX9_states : ByteArray := prog_11_method_61_code
def yX9_states : MethodName := ⟨RX9, "states", "()I"⟩
abbrev cX9_value : ByteArray := prog_11_method_62_code
def yX9_value : MethodName := ⟨RX9, "value", "(II)I"⟩
abbrev cX9_weight : ByteArray := prog_11_method_63_code
def yX9_weight : MethodName := ⟨RX9, "weight", "(I)I"⟩
abbrev cX9_holds : ByteArray := prog_11_method_64_code
def yX9_holds : MethodName := ⟨RX9, "holds", "(II)I"⟩
abbrev cX9_dropped : ByteArray := prog_11_method_65_code
def yX9_dropped : MethodName := ⟨RX9, "dropped", "()I"⟩
abbrev cX9_locked : ByteArray := prog_11_method_66_code
def yX9_locked : MethodName := ⟨RX9, "locked", "()I"⟩
abbrev cX9_valid : ByteArray := prog_11_method_67_code
def yX9_valid : MethodName := ⟨RX9, "valid", "(I)I"⟩
abbrev cX9_valids : ByteArray := prog_11_method_68_code
def yX9_valids : MethodName := ⟨RX9, "valids", "()I"⟩
abbrev cX9_breaks : ByteArray := prog_11_method_69_code
def yX9_breaks : MethodName := ⟨RX9, "breaks", "(I)I"⟩
abbrev cX9_nearest : ByteArray := prog_11_method_70_code
def yX9_nearest : MethodName := ⟨RX9, "nearest", "(I)I"⟩
abbrev cX9_hard : ByteArray := prog_11_method_71_code
def yX9_hard : MethodName := ⟨RX9, "hard", "()I"⟩
abbrev cX9_spare : ByteArray := prog_11_method_72_code
def yX9_spare : MethodName := ⟨RX9, "spare", "(I)I"⟩
abbrev cX9_room : ByteArray := prog_11_method_73_code
def yX9_room : MethodName := ⟨RX9, "room", "(I)I"⟩
abbrev cX9_does : ByteArray := prog_11_method_74_code
def yX9_does : MethodName := ⟨RX9, "does", "(II)I"⟩
abbrev cX9_worksOf : ByteArray := prog_11_method_75_code
def yX9_worksOf : MethodName := ⟨RX9, "worksOf", "(I)I"⟩
abbrev cX9_works : ByteArray := prog_11_method_76_code
def yX9_works : MethodName := ⟨RX9, "works", "(I)I"⟩
abbrev cX9_opensOf : ByteArray := prog_11_method_77_code
def yX9_opensOf : MethodName := ⟨RX9, "opensOf", "(I)I"⟩
abbrev cX9_opens : ByteArray := prog_11_method_78_code
def yX9_opens : MethodName := ⟨RX9, "opens", "(I)I"⟩
abbrev cX9_dead : ByteArray := prog_11_method_79_code
def yX9_dead : MethodName := ⟨RX9, "dead", "()I"⟩
abbrev cX9_areCommuting : ByteArray := prog_11_method_80_code
def yX9_areCommuting : MethodName := ⟨RX9, "areCommuting", "(II)Z"⟩
abbrev cX9_commute : ByteArray := prog_11_method_81_code
def yX9_commute : MethodName := ⟨RX9, "commute", "(II)I"⟩
abbrev cX9_table : ByteArray := prog_11_method_82_code
def yX9_table : MethodName := ⟨RX9, "table", "()I"⟩
abbrev cX9_lateOf : ByteArray := prog_11_method_83_code
def yX9_lateOf : MethodName := ⟨RX9, "lateOf", "(III)I"⟩
abbrev cX9_mergedOf : ByteArray := prog_11_method_84_code
def yX9_mergedOf : MethodName := ⟨RX9, "mergedOf", "(IIII)I"⟩
abbrev cX9_mergeOf : ByteArray := prog_11_method_85_code
def yX9_mergeOf : MethodName := ⟨RX9, "mergeOf", "(III)I"⟩
abbrev cX9_merge : ByteArray := prog_11_method_86_code
def yX9_merge : MethodName := ⟨RX9, "merge", "(III)I"⟩
abbrev cX9_even : ByteArray := prog_11_method_87_code
def yX9_even : MethodName := ⟨RX9, "even", "(III)I"⟩
abbrev cX9_clashes : ByteArray := prog_11_method_88_code
def yX9_clashes : MethodName := ⟨RX9, "clashes", "(II)I"⟩
abbrev cX9_layFar : ByteArray := prog_11_method_89_code
def yX9_layFar : MethodName := ⟨RX9, "layFar", "([III)V"⟩
abbrev cX9_laySides : ByteArray := prog_11_method_90_code
def yX9_laySides : MethodName := ⟨RX9, "laySides", "(I)V"⟩
abbrev cX9_within : ByteArray := prog_11_method_91_code
def yX9_within : MethodName := ⟨RX9, "within", "([II)I"⟩
abbrev cX9_orNone : ByteArray := prog_11_method_92_code
def yX9_orNone : MethodName := ⟨RX9, "orNone", "(II)I"⟩
abbrev cX9_asksSides : ByteArray := prog_11_method_93_code
def yX9_asksSides : MethodName := ⟨RX9, "asksSides", "(I)Z"⟩
abbrev cX9_reach : ByteArray := prog_11_method_94_code
def yX9_reach : MethodName := ⟨RX9, "reach", "(II)I"⟩
abbrev cX9_freely : ByteArray := prog_11_method_95_code
def yX9_freely : MethodName := ⟨RX9, "freely", "(II)I"⟩
abbrev cX9_far : ByteArray := prog_11_method_96_code
def yX9_far : MethodName := ⟨RX9, "far", "(II)I"⟩
abbrev cX9_step : ByteArray := prog_11_method_97_code
def yX9_step : MethodName := ⟨RX9, "step", "(II)I"⟩
abbrev cX9_asked : ByteArray := prog_11_method_98_code
def yX9_asked : MethodName := ⟨RX9, "asked", "(II)I"⟩
abbrev cX9_keepBreak : ByteArray := prog_11_method_99_code
def yX9_keepBreak : MethodName := ⟨RX9, "keepBreak", "(III)V"⟩
abbrev cX9_findFrom : ByteArray := prog_11_method_100_code
def yX9_findFrom : MethodName := ⟨RX9, "findFrom", "(II)V"⟩
abbrev cX9_begins : ByteArray := prog_11_method_101_code
def yX9_begins : MethodName := ⟨RX9, "begins", "()V"⟩
abbrev cX9_breaksFrom : ByteArray := prog_11_method_102_code
def yX9_breaksFrom : MethodName := ⟨RX9, "breaksFrom", "(II)I"⟩
abbrev cX9_breaksIn : ByteArray := prog_11_method_103_code
def yX9_breaksIn : MethodName := ⟨RX9, "breaksIn", "(I)I"⟩
abbrev cX9_asksIn : ByteArray := prog_11_method_104_code
def yX9_asksIn : MethodName := ⟨RX9, "asksIn", "(I)Z"⟩
abbrev cX9_bad : ByteArray := prog_11_method_105_code
def yX9_bad : MethodName := ⟨RX9, "bad", "(II)I"⟩
abbrev cX9_all : ByteArray := prog_11_method_106_code
def yX9_all : MethodName := ⟨RX9, "all", "(I)I"⟩
abbrev cX9_pairs : ByteArray := prog_11_method_107_code
def yX9_pairs : MethodName := ⟨RX9, "pairs", "(I)I"⟩
abbrev cX9_safe : ByteArray := prog_11_method_108_code
def yX9_safe : MethodName := ⟨RX9, "safe", "(I)I"⟩
abbrev cX9_bound : ByteArray := prog_11_method_109_code
def yX9_bound : MethodName := ⟨RX9, "bound", "()I"⟩
abbrev cX9_bare : ByteArray := prog_11_method_110_code
def yX9_bare : MethodName := ⟨RX9, "bare", "(I)I"⟩
abbrev cX9_calm : ByteArray := prog_11_method_111_code
def yX9_calm : MethodName := ⟨RX9, "calm", "(I)I"⟩
abbrev cX9_hot : ByteArray := prog_11_method_112_code
def yX9_hot : MethodName := ⟨RX9, "hot", "(I)I"⟩
abbrev cX9_least : ByteArray := prog_11_method_113_code
def yX9_least : MethodName := ⟨RX9, "least", "(II)I"⟩
abbrev cX9_culprit : ByteArray := prog_11_method_114_code
def yX9_culprit : MethodName := ⟨RX9, "culprit", "(I)I"⟩
abbrev cX9_hits : ByteArray := prog_11_method_115_code
def yX9_hits : MethodName := ⟨RX9, "hits", "(II)I"⟩
abbrev cX9_worst : ByteArray := prog_11_method_116_code
def yX9_worst : MethodName := ⟨RX9, "worst", "(I)I"⟩
abbrev cX9_known : ByteArray := prog_11_method_117_code
def yX9_known : MethodName := ⟨RX9, "known", "(I)I"⟩
abbrev cX9_isSafeBy : ByteArray := prog_11_method_118_code
def yX9_isSafeBy : MethodName := ⟨RX9, "isSafeBy", "(III)Z"⟩
abbrev cX9_alone : ByteArray := prog_11_method_119_code
def yX9_alone : MethodName := ⟨RX9, "alone", "(II)I"⟩
abbrev cX9_fine : ByteArray := prog_11_method_120_code
def yX9_fine : MethodName := ⟨RX9, "fine", "(I)I"⟩
abbrev cX9_findLocks : ByteArray := prog_11_method_121_code
def yX9_findLocks : MethodName := ⟨RX9, "findLocks", "(I)V"⟩
abbrev cX9_asksLocks : ByteArray := prog_11_method_122_code
def yX9_asksLocks : MethodName := ⟨RX9, "asksLocks", "(I)Z"⟩
abbrev cX9_fewest : ByteArray := prog_11_method_123_code
def yX9_fewest : MethodName := ⟨RX9, "fewest", "(I)I"⟩
abbrev cX9_locks : ByteArray := prog_11_method_124_code
def yX9_locks : MethodName := ⟨RX9, "locks", "(I)I"⟩
abbrev cX9_needed : ByteArray := prog_11_method_125_code
def yX9_needed : MethodName := ⟨RX9, "needed", "(I)I"⟩
abbrev cX9_breaksBy : ByteArray := prog_11_method_126_code
def yX9_breaksBy : MethodName := ⟨RX9, "breaksBy", "(I)I"⟩
abbrev cX9_blame : ByteArray := prog_11_method_127_code
def yX9_blame : MethodName := ⟨RX9, "blame", "()I"⟩
abbrev cX9_cure : ByteArray := prog_11_method_128_code
def yX9_cure : MethodName := ⟨RX9, "cure", "()I"⟩
abbrev cX9_numberAt : ByteArray := prog_11_method_129_code
def yX9_numberAt : MethodName := ⟨RX9, "numberAt", "(II)J"⟩
abbrev cX9_askSeen : ByteArray := prog_11_method_130_code
def yX9_askSeen : MethodName := ⟨RX9, "askSeen", "(I)I"⟩
abbrev cX9_layFits : ByteArray := prog_11_method_131_code
def yX9_layFits : MethodName := ⟨RX9, "layFits", "(I)V"⟩
abbrev cX9_askFits : ByteArray := prog_11_method_132_code
def yX9_askFits : MethodName := ⟨RX9, "askFits", "(I)I"⟩
abbrev cX9_fits : ByteArray := prog_11_method_133_code
def yX9_fits : MethodName := ⟨RX9, "fits", "(I)I"⟩
abbrev cX9_which : ByteArray := prog_11_method_134_code
def yX9_which : MethodName := ⟨RX9, "which", "(I)I"⟩
abbrev cX9_laws : ByteArray := prog_11_method_135_code
def yX9_laws : MethodName := ⟨RX9, "laws", "(I)I"⟩
abbrev cX9_breaksByLaw : ByteArray := prog_11_method_136_code
def yX9_breaksByLaw : MethodName := ⟨RX9, "breaksByLaw", "(I)I"⟩
abbrev cX9_by : ByteArray := prog_11_method_137_code
def yX9_by : MethodName := ⟨RX9, "by", "(I)I"⟩
abbrev cX9_law : ByteArray := prog_11_method_138_code
def yX9_law : MethodName := ⟨RX9, "law", "()I"⟩
abbrev cX9_worthOf : ByteArray := prog_11_method_139_code
def yX9_worthOf : MethodName := ⟨RX9, "worthOf", "(I)I"⟩
abbrev cX9_worth : ByteArray := prog_11_method_140_code
def yX9_worth : MethodName := ⟨RX9, "worth", "(I)I"⟩
abbrev cX9_factorial : ByteArray := prog_11_method_141_code
def yX9_factorial : MethodName := ⟨RX9, "factorial", "(I)I"⟩
abbrev cX9_divisor : ByteArray := prog_11_method_142_code
def yX9_divisor : MethodName := ⟨RX9, "divisor", "(JJ)J"⟩
abbrev cX9_part : ByteArray := prog_11_method_143_code
def yX9_part : MethodName := ⟨RX9, "part", "(JJI)J"⟩
abbrev cX9_share : ByteArray := prog_11_method_144_code
def yX9_share : MethodName := ⟨RX9, "share", "(II)I"⟩
abbrev cX9_getsBy : ByteArray := prog_11_method_145_code
def yX9_getsBy : MethodName := ⟨RX9, "getsBy", "(IIIII)I"⟩
abbrev cX9_areTwo : ByteArray := prog_11_method_146_code
def yX9_areTwo : MethodName := ⟨RX9, "areTwo", "(II)Z"⟩
abbrev cX9_rests : ByteArray := prog_11_method_147_code
def yX9_rests : MethodName := ⟨RX9, "rests", "(II)I"⟩
abbrev cX9_gets : ByteArray := prog_11_method_148_code
def yX9_gets : MethodName := ⟨RX9, "gets", "(IIII)I"⟩
abbrev cX9_layChance : ByteArray := prog_11_method_149_code
def yX9_layChance : MethodName := ⟨RX9, "layChance", "()V"⟩
abbrev cX9_asksChance : ByteArray := prog_11_method_150_code
def yX9_asksChance : MethodName := ⟨RX9, "asksChance", "(I)Z"⟩
abbrev cX9_chance : ByteArray := prog_11_method_151_code
def yX9_chance : MethodName := ⟨RX9, "chance", "(I)J"⟩
abbrev cX9_mean : ByteArray := prog_11_method_152_code
def yX9_mean : MethodName := ⟨RX9, "mean", "(I)J"⟩
abbrev cX9_keepAct : ByteArray := prog_11_method_153_code
def yX9_keepAct : MethodName := ⟨RX9, "keepAct", "(I)I"⟩
abbrev cX9_lock : ByteArray := prog_11_method_154_code
def yX9_lock : MethodName := ⟨RX9, "lock", "(I)I"⟩
abbrev cX9_frees : ByteArray := prog_11_method_155_code
def yX9_frees : MethodName := ⟨RX9, "frees", "(I)I"⟩
abbrev cX9_drops : ByteArray := prog_11_method_156_code
def yX9_drops : MethodName := ⟨RX9, "drops", "(I)I"⟩
abbrev cX9_undo : ByteArray := prog_11_method_157_code
def yX9_undo : MethodName := ⟨RX9, "undo", "()I"⟩
abbrev cX9_anew : ByteArray := prog_11_method_158_code
def yX9_anew : MethodName := ⟨RX9, "anew", "()I"⟩
abbrev cX9_drawnSet : ByteArray := prog_11_method_159_code
def yX9_drawnSet : MethodName := ⟨RX9, "drawnSet", "(J)I"⟩
abbrev cX9_isSeed : ByteArray := prog_11_method_160_code
def yX9_isSeed : MethodName := ⟨RX9, "isSeed", "(I)Z"⟩
abbrev cX9_drawn : ByteArray := prog_11_method_161_code
def yX9_drawn : MethodName := ⟨RX9, "drawn", "(II)I"⟩
abbrev cX9_luck : ByteArray := prog_11_method_162_code
def yX9_luck : MethodName := ⟨RX9, "luck", "(II)I"⟩
abbrev cX9_rate : ByteArray := prog_11_method_163_code
def yX9_rate : MethodName := ⟨RX9, "rate", "(II)I"⟩
abbrev cX9_count : ByteArray := prog_11_method_164_code
def yX9_count : MethodName := ⟨RX9, "count", "(I)I"⟩
abbrev cX9_isSlot : ByteArray := prog_11_method_165_code
def yX9_isSlot : MethodName := ⟨RX9, "isSlot", "(I)Z"⟩
abbrev cX9_clipped : ByteArray := prog_11_method_166_code
def yX9_clipped : MethodName := ⟨RX9, "clipped", "(JI)J"⟩
abbrev cX9_row : ByteArray := prog_11_method_167_code
def yX9_row : MethodName := ⟨RX9, "row", "(III)I"⟩
abbrev cX9_write : ByteArray := prog_11_method_168_code
def yX9_write : MethodName := ⟨RX9, "write", "(IIJ)I"⟩
abbrev cX9_paste : ByteArray := prog_11_method_169_code
def yX9_paste : MethodName := ⟨RX9, "paste", "(IIIII)I"⟩
def RJ6 : String := "java/lang/Integer"
def TJ6 : u_T := fun k => match k with
  | _ => ("", "", "", false)
def tyJ6 : Nat → FieldType := fun k => match k with
  | _ => .int
abbrev wsJ60 : List Cond := u_ws RJ6 TJ6 0
theorem nmJ6 : ∀ a, a < 0 → ∀ b, b < 0 → a ≠ b → (TJ6 a).2.1 ≠ (TJ6 b).2.1 := by decide +kernel
theorem tyJ6_ok : ∀ k, k < 0 → parseFieldDescriptor (TJ6 k).2.2.1 = some (tyJ6 k) := by decide +kernel
abbrev cJ6_bitCount_0f7a4 : ByteArray := prog_12_method_49_code
def yJ6_bitCount_0f7a4 : MethodName := ⟨RJ6, "bitCount", "(I)I"⟩
def RJ13 : String := "java/lang/Long"
def TJ13 : u_T := fun k => match k with
  | _ => ("", "", "", false)
def tyJ13 : Nat → FieldType := fun k => match k with
  | _ => .int
abbrev wsJ130 : List Cond := u_ws RJ13 TJ13 0
theorem nmJ13 : ∀ a, a < 0 → ∀ b, b < 0 → a ≠ b → (TJ13 a).2.1 ≠ (TJ13 b).2.1 := by decide +kernel
theorem tyJ13_ok : ∀ k, k < 0 → parseFieldDescriptor (TJ13 k).2.2.1 = some (tyJ13 k) := by decide +kernel
abbrev cJ13_bitCount_95d88 : ByteArray := prog_13_method_50_code
def yJ13_bitCount_95d88 : MethodName := ⟨RJ13, "bitCount", "(J)I"⟩
def RJ9 : String := "java/lang/Math"
def TJ9 : u_T := fun k => match k with
  | _ => ("", "", "", false)
def tyJ9 : Nat → FieldType := fun k => match k with
  | _ => .int
abbrev wsJ90 : List Cond := u_ws RJ9 TJ9 0
theorem nmJ9 : ∀ a, a < 0 → ∀ b, b < 0 → a ≠ b → (TJ9 a).2.1 ≠ (TJ9 b).2.1 := by decide +kernel
theorem tyJ9_ok : ∀ k, k < 0 → parseFieldDescriptor (TJ9 k).2.2.1 = some (tyJ9 k) := by decide +kernel
abbrev cJ9_abs_067f4 : ByteArray := prog_14_method_61_code
def yJ9_abs_067f4 : MethodName := ⟨RJ9, "abs", "(J)J"⟩
abbrev cJ9_max_7cf53 : ByteArray := prog_14_method_65_code
def yJ9_max_7cf53 : MethodName := ⟨RJ9, "max", "(II)I"⟩
abbrev cJ9_min_7cf53 : ByteArray := prog_14_method_69_code
def yJ9_min_7cf53 : MethodName := ⟨RJ9, "min", "(II)I"⟩
def RJ0 : String := "java/lang/String"
def TJ0 : u_T := fun k => match k with
  | _ => ("", "", "", false)
def tyJ0 : Nat → FieldType := fun k => match k with
  | _ => .int
abbrev wsJ00 : List Cond := u_ws RJ0 TJ0 0
theorem nmJ0 : ∀ a, a < 0 → ∀ b, b < 0 → a ≠ b → (TJ0 a).2.1 ≠ (TJ0 b).2.1 := by decide +kernel
theorem tyJ0_ok : ∀ k, k < 0 → parseFieldDescriptor (TJ0 k).2.2.1 = some (tyJ0 k) := by decide +kernel
abbrev cJ0_length_8abf5 : ByteArray := prog_15_method_54_code
def yJ0_length_8abf5 : MethodName := ⟨RJ0, "length", "()I"⟩
abbrev cJ0_charAt_5068e : ByteArray := prog_15_method_56_code
def yJ0_charAt_5068e : MethodName := ⟨RJ0, "charAt", "(I)C"⟩
abbrev cJ0_coder_7d493 : ByteArray := prog_15_method_152_code
def yJ0_coder_7d493 : MethodName := ⟨RJ0, "coder", "()B"⟩
abbrev cJ0_isLatin1_aae02 : ByteArray := prog_15_method_154_code
def yJ0_isLatin1_aae02 : MethodName := ⟨RJ0, "isLatin1", "()Z"⟩
abbrev cJ0_checkIndex_df160 : ByteArray := prog_15_method_155_code
def yJ0_checkIndex_df160 : MethodName := ⟨RJ0, "checkIndex", "(II)V"⟩
def RJ1 : String := "java/lang/StringLatin1"
def TJ1 : u_T := fun k => match k with
  | _ => ("", "", "", false)
def tyJ1 : Nat → FieldType := fun k => match k with
  | _ => .int
abbrev wsJ10 : List Cond := u_ws RJ1 TJ1 0
theorem nmJ1 : ∀ a, a < 0 → ∀ b, b < 0 → a ≠ b → (TJ1 a).2.1 ≠ (TJ1 b).2.1 := by decide +kernel
theorem tyJ1_ok : ∀ k, k < 0 → parseFieldDescriptor (TJ1 k).2.2.1 = some (tyJ1 k) := by decide +kernel
abbrev cJ1_charAt_3b067 : ByteArray := prog_16_method_2_code
def yJ1_charAt_3b067 : MethodName := ⟨RJ1, "charAt", "([BI)C"⟩
def RJ2 : String := "java/lang/StringUTF16"
def TJ2 : u_T := fun k => match k with
  | _ => ("", "", "", false)
def tyJ2 : Nat → FieldType := fun k => match k with
  | _ => .int
abbrev wsJ20 : List Cond := u_ws RJ2 TJ2 0
theorem nmJ2 : ∀ a, a < 0 → ∀ b, b < 0 → a ≠ b → (TJ2 a).2.1 ≠ (TJ2 b).2.1 := by decide +kernel
theorem tyJ2_ok : ∀ k, k < 0 → parseFieldDescriptor (TJ2 k).2.2.1 = some (tyJ2 k) := by decide +kernel
abbrev cJ2_getChar_3b067 : ByteArray := prog_17_method_5_code
def yJ2_getChar_3b067 : MethodName := ⟨RJ2, "getChar", "([BI)C"⟩
abbrev cJ2_length_9d52b : ByteArray := prog_17_method_6_code
def yJ2_length_9d52b : MethodName := ⟨RJ2, "length", "([B)I"⟩
abbrev cJ2_charAt_3b067 : ByteArray := prog_17_method_83_code
def yJ2_charAt_3b067 : MethodName := ⟨RJ2, "charAt", "([BI)C"⟩
abbrev cJ2_checkIndex_2214a : ByteArray := prog_17_method_91_code
def yJ2_checkIndex_2214a : MethodName := ⟨RJ2, "checkIndex", "(I[B)V"⟩
def RJ10 : String := "java/lang/System"
def TJ10 : u_T := fun k => match k with
  | _ => ("", "", "", false)
def tyJ10 : Nat → FieldType := fun k => match k with
  | _ => .int
abbrev wsJ100 : List Cond := u_ws RJ10 TJ10 0
theorem nmJ10 : ∀ a, a < 0 → ∀ b, b < 0 → a ≠ b → (TJ10 a).2.1 ≠ (TJ10 b).2.1 := by decide +kernel
theorem tyJ10_ok : ∀ k, k < 0 → parseFieldDescriptor (TJ10 k).2.2.1 = some (tyJ10 k) := by decide +kernel
def RJ3 : String := "jdk/internal/util/Preconditions"
def TJ3 : u_T := fun k => match k with
  | _ => ("", "", "", false)
def tyJ3 : Nat → FieldType := fun k => match k with
  | _ => .int
abbrev wsJ30 : List Cond := u_ws RJ3 TJ3 0
theorem nmJ3 : ∀ a, a < 0 → ∀ b, b < 0 → a ≠ b → (TJ3 a).2.1 ≠ (TJ3 b).2.1 := by decide +kernel
theorem tyJ3_ok : ∀ k, k < 0 → parseFieldDescriptor (TJ3 k).2.2.1 = some (tyJ3 k) := by decide +kernel
abbrev cJ3_checkIndex_8e157 : ByteArray := prog_19_method_11_code
def yJ3_checkIndex_8e157 : MethodName := ⟨RJ3, "checkIndex", "(IILjava/util/function/BiFunction;)I"⟩
def RL : String := "MergeJudgeLaw"
abbrev cL_law : ByteArray := code
def yL_law : MethodName := ⟨RL, "law", "([I)Z"⟩
abbrev vwCl : List vw_C := [(RX0, TX0, 15), (RX1, TX1, 4), (RX2, TX2, 12), (RX3, TX3, 1), (RX4, TX4, 9), (RX5, TX5, 4), (RX6, TX6, 8), (RX7, TX7, 2), (RX8, TX8, 10), (RX9, TX9, 42)]
