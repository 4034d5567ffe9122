-- ===== PART A: goes FIRST, ahead of the names: the tables' words, and 'selects' of the private methods out of them =====
/-- a private method of a class that the tables say can be made, by its rows of tables_1 -/
def lw_okq (q : MethodName × Nat) : Prop := (q.1.cls ≠ "java/lang/invoke/MethodHandle" ∧ q.1.cls ≠ "java/lang/invoke/VarHandle") ∧ Cond.instantiable q.1.cls q.2 ∈ tables_1 ∧ Cond.privateMethod q.1 ∈ tables_1 ∧ Cond.instanceMethod q.1 ∈ tables_1
theorem lw_p0 : lw_okq (⟨"StrideWatch", "forgetFindings", "()V"⟩, 5) := ⟨⟨by decide +kernel, by decide +kernel⟩, List.mem_of_getElem? (i := 22) (by decide +kernel), List.mem_of_getElem? (i := 308) (by decide +kernel), List.mem_of_getElem? (i := 309) (by decide +kernel)⟩
theorem lw_p1 : lw_okq (⟨"StrideWatch$Looking", "arrive", "(IJ)V"⟩, 9) := ⟨⟨by decide +kernel, by decide +kernel⟩, List.mem_of_getElem? (i := 152) (by decide +kernel), List.mem_of_getElem? (i := 336) (by decide +kernel), List.mem_of_getElem? (i := 337) (by decide +kernel)⟩
theorem lw_p2 : lw_okq (⟨"StrideWatch$Looking", "absorb", "(LStrideWatch$State;Z)Z"⟩, 9) := ⟨⟨by decide +kernel, by decide +kernel⟩, List.mem_of_getElem? (i := 152) (by decide +kernel), List.mem_of_getElem? (i := 363) (by decide +kernel), List.mem_of_getElem? (i := 364) (by decide +kernel)⟩
theorem lw_p3 : lw_okq (⟨"StrideWatch$Looking", "isWaiting", "(I)Z"⟩, 9) := ⟨⟨by decide +kernel, by decide +kernel⟩, List.mem_of_getElem? (i := 152) (by decide +kernel), List.mem_of_getElem? (i := 427) (by decide +kernel), List.mem_of_getElem? (i := 428) (by decide +kernel)⟩
theorem lw_p4 : lw_okq (⟨"StrideWatch$Looking", "pointIfMade", "(I)LStrideWatch$Point;"⟩, 9) := ⟨⟨by decide +kernel, by decide +kernel⟩, List.mem_of_getElem? (i := 152) (by decide +kernel), List.mem_of_getElem? (i := 431) (by decide +kernel), List.mem_of_getElem? (i := 432) (by decide +kernel)⟩
theorem lw_p5 : lw_okq (⟨"StrideWatch$Looking", "goThrough", "(I)V"⟩, 9) := ⟨⟨by decide +kernel, by decide +kernel⟩, List.mem_of_getElem? (i := 152) (by decide +kernel), List.mem_of_getElem? (i := 435) (by decide +kernel), List.mem_of_getElem? (i := 436) (by decide +kernel)⟩
theorem lw_p6 : lw_okq (⟨"StrideWatch$Instruction", "becomePlain", "(I)V"⟩, 14) := ⟨⟨by decide +kernel, by decide +kernel⟩, List.mem_of_getElem? (i := 48) (by decide +kernel), List.mem_of_getElem? (i := 443) (by decide +kernel), List.mem_of_getElem? (i := 444) (by decide +kernel)⟩
theorem lw_p7 : lw_okq (⟨"StrideWatch$Instruction", "nextByte", "()I"⟩, 14) := ⟨⟨by decide +kernel, by decide +kernel⟩, List.mem_of_getElem? (i := 48) (by decide +kernel), List.mem_of_getElem? (i := 447) (by decide +kernel), List.mem_of_getElem? (i := 448) (by decide +kernel)⟩
theorem lw_p8 : lw_okq (⟨"StrideWatch$Instruction", "readPair", "(IZ)V"⟩, 14) := ⟨⟨by decide +kernel, by decide +kernel⟩, List.mem_of_getElem? (i := 48) (by decide +kernel), List.mem_of_getElem? (i := 451) (by decide +kernel), List.mem_of_getElem? (i := 452) (by decide +kernel)⟩
theorem lw_p9 : lw_okq (⟨"StrideWatch$Instruction", "readPlace", "()V"⟩, 14) := ⟨⟨by decide +kernel, by decide +kernel⟩, List.mem_of_getElem? (i := 48) (by decide +kernel), List.mem_of_getElem? (i := 455) (by decide +kernel), List.mem_of_getElem? (i := 456) (by decide +kernel)⟩
theorem lw_p10 : lw_okq (⟨"StrideWatch$Instruction", "readJump", "(III)V"⟩, 14) := ⟨⟨by decide +kernel, by decide +kernel⟩, List.mem_of_getElem? (i := 48) (by decide +kernel), List.mem_of_getElem? (i := 459) (by decide +kernel), List.mem_of_getElem? (i := 460) (by decide +kernel)⟩
theorem lw_p11 : lw_okq (⟨"StrideWatch$Instruction", "readNumber", "(I)J"⟩, 14) := ⟨⟨by decide +kernel, by decide +kernel⟩, List.mem_of_getElem? (i := 48) (by decide +kernel), List.mem_of_getElem? (i := 463) (by decide +kernel), List.mem_of_getElem? (i := 464) (by decide +kernel)⟩
theorem lw_p12 : lw_okq (⟨"StrideWatch$Instruction", "readMoveToRegister", "(I)V"⟩, 14) := ⟨⟨by decide +kernel, by decide +kernel⟩, List.mem_of_getElem? (i := 48) (by decide +kernel), List.mem_of_getElem? (i := 467) (by decide +kernel), List.mem_of_getElem? (i := 468) (by decide +kernel)⟩
theorem lw_p13 : lw_okq (⟨"StrideWatch$Instruction", "readOther", "(I)V"⟩, 14) := ⟨⟨by decide +kernel, by decide +kernel⟩, List.mem_of_getElem? (i := 48) (by decide +kernel), List.mem_of_getElem? (i := 471) (by decide +kernel), List.mem_of_getElem? (i := 472) (by decide +kernel)⟩
theorem lw_p14 : lw_okq (⟨"StrideWatch$Instruction", "readSignExtension", "()V"⟩, 14) := ⟨⟨by decide +kernel, by decide +kernel⟩, List.mem_of_getElem? (i := 48) (by decide +kernel), List.mem_of_getElem? (i := 475) (by decide +kernel), List.mem_of_getElem? (i := 476) (by decide +kernel)⟩
theorem lw_p15 : lw_okq (⟨"StrideWatch$Instruction", "readArithmeticWithConstant", "(I)V"⟩, 14) := ⟨⟨by decide +kernel, by decide +kernel⟩, List.mem_of_getElem? (i := 48) (by decide +kernel), List.mem_of_getElem? (i := 479) (by decide +kernel), List.mem_of_getElem? (i := 480) (by decide +kernel)⟩
def lw_privs_1 : List (MethodName × Nat) := [(⟨"StrideWatch", "forgetFindings", "()V"⟩, 5), (⟨"StrideWatch$Looking", "arrive", "(IJ)V"⟩, 9), (⟨"StrideWatch$Looking", "absorb", "(LStrideWatch$State;Z)Z"⟩, 9), (⟨"StrideWatch$Looking", "isWaiting", "(I)Z"⟩, 9), (⟨"StrideWatch$Looking", "pointIfMade", "(I)LStrideWatch$Point;"⟩, 9), (⟨"StrideWatch$Looking", "goThrough", "(I)V"⟩, 9), (⟨"StrideWatch$Instruction", "becomePlain", "(I)V"⟩, 14), (⟨"StrideWatch$Instruction", "nextByte", "()I"⟩, 14), (⟨"StrideWatch$Instruction", "readPair", "(IZ)V"⟩, 14), (⟨"StrideWatch$Instruction", "readPlace", "()V"⟩, 14), (⟨"StrideWatch$Instruction", "readJump", "(III)V"⟩, 14), (⟨"StrideWatch$Instruction", "readNumber", "(I)J"⟩, 14), (⟨"StrideWatch$Instruction", "readMoveToRegister", "(I)V"⟩, 14), (⟨"StrideWatch$Instruction", "readOther", "(I)V"⟩, 14), (⟨"StrideWatch$Instruction", "readSignExtension", "()V"⟩, 14), (⟨"StrideWatch$Instruction", "readArithmeticWithConstant", "(I)V"⟩, 14)]
theorem lw_r1 : ∀ q ∈ lw_privs_1, lw_okq q := List.forall_mem_cons.mpr ⟨lw_p0, List.forall_mem_cons.mpr ⟨lw_p1, List.forall_mem_cons.mpr ⟨lw_p2, List.forall_mem_cons.mpr ⟨lw_p3, List.forall_mem_cons.mpr ⟨lw_p4, List.forall_mem_cons.mpr ⟨lw_p5, List.forall_mem_cons.mpr ⟨lw_p6, List.forall_mem_cons.mpr ⟨lw_p7, List.forall_mem_cons.mpr ⟨lw_p8, List.forall_mem_cons.mpr ⟨lw_p9, List.forall_mem_cons.mpr ⟨lw_p10, List.forall_mem_cons.mpr ⟨lw_p11, List.forall_mem_cons.mpr ⟨lw_p12, List.forall_mem_cons.mpr ⟨lw_p13, List.forall_mem_cons.mpr ⟨lw_p14, List.forall_mem_cons.mpr ⟨lw_p15, fun _ h => absurd h List.not_mem_nil⟩⟩⟩⟩⟩⟩⟩⟩⟩⟩⟩⟩⟩⟩⟩⟩
theorem lw_p16 : lw_okq (⟨"StrideWatch$Instruction", "readShift", "()V"⟩, 14) := ⟨⟨by decide +kernel, by decide +kernel⟩, List.mem_of_getElem? (i := 48) (by decide +kernel), List.mem_of_getElem? (i := 483) (by decide +kernel), List.mem_of_getElem? (i := 484) (by decide +kernel)⟩
theorem lw_p17 : lw_okq (⟨"StrideWatch$Instruction", "readMoveToPlace", "()V"⟩, 14) := ⟨⟨by decide +kernel, by decide +kernel⟩, List.mem_of_getElem? (i := 48) (by decide +kernel), List.mem_of_getElem? (i := 487) (by decide +kernel), List.mem_of_getElem? (i := 488) (by decide +kernel)⟩
theorem lw_p18 : lw_okq (⟨"StrideWatch$Instruction", "readTestNotNeg", "()V"⟩, 14) := ⟨⟨by decide +kernel, by decide +kernel⟩, List.mem_of_getElem? (i := 48) (by decide +kernel), List.mem_of_getElem? (i := 491) (by decide +kernel), List.mem_of_getElem? (i := 492) (by decide +kernel)⟩
theorem lw_p19 : lw_okq (⟨"StrideWatch$Instruction", "readIncDec", "()V"⟩, 14) := ⟨⟨by decide +kernel, by decide +kernel⟩, List.mem_of_getElem? (i := 48) (by decide +kernel), List.mem_of_getElem? (i := 495) (by decide +kernel), List.mem_of_getElem? (i := 496) (by decide +kernel)⟩
theorem lw_p20 : lw_okq (⟨"StrideWatch$Instruction", "isFrameChanged", "()Z"⟩, 14) := ⟨⟨by decide +kernel, by decide +kernel⟩, List.mem_of_getElem? (i := 48) (by decide +kernel), List.mem_of_getElem? (i := 499) (by decide +kernel), List.mem_of_getElem? (i := 500) (by decide +kernel)⟩
theorem lw_p21 : lw_okq (⟨"StrideWatch$Instruction", "isCarryArithmetic", "()Z"⟩, 14) := ⟨⟨by decide +kernel, by decide +kernel⟩, List.mem_of_getElem? (i := 48) (by decide +kernel), List.mem_of_getElem? (i := 503) (by decide +kernel), List.mem_of_getElem? (i := 504) (by decide +kernel)⟩
theorem lw_p22 : lw_okq (⟨"StrideWatch$Effect", "loadOperands", "(LStrideWatch$Instruction;LStrideWatch$State;)V"⟩, 3) := ⟨⟨by decide +kernel, by decide +kernel⟩, List.mem_of_getElem? (i := 162) (by decide +kernel), List.mem_of_getElem? (i := 511) (by decide +kernel), List.mem_of_getElem? (i := 512) (by decide +kernel)⟩
theorem lw_p23 : lw_okq (⟨"StrideWatch$Effect", "fitOperands", "(LStrideWatch$Instruction;)V"⟩, 3) := ⟨⟨by decide +kernel, by decide +kernel⟩, List.mem_of_getElem? (i := 162) (by decide +kernel), List.mem_of_getElem? (i := 517) (by decide +kernel), List.mem_of_getElem? (i := 518) (by decide +kernel)⟩
theorem lw_p24 : lw_okq (⟨"StrideWatch$Effect", "computeResult", "(LStrideWatch$Instruction;)V"⟩, 3) := ⟨⟨by decide +kernel, by decide +kernel⟩, List.mem_of_getElem? (i := 162) (by decide +kernel), List.mem_of_getElem? (i := 540) (by decide +kernel), List.mem_of_getElem? (i := 541) (by decide +kernel)⟩
theorem lw_p25 : lw_okq (⟨"StrideWatch$Span", "add", "(LStrideWatch$Span;LStrideWatch$Span;)V"⟩, 3) := ⟨⟨by decide +kernel, by decide +kernel⟩, List.mem_of_getElem? (i := 168) (by decide +kernel), List.mem_of_getElem? (i := 549) (by decide +kernel), List.mem_of_getElem? (i := 550) (by decide +kernel)⟩
theorem lw_p26 : lw_okq (⟨"StrideWatch$Span", "subtract", "(LStrideWatch$Span;LStrideWatch$Span;)V"⟩, 3) := ⟨⟨by decide +kernel, by decide +kernel⟩, List.mem_of_getElem? (i := 168) (by decide +kernel), List.mem_of_getElem? (i := 553) (by decide +kernel), List.mem_of_getElem? (i := 554) (by decide +kernel)⟩
theorem lw_p27 : lw_okq (⟨"StrideWatch$Span", "and", "(LStrideWatch$Span;LStrideWatch$Span;)V"⟩, 3) := ⟨⟨by decide +kernel, by decide +kernel⟩, List.mem_of_getElem? (i := 168) (by decide +kernel), List.mem_of_getElem? (i := 557) (by decide +kernel), List.mem_of_getElem? (i := 558) (by decide +kernel)⟩
theorem lw_p28 : lw_okq (⟨"StrideWatch$Span", "mix", "(ZLStrideWatch$Span;LStrideWatch$Span;)V"⟩, 3) := ⟨⟨by decide +kernel, by decide +kernel⟩, List.mem_of_getElem? (i := 168) (by decide +kernel), List.mem_of_getElem? (i := 565) (by decide +kernel), List.mem_of_getElem? (i := 566) (by decide +kernel)⟩
theorem lw_p29 : lw_okq (⟨"StrideWatch$Span", "subtractFrom", "(JLStrideWatch$Span;)V"⟩, 3) := ⟨⟨by decide +kernel, by decide +kernel⟩, List.mem_of_getElem? (i := 168) (by decide +kernel), List.mem_of_getElem? (i := 581) (by decide +kernel), List.mem_of_getElem? (i := 582) (by decide +kernel)⟩
theorem lw_p30 : lw_okq (⟨"StrideWatch$Span", "multiply", "(LStrideWatch$Span;LStrideWatch$Span;)V"⟩, 3) := ⟨⟨by decide +kernel, by decide +kernel⟩, List.mem_of_getElem? (i := 168) (by decide +kernel), List.mem_of_getElem? (i := 585) (by decide +kernel), List.mem_of_getElem? (i := 586) (by decide +kernel)⟩
theorem lw_p31 : lw_okq (⟨"StrideWatch$Span", "isFactor", "()Z"⟩, 3) := ⟨⟨by decide +kernel, by decide +kernel⟩, List.mem_of_getElem? (i := 168) (by decide +kernel), List.mem_of_getElem? (i := 589) (by decide +kernel), List.mem_of_getElem? (i := 590) (by decide +kernel)⟩
def lw_privs_2 : List (MethodName × Nat) := [(⟨"StrideWatch$Instruction", "readShift", "()V"⟩, 14), (⟨"StrideWatch$Instruction", "readMoveToPlace", "()V"⟩, 14), (⟨"StrideWatch$Instruction", "readTestNotNeg", "()V"⟩, 14), (⟨"StrideWatch$Instruction", "readIncDec", "()V"⟩, 14), (⟨"StrideWatch$Instruction", "isFrameChanged", "()Z"⟩, 14), (⟨"StrideWatch$Instruction", "isCarryArithmetic", "()Z"⟩, 14), (⟨"StrideWatch$Effect", "loadOperands", "(LStrideWatch$Instruction;LStrideWatch$State;)V"⟩, 3), (⟨"StrideWatch$Effect", "fitOperands", "(LStrideWatch$Instruction;)V"⟩, 3), (⟨"StrideWatch$Effect", "computeResult", "(LStrideWatch$Instruction;)V"⟩, 3), (⟨"StrideWatch$Span", "add", "(LStrideWatch$Span;LStrideWatch$Span;)V"⟩, 3), (⟨"StrideWatch$Span", "subtract", "(LStrideWatch$Span;LStrideWatch$Span;)V"⟩, 3), (⟨"StrideWatch$Span", "and", "(LStrideWatch$Span;LStrideWatch$Span;)V"⟩, 3), (⟨"StrideWatch$Span", "mix", "(ZLStrideWatch$Span;LStrideWatch$Span;)V"⟩, 3), (⟨"StrideWatch$Span", "subtractFrom", "(JLStrideWatch$Span;)V"⟩, 3), (⟨"StrideWatch$Span", "multiply", "(LStrideWatch$Span;LStrideWatch$Span;)V"⟩, 3), (⟨"StrideWatch$Span", "isFactor", "()Z"⟩, 3)]
theorem lw_r2 : ∀ q ∈ lw_privs_2, lw_okq q := List.forall_mem_cons.mpr ⟨lw_p16, List.forall_mem_cons.mpr ⟨lw_p17, List.forall_mem_cons.mpr ⟨lw_p18, List.forall_mem_cons.mpr ⟨lw_p19, List.forall_mem_cons.mpr ⟨lw_p20, List.forall_mem_cons.mpr ⟨lw_p21, List.forall_mem_cons.mpr ⟨lw_p22, List.forall_mem_cons.mpr ⟨lw_p23, List.forall_mem_cons.mpr ⟨lw_p24, List.forall_mem_cons.mpr ⟨lw_p25, List.forall_mem_cons.mpr ⟨lw_p26, List.forall_mem_cons.mpr ⟨lw_p27, List.forall_mem_cons.mpr ⟨lw_p28, List.forall_mem_cons.mpr ⟨lw_p29, List.forall_mem_cons.mpr ⟨lw_p30, List.forall_mem_cons.mpr ⟨lw_p31, fun _ h => absurd h List.not_mem_nil⟩⟩⟩⟩⟩⟩⟩⟩⟩⟩⟩⟩⟩⟩⟩⟩
theorem lw_p32 : lw_okq (⟨"StrideWatch$Span", "shiftRight", "(LStrideWatch$Span;I)V"⟩, 3) := ⟨⟨by decide +kernel, by decide +kernel⟩, List.mem_of_getElem? (i := 168) (by decide +kernel), List.mem_of_getElem? (i := 595) (by decide +kernel), List.mem_of_getElem? (i := 596) (by decide +kernel)⟩
theorem lw_p33 : lw_okq (⟨"StrideWatch$Effect", "noteRecord", "(LStrideWatch$Instruction;LStrideWatch$State;)V"⟩, 3) := ⟨⟨by decide +kernel, by decide +kernel⟩, List.mem_of_getElem? (i := 162) (by decide +kernel), List.mem_of_getElem? (i := 604) (by decide +kernel), List.mem_of_getElem? (i := 605) (by decide +kernel)⟩
theorem lw_p34 : lw_okq (⟨"StrideWatch$Branch", "becomeEqual", "()V"⟩, 2) := ⟨⟨by decide +kernel, by decide +kernel⟩, List.mem_of_getElem? (i := 205) (by decide +kernel), List.mem_of_getElem? (i := 616) (by decide +kernel), List.mem_of_getElem? (i := 617) (by decide +kernel)⟩
theorem lw_p35 : lw_okq (⟨"StrideWatch$Branch", "becomeUnequal", "()V"⟩, 2) := ⟨⟨by decide +kernel, by decide +kernel⟩, List.mem_of_getElem? (i := 205) (by decide +kernel), List.mem_of_getElem? (i := 634) (by decide +kernel), List.mem_of_getElem? (i := 635) (by decide +kernel)⟩
theorem lw_p36 : lw_okq (⟨"StrideWatch$Branch", "narrowCompared", "(IZ)V"⟩, 2) := ⟨⟨by decide +kernel, by decide +kernel⟩, List.mem_of_getElem? (i := 205) (by decide +kernel), List.mem_of_getElem? (i := 643) (by decide +kernel), List.mem_of_getElem? (i := 644) (by decide +kernel)⟩
theorem lw_p37 : lw_okq (⟨"StrideWatch$Run", "moveTo", "(J)V"⟩, 10) := ⟨⟨by decide +kernel, by decide +kernel⟩, List.mem_of_getElem? (i := 250) (by decide +kernel), List.mem_of_getElem? (i := 680) (by decide +kernel), List.mem_of_getElem? (i := 681) (by decide +kernel)⟩
theorem lw_p38 : lw_okq (⟨"java/lang/Throwable", "fillInStackTrace", "(I)Ljava/lang/Throwable;"⟩, 6) := ⟨⟨by decide +kernel, by decide +kernel⟩, List.mem_of_getElem? (i := 735) (by decide +kernel), List.mem_of_getElem? (i := 733) (by decide +kernel), List.mem_of_getElem? (i := 734) (by decide +kernel)⟩
theorem lw_p39 : lw_okq (⟨"StrideWatch", "requireByte", "(I)V"⟩, 5) := ⟨⟨by decide +kernel, by decide +kernel⟩, List.mem_of_getElem? (i := 22) (by decide +kernel), List.mem_of_getElem? (i := 820) (by decide +kernel), List.mem_of_getElem? (i := 821) (by decide +kernel)⟩
theorem lw_p40 : lw_okq (⟨"StrideWatch$Run", "isSo", "(I)Z"⟩, 10) := ⟨⟨by decide +kernel, by decide +kernel⟩, List.mem_of_getElem? (i := 250) (by decide +kernel), List.mem_of_getElem? (i := 890) (by decide +kernel), List.mem_of_getElem? (i := 891) (by decide +kernel)⟩
theorem lw_p41 : lw_okq (⟨"StrideWatch$Run", "compute", "()V"⟩, 10) := ⟨⟨by decide +kernel, by decide +kernel⟩, List.mem_of_getElem? (i := 250) (by decide +kernel), List.mem_of_getElem? (i := 894) (by decide +kernel), List.mem_of_getElem? (i := 895) (by decide +kernel)⟩
theorem lw_p42 : lw_okq (⟨"StrideWatch$Run", "atWidth", "(J)J"⟩, 10) := ⟨⟨by decide +kernel, by decide +kernel⟩, List.mem_of_getElem? (i := 250) (by decide +kernel), List.mem_of_getElem? (i := 902) (by decide +kernel), List.mem_of_getElem? (i := 903) (by decide +kernel)⟩
theorem lw_p43 : lw_okq (⟨"StrideWatch$Run", "sum", "(JJ)J"⟩, 10) := ⟨⟨by decide +kernel, by decide +kernel⟩, List.mem_of_getElem? (i := 250) (by decide +kernel), List.mem_of_getElem? (i := 906) (by decide +kernel), List.mem_of_getElem? (i := 907) (by decide +kernel)⟩
theorem lw_p44 : lw_okq (⟨"StrideWatch$Run", "noteBits", "(J)J"⟩, 10) := ⟨⟨by decide +kernel, by decide +kernel⟩, List.mem_of_getElem? (i := 250) (by decide +kernel), List.mem_of_getElem? (i := 910) (by decide +kernel), List.mem_of_getElem? (i := 911) (by decide +kernel)⟩
theorem lw_p45 : lw_okq (⟨"StrideWatch$Run", "write", "(J)V"⟩, 10) := ⟨⟨by decide +kernel, by decide +kernel⟩, List.mem_of_getElem? (i := 250) (by decide +kernel), List.mem_of_getElem? (i := 920) (by decide +kernel), List.mem_of_getElem? (i := 921) (by decide +kernel)⟩
theorem lw_p46 : lw_okq (⟨"StrideWatch$Run", "difference", "(JJ)J"⟩, 10) := ⟨⟨by decide +kernel, by decide +kernel⟩, List.mem_of_getElem? (i := 250) (by decide +kernel), List.mem_of_getElem? (i := 925) (by decide +kernel), List.mem_of_getElem? (i := 926) (by decide +kernel)⟩
theorem lw_p47 : lw_okq (⟨"StrideWatch$Run", "nextTo", "(JZ)J"⟩, 10) := ⟨⟨by decide +kernel, by decide +kernel⟩, List.mem_of_getElem? (i := 250) (by decide +kernel), List.mem_of_getElem? (i := 929) (by decide +kernel), List.mem_of_getElem? (i := 930) (by decide +kernel)⟩
def lw_privs_3 : List (MethodName × Nat) := [(⟨"StrideWatch$Span", "shiftRight", "(LStrideWatch$Span;I)V"⟩, 3), (⟨"StrideWatch$Effect", "noteRecord", "(LStrideWatch$Instruction;LStrideWatch$State;)V"⟩, 3), (⟨"StrideWatch$Branch", "becomeEqual", "()V"⟩, 2), (⟨"StrideWatch$Branch", "becomeUnequal", "()V"⟩, 2), (⟨"StrideWatch$Branch", "narrowCompared", "(IZ)V"⟩, 2), (⟨"StrideWatch$Run", "moveTo", "(J)V"⟩, 10), (⟨"java/lang/Throwable", "fillInStackTrace", "(I)Ljava/lang/Throwable;"⟩, 6), (⟨"StrideWatch", "requireByte", "(I)V"⟩, 5), (⟨"StrideWatch$Run", "isSo", "(I)Z"⟩, 10), (⟨"StrideWatch$Run", "compute", "()V"⟩, 10), (⟨"StrideWatch$Run", "atWidth", "(J)J"⟩, 10), (⟨"StrideWatch$Run", "sum", "(JJ)J"⟩, 10), (⟨"StrideWatch$Run", "noteBits", "(J)J"⟩, 10), (⟨"StrideWatch$Run", "write", "(J)V"⟩, 10), (⟨"StrideWatch$Run", "difference", "(JJ)J"⟩, 10), (⟨"StrideWatch$Run", "nextTo", "(JZ)J"⟩, 10)]
theorem lw_r3 : ∀ q ∈ lw_privs_3, lw_okq q := List.forall_mem_cons.mpr ⟨lw_p32, List.forall_mem_cons.mpr ⟨lw_p33, List.forall_mem_cons.mpr ⟨lw_p34, List.forall_mem_cons.mpr ⟨lw_p35, List.forall_mem_cons.mpr ⟨lw_p36, List.forall_mem_cons.mpr ⟨lw_p37, List.forall_mem_cons.mpr ⟨lw_p38, List.forall_mem_cons.mpr ⟨lw_p39, List.forall_mem_cons.mpr ⟨lw_p40, List.forall_mem_cons.mpr ⟨lw_p41, List.forall_mem_cons.mpr ⟨lw_p42, List.forall_mem_cons.mpr ⟨lw_p43, List.forall_mem_cons.mpr ⟨lw_p44, List.forall_mem_cons.mpr ⟨lw_p45, List.forall_mem_cons.mpr ⟨lw_p46, List.forall_mem_cons.mpr ⟨lw_p47, fun _ h => absurd h List.not_mem_nil⟩⟩⟩⟩⟩⟩⟩⟩⟩⟩⟩⟩⟩⟩⟩⟩
theorem lw_p48 : lw_okq (⟨"StrideWatch$Run", "shifted", "(J)J"⟩, 10) := ⟨⟨by decide +kernel, by decide +kernel⟩, List.mem_of_getElem? (i := 250) (by decide +kernel), List.mem_of_getElem? (i := 934) (by decide +kernel), List.mem_of_getElem? (i := 935) (by decide +kernel)⟩
theorem lw_p49 : lw_okq (⟨"StrideWatchModel", "refused", "(I)Z"⟩, 37) := ⟨⟨by decide +kernel, by decide +kernel⟩, List.mem_of_getElem? (i := 946) (by decide +kernel), List.mem_of_getElem? (i := 1077) (by decide +kernel), List.mem_of_getElem? (i := 1078) (by decide +kernel)⟩
theorem lw_p50 : lw_okq (⟨"StrideWatchModel", "forget", "()V"⟩, 37) := ⟨⟨by decide +kernel, by decide +kernel⟩, List.mem_of_getElem? (i := 946) (by decide +kernel), List.mem_of_getElem? (i := 1081) (by decide +kernel), List.mem_of_getElem? (i := 1082) (by decide +kernel)⟩
theorem lw_p51 : lw_okq (⟨"StrideWatchModel", "read", "(I)Z"⟩, 37) := ⟨⟨by decide +kernel, by decide +kernel⟩, List.mem_of_getElem? (i := 946) (by decide +kernel), List.mem_of_getElem? (i := 1094) (by decide +kernel), List.mem_of_getElem? (i := 1095) (by decide +kernel)⟩
theorem lw_p52 : lw_okq (⟨"StrideWatchModel", "take", "(III)V"⟩, 37) := ⟨⟨by decide +kernel, by decide +kernel⟩, List.mem_of_getElem? (i := 946) (by decide +kernel), List.mem_of_getElem? (i := 1098) (by decide +kernel), List.mem_of_getElem? (i := 1099) (by decide +kernel)⟩
theorem lw_p53 : lw_okq (⟨"StrideWatchModel", "next", "()I"⟩, 37) := ⟨⟨by decide +kernel, by decide +kernel⟩, List.mem_of_getElem? (i := 946) (by decide +kernel), List.mem_of_getElem? (i := 1102) (by decide +kernel), List.mem_of_getElem? (i := 1103) (by decide +kernel)⟩
theorem lw_p54 : lw_okq (⟨"StrideWatchModel", "readRest", "(II)V"⟩, 37) := ⟨⟨by decide +kernel, by decide +kernel⟩, List.mem_of_getElem? (i := 946) (by decide +kernel), List.mem_of_getElem? (i := 1106) (by decide +kernel), List.mem_of_getElem? (i := 1107) (by decide +kernel)⟩
theorem lw_p55 : lw_okq (⟨"StrideWatchModel", "readPlaces", "(I)V"⟩, 37) := ⟨⟨by decide +kernel, by decide +kernel⟩, List.mem_of_getElem? (i := 946) (by decide +kernel), List.mem_of_getElem? (i := 1110) (by decide +kernel), List.mem_of_getElem? (i := 1111) (by decide +kernel)⟩
theorem lw_p56 : lw_okq (⟨"StrideWatchModel", "number", "(I)J"⟩, 37) := ⟨⟨by decide +kernel, by decide +kernel⟩, List.mem_of_getElem? (i := 946) (by decide +kernel), List.mem_of_getElem? (i := 1114) (by decide +kernel), List.mem_of_getElem? (i := 1115) (by decide +kernel)⟩
theorem lw_p57 : lw_okq (⟨"StrideWatchModel", "readTwo", "(II)V"⟩, 37) := ⟨⟨by decide +kernel, by decide +kernel⟩, List.mem_of_getElem? (i := 946) (by decide +kernel), List.mem_of_getElem? (i := 1121) (by decide +kernel), List.mem_of_getElem? (i := 1122) (by decide +kernel)⟩
theorem lw_p58 : lw_okq (⟨"StrideWatchModel", "readIf", "(II)V"⟩, 37) := ⟨⟨by decide +kernel, by decide +kernel⟩, List.mem_of_getElem? (i := 946) (by decide +kernel), List.mem_of_getElem? (i := 1125) (by decide +kernel), List.mem_of_getElem? (i := 1126) (by decide +kernel)⟩
theorem lw_p59 : lw_okq (⟨"StrideWatchModel", "readJumps", "(I)V"⟩, 37) := ⟨⟨by decide +kernel, by decide +kernel⟩, List.mem_of_getElem? (i := 946) (by decide +kernel), List.mem_of_getElem? (i := 1129) (by decide +kernel), List.mem_of_getElem? (i := 1130) (by decide +kernel)⟩
theorem lw_p60 : lw_okq (⟨"StrideWatchModel", "copy", "(II)V"⟩, 37) := ⟨⟨by decide +kernel, by decide +kernel⟩, List.mem_of_getElem? (i := 946) (by decide +kernel), List.mem_of_getElem? (i := 1141) (by decide +kernel), List.mem_of_getElem? (i := 1142) (by decide +kernel)⟩
theorem lw_p61 : lw_okq (⟨"StrideWatchModel", "goThrough", "(I)V"⟩, 37) := ⟨⟨by decide +kernel, by decide +kernel⟩, List.mem_of_getElem? (i := 946) (by decide +kernel), List.mem_of_getElem? (i := 1145) (by decide +kernel), List.mem_of_getElem? (i := 1146) (by decide +kernel)⟩
theorem lw_p62 : lw_okq (⟨"StrideWatchModel", "copyRecord", "(II)V"⟩, 37) := ⟨⟨by decide +kernel, by decide +kernel⟩, List.mem_of_getElem? (i := 946) (by decide +kernel), List.mem_of_getElem? (i := 1149) (by decide +kernel), List.mem_of_getElem? (i := 1150) (by decide +kernel)⟩
theorem lw_p63 : lw_okq (⟨"StrideWatchModel", "act", "(I)V"⟩, 37) := ⟨⟨by decide +kernel, by decide +kernel⟩, List.mem_of_getElem? (i := 946) (by decide +kernel), List.mem_of_getElem? (i := 1153) (by decide +kernel), List.mem_of_getElem? (i := 1154) (by decide +kernel)⟩
def lw_privs_4 : List (MethodName × Nat) := [(⟨"StrideWatch$Run", "shifted", "(J)J"⟩, 10), (⟨"StrideWatchModel", "refused", "(I)Z"⟩, 37), (⟨"StrideWatchModel", "forget", "()V"⟩, 37), (⟨"StrideWatchModel", "read", "(I)Z"⟩, 37), (⟨"StrideWatchModel", "take", "(III)V"⟩, 37), (⟨"StrideWatchModel", "next", "()I"⟩, 37), (⟨"StrideWatchModel", "readRest", "(II)V"⟩, 37), (⟨"StrideWatchModel", "readPlaces", "(I)V"⟩, 37), (⟨"StrideWatchModel", "number", "(I)J"⟩, 37), (⟨"StrideWatchModel", "readTwo", "(II)V"⟩, 37), (⟨"StrideWatchModel", "readIf", "(II)V"⟩, 37), (⟨"StrideWatchModel", "readJumps", "(I)V"⟩, 37), (⟨"StrideWatchModel", "copy", "(II)V"⟩, 37), (⟨"StrideWatchModel", "goThrough", "(I)V"⟩, 37), (⟨"StrideWatchModel", "copyRecord", "(II)V"⟩, 37), (⟨"StrideWatchModel", "act", "(I)V"⟩, 37)]
theorem lw_r4 : ∀ q ∈ lw_privs_4, lw_okq q := List.forall_mem_cons.mpr ⟨lw_p48, List.forall_mem_cons.mpr ⟨lw_p49, List.forall_mem_cons.mpr ⟨lw_p50, List.forall_mem_cons.mpr ⟨lw_p51, List.forall_mem_cons.mpr ⟨lw_p52, List.forall_mem_cons.mpr ⟨lw_p53, List.forall_mem_cons.mpr ⟨lw_p54, List.forall_mem_cons.mpr ⟨lw_p55, List.forall_mem_cons.mpr ⟨lw_p56, List.forall_mem_cons.mpr ⟨lw_p57, List.forall_mem_cons.mpr ⟨lw_p58, List.forall_mem_cons.mpr ⟨lw_p59, List.forall_mem_cons.mpr ⟨lw_p60, List.forall_mem_cons.mpr ⟨lw_p61, List.forall_mem_cons.mpr ⟨lw_p62, List.forall_mem_cons.mpr ⟨lw_p63, fun _ h => absurd h List.not_mem_nil⟩⟩⟩⟩⟩⟩⟩⟩⟩⟩⟩⟩⟩⟩⟩⟩
theorem lw_p64 : lw_okq (⟨"StrideWatchModel", "operand", "(I)V"⟩, 37) := ⟨⟨by decide +kernel, by decide +kernel⟩, List.mem_of_getElem? (i := 946) (by decide +kernel), List.mem_of_getElem? (i := 1157) (by decide +kernel), List.mem_of_getElem? (i := 1158) (by decide +kernel)⟩
theorem lw_p65 : lw_okq (⟨"StrideWatchModel", "one", "(IJ)V"⟩, 37) := ⟨⟨by decide +kernel, by decide +kernel⟩, List.mem_of_getElem? (i := 946) (by decide +kernel), List.mem_of_getElem? (i := 1161) (by decide +kernel), List.mem_of_getElem? (i := 1162) (by decide +kernel)⟩
theorem lw_p66 : lw_okq (⟨"StrideWatchModel", "make", "(IIJJJ)V"⟩, 37) := ⟨⟨by decide +kernel, by decide +kernel⟩, List.mem_of_getElem? (i := 946) (by decide +kernel), List.mem_of_getElem? (i := 1165) (by decide +kernel), List.mem_of_getElem? (i := 1166) (by decide +kernel)⟩
theorem lw_p67 : lw_okq (⟨"StrideWatchModel", "narrowed", "(IZ)V"⟩, 37) := ⟨⟨by decide +kernel, by decide +kernel⟩, List.mem_of_getElem? (i := 946) (by decide +kernel), List.mem_of_getElem? (i := 1171) (by decide +kernel), List.mem_of_getElem? (i := 1172) (by decide +kernel)⟩
theorem lw_p68 : lw_okq (⟨"StrideWatchModel", "signed", "(II)V"⟩, 37) := ⟨⟨by decide +kernel, by decide +kernel⟩, List.mem_of_getElem? (i := 946) (by decide +kernel), List.mem_of_getElem? (i := 1175) (by decide +kernel), List.mem_of_getElem? (i := 1176) (by decide +kernel)⟩
theorem lw_p69 : lw_okq (⟨"StrideWatchModel", "lowPart", "(II)V"⟩, 37) := ⟨⟨by decide +kernel, by decide +kernel⟩, List.mem_of_getElem? (i := 946) (by decide +kernel), List.mem_of_getElem? (i := 1179) (by decide +kernel), List.mem_of_getElem? (i := 1180) (by decide +kernel)⟩
theorem lw_p70 : lw_okq (⟨"StrideWatchModel", "isOne", "(I)Z"⟩, 37) := ⟨⟨by decide +kernel, by decide +kernel⟩, List.mem_of_getElem? (i := 946) (by decide +kernel), List.mem_of_getElem? (i := 1183) (by decide +kernel), List.mem_of_getElem? (i := 1184) (by decide +kernel)⟩
theorem lw_p71 : lw_okq (⟨"StrideWatchModel", "work", "()V"⟩, 37) := ⟨⟨by decide +kernel, by decide +kernel⟩, List.mem_of_getElem? (i := 946) (by decide +kernel), List.mem_of_getElem? (i := 1193) (by decide +kernel), List.mem_of_getElem? (i := 1194) (by decide +kernel)⟩
theorem lw_p72 : lw_okq (⟨"StrideWatchModel", "add", "(III)V"⟩, 37) := ⟨⟨by decide +kernel, by decide +kernel⟩, List.mem_of_getElem? (i := 946) (by decide +kernel), List.mem_of_getElem? (i := 1197) (by decide +kernel), List.mem_of_getElem? (i := 1198) (by decide +kernel)⟩
theorem lw_p73 : lw_okq (⟨"StrideWatchModel", "isPlain", "(III)Z"⟩, 37) := ⟨⟨by decide +kernel, by decide +kernel⟩, List.mem_of_getElem? (i := 946) (by decide +kernel), List.mem_of_getElem? (i := 1201) (by decide +kernel), List.mem_of_getElem? (i := 1202) (by decide +kernel)⟩
theorem lw_p74 : lw_okq (⟨"StrideWatchModel", "subtract", "(III)V"⟩, 37) := ⟨⟨by decide +kernel, by decide +kernel⟩, List.mem_of_getElem? (i := 946) (by decide +kernel), List.mem_of_getElem? (i := 1205) (by decide +kernel), List.mem_of_getElem? (i := 1206) (by decide +kernel)⟩
theorem lw_p75 : lw_okq (⟨"StrideWatchModel", "negate", "(II)V"⟩, 37) := ⟨⟨by decide +kernel, by decide +kernel⟩, List.mem_of_getElem? (i := 946) (by decide +kernel), List.mem_of_getElem? (i := 1209) (by decide +kernel), List.mem_of_getElem? (i := 1210) (by decide +kernel)⟩
theorem lw_p76 : lw_okq (⟨"StrideWatchModel", "or", "(IIIZ)V"⟩, 37) := ⟨⟨by decide +kernel, by decide +kernel⟩, List.mem_of_getElem? (i := 946) (by decide +kernel), List.mem_of_getElem? (i := 1213) (by decide +kernel), List.mem_of_getElem? (i := 1214) (by decide +kernel)⟩
theorem lw_p77 : lw_okq (⟨"StrideWatchModel", "and", "(III)V"⟩, 37) := ⟨⟨by decide +kernel, by decide +kernel⟩, List.mem_of_getElem? (i := 946) (by decide +kernel), List.mem_of_getElem? (i := 1218) (by decide +kernel), List.mem_of_getElem? (i := 1219) (by decide +kernel)⟩
theorem lw_p78 : lw_okq (⟨"StrideWatchModel", "isNumber", "(IJ)Z"⟩, 37) := ⟨⟨by decide +kernel, by decide +kernel⟩, List.mem_of_getElem? (i := 946) (by decide +kernel), List.mem_of_getElem? (i := 1222) (by decide +kernel), List.mem_of_getElem? (i := 1223) (by decide +kernel)⟩
theorem lw_p79 : lw_okq (⟨"StrideWatchModel", "workMore", "()V"⟩, 37) := ⟨⟨by decide +kernel, by decide +kernel⟩, List.mem_of_getElem? (i := 946) (by decide +kernel), List.mem_of_getElem? (i := 1227) (by decide +kernel), List.mem_of_getElem? (i := 1228) (by decide +kernel)⟩
def lw_privs_5 : List (MethodName × Nat) := [(⟨"StrideWatchModel", "operand", "(I)V"⟩, 37), (⟨"StrideWatchModel", "one", "(IJ)V"⟩, 37), (⟨"StrideWatchModel", "make", "(IIJJJ)V"⟩, 37), (⟨"StrideWatchModel", "narrowed", "(IZ)V"⟩, 37), (⟨"StrideWatchModel", "signed", "(II)V"⟩, 37), (⟨"StrideWatchModel", "lowPart", "(II)V"⟩, 37), (⟨"StrideWatchModel", "isOne", "(I)Z"⟩, 37), (⟨"StrideWatchModel", "work", "()V"⟩, 37), (⟨"StrideWatchModel", "add", "(III)V"⟩, 37), (⟨"StrideWatchModel", "isPlain", "(III)Z"⟩, 37), (⟨"StrideWatchModel", "subtract", "(III)V"⟩, 37), (⟨"StrideWatchModel", "negate", "(II)V"⟩, 37), (⟨"StrideWatchModel", "or", "(IIIZ)V"⟩, 37), (⟨"StrideWatchModel", "and", "(III)V"⟩, 37), (⟨"StrideWatchModel", "isNumber", "(IJ)Z"⟩, 37), (⟨"StrideWatchModel", "workMore", "()V"⟩, 37)]
theorem lw_r5 : ∀ q ∈ lw_privs_5, lw_okq q := List.forall_mem_cons.mpr ⟨lw_p64, List.forall_mem_cons.mpr ⟨lw_p65, List.forall_mem_cons.mpr ⟨lw_p66, List.forall_mem_cons.mpr ⟨lw_p67, List.forall_mem_cons.mpr ⟨lw_p68, List.forall_mem_cons.mpr ⟨lw_p69, List.forall_mem_cons.mpr ⟨lw_p70, List.forall_mem_cons.mpr ⟨lw_p71, List.forall_mem_cons.mpr ⟨lw_p72, List.forall_mem_cons.mpr ⟨lw_p73, List.forall_mem_cons.mpr ⟨lw_p74, List.forall_mem_cons.mpr ⟨lw_p75, List.forall_mem_cons.mpr ⟨lw_p76, List.forall_mem_cons.mpr ⟨lw_p77, List.forall_mem_cons.mpr ⟨lw_p78, List.forall_mem_cons.mpr ⟨lw_p79, fun _ h => absurd h List.not_mem_nil⟩⟩⟩⟩⟩⟩⟩⟩⟩⟩⟩⟩⟩⟩⟩⟩
theorem lw_p80 : lw_okq (⟨"StrideWatchModel", "times", "(III)V"⟩, 37) := ⟨⟨by decide +kernel, by decide +kernel⟩, List.mem_of_getElem? (i := 946) (by decide +kernel), List.mem_of_getElem? (i := 1231) (by decide +kernel), List.mem_of_getElem? (i := 1232) (by decide +kernel)⟩
theorem lw_p81 : lw_okq (⟨"StrideWatchModel", "shiftZero", "(III)V"⟩, 37) := ⟨⟨by decide +kernel, by decide +kernel⟩, List.mem_of_getElem? (i := 946) (by decide +kernel), List.mem_of_getElem? (i := 1236) (by decide +kernel), List.mem_of_getElem? (i := 1237) (by decide +kernel)⟩
theorem lw_p82 : lw_okq (⟨"StrideWatchModel", "shiftDown", "(III)V"⟩, 37) := ⟨⟨by decide +kernel, by decide +kernel⟩, List.mem_of_getElem? (i := 946) (by decide +kernel), List.mem_of_getElem? (i := 1240) (by decide +kernel), List.mem_of_getElem? (i := 1241) (by decide +kernel)⟩
theorem lw_p83 : lw_okq (⟨"StrideWatchModel", "note", "()V"⟩, 37) := ⟨⟨by decide +kernel, by decide +kernel⟩, List.mem_of_getElem? (i := 946) (by decide +kernel), List.mem_of_getElem? (i := 1244) (by decide +kernel), List.mem_of_getElem? (i := 1245) (by decide +kernel)⟩
theorem lw_p84 : lw_okq (⟨"StrideWatchModel", "goAlong", "(I)Z"⟩, 37) := ⟨⟨by decide +kernel, by decide +kernel⟩, List.mem_of_getElem? (i := 946) (by decide +kernel), List.mem_of_getElem? (i := 1248) (by decide +kernel), List.mem_of_getElem? (i := 1249) (by decide +kernel)⟩
theorem lw_p85 : lw_okq (⟨"StrideWatchModel", "compared", "(III)V"⟩, 37) := ⟨⟨by decide +kernel, by decide +kernel⟩, List.mem_of_getElem? (i := 946) (by decide +kernel), List.mem_of_getElem? (i := 1252) (by decide +kernel), List.mem_of_getElem? (i := 1253) (by decide +kernel)⟩
theorem lw_p86 : lw_okq (⟨"StrideWatchModel", "equal", "(IIZ)V"⟩, 37) := ⟨⟨by decide +kernel, by decide +kernel⟩, List.mem_of_getElem? (i := 946) (by decide +kernel), List.mem_of_getElem? (i := 1256) (by decide +kernel), List.mem_of_getElem? (i := 1257) (by decide +kernel)⟩
theorem lw_p87 : lw_okq (⟨"StrideWatchModel", "without", "(IIJ)V"⟩, 37) := ⟨⟨by decide +kernel, by decide +kernel⟩, List.mem_of_getElem? (i := 946) (by decide +kernel), List.mem_of_getElem? (i := 1260) (by decide +kernel), List.mem_of_getElem? (i := 1261) (by decide +kernel)⟩
theorem lw_p88 : lw_okq (⟨"StrideWatchModel", "only", "(IIJ)V"⟩, 37) := ⟨⟨by decide +kernel, by decide +kernel⟩, List.mem_of_getElem? (i := 946) (by decide +kernel), List.mem_of_getElem? (i := 1264) (by decide +kernel), List.mem_of_getElem? (i := 1265) (by decide +kernel)⟩
theorem lw_p89 : lw_okq (⟨"StrideWatchModel", "contains", "(IJ)Z"⟩, 37) := ⟨⟨by decide +kernel, by decide +kernel⟩, List.mem_of_getElem? (i := 946) (by decide +kernel), List.mem_of_getElem? (i := 1268) (by decide +kernel), List.mem_of_getElem? (i := 1269) (by decide +kernel)⟩
theorem lw_p90 : lw_okq (⟨"StrideWatchModel", "cut", "(IIZJZJ)V"⟩, 37) := ⟨⟨by decide +kernel, by decide +kernel⟩, List.mem_of_getElem? (i := 946) (by decide +kernel), List.mem_of_getElem? (i := 1272) (by decide +kernel), List.mem_of_getElem? (i := 1273) (by decide +kernel)⟩
theorem lw_p91 : lw_okq (⟨"StrideWatchModel", "lay", "(II)V"⟩, 37) := ⟨⟨by decide +kernel, by decide +kernel⟩, List.mem_of_getElem? (i := 946) (by decide +kernel), List.mem_of_getElem? (i := 1276) (by decide +kernel), List.mem_of_getElem? (i := 1277) (by decide +kernel)⟩
theorem lw_p92 : lw_okq (⟨"StrideWatchModel", "below", "(IIZZ)V"⟩, 37) := ⟨⟨by decide +kernel, by decide +kernel⟩, List.mem_of_getElem? (i := 946) (by decide +kernel), List.mem_of_getElem? (i := 1280) (by decide +kernel), List.mem_of_getElem? (i := 1281) (by decide +kernel)⟩
theorem lw_p93 : lw_okq (⟨"StrideWatchModel", "lower", "(IIZZ)V"⟩, 37) := ⟨⟨by decide +kernel, by decide +kernel⟩, List.mem_of_getElem? (i := 946) (by decide +kernel), List.mem_of_getElem? (i := 1284) (by decide +kernel), List.mem_of_getElem? (i := 1285) (by decide +kernel)⟩
theorem lw_p94 : lw_okq (⟨"StrideWatchModel", "arrive", "(JI)V"⟩, 37) := ⟨⟨by decide +kernel, by decide +kernel⟩, List.mem_of_getElem? (i := 946) (by decide +kernel), List.mem_of_getElem? (i := 1288) (by decide +kernel), List.mem_of_getElem? (i := 1289) (by decide +kernel)⟩
theorem lw_p95 : lw_okq (⟨"StrideWatchModel", "widen", "(III)V"⟩, 37) := ⟨⟨by decide +kernel, by decide +kernel⟩, List.mem_of_getElem? (i := 946) (by decide +kernel), List.mem_of_getElem? (i := 1292) (by decide +kernel), List.mem_of_getElem? (i := 1293) (by decide +kernel)⟩
def lw_privs_6 : List (MethodName × Nat) := [(⟨"StrideWatchModel", "times", "(III)V"⟩, 37), (⟨"StrideWatchModel", "shiftZero", "(III)V"⟩, 37), (⟨"StrideWatchModel", "shiftDown", "(III)V"⟩, 37), (⟨"StrideWatchModel", "note", "()V"⟩, 37), (⟨"StrideWatchModel", "goAlong", "(I)Z"⟩, 37), (⟨"StrideWatchModel", "compared", "(III)V"⟩, 37), (⟨"StrideWatchModel", "equal", "(IIZ)V"⟩, 37), (⟨"StrideWatchModel", "without", "(IIJ)V"⟩, 37), (⟨"StrideWatchModel", "only", "(IIJ)V"⟩, 37), (⟨"StrideWatchModel", "contains", "(IJ)Z"⟩, 37), (⟨"StrideWatchModel", "cut", "(IIZJZJ)V"⟩, 37), (⟨"StrideWatchModel", "lay", "(II)V"⟩, 37), (⟨"StrideWatchModel", "below", "(IIZZ)V"⟩, 37), (⟨"StrideWatchModel", "lower", "(IIZZ)V"⟩, 37), (⟨"StrideWatchModel", "arrive", "(JI)V"⟩, 37), (⟨"StrideWatchModel", "widen", "(III)V"⟩, 37)]
theorem lw_r6 : ∀ q ∈ lw_privs_6, lw_okq q := List.forall_mem_cons.mpr ⟨lw_p80, List.forall_mem_cons.mpr ⟨lw_p81, List.forall_mem_cons.mpr ⟨lw_p82, List.forall_mem_cons.mpr ⟨lw_p83, List.forall_mem_cons.mpr ⟨lw_p84, List.forall_mem_cons.mpr ⟨lw_p85, List.forall_mem_cons.mpr ⟨lw_p86, List.forall_mem_cons.mpr ⟨lw_p87, List.forall_mem_cons.mpr ⟨lw_p88, List.forall_mem_cons.mpr ⟨lw_p89, List.forall_mem_cons.mpr ⟨lw_p90, List.forall_mem_cons.mpr ⟨lw_p91, List.forall_mem_cons.mpr ⟨lw_p92, List.forall_mem_cons.mpr ⟨lw_p93, List.forall_mem_cons.mpr ⟨lw_p94, List.forall_mem_cons.mpr ⟨lw_p95, fun _ h => absurd h List.not_mem_nil⟩⟩⟩⟩⟩⟩⟩⟩⟩⟩⟩⟩⟩⟩⟩⟩
theorem lw_p96 : lw_okq (⟨"StrideWatchModel", "join", "(III)V"⟩, 37) := ⟨⟨by decide +kernel, by decide +kernel⟩, List.mem_of_getElem? (i := 946) (by decide +kernel), List.mem_of_getElem? (i := 1296) (by decide +kernel), List.mem_of_getElem? (i := 1297) (by decide +kernel)⟩
theorem lw_p97 : lw_okq (⟨"StrideWatchModel", "isSame", "(II)Z"⟩, 37) := ⟨⟨by decide +kernel, by decide +kernel⟩, List.mem_of_getElem? (i := 946) (by decide +kernel), List.mem_of_getElem? (i := 1300) (by decide +kernel), List.mem_of_getElem? (i := 1301) (by decide +kernel)⟩
theorem lw_p98 : lw_okq (⟨"StrideWatchModel", "isSameRecord", "(II)Z"⟩, 37) := ⟨⟨by decide +kernel, by decide +kernel⟩, List.mem_of_getElem? (i := 946) (by decide +kernel), List.mem_of_getElem? (i := 1304) (by decide +kernel), List.mem_of_getElem? (i := 1305) (by decide +kernel)⟩
theorem lw_p99 : lw_okq (⟨"StrideWatchModel", "isReached", "(I)Z"⟩, 37) := ⟨⟨by decide +kernel, by decide +kernel⟩, List.mem_of_getElem? (i := 946) (by decide +kernel), List.mem_of_getElem? (i := 1323) (by decide +kernel), List.mem_of_getElem? (i := 1324) (by decide +kernel)⟩
theorem lw_p100 : lw_okq (⟨"StrideWatchModel", "oneMore", "()I"⟩, 37) := ⟨⟨by decide +kernel, by decide +kernel⟩, List.mem_of_getElem? (i := 946) (by decide +kernel), List.mem_of_getElem? (i := 1348) (by decide +kernel), List.mem_of_getElem? (i := 1349) (by decide +kernel)⟩
theorem lw_p101 : lw_okq (⟨"StrideWatchModel", "run", "()V"⟩, 37) := ⟨⟨by decide +kernel, by decide +kernel⟩, List.mem_of_getElem? (i := 946) (by decide +kernel), List.mem_of_getElem? (i := 1352) (by decide +kernel), List.mem_of_getElem? (i := 1353) (by decide +kernel)⟩
theorem lw_p102 : lw_okq (⟨"StrideWatchModel", "cutDown", "(J)J"⟩, 37) := ⟨⟨by decide +kernel, by decide +kernel⟩, List.mem_of_getElem? (i := 946) (by decide +kernel), List.mem_of_getElem? (i := 1356) (by decide +kernel), List.mem_of_getElem? (i := 1357) (by decide +kernel)⟩
theorem lw_p103 : lw_okq (⟨"StrideWatchModel", "sum", "(JJ)J"⟩, 37) := ⟨⟨by decide +kernel, by decide +kernel⟩, List.mem_of_getElem? (i := 946) (by decide +kernel), List.mem_of_getElem? (i := 1360) (by decide +kernel), List.mem_of_getElem? (i := 1361) (by decide +kernel)⟩
theorem lw_p104 : lw_okq (⟨"StrideWatchModel", "flags", "(JZZ)V"⟩, 37) := ⟨⟨by decide +kernel, by decide +kernel⟩, List.mem_of_getElem? (i := 946) (by decide +kernel), List.mem_of_getElem? (i := 1368) (by decide +kernel), List.mem_of_getElem? (i := 1369) (by decide +kernel)⟩
theorem lw_p105 : lw_okq (⟨"StrideWatchModel", "difference", "(JJ)J"⟩, 37) := ⟨⟨by decide +kernel, by decide +kernel⟩, List.mem_of_getElem? (i := 946) (by decide +kernel), List.mem_of_getElem? (i := 1372) (by decide +kernel), List.mem_of_getElem? (i := 1373) (by decide +kernel)⟩
theorem lw_p106 : lw_okq (⟨"StrideWatchModel", "bits", "(J)J"⟩, 37) := ⟨⟨by decide +kernel, by decide +kernel⟩, List.mem_of_getElem? (i := 946) (by decide +kernel), List.mem_of_getElem? (i := 1376) (by decide +kernel), List.mem_of_getElem? (i := 1377) (by decide +kernel)⟩
theorem lw_p107 : lw_okq (⟨"StrideWatchModel", "count", "(JJ)J"⟩, 37) := ⟨⟨by decide +kernel, by decide +kernel⟩, List.mem_of_getElem? (i := 946) (by decide +kernel), List.mem_of_getElem? (i := 1380) (by decide +kernel), List.mem_of_getElem? (i := 1381) (by decide +kernel)⟩
theorem lw_p108 : lw_okq (⟨"StrideWatchModel", "shifted", "(J)J"⟩, 37) := ⟨⟨by decide +kernel, by decide +kernel⟩, List.mem_of_getElem? (i := 946) (by decide +kernel), List.mem_of_getElem? (i := 1384) (by decide +kernel), List.mem_of_getElem? (i := 1385) (by decide +kernel)⟩
theorem lw_p109 : lw_okq (⟨"StrideWatchModel", "holds", "(I)Z"⟩, 37) := ⟨⟨by decide +kernel, by decide +kernel⟩, List.mem_of_getElem? (i := 946) (by decide +kernel), List.mem_of_getElem? (i := 1388) (by decide +kernel), List.mem_of_getElem? (i := 1389) (by decide +kernel)⟩
def lw_privs_7 : List (MethodName × Nat) := [(⟨"StrideWatchModel", "join", "(III)V"⟩, 37), (⟨"StrideWatchModel", "isSame", "(II)Z"⟩, 37), (⟨"StrideWatchModel", "isSameRecord", "(II)Z"⟩, 37), (⟨"StrideWatchModel", "isReached", "(I)Z"⟩, 37), (⟨"StrideWatchModel", "oneMore", "()I"⟩, 37), (⟨"StrideWatchModel", "run", "()V"⟩, 37), (⟨"StrideWatchModel", "cutDown", "(J)J"⟩, 37), (⟨"StrideWatchModel", "sum", "(JJ)J"⟩, 37), (⟨"StrideWatchModel", "flags", "(JZZ)V"⟩, 37), (⟨"StrideWatchModel", "difference", "(JJ)J"⟩, 37), (⟨"StrideWatchModel", "bits", "(J)J"⟩, 37), (⟨"StrideWatchModel", "count", "(JJ)J"⟩, 37), (⟨"StrideWatchModel", "shifted", "(J)J"⟩, 37), (⟨"StrideWatchModel", "holds", "(I)Z"⟩, 37)]
theorem lw_r7 : ∀ q ∈ lw_privs_7, lw_okq q := List.forall_mem_cons.mpr ⟨lw_p96, List.forall_mem_cons.mpr ⟨lw_p97, List.forall_mem_cons.mpr ⟨lw_p98, List.forall_mem_cons.mpr ⟨lw_p99, List.forall_mem_cons.mpr ⟨lw_p100, List.forall_mem_cons.mpr ⟨lw_p101, List.forall_mem_cons.mpr ⟨lw_p102, List.forall_mem_cons.mpr ⟨lw_p103, List.forall_mem_cons.mpr ⟨lw_p104, List.forall_mem_cons.mpr ⟨lw_p105, List.forall_mem_cons.mpr ⟨lw_p106, List.forall_mem_cons.mpr ⟨lw_p107, List.forall_mem_cons.mpr ⟨lw_p108, List.forall_mem_cons.mpr ⟨lw_p109, fun _ h => absurd h List.not_mem_nil⟩⟩⟩⟩⟩⟩⟩⟩⟩⟩⟩⟩⟩⟩
def lw_privs : List (MethodName × Nat) := lw_privs_1 ++ (lw_privs_2 ++ (lw_privs_3 ++ (lw_privs_4 ++ (lw_privs_5 ++ (lw_privs_6 ++ (lw_privs_7))))))
def lw_tbl : List Cond := k2_sels lw_privs ++ tables_1
theorem lw_privs_ok : ∀ q ∈ lw_privs, lw_okq q := by
  show ∀ q ∈ lw_privs_1 ++ (lw_privs_2 ++ (lw_privs_3 ++ (lw_privs_4 ++ (lw_privs_5 ++ (lw_privs_6 ++ (lw_privs_7)))))), lw_okq q
  exact List.forall_mem_append.mpr ⟨lw_r1, List.forall_mem_append.mpr ⟨lw_r2, List.forall_mem_append.mpr ⟨lw_r3, List.forall_mem_append.mpr ⟨lw_r4, List.forall_mem_append.mpr ⟨lw_r5, List.forall_mem_append.mpr ⟨lw_r6, lw_r7⟩⟩⟩⟩⟩⟩

def RX0 : String := "StrideWatch$Branch"
def TX0 : u_T := fun k => match k with
  | 0 => ("StrideWatch$Branch", "x", "LStrideWatch$Span;", true)
  | _ => ("StrideWatch$Branch", "y", "LStrideWatch$Span;", true)
def tyX0 : Nat → FieldType := fun k => match k with
  | 0 => .object "StrideWatch$Span"
  | _ => .object "StrideWatch$Span"
abbrev wsX00 : List Cond := u_ws RX0 TX0 2
theorem nmX0 : ∀ a, a < 2 → ∀ b, b < 2 → a ≠ b → (TX0 a).2.1 ≠ (TX0 b).2.1 := by decide +kernel
theorem tyX0_ok : ∀ k, k < 2 → parseFieldDescriptor (TX0 k).2.2.1 = some (tyX0 k) := by decide +kernel
abbrev cX0_init : ByteArray := prog_2_method_1_code
def yX0_init : MethodName := ⟨RX0, "<init>", "()V"⟩
abbrev cX0_narrow : ByteArray := prog_2_method_2_code
def yX0_narrow : MethodName := ⟨RX0, "narrow", "(LStrideWatch$State;IZ)Z"⟩
abbrev cX0_narrowCompared : ByteArray := prog_2_method_3_code
def yX0_narrowCompared : MethodName := ⟨RX0, "narrowCompared", "(IZ)V"⟩
abbrev cX0_becomeEqual : ByteArray := prog_2_method_4_code
def yX0_becomeEqual : MethodName := ⟨RX0, "becomeEqual", "()V"⟩
abbrev cX0_becomeUnequal : ByteArray := prog_2_method_5_code
def yX0_becomeUnequal : MethodName := ⟨RX0, "becomeUnequal", "()V"⟩
abbrev cX0_order : ByteArray := prog_2_method_6_code
def yX0_order : MethodName := ⟨RX0, "order", "(LStrideWatch$Span;LStrideWatch$Span;I)V"⟩
abbrev cX0_orderUnsigned : ByteArray := prog_2_method_7_code
def yX0_orderUnsigned : MethodName := ⟨RX0, "orderUnsigned", "(LStrideWatch$Span;LStrideWatch$Span;I)V"⟩
def RX1 : String := "StrideWatch$Code"
def TX1 : u_T := fun k => match k with
  | 0 => ("StrideWatch$Code", "bytes", "[I", true)
  | _ => ("StrideWatch$Code", "count", "I", false)
def tyX1 : Nat → FieldType := fun k => match k with
  | 0 => .array .int
  | _ => .int
abbrev wsX10 : List Cond := u_ws RX1 TX1 2
theorem nmX1 : ∀ a, a < 2 → ∀ b, b < 2 → a ≠ b → (TX1 a).2.1 ≠ (TX1 b).2.1 := by decide +kernel
theorem tyX1_ok : ∀ k, k < 2 → parseFieldDescriptor (TX1 k).2.2.1 = some (tyX1 k) := by decide +kernel
abbrev cX1_init : ByteArray := prog_3_method_1_code
def yX1_init : MethodName := ⟨RX1, "<init>", "()V"⟩
abbrev cX1_append : ByteArray := prog_3_method_2_code
def yX1_append : MethodName := ⟨RX1, "append", "(II)V"⟩
abbrev cX1_holds : ByteArray := prog_3_method_3_code
def yX1_holds : MethodName := ⟨RX1, "holds", "(J)Z"⟩
def RX2 : String := "StrideWatch$Effect"
def TX2 : u_T := fun k => match k with
  | 0 => ("StrideWatch$Effect", "first", "LStrideWatch$Span;", true)
  | 1 => ("StrideWatch$Effect", "second", "LStrideWatch$Span;", true)
  | _ => ("StrideWatch$Effect", "result", "LStrideWatch$Span;", true)
def tyX2 : Nat → FieldType := fun k => match k with
  | 0 => .object "StrideWatch$Span"
  | 1 => .object "StrideWatch$Span"
  | _ => .object "StrideWatch$Span"
abbrev wsX20 : List Cond := u_ws RX2 TX2 3
theorem nmX2 : ∀ a, a < 3 → ∀ b, b < 3 → a ≠ b → (TX2 a).2.1 ≠ (TX2 b).2.1 := by decide +kernel
theorem tyX2_ok : ∀ k, k < 3 → parseFieldDescriptor (TX2 k).2.2.1 = some (tyX2 k) := by decide +kernel
abbrev cX2_init : ByteArray := prog_4_method_1_code
def yX2_init : MethodName := ⟨RX2, "<init>", "()V"⟩
abbrev cX2_apply : ByteArray := prog_4_method_2_code
def yX2_apply : MethodName := ⟨RX2, "apply", "(LStrideWatch$Instruction;LStrideWatch$State;)V"⟩
abbrev cX2_loadOperands : ByteArray := prog_4_method_3_code
def yX2_loadOperands : MethodName := ⟨RX2, "loadOperands", "(LStrideWatch$Instruction;LStrideWatch$State;)V"⟩
abbrev cX2_fitOperands : ByteArray := prog_4_method_4_code
def yX2_fitOperands : MethodName := ⟨RX2, "fitOperands", "(LStrideWatch$Instruction;)V"⟩
abbrev cX2_computeResult : ByteArray := prog_4_method_5_code
def yX2_computeResult : MethodName := ⟨RX2, "computeResult", "(LStrideWatch$Instruction;)V"⟩
abbrev cX2_noteRecord : ByteArray := prog_4_method_6_code
def yX2_noteRecord : MethodName := ⟨RX2, "noteRecord", "(LStrideWatch$Instruction;LStrideWatch$State;)V"⟩
def RX3 : String := "StrideWatch$Instruction"
def TX3 : u_T := fun k => match k with
  | 0 => ("StrideWatch$Instruction", "code", "LStrideWatch$Code;", true)
  | 1 => ("StrideWatch$Instruction", "cursor", "I", false)
  | 2 => ("StrideWatch$Instruction", "rex", "I", false)
  | 3 => ("StrideWatch$Instruction", "sound", "Z", false)
  | 4 => ("StrideWatch$Instruction", "register", "I", false)
  | 5 => ("StrideWatch$Instruction", "extension", "I", false)
  | 6 => ("StrideWatch$Instruction", "place", "I", false)
  | 7 => ("StrideWatch$Instruction", "length", "I", false)
  | 8 => ("StrideWatch$Instruction", "operation", "I", false)
  | 9 => ("StrideWatch$Instruction", "width", "I", false)
  | 10 => ("StrideWatch$Instruction", "target", "I", false)
  | 11 => ("StrideWatch$Instruction", "source", "I", false)
  | 12 => ("StrideWatch$Instruction", "detail", "I", false)
  | _ => ("StrideWatch$Instruction", "number", "J", false)
def tyX3 : Nat → FieldType := fun k => match k with
  | 0 => .object "StrideWatch$Code"
  | 1 => .int
  | 2 => .int
  | 3 => .boolean
  | 4 => .int
  | 5 => .int
  | 6 => .int
  | 7 => .int
  | 8 => .int
  | 9 => .int
  | 10 => .int
  | 11 => .int
  | 12 => .int
  | _ => .long
abbrev wsX30 : List Cond := u_ws RX3 TX3 14
theorem nmX3 : ∀ a, a < 14 → ∀ b, b < 14 → a ≠ b → (TX3 a).2.1 ≠ (TX3 b).2.1 := by decide +kernel
theorem tyX3_ok : ∀ k, k < 14 → parseFieldDescriptor (TX3 k).2.2.1 = some (tyX3 k) := by decide +kernel
abbrev cX3_init : ByteArray := prog_5_method_1_code
def yX3_init : MethodName := ⟨RX3, "<init>", "(LStrideWatch$Code;)V"⟩
abbrev cX3_readFrom : ByteArray := prog_5_method_2_code
def yX3_readFrom : MethodName := ⟨RX3, "readFrom", "(I)V"⟩
abbrev cX3_tell : ByteArray := prog_5_method_3_code
def yX3_tell : MethodName := ⟨RX3, "tell", "(I)I"⟩
abbrev cX3_becomePlain : ByteArray := prog_5_method_4_code
def yX3_becomePlain : MethodName := ⟨RX3, "becomePlain", "(I)V"⟩
abbrev cX3_isFrameChanged : ByteArray := prog_5_method_5_code
def yX3_isFrameChanged : MethodName := ⟨RX3, "isFrameChanged", "()Z"⟩
abbrev cX3_isCarryArithmetic : ByteArray := prog_5_method_6_code
def yX3_isCarryArithmetic : MethodName := ⟨RX3, "isCarryArithmetic", "()Z"⟩
abbrev cX3_readOther : ByteArray := prog_5_method_7_code
def yX3_readOther : MethodName := ⟨RX3, "readOther", "(I)V"⟩
abbrev cX3_readPair : ByteArray := prog_5_method_8_code
def yX3_readPair : MethodName := ⟨RX3, "readPair", "(IZ)V"⟩
abbrev cX3_readSignExtension : ByteArray := prog_5_method_9_code
def yX3_readSignExtension : MethodName := ⟨RX3, "readSignExtension", "()V"⟩
abbrev cX3_readArithmeticWithConstant : ByteArray := prog_5_method_10_code
def yX3_readArithmeticWithConstant : MethodName := ⟨RX3, "readArithmeticWithConstant", "(I)V"⟩
abbrev cX3_readShift : ByteArray := prog_5_method_11_code
def yX3_readShift : MethodName := ⟨RX3, "readShift", "()V"⟩
abbrev cX3_readMoveToPlace : ByteArray := prog_5_method_12_code
def yX3_readMoveToPlace : MethodName := ⟨RX3, "readMoveToPlace", "()V"⟩
abbrev cX3_readMoveToRegister : ByteArray := prog_5_method_13_code
def yX3_readMoveToRegister : MethodName := ⟨RX3, "readMoveToRegister", "(I)V"⟩
abbrev cX3_readTestNotNeg : ByteArray := prog_5_method_14_code
def yX3_readTestNotNeg : MethodName := ⟨RX3, "readTestNotNeg", "()V"⟩
abbrev cX3_readIncDec : ByteArray := prog_5_method_15_code
def yX3_readIncDec : MethodName := ⟨RX3, "readIncDec", "()V"⟩
abbrev cX3_readJump : ByteArray := prog_5_method_16_code
def yX3_readJump : MethodName := ⟨RX3, "readJump", "(III)V"⟩
abbrev cX3_readPlace : ByteArray := prog_5_method_17_code
def yX3_readPlace : MethodName := ⟨RX3, "readPlace", "()V"⟩
abbrev cX3_readNumber : ByteArray := prog_5_method_18_code
def yX3_readNumber : MethodName := ⟨RX3, "readNumber", "(I)J"⟩
abbrev cX3_nextByte : ByteArray := prog_5_method_19_code
def yX3_nextByte : MethodName := ⟨RX3, "nextByte", "()I"⟩
def RX4 : String := "StrideWatch$Looking"
def TX4 : u_T := fun k => match k with
  | 0 => ("StrideWatch$Looking", "code", "LStrideWatch$Code;", true)
  | 1 => ("StrideWatch$Looking", "instruction", "LStrideWatch$Instruction;", true)
  | 2 => ("StrideWatch$Looking", "points", "[LStrideWatch$Point;", true)
  | 3 => ("StrideWatch$Looking", "work", "LStrideWatch$State;", true)
  | 4 => ("StrideWatch$Looking", "effect", "LStrideWatch$Effect;", true)
  | 5 => ("StrideWatch$Looking", "branch", "LStrideWatch$Branch;", true)
  | 6 => ("StrideWatch$Looking", "before", "LStrideWatch$Span;", true)
  | 7 => ("StrideWatch$Looking", "arriving", "LStrideWatch$Span;", true)
  | _ => ("StrideWatch$Looking", "joined", "LStrideWatch$Span;", true)
def tyX4 : Nat → FieldType := fun k => match k with
  | 0 => .object "StrideWatch$Code"
  | 1 => .object "StrideWatch$Instruction"
  | 2 => .array (.object "StrideWatch$Point")
  | 3 => .object "StrideWatch$State"
  | 4 => .object "StrideWatch$Effect"
  | 5 => .object "StrideWatch$Branch"
  | 6 => .object "StrideWatch$Span"
  | 7 => .object "StrideWatch$Span"
  | _ => .object "StrideWatch$Span"
abbrev wsX40 : List Cond := u_ws RX4 TX4 9
theorem nmX4 : ∀ a, a < 9 → ∀ b, b < 9 → a ≠ b → (TX4 a).2.1 ≠ (TX4 b).2.1 := by decide +kernel
theorem tyX4_ok : ∀ k, k < 9 → parseFieldDescriptor (TX4 k).2.2.1 = some (tyX4 k) := by decide +kernel
abbrev cX4_init : ByteArray := prog_6_method_1_code
def yX4_init : MethodName := ⟨RX4, "<init>", "(LStrideWatch$Code;LStrideWatch$Instruction;)V"⟩
abbrev cX4_forget : ByteArray := prog_6_method_2_code
def yX4_forget : MethodName := ⟨RX4, "forget", "()V"⟩
abbrev cX4_timesGot : ByteArray := prog_6_method_3_code
def yX4_timesGot : MethodName := ⟨RX4, "timesGot", "(I)I"⟩
abbrev cX4_spanOf : ByteArray := prog_6_method_4_code
def yX4_spanOf : MethodName := ⟨RX4, "spanOf", "(II)LStrideWatch$Span;"⟩
abbrev cX4_search : ByteArray := prog_6_method_5_code
def yX4_search : MethodName := ⟨RX4, "search", "(LStrideWatch$State;)I"⟩
abbrev cX4_pointIfMade : ByteArray := prog_6_method_6_code
def yX4_pointIfMade : MethodName := ⟨RX4, "pointIfMade", "(I)LStrideWatch$Point;"⟩
abbrev cX4_isWaiting : ByteArray := prog_6_method_7_code
def yX4_isWaiting : MethodName := ⟨RX4, "isWaiting", "(I)Z"⟩
abbrev cX4_goThrough : ByteArray := prog_6_method_8_code
def yX4_goThrough : MethodName := ⟨RX4, "goThrough", "(I)V"⟩
abbrev cX4_arrive : ByteArray := prog_6_method_9_code
def yX4_arrive : MethodName := ⟨RX4, "arrive", "(IJ)V"⟩
abbrev cX4_absorb : ByteArray := prog_6_method_10_code
def yX4_absorb : MethodName := ⟨RX4, "absorb", "(LStrideWatch$State;Z)Z"⟩
def RX5 : String := "StrideWatch$Point"
def TX5 : u_T := fun k => match k with
  | 0 => ("StrideWatch$Point", "state", "LStrideWatch$State;", true)
  | 1 => ("StrideWatch$Point", "got", "I", false)
  | _ => ("StrideWatch$Point", "waiting", "Z", false)
def tyX5 : Nat → FieldType := fun k => match k with
  | 0 => .object "StrideWatch$State"
  | 1 => .int
  | _ => .boolean
abbrev wsX50 : List Cond := u_ws RX5 TX5 3
theorem nmX5 : ∀ a, a < 3 → ∀ b, b < 3 → a ≠ b → (TX5 a).2.1 ≠ (TX5 b).2.1 := by decide +kernel
theorem tyX5_ok : ∀ k, k < 3 → parseFieldDescriptor (TX5 k).2.2.1 = some (tyX5 k) := by decide +kernel
abbrev cX5_init : ByteArray := prog_7_method_1_code
def yX5_init : MethodName := ⟨RX5, "<init>", "()V"⟩
def RX6 : String := "StrideWatch$Run"
def TX6 : u_T := fun k => match k with
  | 0 => ("StrideWatch$Run", "code", "LStrideWatch$Code;", true)
  | 1 => ("StrideWatch$Run", "instruction", "LStrideWatch$Instruction;", true)
  | 2 => ("StrideWatch$Run", "prepared", "[J", true)
  | 3 => ("StrideWatch$Run", "held", "[J", true)
  | 4 => ("StrideWatch$Run", "where", "I", false)
  | 5 => ("StrideWatch$Run", "known", "Z", false)
  | 6 => ("StrideWatch$Run", "zero", "Z", false)
  | 7 => ("StrideWatch$Run", "sign", "Z", false)
  | 8 => ("StrideWatch$Run", "carry", "Z", false)
  | _ => ("StrideWatch$Run", "overflow", "Z", false)
def tyX6 : Nat → FieldType := fun k => match k with
  | 0 => .object "StrideWatch$Code"
  | 1 => .object "StrideWatch$Instruction"
  | 2 => .array .long
  | 3 => .array .long
  | 4 => .int
  | 5 => .boolean
  | 6 => .boolean
  | 7 => .boolean
  | 8 => .boolean
  | _ => .boolean
abbrev wsX60 : List Cond := u_ws RX6 TX6 10
theorem nmX6 : ∀ a, a < 10 → ∀ b, b < 10 → a ≠ b → (TX6 a).2.1 ≠ (TX6 b).2.1 := by decide +kernel
theorem tyX6_ok : ∀ k, k < 10 → parseFieldDescriptor (TX6 k).2.2.1 = some (tyX6 k) := by decide +kernel
abbrev cX6_init : ByteArray := prog_8_method_1_code
def yX6_init : MethodName := ⟨RX6, "<init>", "(LStrideWatch$Code;LStrideWatch$Instruction;)V"⟩
abbrev cX6_prepare : ByteArray := prog_8_method_2_code
def yX6_prepare : MethodName := ⟨RX6, "prepare", "(IJ)V"⟩
abbrev cX6_begin : ByteArray := prog_8_method_3_code
def yX6_begin : MethodName := ⟨RX6, "begin", "()V"⟩
abbrev cX6_read : ByteArray := prog_8_method_4_code
def yX6_read : MethodName := ⟨RX6, "read", "(I)J"⟩
abbrev cX6_doNext : ByteArray := prog_8_method_5_code
def yX6_doNext : MethodName := ⟨RX6, "doNext", "()I"⟩
abbrev cX6_moveTo : ByteArray := prog_8_method_6_code
def yX6_moveTo : MethodName := ⟨RX6, "moveTo", "(J)V"⟩
abbrev cX6_isSo : ByteArray := prog_8_method_7_code
def yX6_isSo : MethodName := ⟨RX6, "isSo", "(I)Z"⟩
abbrev cX6_compute : ByteArray := prog_8_method_8_code
def yX6_compute : MethodName := ⟨RX6, "compute", "()V"⟩
abbrev cX6_atWidth : ByteArray := prog_8_method_9_code
def yX6_atWidth : MethodName := ⟨RX6, "atWidth", "(J)J"⟩
abbrev cX6_write : ByteArray := prog_8_method_10_code
def yX6_write : MethodName := ⟨RX6, "write", "(J)V"⟩
abbrev cX6_sum : ByteArray := prog_8_method_11_code
def yX6_sum : MethodName := ⟨RX6, "sum", "(JJ)J"⟩
abbrev cX6_difference : ByteArray := prog_8_method_12_code
def yX6_difference : MethodName := ⟨RX6, "difference", "(JJ)J"⟩
abbrev cX6_nextTo : ByteArray := prog_8_method_13_code
def yX6_nextTo : MethodName := ⟨RX6, "nextTo", "(JZ)J"⟩
abbrev cX6_noteBits : ByteArray := prog_8_method_14_code
def yX6_noteBits : MethodName := ⟨RX6, "noteBits", "(J)J"⟩
abbrev cX6_shifted : ByteArray := prog_8_method_15_code
def yX6_shifted : MethodName := ⟨RX6, "shifted", "(J)J"⟩
def RX7 : String := "StrideWatch$Span"
def TX7 : u_T := fun k => match k with
  | 0 => ("StrideWatch$Span", "low", "J", false)
  | 1 => ("StrideWatch$Span", "high", "J", false)
  | _ => ("StrideWatch$Span", "step", "J", false)
def tyX7 : Nat → FieldType := fun k => match k with
  | 0 => .long
  | 1 => .long
  | _ => .long
abbrev wsX70 : List Cond := u_ws RX7 TX7 3
theorem nmX7 : ∀ a, a < 3 → ∀ b, b < 3 → a ≠ b → (TX7 a).2.1 ≠ (TX7 b).2.1 := by decide +kernel
theorem tyX7_ok : ∀ k, k < 3 → parseFieldDescriptor (TX7 k).2.2.1 = some (tyX7 k) := by decide +kernel
abbrev cX7_init : ByteArray := prog_9_method_1_code
def yX7_init : MethodName := ⟨RX7, "<init>", "()V"⟩
abbrev cX7_isTriple : ByteArray := prog_9_method_2_code
def yX7_isTriple : MethodName := ⟨RX7, "isTriple", "(JJJ)Z"⟩
abbrev cX7_isAny : ByteArray := prog_9_method_3_code
def yX7_isAny : MethodName := ⟨RX7, "isAny", "()Z"⟩
abbrev cX7_isNone : ByteArray := prog_9_method_4_code
def yX7_isNone : MethodName := ⟨RX7, "isNone", "()Z"⟩
abbrev cX7_isSingle : ByteArray := prog_9_method_5_code
def yX7_isSingle : MethodName := ⟨RX7, "isSingle", "()Z"⟩
abbrev cX7_isNatural : ByteArray := prog_9_method_6_code
def yX7_isNatural : MethodName := ⟨RX7, "isNatural", "()Z"⟩
abbrev cX7_holds : ByteArray := prog_9_method_7_code
def yX7_holds : MethodName := ⟨RX7, "holds", "(J)Z"⟩
abbrev cX7_become : ByteArray := prog_9_method_8_code
def yX7_become : MethodName := ⟨RX7, "become", "(JJJ)V"⟩
abbrev cX7_becomeAny : ByteArray := prog_9_method_9_code
def yX7_becomeAny : MethodName := ⟨RX7, "becomeAny", "()V"⟩
abbrev cX7_becomeNone : ByteArray := prog_9_method_10_code
def yX7_becomeNone : MethodName := ⟨RX7, "becomeNone", "()V"⟩
abbrev cX7_copyFrom : ByteArray := prog_9_method_11_code
def yX7_copyFrom : MethodName := ⟨RX7, "copyFrom", "(LStrideWatch$Span;)V"⟩
abbrev cX7_join : ByteArray := prog_9_method_12_code
def yX7_join : MethodName := ⟨RX7, "join", "(LStrideWatch$Span;LStrideWatch$Span;)V"⟩
abbrev cX7_stretchFrom : ByteArray := prog_9_method_13_code
def yX7_stretchFrom : MethodName := ⟨RX7, "stretchFrom", "(LStrideWatch$Span;)V"⟩
abbrev cX7_cut : ByteArray := prog_9_method_14_code
def yX7_cut : MethodName := ⟨RX7, "cut", "(JJ)V"⟩
abbrev cX7_drop : ByteArray := prog_9_method_15_code
def yX7_drop : MethodName := ⟨RX7, "drop", "(J)V"⟩
abbrev cX7_operate : ByteArray := prog_9_method_16_code
def yX7_operate : MethodName := ⟨RX7, "operate", "(ILStrideWatch$Span;LStrideWatch$Span;I)V"⟩
abbrev cX7_takeLowHalf : ByteArray := prog_9_method_17_code
def yX7_takeLowHalf : MethodName := ⟨RX7, "takeLowHalf", "()V"⟩
abbrev cX7_takeSignedHalf : ByteArray := prog_9_method_18_code
def yX7_takeSignedHalf : MethodName := ⟨RX7, "takeSignedHalf", "()V"⟩
abbrev cX7_add : ByteArray := prog_9_method_19_code
def yX7_add : MethodName := ⟨RX7, "add", "(LStrideWatch$Span;LStrideWatch$Span;)V"⟩
abbrev cX7_subtract : ByteArray := prog_9_method_20_code
def yX7_subtract : MethodName := ⟨RX7, "subtract", "(LStrideWatch$Span;LStrideWatch$Span;)V"⟩
abbrev cX7_subtractFrom : ByteArray := prog_9_method_21_code
def yX7_subtractFrom : MethodName := ⟨RX7, "subtractFrom", "(JLStrideWatch$Span;)V"⟩
abbrev cX7_and : ByteArray := prog_9_method_22_code
def yX7_and : MethodName := ⟨RX7, "and", "(LStrideWatch$Span;LStrideWatch$Span;)V"⟩
abbrev cX7_mix : ByteArray := prog_9_method_23_code
def yX7_mix : MethodName := ⟨RX7, "mix", "(ZLStrideWatch$Span;LStrideWatch$Span;)V"⟩
abbrev cX7_shiftRight : ByteArray := prog_9_method_24_code
def yX7_shiftRight : MethodName := ⟨RX7, "shiftRight", "(LStrideWatch$Span;I)V"⟩
abbrev cX7_multiply : ByteArray := prog_9_method_25_code
def yX7_multiply : MethodName := ⟨RX7, "multiply", "(LStrideWatch$Span;LStrideWatch$Span;)V"⟩
abbrev cX7_isFactor : ByteArray := prog_9_method_26_code
def yX7_isFactor : MethodName := ⟨RX7, "isFactor", "()Z"⟩
abbrev cX7_gcd : ByteArray := prog_9_method_27_code
def yX7_gcd : MethodName := ⟨RX7, "gcd", "(JJ)J"⟩
def RX8 : String := "StrideWatch$State"
def TX8 : u_T := fun k => match k with
  | 0 => ("StrideWatch$State", "lows", "[J", true)
  | 1 => ("StrideWatch$State", "highs", "[J", true)
  | 2 => ("StrideWatch$State", "steps", "[J", true)
  | 3 => ("StrideWatch$State", "record", "I", false)
  | 4 => ("StrideWatch$State", "x", "I", false)
  | 5 => ("StrideWatch$State", "y", "I", false)
  | _ => ("StrideWatch$State", "number", "J", false)
def tyX8 : Nat → FieldType := fun k => match k with
  | 0 => .array .long
  | 1 => .array .long
  | 2 => .array .long
  | 3 => .int
  | 4 => .int
  | 5 => .int
  | _ => .long
abbrev wsX80 : List Cond := u_ws RX8 TX8 7
theorem nmX8 : ∀ a, a < 7 → ∀ b, b < 7 → a ≠ b → (TX8 a).2.1 ≠ (TX8 b).2.1 := by decide +kernel
theorem tyX8_ok : ∀ k, k < 7 → parseFieldDescriptor (TX8 k).2.2.1 = some (tyX8 k) := by decide +kernel
abbrev cX8_init : ByteArray := prog_10_method_1_code
def yX8_init : MethodName := ⟨RX8, "<init>", "()V"⟩
abbrev cX8_keep : ByteArray := prog_10_method_2_code
def yX8_keep : MethodName := ⟨RX8, "keep", "(IJJJ)V"⟩
abbrev cX8_store : ByteArray := prog_10_method_3_code
def yX8_store : MethodName := ⟨RX8, "store", "(ILStrideWatch$Span;)V"⟩
abbrev cX8_load : ByteArray := prog_10_method_4_code
def yX8_load : MethodName := ⟨RX8, "load", "(ILStrideWatch$Span;)V"⟩
abbrev cX8_copyFrom : ByteArray := prog_10_method_5_code
def yX8_copyFrom : MethodName := ⟨RX8, "copyFrom", "(LStrideWatch$State;)V"⟩
abbrev cX8_setRecord : ByteArray := prog_10_method_6_code
def yX8_setRecord : MethodName := ⟨RX8, "setRecord", "(IIIJ)V"⟩
abbrev cX8_dropRecord : ByteArray := prog_10_method_7_code
def yX8_dropRecord : MethodName := ⟨RX8, "dropRecord", "()V"⟩
abbrev cX8_isSameRecord : ByteArray := prog_10_method_8_code
def yX8_isSameRecord : MethodName := ⟨RX8, "isSameRecord", "(LStrideWatch$State;)Z"⟩
abbrev cX8_isSameSpan : ByteArray := prog_10_method_9_code
def yX8_isSameSpan : MethodName := ⟨RX8, "isSameSpan", "(LStrideWatch$State;I)Z"⟩
def RX9 : String := "StrideWatch"
def TX9 : u_T := fun k => match k with
  | 0 => ("StrideWatch", "code", "LStrideWatch$Code;", true)
  | 1 => ("StrideWatch", "instruction", "LStrideWatch$Instruction;", true)
  | 2 => ("StrideWatch", "entry", "LStrideWatch$State;", true)
  | 3 => ("StrideWatch", "looking", "LStrideWatch$Looking;", true)
  | _ => ("StrideWatch", "run", "LStrideWatch$Run;", true)
def tyX9 : Nat → FieldType := fun k => match k with
  | 0 => .object "StrideWatch$Code"
  | 1 => .object "StrideWatch$Instruction"
  | 2 => .object "StrideWatch$State"
  | 3 => .object "StrideWatch$Looking"
  | _ => .object "StrideWatch$Run"
abbrev wsX90 : List Cond := u_ws RX9 TX9 5
theorem nmX9 : ∀ a, a < 5 → ∀ b, b < 5 → a ≠ b → (TX9 a).2.1 ≠ (TX9 b).2.1 := by decide +kernel
theorem tyX9_ok : ∀ k, k < 5 → parseFieldDescriptor (TX9 k).2.2.1 = some (tyX9 k) := by decide +kernel
abbrev cX9_init : ByteArray := prog_1_method_1_code
def yX9_init : MethodName := ⟨RX9, "<init>", "()V"⟩
abbrev cX9_feed : ByteArray := prog_1_method_2_code
def yX9_feed : MethodName := ⟨RX9, "feed", "(IIIII)I"⟩
abbrev cX9_erase : ByteArray := prog_1_method_3_code
def yX9_erase : MethodName := ⟨RX9, "erase", "()I"⟩
abbrev cX9_given : ByteArray := prog_1_method_4_code
def yX9_given : MethodName := ⟨RX9, "given", "(IJJJ)V"⟩
abbrev cX9_any : ByteArray := prog_1_method_5_code
def yX9_any : MethodName := ⟨RX9, "any", "(I)V"⟩
abbrev cX9_decode : ByteArray := prog_1_method_6_code
def yX9_decode : MethodName := ⟨RX9, "decode", "(II)I"⟩
abbrev cX9_constant : ByteArray := prog_1_method_7_code
def yX9_constant : MethodName := ⟨RX9, "constant", "(I)J"⟩
abbrev cX9_look : ByteArray := prog_1_method_8_code
def yX9_look : MethodName := ⟨RX9, "look", "()I"⟩
abbrev cX9_reached : ByteArray := prog_1_method_9_code
def yX9_reached : MethodName := ⟨RX9, "reached", "(I)I"⟩
abbrev cX9_set : ByteArray := prog_1_method_10_code
def yX9_set : MethodName := ⟨RX9, "set", "(III)J"⟩
abbrev cX9_has : ByteArray := prog_1_method_11_code
def yX9_has : MethodName := ⟨RX9, "has", "(IIJ)Z"⟩
abbrev cX9_start : ByteArray := prog_1_method_12_code
def yX9_start : MethodName := ⟨RX9, "start", "()V"⟩
abbrev cX9_put : ByteArray := prog_1_method_13_code
def yX9_put : MethodName := ⟨RX9, "put", "(IJ)V"⟩
abbrev cX9_go : ByteArray := prog_1_method_14_code
def yX9_go : MethodName := ⟨RX9, "go", "(I)I"⟩
abbrev cX9_at : ByteArray := prog_1_method_15_code
def yX9_at : MethodName := ⟨RX9, "at", "()I"⟩
abbrev cX9_value : ByteArray := prog_1_method_16_code
def yX9_value : MethodName := ⟨RX9, "value", "(I)J"⟩
abbrev cX9_forgetFindings : ByteArray := prog_1_method_17_code
def yX9_forgetFindings : MethodName := ⟨RX9, "forgetFindings", "()V"⟩
abbrev cX9_requireByte : ByteArray := prog_1_method_18_code
def yX9_requireByte : MethodName := ⟨RX9, "requireByte", "(I)V"⟩
abbrev cX9_requireLocation : ByteArray := prog_1_method_19_code
def yX9_requireLocation : MethodName := ⟨RX9, "requireLocation", "(I)V"⟩
abbrev cX9_isLocation : ByteArray := prog_1_method_20_code
def yX9_isLocation : MethodName := ⟨RX9, "isLocation", "(I)Z"⟩
def RX10 : String := "StrideWatchModel"
def TX10 : u_T := fun k => match k with
  | 0 => ("StrideWatchModel", "refusal", "I", false)
  | 1 => ("StrideWatchModel", "code", "[I", true)
  | 2 => ("StrideWatchModel", "size", "I", false)
  | 3 => ("StrideWatchModel", "sort", "[I", true)
  | 4 => ("StrideWatchModel", "low", "[J", true)
  | 5 => ("StrideWatchModel", "high", "[J", true)
  | 6 => ("StrideWatchModel", "step", "[J", true)
  | 7 => ("StrideWatchModel", "got", "[I", true)
  | 8 => ("StrideWatchModel", "changed", "[Z", true)
  | 9 => ("StrideWatchModel", "record", "[I", true)
  | 10 => ("StrideWatchModel", "recordX", "[I", true)
  | 11 => ("StrideWatchModel", "recordY", "[I", true)
  | 12 => ("StrideWatchModel", "recordC", "[J", true)
  | 13 => ("StrideWatchModel", "isLooked", "Z", false)
  | 14 => ("StrideWatchModel", "at", "I", false)
  | 15 => ("StrideWatchModel", "op", "I", false)
  | 16 => ("StrideWatchModel", "wide", "I", false)
  | 17 => ("StrideWatchModel", "gets", "I", false)
  | 18 => ("StrideWatchModel", "other", "I", false)
  | 19 => ("StrideWatchModel", "detail", "I", false)
  | 20 => ("StrideWatchModel", "constant", "J", false)
  | 21 => ("StrideWatchModel", "length", "I", false)
  | 22 => ("StrideWatchModel", "isBad", "Z", false)
  | 23 => ("StrideWatchModel", "isStarted", "Z", false)
  | 24 => ("StrideWatchModel", "here", "I", false)
  | 25 => ("StrideWatchModel", "setTo", "[J", true)
  | 26 => ("StrideWatchModel", "value", "[J", true)
  | 27 => ("StrideWatchModel", "isUnknown", "Z", false)
  | 28 => ("StrideWatchModel", "flagZ", "Z", false)
  | 29 => ("StrideWatchModel", "flagS", "Z", false)
  | 30 => ("StrideWatchModel", "flagC", "Z", false)
  | 31 => ("StrideWatchModel", "flagO", "Z", false)
  | 32 => ("StrideWatchModel", "reg", "I", false)
  | 33 => ("StrideWatchModel", "rm", "I", false)
  | 34 => ("StrideWatchModel", "three", "I", false)
  | 35 => ("StrideWatchModel", "mod", "I", false)
  | _ => ("StrideWatchModel", "isDead", "Z", false)
def tyX10 : Nat → FieldType := fun k => match k with
  | 0 => .int
  | 1 => .array .int
  | 2 => .int
  | 3 => .array .int
  | 4 => .array .long
  | 5 => .array .long
  | 6 => .array .long
  | 7 => .array .int
  | 8 => .array .boolean
  | 9 => .array .int
  | 10 => .array .int
  | 11 => .array .int
  | 12 => .array .long
  | 13 => .boolean
  | 14 => .int
  | 15 => .int
  | 16 => .int
  | 17 => .int
  | 18 => .int
  | 19 => .int
  | 20 => .long
  | 21 => .int
  | 22 => .boolean
  | 23 => .boolean
  | 24 => .int
  | 25 => .array .long
  | 26 => .array .long
  | 27 => .boolean
  | 28 => .boolean
  | 29 => .boolean
  | 30 => .boolean
  | 31 => .boolean
  | 32 => .int
  | 33 => .int
  | 34 => .int
  | 35 => .int
  | _ => .boolean
abbrev wsX100 : List Cond := u_ws RX10 TX10 37
theorem nmX10 : ∀ a, a < 37 → ∀ b, b < 37 → a ≠ b → (TX10 a).2.1 ≠ (TX10 b).2.1 := by decide +kernel
theorem tyX10_ok : ∀ k, k < 37 → parseFieldDescriptor (TX10 k).2.2.1 = some (tyX10 k) := by decide +kernel
abbrev cX10_init : ByteArray := prog_12_method_1_code
def yX10_init : MethodName := ⟨RX10, "<init>", "()V"⟩
abbrev cX10_thrown : ByteArray := prog_12_method_2_code
def yX10_thrown : MethodName := ⟨RX10, "thrown", "()I"⟩
abbrev cX10_refused : ByteArray := prog_12_method_3_code
def yX10_refused : MethodName := ⟨RX10, "refused", "(I)Z"⟩
abbrev cX10_isIn : ByteArray := prog_12_method_4_code
def yX10_isIn : MethodName := ⟨RX10, "isIn", "(JJJ)Z"⟩
abbrev cX10_forget : ByteArray := prog_12_method_5_code
def yX10_forget : MethodName := ⟨RX10, "forget", "()V"⟩
abbrev cX10_feed : ByteArray := prog_12_method_6_code
def yX10_feed : MethodName := ⟨RX10, "feed", "(IIIII)I"⟩
abbrev cX10_erase : ByteArray := prog_12_method_7_code
def yX10_erase : MethodName := ⟨RX10, "erase", "()I"⟩
abbrev cX10_next : ByteArray := prog_12_method_8_code
def yX10_next : MethodName := ⟨RX10, "next", "()I"⟩
abbrev cX10_number : ByteArray := prog_12_method_9_code
def yX10_number : MethodName := ⟨RX10, "number", "(I)J"⟩
abbrev cX10_readPlaces : ByteArray := prog_12_method_10_code
def yX10_readPlaces : MethodName := ⟨RX10, "readPlaces", "(I)V"⟩
abbrev cX10_take : ByteArray := prog_12_method_11_code
def yX10_take : MethodName := ⟨RX10, "take", "(III)V"⟩
abbrev cX10_isSimple : ByteArray := prog_12_method_12_code
def yX10_isSimple : MethodName := ⟨RX10, "isSimple", "(I)Z"⟩
abbrev cX10_read : ByteArray := prog_12_method_13_code
def yX10_read : MethodName := ⟨RX10, "read", "(I)Z"⟩
abbrev cX10_readRest : ByteArray := prog_12_method_14_code
def yX10_readRest : MethodName := ⟨RX10, "readRest", "(II)V"⟩
abbrev cX10_readTwo : ByteArray := prog_12_method_15_code
def yX10_readTwo : MethodName := ⟨RX10, "readTwo", "(II)V"⟩
abbrev cX10_readIf : ByteArray := prog_12_method_16_code
def yX10_readIf : MethodName := ⟨RX10, "readIf", "(II)V"⟩
abbrev cX10_readJumps : ByteArray := prog_12_method_17_code
def yX10_readJumps : MethodName := ⟨RX10, "readJumps", "(I)V"⟩
abbrev cX10_decode : ByteArray := prog_12_method_18_code
def yX10_decode : MethodName := ⟨RX10, "decode", "(II)I"⟩
abbrev cX10_constant : ByteArray := prog_12_method_19_code
def yX10_constant : MethodName := ⟨RX10, "constant", "(I)J"⟩
abbrev cX10_gcd : ByteArray := prog_12_method_20_code
def yX10_gcd : MethodName := ⟨RX10, "gcd", "(JJ)J"⟩
abbrev cX10_make : ByteArray := prog_12_method_21_code
def yX10_make : MethodName := ⟨RX10, "make", "(IIJJJ)V"⟩
abbrev cX10_copy : ByteArray := prog_12_method_22_code
def yX10_copy : MethodName := ⟨RX10, "copy", "(II)V"⟩
abbrev cX10_isSame : ByteArray := prog_12_method_23_code
def yX10_isSame : MethodName := ⟨RX10, "isSame", "(II)Z"⟩
abbrev cX10_isOne : ByteArray := prog_12_method_24_code
def yX10_isOne : MethodName := ⟨RX10, "isOne", "(I)Z"⟩
abbrev cX10_isNumber : ByteArray := prog_12_method_25_code
def yX10_isNumber : MethodName := ⟨RX10, "isNumber", "(IJ)Z"⟩
abbrev cX10_one : ByteArray := prog_12_method_26_code
def yX10_one : MethodName := ⟨RX10, "one", "(IJ)V"⟩
abbrev cX10_contains : ByteArray := prog_12_method_27_code
def yX10_contains : MethodName := ⟨RX10, "contains", "(IJ)Z"⟩
abbrev cX10_isPlain : ByteArray := prog_12_method_28_code
def yX10_isPlain : MethodName := ⟨RX10, "isPlain", "(III)Z"⟩
abbrev cX10_join : ByteArray := prog_12_method_29_code
def yX10_join : MethodName := ⟨RX10, "join", "(III)V"⟩
abbrev cX10_widen : ByteArray := prog_12_method_30_code
def yX10_widen : MethodName := ⟨RX10, "widen", "(III)V"⟩
abbrev cX10_cut : ByteArray := prog_12_method_31_code
def yX10_cut : MethodName := ⟨RX10, "cut", "(IIZJZJ)V"⟩
abbrev cX10_add : ByteArray := prog_12_method_32_code
def yX10_add : MethodName := ⟨RX10, "add", "(III)V"⟩
abbrev cX10_negate : ByteArray := prog_12_method_33_code
def yX10_negate : MethodName := ⟨RX10, "negate", "(II)V"⟩
abbrev cX10_subtract : ByteArray := prog_12_method_34_code
def yX10_subtract : MethodName := ⟨RX10, "subtract", "(III)V"⟩
abbrev cX10_times : ByteArray := prog_12_method_35_code
def yX10_times : MethodName := ⟨RX10, "times", "(III)V"⟩
abbrev cX10_and : ByteArray := prog_12_method_36_code
def yX10_and : MethodName := ⟨RX10, "and", "(III)V"⟩
abbrev cX10_or : ByteArray := prog_12_method_37_code
def yX10_or : MethodName := ⟨RX10, "or", "(IIIZ)V"⟩
abbrev cX10_shiftDown : ByteArray := prog_12_method_38_code
def yX10_shiftDown : MethodName := ⟨RX10, "shiftDown", "(III)V"⟩
abbrev cX10_shiftZero : ByteArray := prog_12_method_39_code
def yX10_shiftZero : MethodName := ⟨RX10, "shiftZero", "(III)V"⟩
abbrev cX10_lowPart : ByteArray := prog_12_method_40_code
def yX10_lowPart : MethodName := ⟨RX10, "lowPart", "(II)V"⟩
abbrev cX10_signed : ByteArray := prog_12_method_41_code
def yX10_signed : MethodName := ⟨RX10, "signed", "(II)V"⟩
abbrev cX10_operand : ByteArray := prog_12_method_42_code
def yX10_operand : MethodName := ⟨RX10, "operand", "(I)V"⟩
abbrev cX10_act : ByteArray := prog_12_method_43_code
def yX10_act : MethodName := ⟨RX10, "act", "(I)V"⟩
abbrev cX10_narrowed : ByteArray := prog_12_method_44_code
def yX10_narrowed : MethodName := ⟨RX10, "narrowed", "(IZ)V"⟩
abbrev cX10_work : ByteArray := prog_12_method_45_code
def yX10_work : MethodName := ⟨RX10, "work", "()V"⟩
abbrev cX10_workMore : ByteArray := prog_12_method_46_code
def yX10_workMore : MethodName := ⟨RX10, "workMore", "()V"⟩
abbrev cX10_note : ByteArray := prog_12_method_47_code
def yX10_note : MethodName := ⟨RX10, "note", "()V"⟩
abbrev cX10_isSameRecord : ByteArray := prog_12_method_48_code
def yX10_isSameRecord : MethodName := ⟨RX10, "isSameRecord", "(II)Z"⟩
abbrev cX10_copyRecord : ByteArray := prog_12_method_49_code
def yX10_copyRecord : MethodName := ⟨RX10, "copyRecord", "(II)V"⟩
abbrev cX10_lay : ByteArray := prog_12_method_50_code
def yX10_lay : MethodName := ⟨RX10, "lay", "(II)V"⟩
abbrev cX10_without : ByteArray := prog_12_method_51_code
def yX10_without : MethodName := ⟨RX10, "without", "(IIJ)V"⟩
abbrev cX10_only : ByteArray := prog_12_method_52_code
def yX10_only : MethodName := ⟨RX10, "only", "(IIJ)V"⟩
abbrev cX10_equal : ByteArray := prog_12_method_53_code
def yX10_equal : MethodName := ⟨RX10, "equal", "(IIZ)V"⟩
abbrev cX10_below : ByteArray := prog_12_method_54_code
def yX10_below : MethodName := ⟨RX10, "below", "(IIZZ)V"⟩
abbrev cX10_lower : ByteArray := prog_12_method_55_code
def yX10_lower : MethodName := ⟨RX10, "lower", "(IIZZ)V"⟩
abbrev cX10_compared : ByteArray := prog_12_method_56_code
def yX10_compared : MethodName := ⟨RX10, "compared", "(III)V"⟩
abbrev cX10_goAlong : ByteArray := prog_12_method_57_code
def yX10_goAlong : MethodName := ⟨RX10, "goAlong", "(I)Z"⟩
abbrev cX10_arrive : ByteArray := prog_12_method_58_code
def yX10_arrive : MethodName := ⟨RX10, "arrive", "(JI)V"⟩
abbrev cX10_goThrough : ByteArray := prog_12_method_59_code
def yX10_goThrough : MethodName := ⟨RX10, "goThrough", "(I)V"⟩
abbrev cX10_look : ByteArray := prog_12_method_60_code
def yX10_look : MethodName := ⟨RX10, "look", "()I"⟩
abbrev cX10_isPlace : ByteArray := prog_12_method_61_code
def yX10_isPlace : MethodName := ⟨RX10, "isPlace", "(I)Z"⟩
abbrev cX10_given : ByteArray := prog_12_method_62_code
def yX10_given : MethodName := ⟨RX10, "given", "(IJJJ)V"⟩
abbrev cX10_any : ByteArray := prog_12_method_63_code
def yX10_any : MethodName := ⟨RX10, "any", "(I)V"⟩
abbrev cX10_isReached : ByteArray := prog_12_method_64_code
def yX10_isReached : MethodName := ⟨RX10, "isReached", "(I)Z"⟩
abbrev cX10_reached : ByteArray := prog_12_method_65_code
def yX10_reached : MethodName := ⟨RX10, "reached", "(I)I"⟩
abbrev cX10_set : ByteArray := prog_12_method_66_code
def yX10_set : MethodName := ⟨RX10, "set", "(III)J"⟩
abbrev cX10_has : ByteArray := prog_12_method_67_code
def yX10_has : MethodName := ⟨RX10, "has", "(IIJ)Z"⟩
abbrev cX10_start : ByteArray := prog_12_method_68_code
def yX10_start : MethodName := ⟨RX10, "start", "()V"⟩
abbrev cX10_put : ByteArray := prog_12_method_69_code
def yX10_put : MethodName := ⟨RX10, "put", "(IJ)V"⟩
abbrev cX10_cutDown : ByteArray := prog_12_method_70_code
def yX10_cutDown : MethodName := ⟨RX10, "cutDown", "(J)J"⟩
abbrev cX10_flags : ByteArray := prog_12_method_71_code
def yX10_flags : MethodName := ⟨RX10, "flags", "(JZZ)V"⟩
abbrev cX10_isBelow : ByteArray := prog_12_method_72_code
def yX10_isBelow : MethodName := ⟨RX10, "isBelow", "(JJ)Z"⟩
abbrev cX10_sum : ByteArray := prog_12_method_73_code
def yX10_sum : MethodName := ⟨RX10, "sum", "(JJ)J"⟩
abbrev cX10_difference : ByteArray := prog_12_method_74_code
def yX10_difference : MethodName := ⟨RX10, "difference", "(JJ)J"⟩
abbrev cX10_bits : ByteArray := prog_12_method_75_code
def yX10_bits : MethodName := ⟨RX10, "bits", "(J)J"⟩
abbrev cX10_count : ByteArray := prog_12_method_76_code
def yX10_count : MethodName := ⟨RX10, "count", "(JJ)J"⟩
abbrev cX10_shifted : ByteArray := prog_12_method_77_code
def yX10_shifted : MethodName := ⟨RX10, "shifted", "(J)J"⟩
abbrev cX10_run : ByteArray := prog_12_method_78_code
def yX10_run : MethodName := ⟨RX10, "run", "()V"⟩
abbrev cX10_holds : ByteArray := prog_12_method_79_code
def yX10_holds : MethodName := ⟨RX10, "holds", "(I)Z"⟩
abbrev cX10_oneMore : ByteArray := prog_12_method_80_code
def yX10_oneMore : MethodName := ⟨RX10, "oneMore", "()I"⟩
abbrev cX10_go : ByteArray := prog_12_method_81_code
def yX10_go : MethodName := ⟨RX10, "go", "(I)I"⟩
abbrev cX10_at : ByteArray := prog_12_method_82_code
def yX10_at : MethodName := ⟨RX10, "at", "()I"⟩
abbrev cX10_value : ByteArray := prog_12_method_83_code
def yX10_value : MethodName := ⟨RX10, "value", "(I)J"⟩
def RJ6 : String := "java/lang/Integer"
def TJ6 : u_T := fun k => match k with
  | _ => ("", "", "", false)
def tyJ6 : Nat → FieldType := fun k => match k with
  | _ => .int
abbrev wsJ60 : List Cond := u_ws RJ6 TJ6 0
theorem nmJ6 : ∀ a, a < 0 → ∀ b, b < 0 → a ≠ b → (TJ6 a).2.1 ≠ (TJ6 b).2.1 := by decide +kernel
theorem tyJ6_ok : ∀ k, k < 0 → parseFieldDescriptor (TJ6 k).2.2.1 = some (tyJ6 k) := by decide +kernel
abbrev cJ6_numberOfLeadingZeros_0f7a4 : ByteArray := prog_16_method_47_code
def yJ6_numberOfLeadingZeros_0f7a4 : MethodName := ⟨RJ6, "numberOfLeadingZeros", "(I)I"⟩
def RJ13 : String := "java/lang/Long"
def TJ13 : u_T := fun k => match k with
  | _ => ("", "", "", false)
def tyJ13 : Nat → FieldType := fun k => match k with
  | _ => .int
abbrev wsJ130 : List Cond := u_ws RJ13 TJ13 0
theorem nmJ13 : ∀ a, a < 0 → ∀ b, b < 0 → a ≠ b → (TJ13 a).2.1 ≠ (TJ13 b).2.1 := by decide +kernel
theorem tyJ13_ok : ∀ k, k < 0 → parseFieldDescriptor (TJ13 k).2.2.1 = some (tyJ13 k) := by decide +kernel
abbrev cJ13_compare_74951 : ByteArray := prog_17_method_42_code
def yJ13_compare_74951 : MethodName := ⟨RJ13, "compare", "(JJ)I"⟩
abbrev cJ13_compareUnsigned_74951 : ByteArray := prog_17_method_43_code
def yJ13_compareUnsigned_74951 : MethodName := ⟨RJ13, "compareUnsigned", "(JJ)I"⟩
abbrev cJ13_highestOneBit_067f4 : ByteArray := prog_17_method_46_code
def yJ13_highestOneBit_067f4 : MethodName := ⟨RJ13, "highestOneBit", "(J)J"⟩
abbrev cJ13_lowestOneBit_067f4 : ByteArray := prog_17_method_47_code
def yJ13_lowestOneBit_067f4 : MethodName := ⟨RJ13, "lowestOneBit", "(J)J"⟩
abbrev cJ13_numberOfLeadingZeros_95d88 : ByteArray := prog_17_method_48_code
def yJ13_numberOfLeadingZeros_95d88 : MethodName := ⟨RJ13, "numberOfLeadingZeros", "(J)I"⟩
def RJ9 : String := "java/lang/Math"
def TJ9 : u_T := fun k => match k with
  | _ => ("", "", "", false)
def tyJ9 : Nat → FieldType := fun k => match k with
  | _ => .int
abbrev wsJ90 : List Cond := u_ws RJ9 TJ9 0
theorem nmJ9 : ∀ a, a < 0 → ∀ b, b < 0 → a ≠ b → (TJ9 a).2.1 ≠ (TJ9 b).2.1 := by decide +kernel
theorem tyJ9_ok : ∀ k, k < 0 → parseFieldDescriptor (TJ9 k).2.2.1 = some (tyJ9 k) := by decide +kernel
abbrev cJ9_floorMod_f86c9 : ByteArray := prog_18_method_52_code
def yJ9_floorMod_f86c9 : MethodName := ⟨RJ9, "floorMod", "(JJ)J"⟩
abbrev cJ9_max_f86c9 : ByteArray := prog_18_method_66_code
def yJ9_max_f86c9 : MethodName := ⟨RJ9, "max", "(JJ)J"⟩
abbrev cJ9_min_7cf53 : ByteArray := prog_18_method_69_code
def yJ9_min_7cf53 : MethodName := ⟨RJ9, "min", "(II)I"⟩
abbrev cJ9_min_f86c9 : ByteArray := prog_18_method_70_code
def yJ9_min_f86c9 : MethodName := ⟨RJ9, "min", "(JJ)J"⟩
def RJ0 : String := "java/lang/String"
def TJ0 : u_T := fun k => match k with
  | _ => ("", "", "", false)
def tyJ0 : Nat → FieldType := fun k => match k with
  | _ => .int
abbrev wsJ00 : List Cond := u_ws RJ0 TJ0 0
theorem nmJ0 : ∀ a, a < 0 → ∀ b, b < 0 → a ≠ b → (TJ0 a).2.1 ≠ (TJ0 b).2.1 := by decide +kernel
theorem tyJ0_ok : ∀ k, k < 0 → parseFieldDescriptor (TJ0 k).2.2.1 = some (tyJ0 k) := by decide +kernel
def RJ10 : String := "java/lang/System"
def TJ10 : u_T := fun k => match k with
  | _ => ("", "", "", false)
def tyJ10 : Nat → FieldType := fun k => match k with
  | _ => .int
abbrev wsJ100 : List Cond := u_ws RJ10 TJ10 0
theorem nmJ10 : ∀ a, a < 0 → ∀ b, b < 0 → a ≠ b → (TJ10 a).2.1 ≠ (TJ10 b).2.1 := by decide +kernel
theorem tyJ10_ok : ∀ k, k < 0 → parseFieldDescriptor (TJ10 k).2.2.1 = some (tyJ10 k) := by decide +kernel
def RL : String := "StrideWatchLaw"
abbrev cL_feed : ByteArray := method_3_code
def yL_feed : MethodName := ⟨RL, "feed", "(LStrideWatch;IIIII[J)I"⟩
abbrev cL_given : ByteArray := method_4_code
def yL_given : MethodName := ⟨RL, "given", "(LStrideWatch;IJJJ)I"⟩
abbrev cL_any : ByteArray := method_5_code
def yL_any : MethodName := ⟨RL, "any", "(LStrideWatch;I)I"⟩
abbrev cL_decode : ByteArray := method_6_code
def yL_decode : MethodName := ⟨RL, "decode", "(LStrideWatch;II[J)I"⟩
abbrev cL_constant : ByteArray := method_7_code
def yL_constant : MethodName := ⟨RL, "constant", "(LStrideWatch;I[J)I"⟩
abbrev cL_set : ByteArray := method_8_code
def yL_set : MethodName := ⟨RL, "set", "(LStrideWatch;III[J)I"⟩
abbrev cL_has : ByteArray := method_9_code
def yL_has : MethodName := ⟨RL, "has", "(LStrideWatch;IIJ[J)I"⟩
abbrev cL_put : ByteArray := method_10_code
def yL_put : MethodName := ⟨RL, "put", "(LStrideWatch;IJ)I"⟩
abbrev cL_go : ByteArray := method_11_code
def yL_go : MethodName := ⟨RL, "go", "(LStrideWatch;I[J)I"⟩
abbrev cL_value : ByteArray := method_12_code
def yL_value : MethodName := ⟨RL, "value", "(LStrideWatch;I[J)I"⟩
abbrev cL_law : ByteArray := code
def yL_law : MethodName := ⟨RL, "law", "([I)Z"⟩
abbrev vwCl : List vw_C := [(RX0, TX0, 2), (RX1, TX1, 2), (RX2, TX2, 3), (RX3, TX3, 14), (RX4, TX4, 9), (RX5, TX5, 3), (RX6, TX6, 10), (RX7, TX7, 3), (RX8, TX8, 7), (RX9, TX9, 5), (RX10, TX10, 37)]
/-- the kinds of the fields, a row a class: 0 ints, 1 longs, 2 references -/
def fkT : List (List Nat) := [[2, 2], [2, 0], [2, 2, 2], [2, 0, 0, 0, 0, 0, 0, 0, 0, 0, 0, 0, 0, 1], [2, 2, 2, 2, 2, 2, 2, 2, 2], [2, 0, 0], [2, 2, 2, 2, 0, 0, 0, 0, 0, 0], [1, 1, 1], [2, 2, 2, 0, 0, 0, 1], [2, 2, 2, 2, 2], [0, 2, 0, 2, 2, 2, 2, 2, 2, 2, 2, 2, 2, 0, 0, 0, 0, 0, 0, 0, 1, 0, 0, 0, 0, 2, 2, 0, 0, 0, 0, 0, 0, 0, 0, 0, 0]]
