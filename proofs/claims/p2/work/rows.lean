section
-- ===== PART A: goes FIRST, ahead of the names: the tables' words, and 'selects' of the private methods out of them =====
/-- a private method of a class that the tables say can be made, by its rows of tables_1 -/
def lw_okq (q : MethodName × Nat) : Prop := (q.1.cls ≠ "java/lang/invoke/MethodHandle" ∧ q.1.cls ≠ "java/lang/invoke/VarHandle") ∧ Cond.instantiable q.1.cls q.2 ∈ tables_1 ∧ Cond.privateMethod q.1 ∈ tables_1 ∧ Cond.instanceMethod q.1 ∈ tables_1
theorem lw_p0 : lw_okq (⟨"FlagMachine$Memory", "layRow", "(III)V"⟩, 3) := ⟨⟨by decide +kernel, by decide +kernel⟩, List.mem_of_getElem? (i := 140) (by decide +kernel), List.mem_of_getElem? (i := 324) (by decide +kernel), List.mem_of_getElem? (i := 325) (by decide +kernel)⟩
theorem lw_p1 : lw_okq (⟨"FlagMachine$Stretch", "copyPiece", "(LFlagMachine$Stretch;III)V"⟩, 2) := ⟨⟨by decide +kernel, by decide +kernel⟩, List.mem_of_getElem? (i := 88) (by decide +kernel), List.mem_of_getElem? (i := 347) (by decide +kernel), List.mem_of_getElem? (i := 348) (by decide +kernel)⟩
theorem lw_p2 : lw_okq (⟨"FlagMachine$Stretch", "pageAt", "(I)LFlagMachine$Page;"⟩, 2) := ⟨⟨by decide +kernel, by decide +kernel⟩, List.mem_of_getElem? (i := 88) (by decide +kernel), List.mem_of_getElem? (i := 351) (by decide +kernel), List.mem_of_getElem? (i := 352) (by decide +kernel)⟩
theorem lw_p3 : lw_okq (⟨"FlagMachine$Stretch", "pageFor", "(I)LFlagMachine$Page;"⟩, 2) := ⟨⟨by decide +kernel, by decide +kernel⟩, List.mem_of_getElem? (i := 88) (by decide +kernel), List.mem_of_getElem? (i := 355) (by decide +kernel), List.mem_of_getElem? (i := 356) (by decide +kernel)⟩
theorem lw_p4 : lw_okq (⟨"FlagMachine$Stretch", "clearPiece", "(II)V"⟩, 2) := ⟨⟨by decide +kernel, by decide +kernel⟩, List.mem_of_getElem? (i := 88) (by decide +kernel), List.mem_of_getElem? (i := 378) (by decide +kernel), List.mem_of_getElem? (i := 379) (by decide +kernel)⟩
theorem lw_p5 : lw_okq (⟨"FlagMachine$Instruction", "sizeFits", "()Z"⟩, 10) := ⟨⟨by decide +kernel, by decide +kernel⟩, List.mem_of_getElem? (i := 27) (by decide +kernel), List.mem_of_getElem? (i := 473) (by decide +kernel), List.mem_of_getElem? (i := 474) (by decide +kernel)⟩
theorem lw_p6 : lw_okq (⟨"FlagMachine$Instruction", "conditionFits", "()Z"⟩, 10) := ⟨⟨by decide +kernel, by decide +kernel⟩, List.mem_of_getElem? (i := 27) (by decide +kernel), List.mem_of_getElem? (i := 477) (by decide +kernel), List.mem_of_getElem? (i := 478) (by decide +kernel)⟩
theorem lw_p7 : lw_okq (⟨"FlagMachine$Instruction", "thirdFits", "()Z"⟩, 10) := ⟨⟨by decide +kernel, by decide +kernel⟩, List.mem_of_getElem? (i := 27) (by decide +kernel), List.mem_of_getElem? (i := 481) (by decide +kernel), List.mem_of_getElem? (i := 482) (by decide +kernel)⟩
theorem lw_p8 : lw_okq (⟨"FlagMachine$Instruction", "operandsFit", "()Z"⟩, 10) := ⟨⟨by decide +kernel, by decide +kernel⟩, List.mem_of_getElem? (i := 27) (by decide +kernel), List.mem_of_getElem? (i := 485) (by decide +kernel), List.mem_of_getElem? (i := 486) (by decide +kernel)⟩
theorem lw_p9 : lw_okq (⟨"FlagMachine$Instruction", "onlyOperandFits", "(I)Z"⟩, 10) := ⟨⟨by decide +kernel, by decide +kernel⟩, List.mem_of_getElem? (i := 27) (by decide +kernel), List.mem_of_getElem? (i := 492) (by decide +kernel), List.mem_of_getElem? (i := 493) (by decide +kernel)⟩
theorem lw_p10 : lw_okq (⟨"FlagMachine$Instruction", "memoryFits", "()Z"⟩, 10) := ⟨⟨by decide +kernel, by decide +kernel⟩, List.mem_of_getElem? (i := 27) (by decide +kernel), List.mem_of_getElem? (i := 500) (by decide +kernel), List.mem_of_getElem? (i := 501) (by decide +kernel)⟩
theorem lw_p11 : lw_okq (⟨"FlagMachine$Instruction", "numberFits", "()Z"⟩, 10) := ⟨⟨by decide +kernel, by decide +kernel⟩, List.mem_of_getElem? (i := 27) (by decide +kernel), List.mem_of_getElem? (i := 504) (by decide +kernel), List.mem_of_getElem? (i := 505) (by decide +kernel)⟩
theorem lw_p12 : lw_okq (⟨"FlagMachine$Core", "registerOrZero", "(I)J"⟩, 9) := ⟨⟨by decide +kernel, by decide +kernel⟩, List.mem_of_getElem? (i := 107) (by decide +kernel), List.mem_of_getElem? (i := 522) (by decide +kernel), List.mem_of_getElem? (i := 523) (by decide +kernel)⟩
theorem lw_p13 : lw_okq (⟨"FlagMachine$Sums", "resultOf", "(IJJ)J"⟩, 3) := ⟨⟨by decide +kernel, by decide +kernel⟩, List.mem_of_getElem? (i := 218) (by decide +kernel), List.mem_of_getElem? (i := 565) (by decide +kernel), List.mem_of_getElem? (i := 566) (by decide +kernel)⟩
theorem lw_p14 : lw_okq (⟨"FlagMachine$Sums", "tellFlags", "(IJJJ)V"⟩, 3) := ⟨⟨by decide +kernel, by decide +kernel⟩, List.mem_of_getElem? (i := 218) (by decide +kernel), List.mem_of_getElem? (i := 592) (by decide +kernel), List.mem_of_getElem? (i := 593) (by decide +kernel)⟩
theorem lw_p15 : lw_okq (⟨"FlagMachine$Products", "multiplyWide", "(Z)V"⟩, 6) := ⟨⟨by decide +kernel, by decide +kernel⟩, List.mem_of_getElem? (i := 234) (by decide +kernel), List.mem_of_getElem? (i := 633) (by decide +kernel), List.mem_of_getElem? (i := 634) (by decide +kernel)⟩
def lw_privs_1 : List (MethodName × Nat) := [(⟨"FlagMachine$Memory", "layRow", "(III)V"⟩, 3), (⟨"FlagMachine$Stretch", "copyPiece", "(LFlagMachine$Stretch;III)V"⟩, 2), (⟨"FlagMachine$Stretch", "pageAt", "(I)LFlagMachine$Page;"⟩, 2), (⟨"FlagMachine$Stretch", "pageFor", "(I)LFlagMachine$Page;"⟩, 2), (⟨"FlagMachine$Stretch", "clearPiece", "(II)V"⟩, 2), (⟨"FlagMachine$Instruction", "sizeFits", "()Z"⟩, 10), (⟨"FlagMachine$Instruction", "conditionFits", "()Z"⟩, 10), (⟨"FlagMachine$Instruction", "thirdFits", "()Z"⟩, 10), (⟨"FlagMachine$Instruction", "operandsFit", "()Z"⟩, 10), (⟨"FlagMachine$Instruction", "onlyOperandFits", "(I)Z"⟩, 10), (⟨"FlagMachine$Instruction", "memoryFits", "()Z"⟩, 10), (⟨"FlagMachine$Instruction", "numberFits", "()Z"⟩, 10), (⟨"FlagMachine$Core", "registerOrZero", "(I)J"⟩, 9), (⟨"FlagMachine$Sums", "resultOf", "(IJJ)J"⟩, 3), (⟨"FlagMachine$Sums", "tellFlags", "(IJJJ)V"⟩, 3), (⟨"FlagMachine$Products", "multiplyWide", "(Z)V"⟩, 6)]
theorem lw_r1 : ∀ q ∈ lw_privs_1, lw_okq q := List.forall_mem_cons.mpr ⟨lw_p0, List.forall_mem_cons.mpr ⟨lw_p1, List.forall_mem_cons.mpr ⟨lw_p2, List.forall_mem_cons.mpr ⟨lw_p3, List.forall_mem_cons.mpr ⟨lw_p4, List.forall_mem_cons.mpr ⟨lw_p5, List.forall_mem_cons.mpr ⟨lw_p6, List.forall_mem_cons.mpr ⟨lw_p7, List.forall_mem_cons.mpr ⟨lw_p8, List.forall_mem_cons.mpr ⟨lw_p9, List.forall_mem_cons.mpr ⟨lw_p10, List.forall_mem_cons.mpr ⟨lw_p11, List.forall_mem_cons.mpr ⟨lw_p12, List.forall_mem_cons.mpr ⟨lw_p13, List.forall_mem_cons.mpr ⟨lw_p14, List.forall_mem_cons.mpr ⟨lw_p15, fun _ h => absurd h List.not_mem_nil⟩⟩⟩⟩⟩⟩⟩⟩⟩⟩⟩⟩⟩⟩⟩⟩
theorem lw_p16 : lw_okq (⟨"FlagMachine$Products", "multiply", "(JJIZ)V"⟩, 6) := ⟨⟨by decide +kernel, by decide +kernel⟩, List.mem_of_getElem? (i := 234) (by decide +kernel), List.mem_of_getElem? (i := 639) (by decide +kernel), List.mem_of_getElem? (i := 640) (by decide +kernel)⟩
theorem lw_p17 : lw_okq (⟨"FlagMachine$Products", "putPair", "(JJ)V"⟩, 6) := ⟨⟨by decide +kernel, by decide +kernel⟩, List.mem_of_getElem? (i := 234) (by decide +kernel), List.mem_of_getElem? (i := 648) (by decide +kernel), List.mem_of_getElem? (i := 649) (by decide +kernel)⟩
theorem lw_p18 : lw_okq (⟨"FlagMachine$Products", "divide", "(Z)V"⟩, 6) := ⟨⟨by decide +kernel, by decide +kernel⟩, List.mem_of_getElem? (i := 234) (by decide +kernel), List.mem_of_getElem? (i := 661) (by decide +kernel), List.mem_of_getElem? (i := 662) (by decide +kernel)⟩
theorem lw_p19 : lw_okq (⟨"FlagMachine$Products", "divideSigned", "(JI)Z"⟩, 6) := ⟨⟨by decide +kernel, by decide +kernel⟩, List.mem_of_getElem? (i := 234) (by decide +kernel), List.mem_of_getElem? (i := 666) (by decide +kernel), List.mem_of_getElem? (i := 667) (by decide +kernel)⟩
theorem lw_p20 : lw_okq (⟨"FlagMachine$Products", "divideUnsigned", "(JI)Z"⟩, 6) := ⟨⟨by decide +kernel, by decide +kernel⟩, List.mem_of_getElem? (i := 234) (by decide +kernel), List.mem_of_getElem? (i := 671) (by decide +kernel), List.mem_of_getElem? (i := 672) (by decide +kernel)⟩
theorem lw_p21 : lw_okq (⟨"FlagMachine$Products", "multiplyNarrow", "()V"⟩, 6) := ⟨⟨by decide +kernel, by decide +kernel⟩, List.mem_of_getElem? (i := 234) (by decide +kernel), List.mem_of_getElem? (i := 680) (by decide +kernel), List.mem_of_getElem? (i := 681) (by decide +kernel)⟩
theorem lw_p22 : lw_okq (⟨"FlagMachine$Bits", "search", "(Z)V"⟩, 3) := ⟨⟨by decide +kernel, by decide +kernel⟩, List.mem_of_getElem? (i := 259) (by decide +kernel), List.mem_of_getElem? (i := 689) (by decide +kernel), List.mem_of_getElem? (i := 690) (by decide +kernel)⟩
theorem lw_p23 : lw_okq (⟨"FlagMachine$Bits", "turnBytes", "()V"⟩, 3) := ⟨⟨by decide +kernel, by decide +kernel⟩, List.mem_of_getElem? (i := 259) (by decide +kernel), List.mem_of_getElem? (i := 701) (by decide +kernel), List.mem_of_getElem? (i := 702) (by decide +kernel)⟩
theorem lw_p24 : lw_okq (⟨"FlagMachine$Bits", "testBit", "()V"⟩, 3) := ⟨⟨by decide +kernel, by decide +kernel⟩, List.mem_of_getElem? (i := 259) (by decide +kernel), List.mem_of_getElem? (i := 706) (by decide +kernel), List.mem_of_getElem? (i := 707) (by decide +kernel)⟩
theorem lw_p25 : lw_okq (⟨"FlagMachine$Bits", "shift", "(I)V"⟩, 3) := ⟨⟨by decide +kernel, by decide +kernel⟩, List.mem_of_getElem? (i := 259) (by decide +kernel), List.mem_of_getElem? (i := 710) (by decide +kernel), List.mem_of_getElem? (i := 711) (by decide +kernel)⟩
theorem lw_p26 : lw_okq (⟨"FlagMachine$Bits", "overflowOfOne", "(IJJI)Z"⟩, 3) := ⟨⟨by decide +kernel, by decide +kernel⟩, List.mem_of_getElem? (i := 259) (by decide +kernel), List.mem_of_getElem? (i := 719) (by decide +kernel), List.mem_of_getElem? (i := 720) (by decide +kernel)⟩
theorem lw_p27 : lw_okq (⟨"FlagMachine$Services", "takeInput", "(JJ)J"⟩, 6) := ⟨⟨by decide +kernel, by decide +kernel⟩, List.mem_of_getElem? (i := 288) (by decide +kernel), List.mem_of_getElem? (i := 733) (by decide +kernel), List.mem_of_getElem? (i := 734) (by decide +kernel)⟩
theorem lw_p28 : lw_okq (⟨"FlagMachine$Services", "giveOutput", "(JJ)J"⟩, 6) := ⟨⟨by decide +kernel, by decide +kernel⟩, List.mem_of_getElem? (i := 288) (by decide +kernel), List.mem_of_getElem? (i := 745) (by decide +kernel), List.mem_of_getElem? (i := 746) (by decide +kernel)⟩
theorem lw_p29 : lw_okq (⟨"FlagMachine$Moves", "exchange", "()V"⟩, 2) := ⟨⟨by decide +kernel, by decide +kernel⟩, List.mem_of_getElem? (i := 275) (by decide +kernel), List.mem_of_getElem? (i := 778) (by decide +kernel), List.mem_of_getElem? (i := 779) (by decide +kernel)⟩
theorem lw_p30 : lw_okq (⟨"FlagMachine$Moves", "pushOperand", "()V"⟩, 2) := ⟨⟨by decide +kernel, by decide +kernel⟩, List.mem_of_getElem? (i := 275) (by decide +kernel), List.mem_of_getElem? (i := 784) (by decide +kernel), List.mem_of_getElem? (i := 785) (by decide +kernel)⟩
theorem lw_p31 : lw_okq (⟨"FlagMachine$Moves", "popOperand", "()V"⟩, 2) := ⟨⟨by decide +kernel, by decide +kernel⟩, List.mem_of_getElem? (i := 275) (by decide +kernel), List.mem_of_getElem? (i := 790) (by decide +kernel), List.mem_of_getElem? (i := 791) (by decide +kernel)⟩
def lw_privs_2 : List (MethodName × Nat) := [(⟨"FlagMachine$Products", "multiply", "(JJIZ)V"⟩, 6), (⟨"FlagMachine$Products", "putPair", "(JJ)V"⟩, 6), (⟨"FlagMachine$Products", "divide", "(Z)V"⟩, 6), (⟨"FlagMachine$Products", "divideSigned", "(JI)Z"⟩, 6), (⟨"FlagMachine$Products", "divideUnsigned", "(JI)Z"⟩, 6), (⟨"FlagMachine$Products", "multiplyNarrow", "()V"⟩, 6), (⟨"FlagMachine$Bits", "search", "(Z)V"⟩, 3), (⟨"FlagMachine$Bits", "turnBytes", "()V"⟩, 3), (⟨"FlagMachine$Bits", "testBit", "()V"⟩, 3), (⟨"FlagMachine$Bits", "shift", "(I)V"⟩, 3), (⟨"FlagMachine$Bits", "overflowOfOne", "(IJJI)Z"⟩, 3), (⟨"FlagMachine$Services", "takeInput", "(JJ)J"⟩, 6), (⟨"FlagMachine$Services", "giveOutput", "(JJ)J"⟩, 6), (⟨"FlagMachine$Moves", "exchange", "()V"⟩, 2), (⟨"FlagMachine$Moves", "pushOperand", "()V"⟩, 2), (⟨"FlagMachine$Moves", "popOperand", "()V"⟩, 2)]
theorem lw_r2 : ∀ q ∈ lw_privs_2, lw_okq q := List.forall_mem_cons.mpr ⟨lw_p16, List.forall_mem_cons.mpr ⟨lw_p17, List.forall_mem_cons.mpr ⟨lw_p18, List.forall_mem_cons.mpr ⟨lw_p19, List.forall_mem_cons.mpr ⟨lw_p20, List.forall_mem_cons.mpr ⟨lw_p21, List.forall_mem_cons.mpr ⟨lw_p22, List.forall_mem_cons.mpr ⟨lw_p23, List.forall_mem_cons.mpr ⟨lw_p24, List.forall_mem_cons.mpr ⟨lw_p25, List.forall_mem_cons.mpr ⟨lw_p26, List.forall_mem_cons.mpr ⟨lw_p27, List.forall_mem_cons.mpr ⟨lw_p28, List.forall_mem_cons.mpr ⟨lw_p29, List.forall_mem_cons.mpr ⟨lw_p30, List.forall_mem_cons.mpr ⟨lw_p31, fun _ h => absurd h List.not_mem_nil⟩⟩⟩⟩⟩⟩⟩⟩⟩⟩⟩⟩⟩⟩⟩⟩
theorem lw_p32 : lw_okq (⟨"FlagMachine$Moves", "target", "()J"⟩, 2) := ⟨⟨by decide +kernel, by decide +kernel⟩, List.mem_of_getElem? (i := 275) (by decide +kernel), List.mem_of_getElem? (i := 797) (by decide +kernel), List.mem_of_getElem? (i := 798) (by decide +kernel)⟩
theorem lw_p33 : lw_okq (⟨"FlagMachine$Moves", "jump", "(J)V"⟩, 2) := ⟨⟨by decide +kernel, by decide +kernel⟩, List.mem_of_getElem? (i := 275) (by decide +kernel), List.mem_of_getElem? (i := 801) (by decide +kernel), List.mem_of_getElem? (i := 802) (by decide +kernel)⟩
theorem lw_p34 : lw_okq (⟨"FlagMachine$Moves", "call", "(J)V"⟩, 2) := ⟨⟨by decide +kernel, by decide +kernel⟩, List.mem_of_getElem? (i := 275) (by decide +kernel), List.mem_of_getElem? (i := 805) (by decide +kernel), List.mem_of_getElem? (i := 806) (by decide +kernel)⟩
theorem lw_p35 : lw_okq (⟨"FlagMachine$Moves", "comeBack", "()V"⟩, 2) := ⟨⟨by decide +kernel, by decide +kernel⟩, List.mem_of_getElem? (i := 275) (by decide +kernel), List.mem_of_getElem? (i := 809) (by decide +kernel), List.mem_of_getElem? (i := 810) (by decide +kernel)⟩
theorem lw_p36 : lw_okq (⟨"FlagMachine$Flags", "pairHolds", "(I)Z"⟩, 5) := ⟨⟨by decide +kernel, by decide +kernel⟩, List.mem_of_getElem? (i := 113) (by decide +kernel), List.mem_of_getElem? (i := 817) (by decide +kernel), List.mem_of_getElem? (i := 818) (by decide +kernel)⟩
theorem lw_p37 : lw_okq (⟨"FlagMachine$Moves", "valueIfCondition", "()J"⟩, 2) := ⟨⟨by decide +kernel, by decide +kernel⟩, List.mem_of_getElem? (i := 275) (by decide +kernel), List.mem_of_getElem? (i := 821) (by decide +kernel), List.mem_of_getElem? (i := 822) (by decide +kernel)⟩
theorem lw_p38 : lw_okq (⟨"FlagMachine$Moves", "move", "(J)V"⟩, 2) := ⟨⟨by decide +kernel, by decide +kernel⟩, List.mem_of_getElem? (i := 275) (by decide +kernel), List.mem_of_getElem? (i := 825) (by decide +kernel), List.mem_of_getElem? (i := 826) (by decide +kernel)⟩
theorem lw_p39 : lw_okq (⟨"FlagMachine$Moves", "leaveFrame", "()V"⟩, 2) := ⟨⟨by decide +kernel, by decide +kernel⟩, List.mem_of_getElem? (i := 275) (by decide +kernel), List.mem_of_getElem? (i := 829) (by decide +kernel), List.mem_of_getElem? (i := 830) (by decide +kernel)⟩
theorem lw_p40 : lw_okq (⟨"FlagMachine$Moves", "moveString", "(ZZ)V"⟩, 2) := ⟨⟨by decide +kernel, by decide +kernel⟩, List.mem_of_getElem? (i := 275) (by decide +kernel), List.mem_of_getElem? (i := 833) (by decide +kernel), List.mem_of_getElem? (i := 834) (by decide +kernel)⟩
theorem lw_p41 : lw_okq (⟨"FlagMachine$Moves", "valueOfMove", "(I)J"⟩, 2) := ⟨⟨by decide +kernel, by decide +kernel⟩, List.mem_of_getElem? (i := 275) (by decide +kernel), List.mem_of_getElem? (i := 838) (by decide +kernel), List.mem_of_getElem? (i := 839) (by decide +kernel)⟩
theorem lw_p42 : lw_okq (⟨"FlagMachine", "finish", "(I)I"⟩, 10) := ⟨⟨by decide +kernel, by decide +kernel⟩, List.mem_of_getElem? (i := 19) (by decide +kernel), List.mem_of_getElem? (i := 843) (by decide +kernel), List.mem_of_getElem? (i := 844) (by decide +kernel)⟩
theorem lw_p43 : lw_okq (⟨"FlagMachineModel", "anew", "(IIIIII)V"⟩, 41) := ⟨⟨by decide +kernel, by decide +kernel⟩, List.mem_of_getElem? (i := 887) (by decide +kernel), List.mem_of_getElem? (i := 895) (by decide +kernel), List.mem_of_getElem? (i := 896) (by decide +kernel)⟩
theorem lw_p44 : lw_okq (⟨"FlagMachineModel", "setFlags", "(J)V"⟩, 41) := ⟨⟨by decide +kernel, by decide +kernel⟩, List.mem_of_getElem? (i := 887) (by decide +kernel), List.mem_of_getElem? (i := 900) (by decide +kernel), List.mem_of_getElem? (i := 901) (by decide +kernel)⟩
theorem lw_p45 : lw_okq (⟨"FlagMachineModel", "isSound", "()Z"⟩, 41) := ⟨⟨by decide +kernel, by decide +kernel⟩, List.mem_of_getElem? (i := 887) (by decide +kernel), List.mem_of_getElem? (i := 1062) (by decide +kernel), List.mem_of_getElem? (i := 1063) (by decide +kernel)⟩
theorem lw_p46 : lw_okq (⟨"FlagMachineModel", "sizeFits", "()Z"⟩, 41) := ⟨⟨by decide +kernel, by decide +kernel⟩, List.mem_of_getElem? (i := 887) (by decide +kernel), List.mem_of_getElem? (i := 1066) (by decide +kernel), List.mem_of_getElem? (i := 1067) (by decide +kernel)⟩
theorem lw_p47 : lw_okq (⟨"FlagMachineModel", "operandsFit", "()Z"⟩, 41) := ⟨⟨by decide +kernel, by decide +kernel⟩, List.mem_of_getElem? (i := 887) (by decide +kernel), List.mem_of_getElem? (i := 1070) (by decide +kernel), List.mem_of_getElem? (i := 1071) (by decide +kernel)⟩
def lw_privs_3 : List (MethodName × Nat) := [(⟨"FlagMachine$Moves", "target", "()J"⟩, 2), (⟨"FlagMachine$Moves", "jump", "(J)V"⟩, 2), (⟨"FlagMachine$Moves", "call", "(J)V"⟩, 2), (⟨"FlagMachine$Moves", "comeBack", "()V"⟩, 2), (⟨"FlagMachine$Flags", "pairHolds", "(I)Z"⟩, 5), (⟨"FlagMachine$Moves", "valueIfCondition", "()J"⟩, 2), (⟨"FlagMachine$Moves", "move", "(J)V"⟩, 2), (⟨"FlagMachine$Moves", "leaveFrame", "()V"⟩, 2), (⟨"FlagMachine$Moves", "moveString", "(ZZ)V"⟩, 2), (⟨"FlagMachine$Moves", "valueOfMove", "(I)J"⟩, 2), (⟨"FlagMachine", "finish", "(I)I"⟩, 10), (⟨"FlagMachineModel", "anew", "(IIIIII)V"⟩, 41), (⟨"FlagMachineModel", "setFlags", "(J)V"⟩, 41), (⟨"FlagMachineModel", "isSound", "()Z"⟩, 41), (⟨"FlagMachineModel", "sizeFits", "()Z"⟩, 41), (⟨"FlagMachineModel", "operandsFit", "()Z"⟩, 41)]
theorem lw_r3 : ∀ q ∈ lw_privs_3, lw_okq q := List.forall_mem_cons.mpr ⟨lw_p32, List.forall_mem_cons.mpr ⟨lw_p33, List.forall_mem_cons.mpr ⟨lw_p34, List.forall_mem_cons.mpr ⟨lw_p35, List.forall_mem_cons.mpr ⟨lw_p36, List.forall_mem_cons.mpr ⟨lw_p37, List.forall_mem_cons.mpr ⟨lw_p38, List.forall_mem_cons.mpr ⟨lw_p39, List.forall_mem_cons.mpr ⟨lw_p40, List.forall_mem_cons.mpr ⟨lw_p41, List.forall_mem_cons.mpr ⟨lw_p42, List.forall_mem_cons.mpr ⟨lw_p43, List.forall_mem_cons.mpr ⟨lw_p44, List.forall_mem_cons.mpr ⟨lw_p45, List.forall_mem_cons.mpr ⟨lw_p46, List.forall_mem_cons.mpr ⟨lw_p47, fun _ h => absurd h List.not_mem_nil⟩⟩⟩⟩⟩⟩⟩⟩⟩⟩⟩⟩⟩⟩⟩⟩
theorem lw_p48 : lw_okq (⟨"FlagMachineModel", "isEither", "(I)Z"⟩, 41) := ⟨⟨by decide +kernel, by decide +kernel⟩, List.mem_of_getElem? (i := 887) (by decide +kernel), List.mem_of_getElem? (i := 1074) (by decide +kernel), List.mem_of_getElem? (i := 1075) (by decide +kernel)⟩
theorem lw_p49 : lw_okq (⟨"FlagMachineModel", "isPlain", "(I)Z"⟩, 41) := ⟨⟨by decide +kernel, by decide +kernel⟩, List.mem_of_getElem? (i := 887) (by decide +kernel), List.mem_of_getElem? (i := 1078) (by decide +kernel), List.mem_of_getElem? (i := 1079) (by decide +kernel)⟩
theorem lw_p50 : lw_okq (⟨"FlagMachineModel", "isNumber", "(IJJ)Z"⟩, 41) := ⟨⟨by decide +kernel, by decide +kernel⟩, List.mem_of_getElem? (i := 887) (by decide +kernel), List.mem_of_getElem? (i := 1084) (by decide +kernel), List.mem_of_getElem? (i := 1085) (by decide +kernel)⟩
theorem lw_p51 : lw_okq (⟨"FlagMachineModel", "memoryFits", "()Z"⟩, 41) := ⟨⟨by decide +kernel, by decide +kernel⟩, List.mem_of_getElem? (i := 887) (by decide +kernel), List.mem_of_getElem? (i := 1092) (by decide +kernel), List.mem_of_getElem? (i := 1093) (by decide +kernel)⟩
theorem lw_p52 : lw_okq (⟨"FlagMachineModel", "flags", "()J"⟩, 41) := ⟨⟨by decide +kernel, by decide +kernel⟩, List.mem_of_getElem? (i := 887) (by decide +kernel), List.mem_of_getElem? (i := 1096) (by decide +kernel), List.mem_of_getElem? (i := 1097) (by decide +kernel)⟩
theorem lw_p53 : lw_okq (⟨"FlagMachineModel", "addressNow", "()J"⟩, 41) := ⟨⟨by decide +kernel, by decide +kernel⟩, List.mem_of_getElem? (i := 887) (by decide +kernel), List.mem_of_getElem? (i := 1101) (by decide +kernel), List.mem_of_getElem? (i := 1102) (by decide +kernel)⟩
theorem lw_p54 : lw_okq (⟨"FlagMachineModel", "perform", "()V"⟩, 41) := ⟨⟨by decide +kernel, by decide +kernel⟩, List.mem_of_getElem? (i := 887) (by decide +kernel), List.mem_of_getElem? (i := 1105) (by decide +kernel), List.mem_of_getElem? (i := 1106) (by decide +kernel)⟩
theorem lw_p55 : lw_okq (⟨"FlagMachineModel", "arithmetic", "(II)V"⟩, 41) := ⟨⟨by decide +kernel, by decide +kernel⟩, List.mem_of_getElem? (i := 887) (by decide +kernel), List.mem_of_getElem? (i := 1109) (by decide +kernel), List.mem_of_getElem? (i := 1110) (by decide +kernel)⟩
theorem lw_p56 : lw_okq (⟨"FlagMachineModel", "take", "(II)J"⟩, 41) := ⟨⟨by decide +kernel, by decide +kernel⟩, List.mem_of_getElem? (i := 887) (by decide +kernel), List.mem_of_getElem? (i := 1113) (by decide +kernel), List.mem_of_getElem? (i := 1114) (by decide +kernel)⟩
theorem lw_p57 : lw_okq (⟨"FlagMachineModel", "kindAt", "(I)I"⟩, 41) := ⟨⟨by decide +kernel, by decide +kernel⟩, List.mem_of_getElem? (i := 887) (by decide +kernel), List.mem_of_getElem? (i := 1117) (by decide +kernel), List.mem_of_getElem? (i := 1118) (by decide +kernel)⟩
theorem lw_p58 : lw_okq (⟨"FlagMachineModel", "registerAt", "(I)I"⟩, 41) := ⟨⟨by decide +kernel, by decide +kernel⟩, List.mem_of_getElem? (i := 887) (by decide +kernel), List.mem_of_getElem? (i := 1121) (by decide +kernel), List.mem_of_getElem? (i := 1122) (by decide +kernel)⟩
theorem lw_p59 : lw_okq (⟨"FlagMachineModel", "load", "(JI)J"⟩, 41) := ⟨⟨by decide +kernel, by decide +kernel⟩, List.mem_of_getElem? (i := 887) (by decide +kernel), List.mem_of_getElem? (i := 1129) (by decide +kernel), List.mem_of_getElem? (i := 1130) (by decide +kernel)⟩
theorem lw_p60 : lw_okq (⟨"FlagMachineModel", "find", "(JZ)I"⟩, 41) := ⟨⟨by decide +kernel, by decide +kernel⟩, List.mem_of_getElem? (i := 887) (by decide +kernel), List.mem_of_getElem? (i := 1133) (by decide +kernel), List.mem_of_getElem? (i := 1134) (by decide +kernel)⟩
theorem lw_p61 : lw_okq (⟨"FlagMachineModel", "heapBegin", "()J"⟩, 41) := ⟨⟨by decide +kernel, by decide +kernel⟩, List.mem_of_getElem? (i := 887) (by decide +kernel), List.mem_of_getElem? (i := 1137) (by decide +kernel), List.mem_of_getElem? (i := 1138) (by decide +kernel)⟩
theorem lw_p62 : lw_okq (⟨"FlagMachineModel", "stopWith", "(IJ)V"⟩, 41) := ⟨⟨by decide +kernel, by decide +kernel⟩, List.mem_of_getElem? (i := 887) (by decide +kernel), List.mem_of_getElem? (i := 1145) (by decide +kernel), List.mem_of_getElem? (i := 1146) (by decide +kernel)⟩
theorem lw_p63 : lw_okq (⟨"FlagMachineModel", "byteAtPlace", "(I)I"⟩, 41) := ⟨⟨by decide +kernel, by decide +kernel⟩, List.mem_of_getElem? (i := 887) (by decide +kernel), List.mem_of_getElem? (i := 1149) (by decide +kernel), List.mem_of_getElem? (i := 1150) (by decide +kernel)⟩
def lw_privs_4 : List (MethodName × Nat) := [(⟨"FlagMachineModel", "isEither", "(I)Z"⟩, 41), (⟨"FlagMachineModel", "isPlain", "(I)Z"⟩, 41), (⟨"FlagMachineModel", "isNumber", "(IJJ)Z"⟩, 41), (⟨"FlagMachineModel", "memoryFits", "()Z"⟩, 41), (⟨"FlagMachineModel", "flags", "()J"⟩, 41), (⟨"FlagMachineModel", "addressNow", "()J"⟩, 41), (⟨"FlagMachineModel", "perform", "()V"⟩, 41), (⟨"FlagMachineModel", "arithmetic", "(II)V"⟩, 41), (⟨"FlagMachineModel", "take", "(II)J"⟩, 41), (⟨"FlagMachineModel", "kindAt", "(I)I"⟩, 41), (⟨"FlagMachineModel", "registerAt", "(I)I"⟩, 41), (⟨"FlagMachineModel", "load", "(JI)J"⟩, 41), (⟨"FlagMachineModel", "find", "(JZ)I"⟩, 41), (⟨"FlagMachineModel", "heapBegin", "()J"⟩, 41), (⟨"FlagMachineModel", "stopWith", "(IJ)V"⟩, 41), (⟨"FlagMachineModel", "byteAtPlace", "(I)I"⟩, 41)]
theorem lw_r4 : ∀ q ∈ lw_privs_4, lw_okq q := List.forall_mem_cons.mpr ⟨lw_p48, List.forall_mem_cons.mpr ⟨lw_p49, List.forall_mem_cons.mpr ⟨lw_p50, List.forall_mem_cons.mpr ⟨lw_p51, List.forall_mem_cons.mpr ⟨lw_p52, List.forall_mem_cons.mpr ⟨lw_p53, List.forall_mem_cons.mpr ⟨lw_p54, List.forall_mem_cons.mpr ⟨lw_p55, List.forall_mem_cons.mpr ⟨lw_p56, List.forall_mem_cons.mpr ⟨lw_p57, List.forall_mem_cons.mpr ⟨lw_p58, List.forall_mem_cons.mpr ⟨lw_p59, List.forall_mem_cons.mpr ⟨lw_p60, List.forall_mem_cons.mpr ⟨lw_p61, List.forall_mem_cons.mpr ⟨lw_p62, List.forall_mem_cons.mpr ⟨lw_p63, fun _ h => absurd h List.not_mem_nil⟩⟩⟩⟩⟩⟩⟩⟩⟩⟩⟩⟩⟩⟩⟩⟩
theorem lw_p64 : lw_okq (⟨"FlagMachineModel", "add", "(JJZI)J"⟩, 41) := ⟨⟨by decide +kernel, by decide +kernel⟩, List.mem_of_getElem? (i := 887) (by decide +kernel), List.mem_of_getElem? (i := 1154) (by decide +kernel), List.mem_of_getElem? (i := 1155) (by decide +kernel)⟩
theorem lw_p65 : lw_okq (⟨"FlagMachineModel", "zsp", "(JI)V"⟩, 41) := ⟨⟨by decide +kernel, by decide +kernel⟩, List.mem_of_getElem? (i := 887) (by decide +kernel), List.mem_of_getElem? (i := 1165) (by decide +kernel), List.mem_of_getElem? (i := 1166) (by decide +kernel)⟩
theorem lw_p66 : lw_okq (⟨"FlagMachineModel", "subtract", "(JJZI)J"⟩, 41) := ⟨⟨by decide +kernel, by decide +kernel⟩, List.mem_of_getElem? (i := 887) (by decide +kernel), List.mem_of_getElem? (i := 1169) (by decide +kernel), List.mem_of_getElem? (i := 1170) (by decide +kernel)⟩
theorem lw_p67 : lw_okq (⟨"FlagMachineModel", "put", "(IIJ)V"⟩, 41) := ⟨⟨by decide +kernel, by decide +kernel⟩, List.mem_of_getElem? (i := 887) (by decide +kernel), List.mem_of_getElem? (i := 1173) (by decide +kernel), List.mem_of_getElem? (i := 1174) (by decide +kernel)⟩
theorem lw_p68 : lw_okq (⟨"FlagMachineModel", "setRegister", "(IIJ)V"⟩, 41) := ⟨⟨by decide +kernel, by decide +kernel⟩, List.mem_of_getElem? (i := 887) (by decide +kernel), List.mem_of_getElem? (i := 1177) (by decide +kernel), List.mem_of_getElem? (i := 1178) (by decide +kernel)⟩
theorem lw_p69 : lw_okq (⟨"FlagMachineModel", "store", "(JIJ)V"⟩, 41) := ⟨⟨by decide +kernel, by decide +kernel⟩, List.mem_of_getElem? (i := 887) (by decide +kernel), List.mem_of_getElem? (i := 1182) (by decide +kernel), List.mem_of_getElem? (i := 1183) (by decide +kernel)⟩
theorem lw_p70 : lw_okq (⟨"FlagMachineModel", "setPlace", "(II)V"⟩, 41) := ⟨⟨by decide +kernel, by decide +kernel⟩, List.mem_of_getElem? (i := 887) (by decide +kernel), List.mem_of_getElem? (i := 1186) (by decide +kernel), List.mem_of_getElem? (i := 1187) (by decide +kernel)⟩
theorem lw_p71 : lw_okq (⟨"FlagMachineModel", "moves", "(II)V"⟩, 41) := ⟨⟨by decide +kernel, by decide +kernel⟩, List.mem_of_getElem? (i := 887) (by decide +kernel), List.mem_of_getElem? (i := 1190) (by decide +kernel), List.mem_of_getElem? (i := 1191) (by decide +kernel)⟩
theorem lw_p72 : lw_okq (⟨"FlagMachineModel", "single", "(II)V"⟩, 41) := ⟨⟨by decide +kernel, by decide +kernel⟩, List.mem_of_getElem? (i := 887) (by decide +kernel), List.mem_of_getElem? (i := 1197) (by decide +kernel), List.mem_of_getElem? (i := 1198) (by decide +kernel)⟩
theorem lw_p73 : lw_okq (⟨"FlagMachineModel", "multiply", "(ZI)V"⟩, 41) := ⟨⟨by decide +kernel, by decide +kernel⟩, List.mem_of_getElem? (i := 887) (by decide +kernel), List.mem_of_getElem? (i := 1202) (by decide +kernel), List.mem_of_getElem? (i := 1203) (by decide +kernel)⟩
theorem lw_p74 : lw_okq (⟨"FlagMachineModel", "divide", "(ZI)V"⟩, 41) := ⟨⟨by decide +kernel, by decide +kernel⟩, List.mem_of_getElem? (i := 887) (by decide +kernel), List.mem_of_getElem? (i := 1213) (by decide +kernel), List.mem_of_getElem? (i := 1214) (by decide +kernel)⟩
theorem lw_p75 : lw_okq (⟨"FlagMachineModel", "divideSmall", "(ZIJ)V"⟩, 41) := ⟨⟨by decide +kernel, by decide +kernel⟩, List.mem_of_getElem? (i := 887) (by decide +kernel), List.mem_of_getElem? (i := 1217) (by decide +kernel), List.mem_of_getElem? (i := 1218) (by decide +kernel)⟩
theorem lw_p76 : lw_okq (⟨"FlagMachineModel", "product", "(I)V"⟩, 41) := ⟨⟨by decide +kernel, by decide +kernel⟩, List.mem_of_getElem? (i := 887) (by decide +kernel), List.mem_of_getElem? (i := 1221) (by decide +kernel), List.mem_of_getElem? (i := 1222) (by decide +kernel)⟩
theorem lw_p77 : lw_okq (⟨"FlagMachineModel", "shift", "(II)V"⟩, 41) := ⟨⟨by decide +kernel, by decide +kernel⟩, List.mem_of_getElem? (i := 887) (by decide +kernel), List.mem_of_getElem? (i := 1225) (by decide +kernel), List.mem_of_getElem? (i := 1226) (by decide +kernel)⟩
theorem lw_p78 : lw_okq (⟨"FlagMachineModel", "goes", "(I)V"⟩, 41) := ⟨⟨by decide +kernel, by decide +kernel⟩, List.mem_of_getElem? (i := 887) (by decide +kernel), List.mem_of_getElem? (i := 1229) (by decide +kernel), List.mem_of_getElem? (i := 1230) (by decide +kernel)⟩
theorem lw_p79 : lw_okq (⟨"FlagMachineModel", "push", "(J)V"⟩, 41) := ⟨⟨by decide +kernel, by decide +kernel⟩, List.mem_of_getElem? (i := 887) (by decide +kernel), List.mem_of_getElem? (i := 1233) (by decide +kernel), List.mem_of_getElem? (i := 1234) (by decide +kernel)⟩
def lw_privs_5 : List (MethodName × Nat) := [(⟨"FlagMachineModel", "add", "(JJZI)J"⟩, 41), (⟨"FlagMachineModel", "zsp", "(JI)V"⟩, 41), (⟨"FlagMachineModel", "subtract", "(JJZI)J"⟩, 41), (⟨"FlagMachineModel", "put", "(IIJ)V"⟩, 41), (⟨"FlagMachineModel", "setRegister", "(IIJ)V"⟩, 41), (⟨"FlagMachineModel", "store", "(JIJ)V"⟩, 41), (⟨"FlagMachineModel", "setPlace", "(II)V"⟩, 41), (⟨"FlagMachineModel", "moves", "(II)V"⟩, 41), (⟨"FlagMachineModel", "single", "(II)V"⟩, 41), (⟨"FlagMachineModel", "multiply", "(ZI)V"⟩, 41), (⟨"FlagMachineModel", "divide", "(ZI)V"⟩, 41), (⟨"FlagMachineModel", "divideSmall", "(ZIJ)V"⟩, 41), (⟨"FlagMachineModel", "product", "(I)V"⟩, 41), (⟨"FlagMachineModel", "shift", "(II)V"⟩, 41), (⟨"FlagMachineModel", "goes", "(I)V"⟩, 41), (⟨"FlagMachineModel", "push", "(J)V"⟩, 41)]
theorem lw_r5 : ∀ q ∈ lw_privs_5, lw_okq q := List.forall_mem_cons.mpr ⟨lw_p64, List.forall_mem_cons.mpr ⟨lw_p65, List.forall_mem_cons.mpr ⟨lw_p66, List.forall_mem_cons.mpr ⟨lw_p67, List.forall_mem_cons.mpr ⟨lw_p68, List.forall_mem_cons.mpr ⟨lw_p69, List.forall_mem_cons.mpr ⟨lw_p70, List.forall_mem_cons.mpr ⟨lw_p71, List.forall_mem_cons.mpr ⟨lw_p72, List.forall_mem_cons.mpr ⟨lw_p73, List.forall_mem_cons.mpr ⟨lw_p74, List.forall_mem_cons.mpr ⟨lw_p75, List.forall_mem_cons.mpr ⟨lw_p76, List.forall_mem_cons.mpr ⟨lw_p77, List.forall_mem_cons.mpr ⟨lw_p78, List.forall_mem_cons.mpr ⟨lw_p79, fun _ h => absurd h List.not_mem_nil⟩⟩⟩⟩⟩⟩⟩⟩⟩⟩⟩⟩⟩⟩⟩⟩
theorem lw_p80 : lw_okq (⟨"FlagMachineModel", "pop", "()J"⟩, 41) := ⟨⟨by decide +kernel, by decide +kernel⟩, List.mem_of_getElem? (i := 887) (by decide +kernel), List.mem_of_getElem? (i := 1238) (by decide +kernel), List.mem_of_getElem? (i := 1239) (by decide +kernel)⟩
theorem lw_p81 : lw_okq (⟨"FlagMachineModel", "isMet", "(I)Z"⟩, 41) := ⟨⟨by decide +kernel, by decide +kernel⟩, List.mem_of_getElem? (i := 887) (by decide +kernel), List.mem_of_getElem? (i := 1242) (by decide +kernel), List.mem_of_getElem? (i := 1243) (by decide +kernel)⟩
theorem lw_p82 : lw_okq (⟨"FlagMachineModel", "choose", "(I)V"⟩, 41) := ⟨⟨by decide +kernel, by decide +kernel⟩, List.mem_of_getElem? (i := 887) (by decide +kernel), List.mem_of_getElem? (i := 1246) (by decide +kernel), List.mem_of_getElem? (i := 1247) (by decide +kernel)⟩
theorem lw_p83 : lw_okq (⟨"FlagMachineModel", "spread", "(II)V"⟩, 41) := ⟨⟨by decide +kernel, by decide +kernel⟩, List.mem_of_getElem? (i := 887) (by decide +kernel), List.mem_of_getElem? (i := 1250) (by decide +kernel), List.mem_of_getElem? (i := 1251) (by decide +kernel)⟩
theorem lw_p84 : lw_okq (⟨"FlagMachineModel", "service", "()V"⟩, 41) := ⟨⟨by decide +kernel, by decide +kernel⟩, List.mem_of_getElem? (i := 887) (by decide +kernel), List.mem_of_getElem? (i := 1254) (by decide +kernel), List.mem_of_getElem? (i := 1255) (by decide +kernel)⟩
theorem lw_p85 : lw_okq (⟨"FlagMachineModel", "may", "(JJZ)Z"⟩, 41) := ⟨⟨by decide +kernel, by decide +kernel⟩, List.mem_of_getElem? (i := 887) (by decide +kernel), List.mem_of_getElem? (i := 1258) (by decide +kernel), List.mem_of_getElem? (i := 1259) (by decide +kernel)⟩
theorem lw_p86 : lw_okq (⟨"FlagMachineModel", "bits", "(II)V"⟩, 41) := ⟨⟨by decide +kernel, by decide +kernel⟩, List.mem_of_getElem? (i := 887) (by decide +kernel), List.mem_of_getElem? (i := 1268) (by decide +kernel), List.mem_of_getElem? (i := 1269) (by decide +kernel)⟩
theorem lw_p87 : lw_okq (⟨"FlagMachineModel", "together", "(II)V"⟩, 41) := ⟨⟨by decide +kernel, by decide +kernel⟩, List.mem_of_getElem? (i := 887) (by decide +kernel), List.mem_of_getElem? (i := 1272) (by decide +kernel), List.mem_of_getElem? (i := 1273) (by decide +kernel)⟩
theorem lw_p88 : lw_okq (⟨"FlagMachineModel", "strings", "(II)V"⟩, 41) := ⟨⟨by decide +kernel, by decide +kernel⟩, List.mem_of_getElem? (i := 887) (by decide +kernel), List.mem_of_getElem? (i := 1276) (by decide +kernel), List.mem_of_getElem? (i := 1277) (by decide +kernel)⟩
def lw_privs_6 : List (MethodName × Nat) := [(⟨"FlagMachineModel", "pop", "()J"⟩, 41), (⟨"FlagMachineModel", "isMet", "(I)Z"⟩, 41), (⟨"FlagMachineModel", "choose", "(I)V"⟩, 41), (⟨"FlagMachineModel", "spread", "(II)V"⟩, 41), (⟨"FlagMachineModel", "service", "()V"⟩, 41), (⟨"FlagMachineModel", "may", "(JJZ)Z"⟩, 41), (⟨"FlagMachineModel", "bits", "(II)V"⟩, 41), (⟨"FlagMachineModel", "together", "(II)V"⟩, 41), (⟨"FlagMachineModel", "strings", "(II)V"⟩, 41)]
theorem lw_r6 : ∀ q ∈ lw_privs_6, lw_okq q := List.forall_mem_cons.mpr ⟨lw_p80, List.forall_mem_cons.mpr ⟨lw_p81, List.forall_mem_cons.mpr ⟨lw_p82, List.forall_mem_cons.mpr ⟨lw_p83, List.forall_mem_cons.mpr ⟨lw_p84, List.forall_mem_cons.mpr ⟨lw_p85, List.forall_mem_cons.mpr ⟨lw_p86, List.forall_mem_cons.mpr ⟨lw_p87, List.forall_mem_cons.mpr ⟨lw_p88, fun _ h => absurd h List.not_mem_nil⟩⟩⟩⟩⟩⟩⟩⟩⟩
def lw_privs : List (MethodName × Nat) := lw_privs_1 ++ (lw_privs_2 ++ (lw_privs_3 ++ (lw_privs_4 ++ (lw_privs_5 ++ (lw_privs_6)))))
def lw_tbl : List Cond := k2_sels lw_privs ++ tables_1
theorem lw_privs_ok : ∀ q ∈ lw_privs, lw_okq q := by
  show ∀ q ∈ lw_privs_1 ++ (lw_privs_2 ++ (lw_privs_3 ++ (lw_privs_4 ++ (lw_privs_5 ++ (lw_privs_6))))), lw_okq q
  exact List.forall_mem_append.mpr ⟨lw_r1, List.forall_mem_append.mpr ⟨lw_r2, List.forall_mem_append.mpr ⟨lw_r3, List.forall_mem_append.mpr ⟨lw_r4, List.forall_mem_append.mpr ⟨lw_r5, lw_r6⟩⟩⟩⟩⟩
end
section
/-! AN ABSTRACT MACHINE. Cells in a list, references are places in it (0: the script; i + 1: cell i); a method's run is a FUNCTION (am_run). Part 03 proves once that what it answers, the machine does (W). All else is said of am_run alone. -/
/-- a cell: an array (tag: 0 int, 1 byte, 2 boolean, 3 long, c + 4 of references to kind c; length; contents), or an object (kind, fields) -/
abbrev am_C : Type := (Nat × Nat × ((Nat → Int32) ⊕ ((Nat → Int64) ⊕ (Nat → Option Nat)))) ⊕ (Nat × List Value)
abbrev am_H : Type := List am_C
abbrev am_L : Type := List (Nat × Value)
/-- an entry of the table: kind, instruction, length, two numbers, a constant, a switch's rows, the locals that live here -/
abbrev am_I : Type := Nat × Jvm.ClassFile.Instr × Nat × Nat × Nat × Value × List (Int32 × Nat) × Option (List Nat)
/-- a method: name, bytes, locals, what it returns, the room that its calls take (frames, words), the number of its kind -/
abbrev am_M : Type := MethodName × ByteArray × Nat × Option FieldType × (Nat × Nat) × Nat
/-- the fields' types by kind and place; the fields of a new object -/
abbrev am_P : Type := (Nat → Nat → FieldType) × (Nat → List Value)
def am_get (h : am_H) (i : Nat) : Option am_C := match i with
  | 0 => none
  | i + 1 => h[i]?
def am_set (h : am_H) (i : Nat) (c : am_C) : am_H := match i with
  | 0 => h
  | i + 1 => h.set i c
def am_rf (r : Option Nat) : Value := match r with
  | none => .null
  | some q => .ref q
def am_ld (lv : am_L) (i : Nat) : Option Value := match lv with
  | [] => none
  | q :: l => bif Nat.beq q.1 i then some q.2 else am_ld l i
def am_ins (i : Nat) (v : Value) : am_L → am_L
  | [] => [(i, v)]
  | q :: l => bif Nat.ble i q.1 then (i, v) :: q :: l else q :: am_ins i v l
def am_st1 (lv : am_L) (i : Nat) (v : Value) : am_L := am_ins i v (lv.filter (fun q => !(q.1 == i) && !(q.1 + 1 == i && q.2.category == 2)))
def am_st2 (lv : am_L) (i : Nat) (v : Value) : am_L := am_ins i v (lv.filter (fun q => !(q.1 == i) && (!(q.1 == i + 1) && !(q.1 + 1 == i && q.2.category == 2))))
def am_live (lm : Option (List Nat)) (lv : am_L) : am_L := match lm with
  | none => lv
  | some m => lv.filter (fun q => m.contains q.1)
/-- values from the stack alone -/
def am_pure (ins : Jvm.ClassFile.Instr) (v : Value) (st : List Value) : Option (List Value) := match ins, st with
  | .aconst_null, st => some (.null :: st)
  | .iconst _, st => some (v :: st)
  | .bipush _, st => some (v :: st)
  | .sipush _, st => some (v :: st)
  | .lconst _, st => some (v :: st)
  | .ldc _, st => some (v :: st)
  | .ldc2_w _, st => some (v :: st)
  | .iadd, .int y :: .int x :: st => some (.int (x + y) :: st)
  | .isub, .int y :: .int x :: st => some (.int (x - y) :: st)
  | .imul, .int y :: .int x :: st => some (.int (x * y) :: st)
  | .iand, .int y :: .int x :: st => some (.int (x &&& y) :: st)
  | .ior, .int y :: .int x :: st => some (.int (x ||| y) :: st)
  | .ixor, .int y :: .int x :: st => some (.int (x ^^^ y) :: st)
  | .idiv, .int y :: .int x :: st => if y = 0 then none else some (.int (x / y) :: st)
  | .irem, .int y :: .int x :: st => if y = 0 then none else some (.int (x - x / y * y) :: st)
  | .ineg, .int x :: st => some (.int (-x) :: st)
  | .ishl, .int y :: .int x :: st => some (.int (x <<< (y &&& 31)) :: st)
  | .ishr, .int y :: .int x :: st => some (.int (x >>> (y &&& 31)) :: st)
  | .iushr, .int y :: .int x :: st => some (.int ((x.toUInt32 >>> (y.toUInt32 &&& Int32.toUInt32 31)).toInt32) :: st)
  | .ladd, .long y :: .long x :: st => some (.long (x + y) :: st)
  | .lsub, .long y :: .long x :: st => some (.long (x - y) :: st)
  | .lmul, .long y :: .long x :: st => some (.long (x * y) :: st)
  | .land, .long y :: .long x :: st => some (.long (x &&& y) :: st)
  | .lor, .long y :: .long x :: st => some (.long (x ||| y) :: st)
  | .lxor, .long y :: .long x :: st => some (.long (x ^^^ y) :: st)
  | .ldiv, .long y :: .long x :: st => if y = 0 then none else some (.long (x / y) :: st)
  | .lrem, .long y :: .long x :: st => if y = 0 then none else some (.long (x - x / y * y) :: st)
  | .lneg, .long x :: st => some (.long (-x) :: st)
  | .lshl, .int y :: .long x :: st => some (.long (x <<< (y.toInt64 &&& 63)) :: st)
  | .lshr, .int y :: .long x :: st => some (.long (x >>> (y.toInt64 &&& 63)) :: st)
  | .lushr, .int y :: .long x :: st => some (.long ((x.toUInt64 >>> (y.toInt64.toUInt64 &&& Int64.toUInt64 63)).toInt64) :: st)
  | .lcmp, .long y :: .long x :: st => some (.int (lg_cmp x y) :: st)
  | .i2l, .int x :: st => some (.long x.toInt64 :: st)
  | .l2i, .long x :: st => some (.int x.toInt32 :: st)
  | .i2b, .int x :: st => some (.int x.toInt8.toInt32 :: st)
  | .i2s, .int x :: st => some (.int x.toInt16.toInt32 :: st)
  | .i2c, .int x :: st => some (.int (x.toUInt32 % 65536).toInt32 :: st)
  | .pop, a :: st => if a.category = 1 then some st else none
  | .dup, a :: st => if a.category = 1 then some (a :: a :: st) else none
  | .dup_x1, a :: b :: st => if a.category = 1 ∧ b.category = 1 then some (a :: b :: a :: st) else none
  | .dup_x2, a :: b :: d :: st => if a.category = 1 ∧ b.category = 1 ∧ d.category = 1 then some (a :: b :: d :: a :: st) else none
  | .pop2, a :: st => if a.category = 2 then some st else none
  | .dup2, a :: st => if a.category = 2 then some (a :: a :: st) else match st with
    | b :: st => if a.category = 1 ∧ b.category = 1 then some (a :: b :: a :: b :: st) else none
    | [] => none
  | .dup2_x1, a :: b :: st => if a.category = 2 ∧ b.category = 1 then some (a :: b :: a :: st) else none
  | .dup2_x2, a :: b :: d :: st => if a.category = 2 ∧ b.category = 1 ∧ d.category = 1 then some (a :: b :: d :: a :: st) else none
  | _, _ => none
/-- locals; nL: how many there are -/
def am_loc (ins : Jvm.ClassFile.Instr) (v : Value) (nL : Nat) (lv : am_L) (st : List Value) : Option (am_L × List Value) := match ins, st with
  | .iload_n k, st => match am_ld lv k with
    | some (.int x) => some (lv, .int x :: st)
    | _ => none
  | .iload k, st => match am_ld lv k with
    | some (.int x) => some (lv, .int x :: st)
    | _ => none
  | .lload_n k, st => match am_ld lv k with
    | some (.long x) => some (lv, .long x :: st)
    | _ => none
  | .lload k, st => match am_ld lv k with
    | some (.long x) => some (lv, .long x :: st)
    | _ => none
  | .aload_n k, st => match am_ld lv k with
    | some (.ref x) => some (lv, .ref x :: st)
    | some .null => some (lv, .null :: st)
    | _ => none
  | .aload k, st => match am_ld lv k with
    | some (.ref x) => some (lv, .ref x :: st)
    | some .null => some (lv, .null :: st)
    | _ => none
  | .istore_n k, .int x :: st => if k < nL then some (am_st1 lv k (.int x), st) else none
  | .istore k, .int x :: st => if k < nL then some (am_st1 lv k (.int x), st) else none
  | .lstore_n k, .long x :: st => if k + 1 < nL then some (am_st2 lv k (.long x), st) else none
  | .lstore k, .long x :: st => if k + 1 < nL then some (am_st2 lv k (.long x), st) else none
  | .astore_n k, .ref x :: st => if k < nL then some (am_st1 lv k (.ref x), st) else none
  | .astore_n k, .null :: st => if k < nL then some (am_st1 lv k .null, st) else none
  | .astore k, .ref x :: st => if k < nL then some (am_st1 lv k (.ref x), st) else none
  | .astore k, .null :: st => if k < nL then some (am_st1 lv k .null, st) else none
  | .iinc k _, st => match v, am_ld lv k with
    | .int d, some (.int x) => if k < nL then some (am_st1 lv k (.int (x + d)), st) else none
    | _, _ => none
  | _, _ => none
def am_sw (d : Nat) (x : Int32) : List (Int32 × Nat) → Nat
  | [] => d
  | q :: r => if x = q.1 then q.2 else am_sw d x r
/-- jumps: t the place named, nx the next one -/
def am_jump (ins : Jvm.ClassFile.Instr) (t nx : Nat) (sw : List (Int32 × Nat)) (st : List Value) : Option (Nat × List Value) := match ins, st with
  | .goto _, st => some (t, st)
  | .ifCond .eq _, .int x :: st => some (if x = 0 then t else nx, st)
  | .ifCond .ne _, .int x :: st => some (if x = 0 then nx else t, st)
  | .ifCond .lt _, .int x :: st => some (if x < 0 then t else nx, st)
  | .ifCond .ge _, .int x :: st => some (if 0 ≤ x then t else nx, st)
  | .ifCond .gt _, .int x :: st => some (if 0 < x then t else nx, st)
  | .ifCond .le _, .int x :: st => some (if x ≤ 0 then t else nx, st)
  | .if_icmp .eq _, .int y :: .int x :: st => some (if x = y then t else nx, st)
  | .if_icmp .ne _, .int y :: .int x :: st => some (if x = y then nx else t, st)
  | .if_icmp .lt _, .int y :: .int x :: st => some (if x < y then t else nx, st)
  | .if_icmp .ge _, .int y :: .int x :: st => some (if y ≤ x then t else nx, st)
  | .if_icmp .gt _, .int y :: .int x :: st => some (if y < x then t else nx, st)
  | .if_icmp .le _, .int y :: .int x :: st => some (if x ≤ y then t else nx, st)
  | .ifnull _, .null :: st => some (t, st)
  | .ifnull _, .ref _ :: st => some (nx, st)
  | .ifnonnull _, .null :: st => some (nx, st)
  | .ifnonnull _, .ref _ :: st => some (t, st)
  | .tableswitch _ _ _ _, .int x :: st => some (am_sw t x sw, st)
  | .lookupswitch _ _, .int x :: st => some (am_sw t x sw, st)
  | _, _ => none
def am_in (j : Int32) (n : Nat) : Bool := !(decide (j < 0)) && decide (j.toNatClampNeg < n)
/-- the heap -/
def am_heap (P : am_P) (L : Nat) (xs : Nat → Int32) (ins : Jvm.ClassFile.Instr) (a1 a2 : Nat) (st : List Value) (h : am_H) : Option (List Value × am_H) := match ins, st with
  | .getfield _, .ref i :: st => match am_get h i with
    | some (.inr (ci, fs)) => if ci = a1 then match fs[a2]? with
      | some v => some (v :: st, h)
      | none => none
      else none
    | _ => none
  | .putfield _, v :: .ref i :: st => match am_get h i with
    | some (.inr (ci, fs)) => if ci = a1 ∧ a2 < fs.length ∧ narrow (P.1 a1 a2) v = v ∧ fits (P.1 a1 a2) v = true then some (st, am_set h i (.inr (ci, fs.set a2 v))) else none
    | _ => none
  | .new _, st => some (.ref (h.length + 1) :: st, h ++ [.inr (a1, P.2 a1)])
  | .newarray .int, .int n :: st => if n < 0 ∨ 1048576 < n.toNatClampNeg then none else some (.ref (h.length + 1) :: st, h ++ [.inl (0, n.toNatClampNeg, .inl (fun _ => 0))])
  | .newarray .byte, .int n :: st => if n < 0 ∨ 1048576 < n.toNatClampNeg then none else some (.ref (h.length + 1) :: st, h ++ [.inl (1, n.toNatClampNeg, .inl (fun _ => 0))])
  | .newarray .boolean, .int n :: st => if n < 0 ∨ 1048576 < n.toNatClampNeg then none else some (.ref (h.length + 1) :: st, h ++ [.inl (2, n.toNatClampNeg, .inl (fun _ => 0))])
  | .newarray .long, .int n :: st => if n < 0 ∨ 1048576 < n.toNatClampNeg then none else some (.ref (h.length + 1) :: st, h ++ [.inl (3, n.toNatClampNeg, .inr (.inl (fun _ => 0)))])
  | .anewarray _, .int n :: st => if n < 0 ∨ 1048576 < n.toNatClampNeg then none else some (.ref (h.length + 1) :: st, h ++ [.inl (a1 + 4, n.toNatClampNeg, .inr (.inr (fun _ => none)))])
  | .arraylength, .ref i :: st => if i = 0 then some (.int (Int32.ofNat L) :: st, h) else match am_get h i with
    | some (.inl (t, n, _)) => if t = a1 then some (.int (Int32.ofNat n) :: st, h) else none
    | _ => none
  | .iaload, .int j :: .ref i :: st => if i = 0 then (if am_in j L = true then some (.int (xs j.toNatClampNeg) :: st, h) else none) else match am_get h i with
    | some (.inl (t, n, .inl f)) => if t = 0 ∧ am_in j n = true then some (.int (f j.toNatClampNeg) :: st, h) else none
    | _ => none
  | .baload, .int j :: .ref i :: st => match am_get h i with
    | some (.inl (t, n, .inl f)) => if t = a1 ∧ am_in j n = true then some (.int (f j.toNatClampNeg) :: st, h) else none
    | _ => none
  | .laload, .int j :: .ref i :: st => match am_get h i with
    | some (.inl (t, n, .inr (.inl f))) => if t = 3 ∧ am_in j n = true then some (.long (f j.toNatClampNeg) :: st, h) else none
    | _ => none
  | .aaload, .int j :: .ref i :: st => match am_get h i with
    | some (.inl (t, n, .inr (.inr f))) => if t = a1 + 4 ∧ am_in j n = true then some (am_rf (f j.toNatClampNeg) :: st, h) else none
    | _ => none
  | .iastore, .int x :: .int j :: .ref i :: st => match am_get h i with
    | some (.inl (t, n, .inl f)) => if t = 0 ∧ am_in j n = true then some (st, am_set h i (.inl (t, n, .inl (upd f j.toNatClampNeg x)))) else none
    | _ => none
  | .bastore, .int x :: .int j :: .ref i :: st => match am_get h i with
    | some (.inl (t, n, .inl f)) => if t = a1 ∧ am_in j n = true then some (st, am_set h i (.inl (t, n, .inl (upd f j.toNatClampNeg (vp_nar (if a1 = 1 then .byte else .boolean) x))))) else none
    | _ => none
  | .lastore, .long x :: .int j :: .ref i :: st => match am_get h i with
    | some (.inl (t, n, .inr (.inl f))) => if t = 3 ∧ am_in j n = true then some (st, am_set h i (.inl (t, n, .inr (.inl (vp_updL f j.toNatClampNeg x))))) else none
    | _ => none
  | .aastore, .ref w :: .int j :: .ref i :: st => match am_get h i, am_get h w with
    | some (.inl (t, n, .inr (.inr f))), some (.inr (ci, _)) => if t = ci + 4 ∧ ci = a1 ∧ am_in j n = true then some (st, am_set h i (.inl (t, n, .inr (.inr (va_up f j.toNatClampNeg (some w)))))) else none
    | _, _ => none
  | .invokespecial _, .ref _ :: st => if (st.map fun v => v.category).sum ≤ 8 then some (st, h) else none
  | .invokestatic _, .int n :: .int dp :: st => if a1 = 1 then (if (st.map fun v => v.category).sum ≤ 8 then some (.int (if dp < n then n else dp) :: st, h) else none) else if a1 = 2 then (if (st.map fun v => v.category).sum ≤ 8 then some (.int (if n < dp then n else dp) :: st, h) else none) else match st with
    | .ref d :: .int sp :: .ref sr :: st => match am_get h sr, am_get h d with
      | some (.inl (t0, n0, .inl f)), some (.inl (t1, n1, .inl g)) => if t0 = 1 ∧ t1 = 1 ∧ ¬ sp < 0 ∧ ¬ dp < 0 ∧ ¬ n < 0 ∧ sp.toNatClampNeg + n.toNatClampNeg ≤ n0 ∧ dp.toNatClampNeg + n.toNatClampNeg ≤ n1 ∧ (st.map fun v => v.category).sum ≤ 8 ∧ (∀ i, i < n.toNatClampNeg → fits .byte (.int (f (sp.toNatClampNeg + i))) = true) then some (st, am_set h d (.inl (t1, n1, .inl (va_cpy f g sp.toNatClampNeg dp.toNatClampNeg n.toNatClampNeg)))) else none
      | _, _ => none
    | _ => none
  | _, _ => none
/-- a call: the arguments, the rest of the stack -/
def am_call (ins : Jvm.ClassFile.Instr) (ci mL a2 : Nat) (st : List Value) (h : am_H) : Option (List Value × List Value) :=
  if a2 ≤ st.length ∧ ((st.drop a2).map fun v => v.category).sum ≤ 8 ∧ (((st.take a2).reverse).map fun v => v.category).sum ≤ mL then match ins, (st.take a2).reverse with
    | .invokestatic _, as => some (as, st.drop a2)
    | .invokespecial _, .ref i :: as => some (.ref i :: as, st.drop a2)
    | .invokevirtual _, .ref i :: as => match am_get h i with
      | some (.inr (cj, _)) => if cj = ci then some (.ref i :: as, st.drop a2) else none
      | _ => none
    | _, _ => none
  else none
def am_ret (ins : Jvm.ClassFile.Instr) (rt : Option FieldType) (st : List Value) : Option (Option Value) := match ins, rt, st with
  | .ireturn, some ty, [.int v] => if narrow ty (.int v) = .int v then some (some (.int v)) else none
  | .lreturn, some .long, [.long v] => some (some (.long v))
  | .areturn, some (.object _), [.ref v] => some (some (.ref v))
  | .areturn, some (.object _), [.null] => some (some .null)
  | .areturn, some (.array _), [.ref v] => some (some (.ref v))
  | .areturn, some (.array _), [.null] => some (some .null)
  | .return_, none, [] => some none
  | _, _, _ => none
/-- THE RUN of a method from a place on, with fuel -/
def am_run (P : am_P) (T : Nat → Nat → Option am_I) (mt : Nat → am_M) (L : Nat) (xs : Nat → Int32) : Nat → Nat → Nat → am_L → List Value → am_H → Option (Option Value × am_H)
  | 0, _, _, _, _, _ => none
  | n + 1, mi, pc, lv, st, h => match T mi pc with
    | none => none
    | some (k, ins, len, a1, a2, v, sw, lm) => match k with
      | 0 => match am_pure ins v st with
        | none => none
        | some st' => am_run P T mt L xs n mi (pc + len) (am_live lm lv) st' h
      | 1 => match am_loc ins v (mt mi).2.2.1 (am_live lm lv) st with
        | none => none
        | some (lv', st') => am_run P T mt L xs n mi (pc + len) lv' st' h
      | 2 => match am_jump ins a1 (pc + len) sw st with
        | none => none
        | some (pc', st') => am_run P T mt L xs n mi pc' (am_live lm lv) st' h
      | 3 => match am_heap P L xs ins a1 a2 st h with
        | none => none
        | some (st', h') => am_run P T mt L xs n mi (pc + len) (am_live lm lv) st' h'
      | 4 => match am_call ins (mt a1).2.2.2.2.2 (mt a1).2.2.1 a2 st h with
        | none => none
        | some (as, st') => match am_run P T mt L xs n a1 0 (lv_args 0 as) [] h with
          | none => none
          | some (rv, h') => am_run P T mt L xs n mi (pc + len) (am_live lm lv) (rv.toList ++ st') h'
      | _ => match am_ret ins (mt mi).2.2.2.1 st with
        | none => none
        | some rv => some (rv, h)
end
section
/-! THE ABSTRACT MACHINE IS SOUND: what am_run answers, the machine does (W). b: the script's cell, sz: the heap's size when the law began, dA: the id of each kind of array -/
def am_ad (b sz : Nat) : Nat → Nat
  | 0 => b
  | i + 1 => sz + i
def am_tv (b sz : Nat) (v : Value) : Value := match v with
  | .ref i => .ref (am_ad b sz i)
  | v => v
def am_enc (b sz : Nat) (dA : Nat → ClassId) (c : am_C) : va_E := match c with
  | .inl (t, n, .inl f) => .inl (dA t, n, .inl f)
  | .inl (t, n, .inr (.inl f)) => .inl (dA t, n, .inr (.inl f))
  | .inl (t, n, .inr (.inr f)) => .inl (dA t, n, .inr (.inr (.inr (.inr (fun k => (f k).map (am_ad b sz))))))
  | .inr (ci, fs) => .inr (ci, fs.map (am_tv b sz))
def am_wsF (b sz : Nat) (dA : Nat → ClassId) : Nat → am_H → va_W
  | _, [] => []
  | k, c :: r => (k, am_enc b sz dA c) :: am_wsF b sz dA (k + 1) r
abbrev am_ws (b sz : Nat) (dA : Nat → ClassId) (h : am_H) : va_W := am_wsF b sz dA sz h
section AMW
variable {b sz : Nat} {dA : Nat → ClassId}
theorem am_wsF_get (h : am_H) : ∀ (k i : Nat), (am_wsF b sz dA k h)[i]? = h[i]?.map (fun c => (k + i, am_enc b sz dA c)) := by
  induction h with
  | nil => intro k i; simp [am_wsF]
  | cons c r ih =>
    intro k i
    cases i with
    | zero => simp [am_wsF]
    | succ i =>
      simp only [am_wsF, List.getElem?_cons_succ]
      rw [ih (k + 1) i, show k + 1 + i = k + (i + 1) by omega]
theorem am_ws_get {h : am_H} {i : Nat} {c : am_C} (hc : h[i]? = some c) : (am_ws b sz dA h)[i]? = some (sz + i, am_enc b sz dA c) := by
  rw [am_wsF_get, hc]; rfl
theorem am_wsF_set (h : am_H) (c : am_C) : ∀ (k i : Nat), am_wsF b sz dA k (h.set i c) = (am_wsF b sz dA k h).set i (k + i, am_enc b sz dA c) := by
  induction h with
  | nil => intro k i; simp [am_wsF]
  | cons d r ih =>
    intro k i
    cases i with
    | zero => simp [am_wsF]
    | succ i =>
      simp only [List.set_cons_succ, am_wsF]
      rw [ih (k + 1) i, show k + 1 + i = k + (i + 1) by omega]
theorem am_wsF_app (h : am_H) (c : am_C) : ∀ k : Nat, am_wsF b sz dA k (h ++ [c]) = am_wsF b sz dA k h ++ [(k + h.length, am_enc b sz dA c)] := by
  induction h with
  | nil => intro k; simp [am_wsF]
  | cons d r ih =>
    intro k
    simp only [List.cons_append, am_wsF, List.length_cons]
    rw [ih (k + 1), show k + 1 + r.length = k + (r.length + 1) by omega]
theorem am_ws_D (h : am_H) : va_D (fun q : Nat => sz ≤ q) (am_ws b sz dA h) := by
  have key : ∀ (i : Nat) (q : Nat × va_E), (am_ws b sz dA h)[i]? = some q → q.1 = sz + i := by
    intro i q hq
    rw [am_wsF_get] at hq
    cases hc : h[i]? with
    | none => rw [hc] at hq; cases hq
    | some c => rw [hc] at hq; cases hq; rfl
  refine ⟨fun i j p q hi hj hpq => ?_, fun k q hk => ?_⟩
  · have h1 := key i p hi
    have h2 := key j q hj
    omega
  · have h1 := key k q hk
    show sz ≤ q.1
    omega
theorem am_ws_len (h : am_H) : ∀ k, (am_wsF b sz dA k h).length = h.length := by
  induction h with
  | nil => intro k; rfl
  | cons c r ih => intro k; simp [am_wsF, ih]
theorem am_tv_cat (v : Value) : (am_tv b sz v).category = v.category := by cases v <;> rfl
theorem am_tv_nar {ty : FieldType} {v : Value} (h : narrow ty v = v) : narrow ty (am_tv b sz v) = am_tv b sz v := by
  cases v with
  | ref i => cases ty <;> rfl
  | _ => exact h
theorem am_tv_fits {ty : FieldType} {v : Value} (h : fits ty v = true) : fits ty (am_tv b sz v) = true := by
  cases v with
  | ref i => cases ty <;> first | exact h | (simp [fits] at h)
  | _ => exact h
theorem am_tv_rf (r : Option Nat) : am_tv b sz (am_rf r) = va_rf (r.map (am_ad b sz)) := by cases r <;> rfl
theorem am_sum_tv (st : List Value) : ((st.map (am_tv b sz)).map fun v => v.category).sum = (st.map fun v => v.category).sum := by
  rw [List.map_map]
  congr 1
  apply List.map_congr_left
  intro v _
  exact am_tv_cat v
/-- locals -/
abbrev am_lvT (b sz : Nat) (lv : am_L) : am_L := lv.map (fun q => (q.1, am_tv b sz q.2))
theorem am_ld_mem : ∀ {lv : am_L} {i : Nat} {v : Value}, am_ld lv i = some v → (i, v) ∈ lv
  | [], i, v, h => by simp [am_ld] at h
  | q :: l, i, v, h => by
    unfold am_ld at h
    cases hb : Nat.beq q.1 i with
    | true =>
      rw [hb] at h
      have e := Nat.eq_of_beq_eq_true hb
      simp at h
      rw [← e, ← h]
      exact List.mem_cons_self
    | false =>
      rw [hb] at h
      exact List.mem_cons_of_mem _ (am_ld_mem h)
theorem am_ins_mem {i : Nat} {v : Value} : ∀ {l : am_L} {q : Nat × Value}, q ∈ am_ins i v l → q ∈ (i, v) :: l
  | [], q, h => h
  | p :: l, q, h => by
    unfold am_ins at h
    cases hb : Nat.ble i p.1 with
    | true => rw [hb] at h; exact h
    | false =>
      rw [hb] at h
      rcases List.mem_cons.mp h with h | h
      · rw [h]; exact List.mem_cons_of_mem _ List.mem_cons_self
      · rcases List.mem_cons.mp (am_ins_mem h) with h | h
        · rw [h]; exact List.mem_cons_self
        · exact List.mem_cons_of_mem _ (List.mem_cons_of_mem _ h)
theorem am_has_of {ls : Array Slot} {nL : Nat} {l l' : am_L} (h : lv_has ls nL l) (hs : ∀ q ∈ l', q ∈ l) : lv_has ls nL l' := ⟨h.1, h.2.1, fun q hq => h.2.2 q (hs q hq)⟩
theorem am_has_ld {ls : Array Slot} {nL : Nat} {lv : am_L} {i : Nat} {v : Value} (h : lv_has ls nL (am_lvT b sz lv)) (hl : am_ld lv i = some v) : ls[i]? = some (.val (am_tv b sz v)) :=
  h.2.2 (i, am_tv b sz v) (List.mem_map.mpr ⟨(i, v), am_ld_mem hl, rfl⟩)
theorem am_has_live {ls : Array Slot} {nL : Nat} {lv : am_L} {lm : Option (List Nat)} (h : lv_has ls nL (am_lvT b sz lv)) : lv_has ls nL (am_lvT b sz (am_live lm lv)) := by
  cases lm with
  | none => exact h
  | some m =>
    refine am_has_of h fun q hq => ?_
    obtain ⟨z, hz, e⟩ := List.mem_map.mp hq
    exact List.mem_map.mpr ⟨z, (List.mem_filter.mp hz).1, e⟩
theorem am_has_st1 {ls : Array Slot} {nL i : Nat} {lv : am_L} {v : Value} (h : lv_has ls nL ((i, am_tv b sz v) :: (am_lvT b sz lv).filter (fun q => !(q.1 == i) && !(q.1 + 1 == i && q.2.category == 2)))) : lv_has ls nL (am_lvT b sz (am_st1 lv i v)) := by
  refine am_has_of h fun q hq => ?_
  obtain ⟨z, hz, e⟩ := List.mem_map.mp hq
  rcases List.mem_cons.mp (am_ins_mem hz) with hz | hz
  · rw [← e, hz]; exact List.mem_cons_self
  · obtain ⟨h1, h2⟩ := List.mem_filter.mp hz
    refine List.mem_cons_of_mem _ (List.mem_filter.mpr ⟨List.mem_map.mpr ⟨z, h1, e⟩, ?_⟩)
    rw [← e]
    simpa [am_tv_cat] using h2
theorem am_has_st2 {ls : Array Slot} {nL i : Nat} {lv : am_L} {v : Value} (h : lv_has ls nL ((i, am_tv b sz v) :: (am_lvT b sz lv).filter (fun q => !(q.1 == i) && (!(q.1 == i + 1) && !(q.1 + 1 == i && q.2.category == 2))))) : lv_has ls nL (am_lvT b sz (am_st2 lv i v)) := by
  refine am_has_of h fun q hq => ?_
  obtain ⟨z, hz, e⟩ := List.mem_map.mp hq
  rcases List.mem_cons.mp (am_ins_mem hz) with hz | hz
  · rw [← e, hz]; exact List.mem_cons_self
  · obtain ⟨h1, h2⟩ := List.mem_filter.mp hz
    refine List.mem_cons_of_mem _ (List.mem_filter.mpr ⟨List.mem_map.mpr ⟨z, h1, e⟩, ?_⟩)
    rw [← e]
    simpa [am_tv_cat] using h2
theorem am_args_tv (as : List Value) : ∀ i : Nat, lv_args i (as.map (am_tv b sz)) = am_lvT b sz (lv_args i as) := by
  induction as with
  | nil => intro i; rfl
  | cons v vs ih => intro i; simp only [List.map_cons, lv_args, am_tv_cat, ih]
theorem am_sl_len (vs : List Value) : (lg_sl vs).length = (vs.map fun v => v.category).sum := by
  induction vs with
  | nil => rfl
  | cons v vs ih =>
    have e : lg_sl (v :: vs) = (if v.category = 2 then [Slot.val v, .second] else [.val v]) ++ lg_sl vs := by simp [lg_sl]
    rw [e, List.length_append, ih, List.map_cons, List.sum_cons]
    rcases lv_cat v with h | h <;> simp [h]
theorem am_get_eq {h : am_H} {i : Nat} {c : am_C} (hc : am_get h i = some c) : ∃ j, i = j + 1 ∧ h[j]? = some c := by
  cases i with
  | zero => simp [am_get] at hc
  | succ j => exact ⟨j, rfl, hc⟩
theorem am_in_vp {j : Int32} {n : Nat} (h : am_in j n = true) : vp_in j n := by
  simp only [am_in, Bool.and_eq_true, Bool.not_eq_true', decide_eq_false_iff_not, decide_eq_true_eq] at h
  rintro (q | q)
  · exact h.1 q
  · omega
end AMW
/-- lengths of the instructions that have one -/
def am_len : Jvm.ClassFile.Instr → Nat
  | .bipush _ => 2
  | .sipush _ => 3
  | .ldc _ => 2
  | .ldc2_w _ => 3
  | .iload _ => 2
  | .lload _ => 2
  | .aload _ => 2
  | .istore _ => 2
  | .lstore _ => 2
  | .astore _ => 2
  | .iinc _ _ => 3
  | .goto _ => 3
  | .ifCond _ _ => 3
  | .if_icmp _ _ => 3
  | .ifnull _ => 3
  | .ifnonnull _ => 3
  | .getfield _ => 3
  | .putfield _ => 3
  | .new _ => 3
  | .newarray _ => 2
  | .anewarray _ => 3
  | .invokespecial _ => 3
  | .invokestatic _ => 3
  | .invokevirtual _ => 3
  | _ => 1
def am_isSw : Jvm.ClassFile.Instr → Bool
  | .tableswitch _ _ _ _ => true
  | .lookupswitch _ _ => true
  | _ => false
/-- constants -/
def am_ok0 (tbl : List Cond) (own : String) (ins : Jvm.ClassFile.Instr) (v : Value) : Prop := match ins with
  | .iconst n => v = .int (Int32.ofInt n)
  | .bipush n => v = .int ((Int8.ofInt n).toInt32)
  | .sipush n => v = .int ((Int16.ofInt n).toInt32)
  | .lconst n => v = .long (Int64.ofNat n)
  | .ldc i => ∃ x : Int32, v = .int x ∧ Cond.constant own i x ∈ tbl
  | .ldc2_w i => ∃ x : Int64, v = .long x ∧ Cond.constantLong own i x ∈ tbl
  | _ => True
section AMS
variable {p : Program} {l : Launch} {e : Env} {R : Room} {s : State} {m : MethodId} {args : Array Value} {below : List Frame} {meth : Method} {c : Code} {H : Heap} {locs : List Loc} {cells slots : Nat} {Q : State → Prop}
variable {cc : ByteArray} {pc len : Nat} {ls : Array Slot} {b sz : Nat} {tbl : List Cond} {own : String} {ins : Jvm.ClassFile.Instr} {v : Value} {st st' : List Value}
set_option maxHeartbeats 4000000 in
theorem am_pure_W (hx : p.tables.exec = Jvm.exec) (hb : c.code = cc) (hown : s.vm.findClass own = some m.cls) (hts : ∀ w ∈ tbl, w.before args s = true) (hd : decode cc pc = .ok (ins, len)) (hn : len = am_len ins) (hok : am_ok0 tbl own ins v) (hp : am_pure ins v st = some st')
    (k : W p l e R s m args below meth c H locs cells slots Q (F0 m (pc + len) ls (st'.map (am_tv b sz)))) : W p l e R s m args below meth c H locs cells slots Q (F0 m pc ls (st.map (am_tv b sz))) := by
  subst hn
  unfold am_pure at hp
  split at hp
  · cases hp; exact lv_null hx hb hd k
  · cases hp; cases (show v = _ from hok); exact lv_iconst hx hb hd rfl k
  · cases hp; cases (show v = _ from hok); exact lv_bipush hx hb hd rfl k
  · cases hp; cases (show v = _ from hok); exact lv_sipush hx hb hd rfl k
  · cases hp; cases (show v = _ from hok); exact lv_lconst hx hb hd rfl k
  · cases hp; obtain ⟨x, rfl, hw⟩ := hok; exact lv_ldc hx hb hown (hts _ hw) hd k
  · cases hp; obtain ⟨x, rfl, hw⟩ := hok; exact lv_ldc2 hx hb hown (hts _ hw) hd k
  · cases hp; exact lv_iadd hx hb hd k
  · cases hp; exact lv_isub hx hb hd k
  · cases hp; exact lv_imul hx hb hd k
  · cases hp; exact lv_iand hx hb hd k
  · cases hp; exact lv_ior hx hb hd k
  · cases hp; exact lv_ixor hx hb hd k
  · split at hp
    · cases hp
    · cases hp; rename_i hz; exact lv_idiv hx hb hd hz k
  · split at hp
    · cases hp
    · cases hp; rename_i hz; exact lv_irem hx hb hd hz k
  · cases hp; exact lv_ineg hx hb hd k
  · cases hp; exact lv_ishl hx hb hd k
  · cases hp; exact lv_ishr hx hb hd k
  · cases hp; exact lv_iushr hx hb hd rfl k
  · cases hp; exact lv_ladd hx hb hd k
  · cases hp; exact lv_lsub hx hb hd k
  · cases hp; exact lv_lmul hx hb hd k
  · cases hp; exact lv_land hx hb hd k
  · cases hp; exact lv_lor hx hb hd k
  · cases hp; exact lv_lxor hx hb hd k
  · split at hp
    · cases hp
    · cases hp; rename_i hz; exact lv_ldiv hx hb hd hz k
  · split at hp
    · cases hp
    · cases hp; rename_i hz; exact lv_lrem hx hb hd hz k
  · cases hp; exact lv_lneg hx hb hd k
  · cases hp; exact lv_lshl hx hb hd rfl k
  · cases hp; exact lv_lshr hx hb hd rfl k
  · cases hp; exact lv_lushr hx hb hd rfl k
  · cases hp; exact W.lcmp hx hb hd k
  · cases hp; exact lv_i2l hx hb hd rfl k
  · cases hp; exact lv_l2i hx hb hd rfl k
  · cases hp; exact lv_i2b hx hb hd rfl k
  · cases hp; exact lv_i2s hx hb hd rfl k
  · cases hp; exact lv_i2c hx hb hd rfl k
  · split at hp
    · rename_i hc; cases hp; exact lv_pop hx hb hd (by rw [am_tv_cat]; exact hc) k
    · cases hp
  · split at hp
    · rename_i hc; cases hp; exact lv_dup hx hb hd (by rw [am_tv_cat]; exact hc) k
    · cases hp
  · split at hp
    · rename_i hc; cases hp; exact lv_dup_x1 hx hb hd (by rw [am_tv_cat]; exact hc.1) (by rw [am_tv_cat]; exact hc.2) k
    · cases hp
  · split at hp
    · rename_i hc; cases hp; exact lv_dup_x2 hx hb hd (by rw [am_tv_cat]; exact hc.1) (by rw [am_tv_cat]; exact hc.2.1) (by rw [am_tv_cat]; exact hc.2.2) k
    · cases hp
  · split at hp
    · rename_i hc; cases hp; exact lv_pop2_2 hx hb hd (by rw [am_tv_cat]; exact hc) k
    · cases hp
  · split at hp
    · rename_i hc; cases hp; exact lv_dup2_2 hx hb hd (by rw [am_tv_cat]; exact hc) k
    · split at hp
      · split at hp
        · rename_i hc; cases hp; exact lv_dup2_11 hx hb hd (by rw [am_tv_cat]; exact hc.1) (by rw [am_tv_cat]; exact hc.2) k
        · cases hp
      · cases hp
  · split at hp
    · rename_i hc; cases hp; exact lv_dup2_x1_2 hx hb hd (by rw [am_tv_cat]; exact hc.1) (by rw [am_tv_cat]; exact hc.2) k
    · cases hp
  · split at hp
    · rename_i hc; cases hp; exact lv_dup2_x2_2 hx hb hd (by rw [am_tv_cat]; exact hc.1) (by rw [am_tv_cat]; exact hc.2.1) (by rw [am_tv_cat]; exact hc.2.2) k
    · cases hp
  · cases hp
/-- iinc's constant -/
def am_ok1 (ins : Jvm.ClassFile.Instr) (v : Value) : Prop := match ins with
  | .iinc _ n => v = .int (Int32.ofInt n)
  | _ => True
variable {nL : Nat} {lv lv' : am_L}
set_option maxHeartbeats 4000000 in
theorem am_loc_W (hx : p.tables.exec = Jvm.exec) (hb : c.code = cc) (hd : decode cc pc = .ok (ins, len)) (hn : len = am_len ins) (hok : am_ok1 ins v) (hl : lv_has ls nL (am_lvT b sz lv)) (hp : am_loc ins v nL lv st = some (lv', st'))
    (k : ∀ ls' : Array Slot, lv_has ls' nL (am_lvT b sz lv') → W p l e R s m args below meth c H locs cells slots Q (F0 m (pc + len) ls' (st'.map (am_tv b sz)))) : W p l e R s m args below meth c H locs cells slots Q (F0 m pc ls (st.map (am_tv b sz))) := by
  subst hn
  unfold am_loc at hp
  split at hp
  · split at hp
    · rename_i hg; cases hp; exact lv_iload_n hx hb hd rfl (am_has_ld hl hg) (k _ hl)
    · cases hp
  · split at hp
    · rename_i hg; cases hp; exact lv_iload hx hb hd (am_has_ld hl hg) (k _ hl)
    · cases hp
  · split at hp
    · rename_i hg; cases hp; exact lv_lload_n hx hb hd rfl (am_has_ld hl hg) (k _ hl)
    · cases hp
  · split at hp
    · rename_i hg; cases hp; exact lv_lload hx hb hd (am_has_ld hl hg) (k _ hl)
    · cases hp
  · split at hp
    · rename_i hg; cases hp; exact lv_aload_n hx hb hd rfl (am_has_ld hl hg) (k _ hl)
    · rename_i hg; cases hp; exact lv_aload_nN hx hb hd rfl (am_has_ld hl hg) (k _ hl)
    · cases hp
  · split at hp
    · rename_i hg; cases hp; exact lv_aload hx hb hd (am_has_ld hl hg) (k _ hl)
    · rename_i hg; cases hp; exact lv_aloadN hx hb hd (am_has_ld hl hg) (k _ hl)
    · cases hp
  · split at hp
    · rename_i hg; cases hp; exact lv_istore_n hx hb hd rfl hl hg rfl (fun ls' h' => k ls' (am_has_st1 h'))
    · cases hp
  · split at hp
    · rename_i hg; cases hp; exact lv_istore hx hb hd hl hg rfl (fun ls' h' => k ls' (am_has_st1 h'))
    · cases hp
  · split at hp
    · rename_i hg; cases hp; exact lv_lstore_n hx hb hd rfl hl hg rfl (fun ls' h' => k ls' (am_has_st2 h'))
    · cases hp
  · split at hp
    · rename_i hg; cases hp; exact lv_lstore hx hb hd hl hg rfl (fun ls' h' => k ls' (am_has_st2 h'))
    · cases hp
  · split at hp
    · rename_i hg; cases hp; exact lv_astore_n hx hb hd rfl hl hg rfl (fun ls' h' => k ls' (am_has_st1 h'))
    · cases hp
  · split at hp
    · rename_i hg; cases hp; exact lv_astore_nN hx hb hd rfl hl hg rfl (fun ls' h' => k ls' (am_has_st1 h'))
    · cases hp
  · split at hp
    · rename_i hg; cases hp; exact lv_astore hx hb hd hl hg rfl (fun ls' h' => k ls' (am_has_st1 h'))
    · cases hp
  · split at hp
    · rename_i hg; cases hp; exact lv_astoreN hx hb hd hl hg rfl (fun ls' h' => k ls' (am_has_st1 h'))
    · cases hp
  · split at hp
    · split at hp
      · rename_i x hg hk
        cases hp
        cases (show Value.int _ = _ from hok)
        obtain ⟨kk, hkk⟩ := List.getElem?_of_mem (show (_, am_tv b sz (.int x)) ∈ am_lvT b sz lv from List.mem_map.mpr ⟨_, am_ld_mem hg, rfl⟩)
        exact lv_iinc hx hb hd hl hkk rfl hk rfl (fun ls' h' => k ls' (am_has_st1 h'))
      · cases hp
    · cases hp
  · cases hp
/-- where jumps go -/
def am_ok2 (ins : Jvm.ClassFile.Instr) (pc t : Nat) (sw : List (Int32 × Nat)) : Prop := match ins with
  | .goto o => (pc : Int) + o = (t : Int)
  | .ifCond _ o => (pc : Int) + o = (t : Int)
  | .if_icmp _ o => (pc : Int) + o = (t : Int)
  | .ifnull o => (pc : Int) + o = (t : Int)
  | .ifnonnull o => (pc : Int) + o = (t : Int)
  | .tableswitch d lo hi offs => (pc : Int) + d = (t : Int) ∧ hi - lo + 1 = (sw.length : Int) ∧ offs.toList.map (fun o => (pc : Int) + o) = sw.map (fun q => (q.2 : Int)) ∧ sw.map (fun q => q.1.toInt) = (List.range sw.length).map (fun j : Nat => lo + (j : Int))
  | .lookupswitch d ps => (pc : Int) + d = (t : Int) ∧ (ps.toList.zip (ps.toList.drop 1)).all (fun (a, next) => a.1 < next.1) = true ∧ ps.toList.map (fun q => (q.1, (pc : Int) + q.2)) = sw.map (fun q => (q.1.toInt, (q.2 : Int)))
  | _ => True
theorem am_sw_look {pc t : Nat} {d : Int} (hd : (pc : Int) + d = (t : Int)) (x : Int32) : ∀ (ps : List (Int × Int)) (sw : List (Int32 × Nat)), ps.map (fun q => (q.1, (pc : Int) + q.2)) = sw.map (fun q => (q.1.toInt, (q.2 : Int))) → (pc : Int) + Op.lookupswitch.offset ps d x.toInt = (am_sw t x sw : Int)
  | [], [], _ => by simpa [Op.lookupswitch.offset, am_sw] using hd
  | [], q :: r, h => by simp at h
  | p :: ps, [], h => by simp at h
  | p :: ps, q :: r, h => by
    simp only [List.map_cons, List.cons.injEq, Prod.mk.injEq] at h
    obtain ⟨a, o⟩ := p
    obtain ⟨⟨h1, h2⟩, h3⟩ := h
    rw [Op.lookupswitch.offset_cons]
    unfold am_sw
    by_cases hq : x = q.1
    · rw [if_pos hq, if_pos (by rw [hq]; exact h1)]
      exact h2
    · rw [if_neg hq, if_neg (fun z => hq (Int32.toInt_inj.mp (by rw [← h1]; exact z.symm)))]
      exact am_sw_look hd x ps r h3
theorem am_sw_tab (t : Nat) (x : Int32) : ∀ (sw : List (Int32 × Nat)) (lo : Int), sw.map (fun q => q.1.toInt) = (List.range sw.length).map (fun j : Nat => lo + (j : Int)) →
    ((x.toInt < lo ∨ lo + sw.length ≤ x.toInt) ∧ am_sw t x sw = t) ∨ (lo ≤ x.toInt ∧ x.toInt < lo + sw.length ∧ ∃ q, sw[(x.toInt - lo).toNat]? = some q ∧ am_sw t x sw = q.2)
  | [], lo, _ => by
    left
    refine ⟨?_, rfl⟩
    simp only [List.length_nil]
    omega
  | q :: r, lo, h => by
    rw [List.length_cons, List.range_succ_eq_map, List.map_cons, List.map_cons, List.map_map] at h
    simp only [List.cons.injEq] at h
    obtain ⟨h1, h2⟩ := h
    have h2' : r.map (fun q => q.1.toInt) = (List.range r.length).map (fun j : Nat => (lo + 1) + (j : Int)) := by
      rw [h2]
      apply List.map_congr_left
      intro j _
      simp only [Function.comp]
      omega
    have e0 : q.1.toInt = lo := by rw [h1]; simp
    unfold am_sw
    by_cases hq : x = q.1
    · right
      rw [if_pos hq]
      have ex : x.toInt = lo := by rw [hq]; exact e0
      refine ⟨by omega, by simp only [List.length_cons]; omega, q, ?_, rfl⟩
      rw [show (x.toInt - lo).toNat = 0 by omega]
      rfl
    · have hne : x.toInt ≠ lo := fun z => hq (Int32.toInt_inj.mp (by rw [e0]; exact z))
      rw [if_neg hq]
      rcases am_sw_tab t x r (lo + 1) h2' with ⟨h3, h4⟩ | ⟨h3, h4, q', h5, h6⟩
      · left
        refine ⟨?_, h4⟩
        simp only [List.length_cons]
        omega
      · right
        refine ⟨by omega, by simp only [List.length_cons]; omega, q', ?_, h6⟩
        rw [show (x.toInt - lo).toNat = (x.toInt - (lo + 1)).toNat + 1 by omega]
        exact h5
variable {t nx pc' : Nat} {sw : List (Int32 × Nat)}
set_option maxHeartbeats 4000000 in
theorem am_jump_W (hx : p.tables.exec = Jvm.exec) (hb : c.code = cc) (hd : decode cc pc = .ok (ins, len)) (hn : am_isSw ins = true ∨ len = am_len ins) (hok : am_ok2 ins pc t sw) (hp : am_jump ins t (pc + len) sw st = some (pc', st'))
    (k : W p l e R s m args below meth c H locs cells slots Q (F0 m pc' ls (st'.map (am_tv b sz)))) : W p l e R s m args below meth c H locs cells slots Q (F0 m pc ls (st.map (am_tv b sz))) := by
  unfold am_jump at hp
  split at hp
  · cases hp; (rcases hn with h | rfl; · simp [am_isSw] at h); exact lv_goto hx hb hd hok k
  · cases hp; (rcases hn with h | rfl; · simp [am_isSw] at h); exact lv_if_eq hx hb hd hok (fun q => by rw [if_pos q] at k; exact k) (fun q => by rw [if_neg q] at k; exact k)
  · cases hp; (rcases hn with h | rfl; · simp [am_isSw] at h); exact lv_if_ne hx hb hd hok (fun q => by rw [if_neg q] at k; exact k) (fun q => by rw [if_pos q] at k; exact k)
  · cases hp; (rcases hn with h | rfl; · simp [am_isSw] at h); exact lv_if_lt hx hb hd hok (fun q => by rw [if_pos q] at k; exact k) (fun q => by rw [if_neg q] at k; exact k)
  · cases hp; (rcases hn with h | rfl; · simp [am_isSw] at h); exact lv_if_ge hx hb hd hok (fun q => by rw [if_pos q] at k; exact k) (fun q => by rw [if_neg q] at k; exact k)
  · cases hp; (rcases hn with h | rfl; · simp [am_isSw] at h); exact lv_if_gt hx hb hd hok (fun q => by rw [if_pos q] at k; exact k) (fun q => by rw [if_neg q] at k; exact k)
  · cases hp; (rcases hn with h | rfl; · simp [am_isSw] at h); exact lv_if_le hx hb hd hok (fun q => by rw [if_pos q] at k; exact k) (fun q => by rw [if_neg q] at k; exact k)
  · cases hp; (rcases hn with h | rfl; · simp [am_isSw] at h); exact lv_icmp_eq hx hb hd hok (fun q => by rw [if_pos q] at k; exact k) (fun q => by rw [if_neg q] at k; exact k)
  · cases hp; (rcases hn with h | rfl; · simp [am_isSw] at h); exact lv_icmp_ne hx hb hd hok (fun q => by rw [if_neg q] at k; exact k) (fun q => by rw [if_pos q] at k; exact k)
  · cases hp; (rcases hn with h | rfl; · simp [am_isSw] at h); exact lv_icmp_lt hx hb hd hok (fun q => by rw [if_pos q] at k; exact k) (fun q => by rw [if_neg q] at k; exact k)
  · cases hp; (rcases hn with h | rfl; · simp [am_isSw] at h); exact lv_icmp_ge hx hb hd hok (fun q => by rw [if_pos q] at k; exact k) (fun q => by rw [if_neg q] at k; exact k)
  · cases hp; (rcases hn with h | rfl; · simp [am_isSw] at h); exact lv_icmp_gt hx hb hd hok (fun q => by rw [if_pos q] at k; exact k) (fun q => by rw [if_neg q] at k; exact k)
  · cases hp; (rcases hn with h | rfl; · simp [am_isSw] at h); exact lv_icmp_le hx hb hd hok (fun q => by rw [if_pos q] at k; exact k) (fun q => by rw [if_neg q] at k; exact k)
  · cases hp; (rcases hn with h | rfl; · simp [am_isSw] at h); exact lv_ifnullN hx hb hd hok k
  · cases hp; (rcases hn with h | rfl; · simp [am_isSw] at h); exact lv_ifnull hx hb hd k
  · cases hp; (rcases hn with h | rfl; · simp [am_isSw] at h); exact lv_ifnonnullN hx hb hd k
  · cases hp; (rcases hn with h | rfl; · simp [am_isSw] at h); exact lv_ifnonnull hx hb hd hok k
  · rename_i d lo hi offs x rest
    cases hp
    obtain ⟨h1, h2, h3, h4⟩ := hok
    rcases am_sw_tab t x sw lo h4 with ⟨g1, g2⟩ | ⟨g1, g2, q, g3, g4⟩
    · rw [g2] at k
      exact lv_tableOut hx hb hd (by omega) h1 k
    · rw [g4] at k
      have h5 : (offs.toList.map (fun o => (pc : Int) + o))[(x.toInt - lo).toNat]? = some (q.2 : Int) := by rw [h3, List.getElem?_map, g3]; rfl
      rw [List.getElem?_map] at h5
      cases ho : offs.toList[(x.toInt - lo).toNat]? with
      | none => rw [ho] at h5; cases h5
      | some o =>
        rw [ho] at h5
        exact lv_tableIn hx hb hd (by omega) (by omega) (by rw [← Array.getElem?_toList]; exact ho) (Option.some.inj h5) k
  · cases hp
    obtain ⟨h1, h2, h3⟩ := hok
    exact lv_lookup hx hb hd h2 rfl (am_sw_look h1 _ _ _ h3) k
  · cases hp
end AMS
end
section
/-! the heap's instructions are sound -/
def am_cs (c : am_C) : Nat := match c with
  | .inl (_, n, _) => n
  | .inr (_, fs) => fs.length
def am_sl : am_H → Nat
  | [] => 0
  | c :: r => am_cs c + am_sl r
theorem am_sl_app (h : am_H) (c : am_C) : am_sl (h ++ [c]) = am_sl h + am_cs c := by
  induction h with
  | nil => simp [am_sl]
  | cons d r ih => simp only [List.cons_append, am_sl, ih]; omega
theorem am_sl_set {c c' : am_C} (hs : am_cs c' = am_cs c) : ∀ {h : am_H} {i : Nat}, h[i]? = some c → am_sl (h.set i c') = am_sl h
  | [], i, hc => by simp at hc
  | d :: r, 0, hc => by
    rw [List.getElem?_cons_zero] at hc
    cases hc
    simp only [List.set_cons_zero, am_sl, hs]
  | d :: r, i + 1, hc => by
    rw [List.getElem?_cons_succ] at hc
    simp only [List.set_cons_succ, am_sl, am_sl_set hs hc]
def am_aty (cl : List vw_C) (t : Nat) : FieldType := match t with
  | 0 => .int
  | 1 => .byte
  | 2 => .boolean
  | 3 => .long
  | c + 4 => match cl[c]? with
    | some r => .object r.1
    | none => .int
def am_tys (cl : List vw_C) (dA : Nat → ClassId) (tl : List Nat) : List (ClassId × FieldType) := tl.map (fun t => (dA t, am_aty cl t))
theorem am_tys_at {cl : List vw_C} {dA : Nat → ClassId} {tl : List Nat} {t : Nat} (h : t ∈ tl) : ∃ t0 : Nat, (am_tys cl dA tl)[t0]? = some (dA t, am_aty cl t) := by
  obtain ⟨i, hi⟩ := List.getElem?_of_mem h
  exact ⟨i, by rw [am_tys, List.getElem?_map, hi]; rfl⟩
def am_okC (cl : List vw_C) (tbl : List Cond) (fty : Nat → Nat → FieldType) : Prop := ∀ (ci : Nat) (q : vw_C), cl[ci]? = some q → (∀ w ∈ u_ws q.1 q.2.1 q.2.2, w ∈ tbl) ∧ (∀ k, k < q.2.2 → parseFieldDescriptor (q.2.1 k).2.2.1 = some (fty ci k)) ∧ (∀ a, a < q.2.2 → ∀ b, b < q.2.2 → a ≠ b → (q.2.1 a).2.1 ≠ (q.2.1 b).2.1)
/-- a field's link: plain, or of a nest mate -/
def am_lnk (tbl nst : List Cond) (own : String) (i : Nat) (q : String × String × String × Bool) : Prop := Cond.fieldLink own i q.1 q.2.1 q.2.2.1 ∈ tbl ∨ ∃ host, Cond.fieldLinkNest own i q.1 q.2.1 q.2.2.1 host ∈ nst
def am_ok3 (cl : List vw_C) (tbl nst : List Cond) (aos : List String) (tl : List Nat) (fty : Nat → Nat → FieldType) (dfl : Nat → List Value) (y : MethodName) (rk : Nat × Nat) (ins : Jvm.ClassFile.Instr) (a1 a2 : Nat) : Prop := match ins with
  | .getfield i => ∃ q, cl[a1]? = some q ∧ a2 < q.2.2 ∧ am_lnk tbl nst y.cls i (q.2.1 a2)
  | .putfield i => ∃ q, cl[a1]? = some q ∧ a2 < q.2.2 ∧ (((q.2.1 a2).2.2.2 = false ∧ am_lnk tbl nst y.cls i (q.2.1 a2)) ∨ ((q.2.1 a2).2.2.2 = true ∧ y.name = "<init>" ∧ (q.2.1 a2).1 = y.cls ∧ Cond.fieldLink y.cls i (q.2.1 a2).1 (q.2.1 a2).2.1 (q.2.1 a2).2.2.1 ∈ tbl))
  | .new i => ∃ q, cl[a1]? = some q ∧ Cond.classLink y.cls i q.1 ∈ tbl ∧ Cond.instantiable q.1 q.2.2 ∈ tbl ∧ Cond.initialized q.1 ∈ tbl ∧ (dfl a1).length = q.2.2 ∧ (∀ j, j < q.2.2 → defaultValue (fty a1 j) = vp_V (dfl a1) j) ∧ (∀ v ∈ dfl a1, v.asRef? = none ∨ v = .null)
  | .newarray t => Cond.arrayClass (newarray.typeOf t) ∈ tbl ∧ ((t = .int ∧ 0 ∈ tl) ∨ (t = .byte ∧ 1 ∈ tl) ∨ (t = .boolean ∧ 2 ∈ tl) ∨ (t = .long ∧ 3 ∈ tl))
  | .anewarray i => ∃ q, cl[a1]? = some q ∧ Cond.classLink y.cls i q.1 ∈ tbl ∧ q.1 ∈ aos ∧ a1 + 4 ∈ tl
  | .arraylength => a1 ∈ tl
  | .iaload => 0 ∈ tl
  | .iastore => 0 ∈ tl
  | .baload => (a1 = 1 ∨ a1 = 2) ∧ a1 ∈ tl
  | .bastore => (a1 = 1 ∨ a1 = 2) ∧ a1 ∈ tl
  | .laload => 3 ∈ tl
  | .lastore => 3 ∈ tl
  | .aaload => (∃ q, cl[a1]? = some q) ∧ a1 + 4 ∈ tl
  | .aastore => (∃ q, cl[a1]? = some q) ∧ a1 + 4 ∈ tl
  | .invokespecial i => (1 ≤ rk.1 ∧ 20 ≤ rk.2) ∧ Cond.methodLink y.cls i objectInit ∈ tbl ∧ Cond.instanceMethod objectInit ∈ tbl ∧ Cond.code objectInit ⟨#[0xb1]⟩ 1 none ∈ tbl
  | .invokestatic i => (1 ≤ rk.1 ∧ 26 ≤ rk.2) ∧ match a1 with
    | 1 => Cond.methodLink y.cls i Lib.Math.max.name ∈ tbl ∧ Cond.static Lib.Math.max.name ∈ tbl ∧ Cond.initialized "java/lang/Math" ∈ tbl ∧ Cond.code Lib.Math.max.name Lib.Math.max.code 2 (some .int) ∈ tbl
    | 2 => Cond.methodLink y.cls i Lib.Math.min.name ∈ tbl ∧ Cond.static Lib.Math.min.name ∈ tbl ∧ Cond.initialized "java/lang/Math" ∈ tbl ∧ Cond.code Lib.Math.min.name Lib.Math.min.code 2 (some .int) ∈ tbl
    | _ => Cond.methodLink y.cls i arraycopyName ∈ tbl ∧ Cond.native arraycopyName ∈ tbl ∧ Cond.static arraycopyName ∈ tbl ∧ Cond.initialized "java/lang/System" ∈ tbl ∧ 1 ∈ tl
  | _ => True
/-- what the tables say, beyond the words that keep by themselves -/
def am_env (dC : Nat → ClassId) (dI : Nat → Nat → Nat) (dA : Nat → ClassId) (cl : List vw_C) (tl : List Nat) (nst : List Cond) (aos : List String) (s : State) : Prop := va_K (dC, dI) cl (am_tys cl dA tl) s ∧ (∀ w ∈ nst, va_Nw w s) ∧ ∀ C ∈ aos, va_AO C s
def am_isN : Cond → Bool
  | .fieldLinkNest .. => true
  | .methodLinkNest .. => true
  | _ => false
theorem am_env.moved {dC : Nat → ClassId} {dI : Nat → Nat → Nat} {dA : Nat → ClassId} {cl : List vw_C} {tl : List Nat} {nst : List Cond} {aos : List String} {s U : State} (hN : ∀ w ∈ nst, am_isN w = true) (hW : s.WarmedH U.vm) (h : am_env dC dI dA cl tl nst aos s) : am_env dC dI dA cl tl nst aos U := by
  refine ⟨va_K.moved hW.alike h.1, fun w hw => ?_, fun C hC => va_AO.moved hW.alike (h.2.2 C hC)⟩
  have h1 := h.2.1 w hw
  have h2 := hN w hw
  cases w <;> first | exact va_Nw.warmF hW h1 | exact va_Nw.warmM hW h1 | (simp [am_isN] at h2)
section AMH
variable {p : Program} {l : Launch} {e : Env} {R : Room} {s : State} {m : MethodId} {args : Array Value} {below : List Frame} {meth : Method} {c : Code} {H : Heap} {locs : List Loc} {cells slots : Nat} {Q : State → Prop}
variable {cc : ByteArray} {pc len : Nat} {ls : Array Slot} {b sz : Nat} {dC : Nat → ClassId} {dI : Nat → Nat → Nat} {dA : Nat → ClassId} {cl : List vw_C} {tl : List Nat} {tbl nst : List Cond} {aos : List String} {fty : Nat → Nat → FieldType} {dfl : Nat → List Value} {y : MethodName} {ins : Jvm.ClassFile.Instr} {st st' : List Value} {h h' : am_H} {a1 a2 L : Nat} {rk : Nat × Nat} {xs : Nat → Int32}
/-- the address of what was made last -/
theorem am_fresh {q : Nat} {en : va_E} {H1 : Heap} {g : JFrame} {slots1 : Nat} (hP1 : va_P (dC, dI) cl (am_ws b sz dA h ++ [(q, en)]) H1) (hD1 : va_D (fun q : Nat => sz ≤ q) (am_ws b sz dA h ++ [(q, en)])) (hcnt : s.heap.size + cells = sz + h.length)
    (kk : q = sz + h.length → W p l e R s m args below meth c H1 locs (cells + 1) slots1 Q g) : W p l e R s m args below meth c H1 locs (cells + 1) slots1 Q g := by
  intro T hT X
  have h1 : H1.size ≤ s.heap.size + (cells + 1) := by rw [← hT]; exact X.heapSize
  have hlast : (am_ws b sz dA h ++ [(q, en)])[h.length]? = some (q, en) := by
    rw [List.getElem?_append_right (by rw [am_ws_len]; exact Nat.le_refl _), am_ws_len, Nat.sub_self]; rfl
  have h2 : q < H1.size := (hP1 h.length _ hlast).lt
  have h3 : sz ≤ q := hD1.2 h.length _ hlast
  have h4 : ¬ q < sz + h.length := by
    intro hq
    have hi : q - sz < h.length := by omega
    obtain ⟨d, hd⟩ : ∃ d, h[q - sz]? = some d := ⟨h[q - sz], List.getElem?_eq_getElem hi⟩
    have h5 : (am_ws b sz dA h ++ [(q, en)])[q - sz]? = some (sz + (q - sz), am_enc b sz dA d) := by
      rw [List.getElem?_append_left (by rw [am_ws_len]; exact hi)]
      exact am_ws_get hd
    have h6 := hD1.1 (q - sz) h.length _ _ h5 hlast (by show sz + (q - sz) = q; omega)
    omega
  exact kk (by omega) T hT X
theorem am_dfl_tv {d : List Value} (hd : ∀ v ∈ d, v.asRef? = none ∨ v = .null) : d.map (am_tv b sz) = d := by
  have : ∀ v ∈ d, am_tv b sz v = v := by
    intro v hv
    cases v with
    | ref i => rcases hd _ hv with h | h <;> simp [Value.asRef?] at h
    | _ => rfl
  rw [List.map_congr_left this, List.map_id']
set_option maxHeartbeats 8000000 in
theorem am_heap_W (hx : p.tables.exec = Jvm.exec) (hb : c.code = cc) (hml : c.maxLocals = ls.size) (hown : s.vm.findClass y.cls = some m.cls) (hnm : y.name = "<init>" → meth.name = "<init>") (hts : ∀ w ∈ tbl, w.before args s = true) (hE : am_env dC dI dA cl tl nst aos s) (hC : am_okC cl tbl fty)
    (hd : decode cc pc = .ok (ins, len)) (hn : len = am_len ins) (hok : am_ok3 cl tbl nst aos tl fty dfl y rk ins a1 a2) (hX : va_X b L xs s s.heap) (hbs : b < sz) (hss : sz ≤ s.heap.size) (hP : va_P (dC, dI) cl (am_ws b sz dA h) H) (hS : va_S (fun q : Nat => sz ≤ q) s.heap H locs) (hcnt : s.heap.size + cells = sz + h.length)
    (hfr : rk.1 ≤ R.frames ∧ rk.2 ≤ R.locals) (hp : am_heap (fty, dfl) L xs ins a1 a2 st h = some (st', h')) (hc1 : cells + (h'.length - h.length) ≤ R.cells) (hc2 : slots + (am_sl h' - am_sl h) ≤ R.slots)
    (k : ∀ (H' : Heap) (locs' : List Loc), va_P (dC, dI) cl (am_ws b sz dA h') H' → va_S (fun q : Nat => sz ≤ q) s.heap H' locs' → W p l e R s m args below meth c H' locs' (cells + (h'.length - h.length)) (slots + (am_sl h' - am_sl h)) Q (F0 m (pc + len) ls (st'.map (am_tv b sz)))) : W p l e R s m args below meth c H locs cells slots Q (F0 m pc ls (st.map (am_tv b sz))) := by
  subst hn
  have hA : ∀ q : Nat, s.heap.size ≤ q → sz ≤ q := fun q h => Nat.le_trans hss h
  have hbA : ¬ sz ≤ b := by omega
  have hbl : b < s.heap.size := by omega
  have hD := am_ws_D (b := b) (sz := sz) (dA := dA) h
  have hK := hE.1
  have same : ∀ {H' : Heap} {locs' : List Loc} {g : JFrame}, W p l e R s m args below meth c H' locs' (cells + (h.length - h.length)) (slots + (am_sl h - am_sl h)) Q g → W p l e R s m args below meth c H' locs' cells slots Q g := by
    intro H' locs' g w
    rw [Nat.sub_self, Nat.sub_self] at w
    exact w
  have put : ∀ {i : Nat} {c0 c1 : am_C} {H' : Heap} {locs' : List Loc} {g : JFrame}, h[i]? = some c0 → am_cs c1 = am_cs c0 → W p l e R s m args below meth c H' locs' (cells + ((h.set i c1).length - h.length)) (slots + (am_sl (h.set i c1) - am_sl h)) Q g → W p l e R s m args below meth c H' locs' cells slots Q g := by
    intro i c0 c1 H' locs' g h1 h2 w
    rw [am_sl_set h2 h1, List.length_set, Nat.sub_self, Nat.sub_self] at w
    exact w
  unfold am_heap at hp
  split at hp
  · -- getfield
    rename_i i0 i rest
    split at hp
    · rename_i ci fs hg
      split at hp
      · rename_i hci
        split at hp
        · rename_i v hv
          cases hp
          subst hci
          obtain ⟨j, rfl, hj⟩ := am_get_eq hg
          obtain ⟨⟨C, Tf, N⟩, q1, q2, q3⟩ := hok
          have he := am_ws_get (b := b) (sz := sz) (dA := dA) hj
          have hv' : (fs.map (am_tv b sz))[a2]? = some (am_tv b sz v) := by rw [List.getElem?_map, hv]; rfl
          rcases q3 with q3 | ⟨host, q3⟩
          · exact va_get hx hb hts (hC ci _ q1).1 hown hK hP j he q1 a2 q2 (hts _ q3) (fun _ h9 => h9) hv' hd (same (k H locs hP hS))
          · exact va_getN hx hb hts (hC ci _ q1).1 hown hK hP j he q1 a2 q2 (va_Nw.use rfl (hE.2.1 _ q3)) (fun _ h9 => h9) hv' hd (same (k H locs hP hS))
        · cases hp
      · cases hp
    · cases hp
  · -- putfield
    rename_i i0 v i rest
    split at hp
    · rename_i ci fs hg
      split at hp
      · rename_i hcd
        obtain ⟨hci, hl2, hna, hfi⟩ := hcd
        have hp := Option.some.inj hp
        obtain ⟨rfl, rfl⟩ := Prod.mk.inj hp
        subst hci
        obtain ⟨j, rfl, hj⟩ := am_get_eq hg
        obtain ⟨⟨C, Tf, N⟩, q1, q2, q3⟩ := hok
        have he := am_ws_get (b := b) (sz := sz) (dA := dA) hj
        have hty := (hC ci _ q1).2.1
        have hlen : a2 < (fs.map (am_tv b sz)).length := by rw [List.length_map]; exact hl2
        have kk : ∀ (H1 : Heap) (locs1 : List Loc), va_P (dC, dI) cl ((am_ws b sz dA h).set j (sz + j, .inr (ci, (fs.map (am_tv b sz)).set a2 (am_tv b sz v)))) H1 → va_D (fun q : Nat => sz ≤ q) ((am_ws b sz dA h).set j (sz + j, .inr (ci, (fs.map (am_tv b sz)).set a2 (am_tv b sz v)))) → va_S (fun q : Nat => sz ≤ q) s.heap H1 locs1 → W p l e R s m args below meth c H1 locs1 cells slots Q (F0 m (pc + 3) ls (rest.map (am_tv b sz))) := by
          intro H1 locs1 g1 g2 g3
          refine put hj ?_ (k H1 locs1 ?_ g3)
          · simp [am_cs]
          · show va_P _ _ (am_wsF b sz dA sz (h.set j (.inr (ci, fs.set a2 v)))) H1
            rw [am_wsF_set]
            simpa only [am_enc, List.map_set] using g1
        rcases q3 with ⟨f1, q3 | ⟨host, q3⟩⟩ | ⟨f1, f2, f3, q3⟩
        · exact va_put hx hb hts (hC ci _ q1).1 (fty ci) hty (hC ci _ q1).2.2 hown hK hP hD hS j he q1 a2 q2 (hts _ q3) (fun _ h9 => h9) f1 (hty a2 q2) (am_tv_nar hna) (am_tv_fits hfi) hlen hd kk
        · exact va_putN hx hb hts (hC ci _ q1).1 (fty ci) hty (hC ci _ q1).2.2 hown hK hP hD hS j he q1 a2 q2 (va_Nw.use rfl (hE.2.1 _ q3)) (fun _ h9 => h9) f1 (hty a2 q2) (am_tv_nar hna) (am_tv_fits hfi) hlen hd kk
        · exact va_putF hx hb hts (hC ci _ q1).1 (fty ci) hty (hC ci _ q1).2.2 hown hK hP hD hS j he q1 a2 q2 (hts _ q3) (fun _ h9 => h9) f1 (hnm f2) f3 (hty a2 q2) (am_tv_nar hna) (am_tv_fits hfi) hlen hd kk
      · cases hp
    · cases hp
  · -- new
    cases hp
    obtain ⟨⟨C, Tf, N⟩, q1, q2, q3, q4, q5, q6, q7⟩ := hok
    have e1 : (h ++ [(.inr (a1, dfl a1) : am_C)]).length - h.length = 1 := by simp
    have e2 : am_sl (h ++ [(.inr (a1, dfl a1) : am_C)]) - am_sl h = N := by rw [am_sl_app, show am_cs (.inr (a1, dfl a1)) = N from q5]; omega
    rw [e1, e2] at k
    rw [e1] at hc1
    rw [e2] at hc2
    refine va_new (ci := a1) (fs := dfl a1) hx hb hts (hC a1 _ q1).1 (fty a1) (hC a1 _ q1).2.1 hown (hts _ q2) (hts _ q3) (hts _ q4) hK hP hD hS hA q1 q6 hc1 hc2 hd (fun q H1 g1 g2 g3 => ?_)
    refine am_fresh g1 g2 hcnt fun hq => ?_
    subst hq
    refine k H1 locs ?_ g3
    show va_P _ _ (am_wsF b sz dA sz (h ++ [.inr (a1, dfl a1)])) H1
    rw [am_wsF_app]
    simpa only [am_enc, am_dfl_tv q7] using g1
  · -- newarray int
    rename_i n rest
    split at hp
    · cases hp
    · rename_i hng
      cases hp
      obtain ⟨q1, q2⟩ := hok
      have q2 : 0 ∈ tl := by rcases q2 with ⟨-, q⟩ | ⟨h, -⟩ | ⟨h, -⟩ | ⟨h, -⟩ <;> first | exact q | cases h
      have e1 : (h ++ [(.inl (0, n.toNatClampNeg, .inl (fun _ => 0)) : am_C)]).length - h.length = 1 := by simp
      have e2 : am_sl (h ++ [(.inl (0, n.toNatClampNeg, .inl (fun _ => 0)) : am_C)]) - am_sl h = n.toNatClampNeg := by rw [am_sl_app]; simp [am_cs]
      rw [e1, e2] at k
      rw [e1] at hc1
      rw [e2] at hc2
      refine va_newa (ty := .int) (a0 := (n.toNatClampNeg, .inl (fun _ => 0))) hx hb (hts _ q1) rfl hK hP hD hS hA (fun _ => rfl) (fun z => hng (Or.inl z)) rfl (by show _ * 4 ≤ _; omega) hc1 hc2 hd (fun q cA H1 g0 g1 g2 g3 => ?_)
      refine am_fresh g1 g2 hcnt fun hq => ?_
      subst hq
      refine k H1 locs ?_ g3
      obtain ⟨t0, ht0⟩ := am_tys_at (cl := cl) (dA := dA) q2
      have r1 : s.vm.findClass _ = some cA := (g0.2 (am_tys cl dA tl).length (cA, .int) (by rw [List.getElem?_append_right (Nat.le_refl _), Nat.sub_self]; rfl)).2
      have r2 : s.vm.findClass _ = some (dA 0) := (hK.2 t0 _ ht0).2
      have r3 : cA = dA 0 := Option.some.inj (r1.symm.trans r2)
      subst r3
      show va_P _ _ (am_wsF b sz dA sz (h ++ [.inl (0, n.toNatClampNeg, .inl (fun _ => 0))])) H1
      rw [am_wsF_app]
      exact g1
  · -- newarray byte
    rename_i n rest
    split at hp
    · cases hp
    · rename_i hng
      cases hp
      obtain ⟨q1, q2⟩ := hok
      have q2 : 1 ∈ tl := by rcases q2 with ⟨h, -⟩ | ⟨-, q⟩ | ⟨h, -⟩ | ⟨h, -⟩ <;> first | exact q | cases h
      have e1 : (h ++ [(.inl (1, n.toNatClampNeg, .inl (fun _ => 0)) : am_C)]).length - h.length = 1 := by simp
      have e2 : am_sl (h ++ [(.inl (1, n.toNatClampNeg, .inl (fun _ => 0)) : am_C)]) - am_sl h = n.toNatClampNeg := by rw [am_sl_app]; simp [am_cs]
      rw [e1, e2] at k
      rw [e1] at hc1
      rw [e2] at hc2
      refine va_newa (ty := .byte) (a0 := (n.toNatClampNeg, .inl (fun _ => 0))) hx hb (hts _ q1) rfl hK hP hD hS hA (fun _ => rfl) (fun z => hng (Or.inl z)) rfl (by show _ * 1 ≤ _; omega) hc1 hc2 hd (fun q cA H1 g0 g1 g2 g3 => ?_)
      refine am_fresh g1 g2 hcnt fun hq => ?_
      subst hq
      refine k H1 locs ?_ g3
      obtain ⟨t0, ht0⟩ := am_tys_at (cl := cl) (dA := dA) q2
      have r1 : s.vm.findClass _ = some cA := (g0.2 (am_tys cl dA tl).length (cA, .byte) (by rw [List.getElem?_append_right (Nat.le_refl _), Nat.sub_self]; rfl)).2
      have r2 : s.vm.findClass _ = some (dA 1) := (hK.2 t0 _ ht0).2
      have r3 : cA = dA 1 := Option.some.inj (r1.symm.trans r2)
      subst r3
      show va_P _ _ (am_wsF b sz dA sz (h ++ [.inl (1, n.toNatClampNeg, .inl (fun _ => 0))])) H1
      rw [am_wsF_app]
      exact g1
  · -- newarray boolean
    rename_i n rest
    split at hp
    · cases hp
    · rename_i hng
      cases hp
      obtain ⟨q1, q2⟩ := hok
      have q2 : 2 ∈ tl := by rcases q2 with ⟨h, -⟩ | ⟨h, -⟩ | ⟨-, q⟩ | ⟨h, -⟩ <;> first | exact q | cases h
      have e1 : (h ++ [(.inl (2, n.toNatClampNeg, .inl (fun _ => 0)) : am_C)]).length - h.length = 1 := by simp
      have e2 : am_sl (h ++ [(.inl (2, n.toNatClampNeg, .inl (fun _ => 0)) : am_C)]) - am_sl h = n.toNatClampNeg := by rw [am_sl_app]; simp [am_cs]
      rw [e1, e2] at k
      rw [e1] at hc1
      rw [e2] at hc2
      refine va_newa (ty := .boolean) (a0 := (n.toNatClampNeg, .inl (fun _ => 0))) hx hb (hts _ q1) rfl hK hP hD hS hA (fun _ => rfl) (fun z => hng (Or.inl z)) rfl (by show _ * 1 ≤ _; omega) hc1 hc2 hd (fun q cA H1 g0 g1 g2 g3 => ?_)
      refine am_fresh g1 g2 hcnt fun hq => ?_
      subst hq
      refine k H1 locs ?_ g3
      obtain ⟨t0, ht0⟩ := am_tys_at (cl := cl) (dA := dA) q2
      have r1 : s.vm.findClass _ = some cA := (g0.2 (am_tys cl dA tl).length (cA, .boolean) (by rw [List.getElem?_append_right (Nat.le_refl _), Nat.sub_self]; rfl)).2
      have r2 : s.vm.findClass _ = some (dA 2) := (hK.2 t0 _ ht0).2
      have r3 : cA = dA 2 := Option.some.inj (r1.symm.trans r2)
      subst r3
      show va_P _ _ (am_wsF b sz dA sz (h ++ [.inl (2, n.toNatClampNeg, .inl (fun _ => 0))])) H1
      rw [am_wsF_app]
      exact g1
  · -- newarray long
    rename_i n rest
    split at hp
    · cases hp
    · rename_i hng
      cases hp
      obtain ⟨q1, q2⟩ := hok
      have q2 : 3 ∈ tl := by rcases q2 with ⟨h, -⟩ | ⟨h, -⟩ | ⟨h, -⟩ | ⟨-, q⟩ <;> first | exact q | cases h
      have e1 : (h ++ [(.inl (3, n.toNatClampNeg, .inr (.inl (fun _ => 0))) : am_C)]).length - h.length = 1 := by simp
      have e2 : am_sl (h ++ [(.inl (3, n.toNatClampNeg, .inr (.inl (fun _ => 0))) : am_C)]) - am_sl h = n.toNatClampNeg := by rw [am_sl_app]; simp [am_cs]
      rw [e1, e2] at k
      rw [e1] at hc1
      rw [e2] at hc2
      refine va_newa (ty := .long) (a0 := (n.toNatClampNeg, .inr (.inl (fun _ => 0)))) hx hb (hts _ q1) rfl hK hP hD hS hA (fun _ => rfl) (fun z => hng (Or.inl z)) rfl (by show _ * 8 ≤ _; omega) hc1 hc2 hd (fun q cA H1 g0 g1 g2 g3 => ?_)
      refine am_fresh g1 g2 hcnt fun hq => ?_
      subst hq
      refine k H1 locs ?_ g3
      obtain ⟨t0, ht0⟩ := am_tys_at (cl := cl) (dA := dA) q2
      have r1 : s.vm.findClass _ = some cA := (g0.2 (am_tys cl dA tl).length (cA, .long) (by rw [List.getElem?_append_right (Nat.le_refl _), Nat.sub_self]; rfl)).2
      have r2 : s.vm.findClass _ = some (dA 3) := (hK.2 t0 _ ht0).2
      have r3 : cA = dA 3 := Option.some.inj (r1.symm.trans r2)
      subst r3
      show va_P _ _ (am_wsF b sz dA sz (h ++ [.inl (3, n.toNatClampNeg, .inr (.inl (fun _ => 0)))])) H1
      rw [am_wsF_app]
      exact g1
  · -- anewarray
    rename_i i0 n rest
    split at hp
    · cases hp
    · rename_i hng
      cases hp
      obtain ⟨⟨C, Tf, N⟩, q1, q2, q3, q4⟩ := hok
      have e1 : (h ++ [(.inl (a1 + 4, n.toNatClampNeg, .inr (.inr (fun _ => none))) : am_C)]).length - h.length = 1 := by simp
      have e2 : am_sl (h ++ [(.inl (a1 + 4, n.toNatClampNeg, .inr (.inr (fun _ => none))) : am_C)]) - am_sl h = n.toNatClampNeg := by rw [am_sl_app]; simp [am_cs]
      rw [e1, e2] at k
      rw [e1] at hc1
      rw [e2] at hc2
      refine va_newq hx hb hown (hts _ q2) (hE.2.2 _ q3) hK hP hD hS hA (fun z => hng (Or.inl z)) rfl (by omega) hc1 hc2 hd (fun q cA H1 g0 g1 g2 g3 => ?_)
      refine am_fresh g1 g2 hcnt fun hq => ?_
      subst hq
      refine k H1 locs ?_ g3
      obtain ⟨t0, ht0⟩ := am_tys_at (cl := cl) (dA := dA) q4
      have e4 : am_aty cl (a1 + 4) = .object C := by simp [am_aty, q1]
      rw [e4] at ht0
      have r1 : va_RA s cA (.object C) := (g0.2 (am_tys cl dA tl).length (cA, .object C) (by rw [List.getElem?_append_right (Nat.le_refl _), Nat.sub_self]; rfl)).2
      have r2 : va_RA s (dA (a1 + 4)) (.object C) := (hK.2 t0 _ ht0).2
      obtain ⟨_, _, -, -, -, r1⟩ := r1
      obtain ⟨_, _, -, -, -, r2⟩ := r2
      have r3 : cA = dA (a1 + 4) := Option.some.inj (r1.symm.trans r2)
      subst r3
      show va_P _ _ (am_wsF b sz dA sz (h ++ [.inl (a1 + 4, n.toNatClampNeg, .inr (.inr (fun _ => none)))])) H1
      rw [am_wsF_app]
      exact g1
  · -- arraylength
    rename_i i rest
    split at hp
    · rename_i hi
      cases hp
      subst hi
      exact va_slen hx hb hX hbl hbA hS hd (same (k H locs hP hS))
    · split at hp
      · rename_i t n f hg
        split at hp
        · rename_i ht
          cases hp
          subst ht
          obtain ⟨j, rfl, hj⟩ := am_get_eq hg
          have he := am_ws_get (b := b) (sz := sz) (dA := dA) hj
          obtain ⟨t0, ht0⟩ := am_tys_at (cl := cl) (dA := dA) (show t ∈ tl from hok)
          obtain f | f | f := f
          · exact va_alen hx hb hK hP j t0 he ht0 rfl hd (same (k H locs hP hS))
          · exact va_alen hx hb hK hP j t0 he ht0 rfl hd (same (k H locs hP hS))
          · exact va_alen hx hb hK hP j t0 he ht0 rfl hd (same (k H locs hP hS))
        · cases hp
      · cases hp
  · -- iaload
    rename_i jx i rest
    split at hp
    · rename_i hi
      split at hp
      · rename_i hin
        cases hp
        subst hi
        exact va_sld hx hb hX hbl hbA hS (am_in_vp hin) hd (same (k H locs hP hS))
      · cases hp
    · split at hp
      · rename_i t n f hg
        split at hp
        · rename_i ht
          obtain ⟨ht, hin⟩ := ht
          cases hp
          subst ht
          obtain ⟨j, rfl, hj⟩ := am_get_eq hg
          have he := am_ws_get (b := b) (sz := sz) (dA := dA) hj
          obtain ⟨t0, ht0⟩ := am_tys_at (cl := cl) (dA := dA) (show 0 ∈ tl from hok)
          exact va_iald hx hb hK hP j t0 he ht0 (am_in_vp hin) hd (same (k H locs hP hS))
        · cases hp
      · cases hp
  · -- baload
    rename_i jx i rest
    split at hp
    · rename_i t n f hg
      split at hp
      · rename_i ht
        obtain ⟨ht, hin⟩ := ht
        cases hp
        subst ht
        obtain ⟨j, rfl, hj⟩ := am_get_eq hg
        have he := am_ws_get (b := b) (sz := sz) (dA := dA) hj
        obtain ⟨q1, q2⟩ := (show (t = 1 ∨ t = 2) ∧ t ∈ tl from hok)
        obtain ⟨t0, ht0⟩ := am_tys_at (cl := cl) (dA := dA) q2
        rcases q1 with rfl | rfl
        · exact va_bald hx hb hK hP j t0 he ht0 (am_in_vp hin) hd (same (k H locs hP hS))
        · exact va_zald hx hb hK hP j t0 he ht0 (am_in_vp hin) hd (same (k H locs hP hS))
      · cases hp
    · cases hp
  · -- laload
    rename_i jx i rest
    split at hp
    · rename_i t n f hg
      split at hp
      · rename_i ht
        obtain ⟨ht, hin⟩ := ht
        cases hp
        subst ht
        obtain ⟨j, rfl, hj⟩ := am_get_eq hg
        have he := am_ws_get (b := b) (sz := sz) (dA := dA) hj
        obtain ⟨t0, ht0⟩ := am_tys_at (cl := cl) (dA := dA) (show 3 ∈ tl from hok)
        exact va_lald hx hb hK hP j t0 he ht0 (am_in_vp hin) hd (same (k H locs hP hS))
      · cases hp
    · cases hp
  · -- aaload
    rename_i jx i rest
    split at hp
    · rename_i t n f hg
      split at hp
      · rename_i ht
        obtain ⟨ht, hin⟩ := ht
        cases hp
        subst ht
        obtain ⟨j, rfl, hj⟩ := am_get_eq hg
        have he := am_ws_get (b := b) (sz := sz) (dA := dA) hj
        obtain ⟨⟨⟨C, Tf, N⟩, q1⟩, q2⟩ := (show (∃ q, cl[a1]? = some q) ∧ a1 + 4 ∈ tl from hok)
        obtain ⟨t0, ht0⟩ := am_tys_at (cl := cl) (dA := dA) q2
        have e4 : am_aty cl (a1 + 4) = .object C := by simp [am_aty, q1]
        rw [e4] at ht0
        refine va_aldq hx hb hK hP j t0 he ht0 (am_in_vp hin) hd ?_
        have := same (k H locs hP hS)
        rw [List.map_cons, am_tv_rf] at this
        exact this
      · cases hp
    · cases hp
  · -- iastore
    rename_i x jx i rest
    split at hp
    · rename_i t n f hg
      split at hp
      · rename_i ht
        obtain ⟨ht, hin⟩ := ht
        cases hp
        subst ht
        obtain ⟨j, rfl, hj⟩ := am_get_eq hg
        have he := am_ws_get (b := b) (sz := sz) (dA := dA) hj
        obtain ⟨t0, ht0⟩ := am_tys_at (cl := cl) (dA := dA) (show 0 ∈ tl from hok)
        refine va_iast hx hb hK hP hD hS j t0 he ht0 (am_in_vp hin) hd (fun H1 locs1 g1 g2 g3 => put hj ?_ (k H1 locs1 ?_ g3))
        · rfl
        · show va_P _ _ (am_wsF b sz dA sz (h.set j _)) H1
          rw [am_wsF_set]
          exact g1
      · cases hp
    · cases hp
  · -- bastore
    rename_i x jx i rest
    split at hp
    · rename_i t n f hg
      split at hp
      · rename_i ht
        obtain ⟨ht, hin⟩ := ht
        cases hp
        subst ht
        obtain ⟨j, rfl, hj⟩ := am_get_eq hg
        have he := am_ws_get (b := b) (sz := sz) (dA := dA) hj
        obtain ⟨q1, q2⟩ := (show (t = 1 ∨ t = 2) ∧ t ∈ tl from hok)
        obtain ⟨t0, ht0⟩ := am_tys_at (cl := cl) (dA := dA) q2
        rcases q1 with rfl | rfl
        · refine va_bast hx hb hK hP hD hS j t0 he ht0 (am_in_vp hin) hd (fun H1 locs1 g1 g2 g3 => put hj ?_ (k H1 locs1 ?_ g3))
          · rfl
          · show va_P _ _ (am_wsF b sz dA sz (h.set j _)) H1
            rw [am_wsF_set]
            exact g1
        · refine va_zast hx hb hK hP hD hS j t0 he ht0 (am_in_vp hin) hd (fun H1 locs1 g1 g2 g3 => put hj ?_ (k H1 locs1 ?_ g3))
          · rfl
          · show va_P _ _ (am_wsF b sz dA sz (h.set j _)) H1
            rw [am_wsF_set]
            exact g1
      · cases hp
    · cases hp
  · -- lastore
    rename_i x jx i rest
    split at hp
    · rename_i t n f hg
      split at hp
      · rename_i ht
        obtain ⟨ht, hin⟩ := ht
        cases hp
        subst ht
        obtain ⟨j, rfl, hj⟩ := am_get_eq hg
        have he := am_ws_get (b := b) (sz := sz) (dA := dA) hj
        obtain ⟨t0, ht0⟩ := am_tys_at (cl := cl) (dA := dA) (show 3 ∈ tl from hok)
        refine va_last hx hb hK hP hD hS j t0 he ht0 (am_in_vp hin) hd (fun H1 locs1 g1 g2 g3 => put hj ?_ (k H1 locs1 ?_ g3))
        · rfl
        · show va_P _ _ (am_wsF b sz dA sz (h.set j _)) H1
          rw [am_wsF_set]
          exact g1
      · cases hp
    · cases hp
  · -- aastore
    rename_i w jx i rest
    split at hp
    · rename_i t n f ci fs hg hw
      split at hp
      · rename_i ht
        obtain ⟨ht, hci, hin⟩ := ht
        cases hp
        subst hci
        subst ht
        obtain ⟨j, rfl, hj⟩ := am_get_eq hg
        obtain ⟨jw, rfl, hjw⟩ := am_get_eq hw
        have he := am_ws_get (b := b) (sz := sz) (dA := dA) hj
        have hew := am_ws_get (b := b) (sz := sz) (dA := dA) hjw
        obtain ⟨⟨⟨C, Tf, N⟩, q1⟩, q2⟩ := (show (∃ q, cl[ci]? = some q) ∧ ci + 4 ∈ tl from hok)
        obtain ⟨t0, ht0⟩ := am_tys_at (cl := cl) (dA := dA) q2
        have e4 : am_aty cl (ci + 4) = .object C := by simp [am_aty, q1]
        rw [e4] at ht0
        refine va_astq (r := (C, Tf, N)) hx hb hK hP hD hS j t0 jw ci he ht0 hew q1 (am_in_vp hin) hd (fun H1 locs1 g1 g2 g3 => put hj ?_ (k H1 locs1 ?_ g3))
        · rfl
        · show va_P _ _ (am_wsF b sz dA sz (h.set j _)) H1
          rw [am_wsF_set]
          have ef : (fun k => (va_up f jx.toNatClampNeg (some (jw + 1)) k).map (am_ad b sz)) = va_up (fun k => (f k).map (am_ad b sz)) jx.toNatClampNeg (some (sz + jw)) := by
            funext z
            unfold va_up
            split <;> rfl
          show va_P _ _ ((am_wsF b sz dA sz h).set j (sz + j, .inl (dA (ci + 4), n, .inr (.inr (.inr (.inr (fun k => (va_up f jx.toNatClampNeg (some (jw + 1)) k).map (am_ad b sz)))))))) H1
          rw [ef]
          exact g1
      · cases hp
    · cases hp
  · -- Object.<init>
    split at hp
    · rename_i hsum
      cases hp
      obtain ⟨q0, q1, q2, q3⟩ := hok
      refine W.objInit hx hb hown (hts _ q1) (hts _ q2) (hts _ q3) rfl (by rw [hml]) rfl hd (by omega) ?_ ?_
      · show 2 * 0 + _ + 12 ≤ _
        rw [am_sum_tv]
        omega
      · exact same (k H locs hP hS)
    · cases hp
  · -- Math.max, Math.min, System.arraycopy
    rename_i i0 n dp rest
    split at hp
    · rename_i ha
      subst ha
      split at hp
      · rename_i hsum
        cases hp
        obtain ⟨q0, q1, q2, q3, q4⟩ := hok
        exact va_mmax hx hb hml hown (hts _ q1) (hts _ q2) (hts _ q3) (hts _ q4) (by omega) (by rw [am_sum_tv]; omega) (by omega) (by omega) hd (same (k H locs hP hS))
      · cases hp
    · split at hp
      · rename_i ha
        subst ha
        split at hp
        · rename_i hsum
          cases hp
          obtain ⟨q0, q1, q2, q3, q4⟩ := hok
          exact va_mmin hx hb hml hown (hts _ q1) (hts _ q2) (hts _ q3) (hts _ q4) (by omega) (by rw [am_sum_tv]; omega) (by omega) (by omega) hd (same (k H locs hP hS))
        · cases hp
      · rename_i ha1 ha2
        split at hp
        · rename_i d sp sr rest
          split at hp
          · rename_i t0 n0 f t1 n1 g hg hg2
            split at hp
            · rename_i hcd
              obtain ⟨rfl, rfl, c1, c2, c3, c4, c5, c6, c7⟩ := hcd
              cases hp
              obtain ⟨j, rfl, hj⟩ := am_get_eq hg
              obtain ⟨j2, rfl, hj2⟩ := am_get_eq hg2
              have he := am_ws_get (b := b) (sz := sz) (dA := dA) hj
              have he2 := am_ws_get (b := b) (sz := sz) (dA := dA) hj2
              obtain ⟨q0, hok⟩ := hok
              split at hok
              · exact absurd rfl ha1
              · exact absurd rfl ha2
              · obtain ⟨q1, q2, q3, q4, q5⟩ := hok
                obtain ⟨t0, ht0⟩ := am_tys_at (cl := cl) (dA := dA) q5
                refine va_copyi hx hb hml hown (hts _ q1) (hts _ q2) (hts _ q3) (hts _ q4) hK hP hD hS j j2 t0 t0 he he2 ht0 ht0 rfl c1 c2 c3 c4 c5 c7 (by omega) ?_ hd (fun H1 locs1 g1 g2 g3 => put hj2 ?_ (k H1 locs1 ?_ g3))
                · rw [am_sum_tv, show nativeFrameWords "java/lang/System" "arraycopy" 5 = 7 from rfl]
                  omega
                · rfl
                · show va_P _ _ (am_wsF b sz dA sz (h.set j2 _)) H1
                  rw [am_wsF_set]
                  exact g1
            · cases hp
          · cases hp
        · cases hp
  · cases hp
end AMH
end
section
/-! calls, and the whole run -/
theorem am_mono_set {h : am_H} {i : Nat} {c0 c1 : am_C} (hg : am_get h i = some c0) (hs : am_cs c1 = am_cs c0) : h.length ≤ (am_set h i c1).length ∧ am_sl h ≤ am_sl (am_set h i c1) := by
  obtain ⟨j, rfl, hj⟩ := am_get_eq hg
  show h.length ≤ (h.set j c1).length ∧ am_sl h ≤ am_sl (h.set j c1)
  rw [List.length_set, am_sl_set hs hj]
  exact ⟨Nat.le_refl _, Nat.le_refl _⟩
set_option maxHeartbeats 4000000 in
theorem am_heap_mono {P : am_P} {L : Nat} {xs : Nat → Int32} {ins : Jvm.ClassFile.Instr} {a1 a2 : Nat} {st st' : List Value} {h h' : am_H} (hp : am_heap P L xs ins a1 a2 st h = some (st', h')) : h.length ≤ h'.length ∧ am_sl h ≤ am_sl h' := by
  unfold am_heap at hp
  repeat' split at hp
  all_goals first
    | (cases hp; done)
    | (cases hp; exact ⟨Nat.le_refl _, Nat.le_refl _⟩)
    | (cases hp; rw [am_sl_app, List.length_append]; exact ⟨Nat.le_add_right _ _, Nat.le_add_right _ _⟩)
    | (cases hp; apply am_mono_set; · assumption
       · first | rfl | simp [am_cs])
theorem am_run_mono {P : am_P} {T : Nat → Nat → Option am_I} {mt : Nat → am_M} {L : Nat} {xs : Nat → Int32} : ∀ (n : Nat) {mi pc : Nat} {lv : am_L} {st : List Value} {h h' : am_H} {v : Option Value}, am_run P T mt L xs n mi pc lv st h = some (v, h') → h.length ≤ h'.length ∧ am_sl h ≤ am_sl h'
  | 0, mi, pc, lv, st, h, h', v, hr => by simp [am_run] at hr
  | n + 1, mi, pc, lv, st, h, h', v, hr => by
    unfold am_run at hr
    split at hr
    · cases hr
    · split at hr
      · split at hr
        · cases hr
        · exact am_run_mono n hr
      · split at hr
        · cases hr
        · exact am_run_mono n hr
      · split at hr
        · cases hr
        · exact am_run_mono n hr
      · split at hr
        · cases hr
        · rename_i hp
          have h1 := am_heap_mono hp
          have h2 := am_run_mono n hr
          omega
      · split at hr
        · cases hr
        · split at hr
          · cases hr
          · rename_i hp
            have h1 := am_run_mono n hp
            have h2 := am_run_mono n hr
            omega
      · split at hr
        · cases hr
        · cases hr
          exact ⟨Nat.le_refl _, Nat.le_refl _⟩
theorem am_ret_st {ins : Jvm.ClassFile.Instr} {rt : Option FieldType} {st : List Value} {v : Option Value} (h : am_ret ins rt st = some v) : st = v.toList := by
  unfold am_ret at h
  repeat' split at h
  all_goals first | (cases h; done) | (cases h; rfl)
/-- a method's own words -/
def am_okM (tbl : List Cond) (M : am_M) : Prop := Cond.code M.1 M.2.1 M.2.2.1 M.2.2.2.1 ∈ tbl ∧ Cond.initialized M.1.cls ∈ tbl ∧ plainName M.1.cls = true ∧ M.1.cls ≠ "java/lang/invoke/MethodHandle" ∧ M.1.cls ≠ "java/lang/invoke/VarHandle"
def am_lnkM (tbl nst : List Cond) (own : String) (i : Nat) (y : MethodName) : Prop := Cond.methodLink own i y ∈ tbl ∨ ∃ host, Cond.methodLinkNest own i y host ∈ nst
def am_ok4 (cl : List vw_C) (tbl nst : List Cond) (own : String) (rk : Nat × Nat) (ins : Jvm.ClassFile.Instr) (M : am_M) (a2 : Nat) : Prop := (M.2.2.2.2.1.1 < rk.1 ∧ 8 + (M.2.2.1 + 11) + M.2.2.2.2.1.2 ≤ rk.2) ∧ am_okM tbl M ∧ match ins with
  | .invokestatic i => (parseMethodDescriptor M.1.desc).map (fun d => d.parameters.length) = some a2 ∧ Cond.static M.1 ∈ tbl ∧ am_lnkM tbl nst own i M.1
  | .invokespecial i => (parseMethodDescriptor M.1.desc).map (fun d => d.parameters.length + 1) = some a2 ∧ M.1.name = "<init>" ∧ M.2.2.2.1 = none ∧ Cond.instanceMethod M.1 ∈ tbl ∧ am_lnkM tbl nst own i M.1
  | .invokevirtual i => (parseMethodDescriptor M.1.desc).map (fun d => d.parameters.length + 1) = some a2 ∧ (∃ q, cl[M.2.2.2.2.2]? = some q ∧ q.1 = M.1.cls) ∧ Cond.instanceMethod M.1 ∈ tbl ∧ Cond.selects M.1.cls M.1 M.1 ∈ tbl ∧ am_lnkM tbl nst own i M.1
  | _ => False
/-- the table is true to the code -/
def am_okK (cl : List vw_C) (tbl nst : List Cond) (aos : List String) (tl : List Nat) (P : am_P) (mt : Nat → am_M) (mi pc : Nat) (en : am_I) : Prop := match en with
  | (k, ins, len, a1, a2, v, sw, _) => decode (mt mi).2.1 pc = .ok (ins, len) ∧ (am_isSw ins = true ∨ len = am_len ins) ∧ match k with
    | 0 => am_isSw ins = false ∧ am_ok0 tbl (mt mi).1.cls ins v
    | 1 => am_isSw ins = false ∧ am_ok1 ins v
    | 2 => am_ok2 ins pc a1 sw
    | 3 => am_isSw ins = false ∧ am_ok3 cl tbl nst aos tl P.1 P.2 (mt mi).1 (mt mi).2.2.2.2.1 ins a1 a2
    | 4 => am_isSw ins = false ∧ am_ok4 cl tbl nst (mt mi).1.cls (mt mi).2.2.2.2.1 ins (mt a1) a2
    | _ => True
def am_good (w : Cond) : Prop := (w.onTables && w.keeps) = true ∨ ∃ ty, w = .arrayClass ty
/-- all that is fixed -/
def am_okA (cl : List vw_C) (tbl nst : List Cond) (aos : List String) (tl : List Nat) (P : am_P) (T : Nat → Nat → Option am_I) (mt : Nat → am_M) : Prop := (∀ (mi pc : Nat) (en : am_I), T mi pc = some en → am_okK cl tbl nst aos tl P mt mi pc en) ∧ am_okC cl tbl P.1 ∧ (∀ w ∈ tbl, am_good w) ∧ (∀ w ∈ nst, am_isN w = true)
/-- a contract's start and end -/
def am_Pc (b sz L : Nat) (xs : Nat → Int32) (dC : Nat → ClassId) (dI : Nat → Nat → Nat) (dA : Nat → ClassId) (cl : List vw_C) (tl : List Nat) (nst : List Cond) (aos : List String) (as : List Value) (h : am_H) : Array Value → State → Prop := fun a U => a = (as.map (am_tv b sz)).toArray ∧ U.heap.size = sz + h.length ∧ va_P (dC, dI) cl (am_ws b sz dA h) U.heap ∧ va_X b L xs U U.heap ∧ am_env dC dI dA cl tl nst aos U
def am_Qc (b sz : Nat) (dC : Nat → ClassId) (dI : Nat → Nat → Nat) (dA : Nat → ClassId) (cl : List vw_C) (v : Option Value) (h : am_H) : Array Value → State → Outcome → State → Prop := fun _ U o t => o = .returned (v.map (am_tv b sz)) ∧ va_P (dC, dI) cl (am_ws b sz dA h) t.heap ∧ va_F (fun q : Nat => sz ≤ q) U t
theorem am_blind {b sz L : Nat} {xs : Nat → Int32} {dC : Nat → ClassId} {dI : Nat → Nat → Nat} {dA : Nat → ClassId} {cl : List vw_C} {tl : List Nat} {nst : List Cond} {aos : List String} {as : List Value} {h : am_H} (hN : ∀ w ∈ nst, am_isN w = true) : FrameBlind (am_Pc b sz L xs dC dI dA cl tl nst aos as h) := by
  intro a U g mk q
  obtain ⟨q1, q2, q3, q4, q5⟩ := q
  exact ⟨q1, q2, q3, va_X.moved (u := U) (U := U.calling g mk a) (Vm.Alike.refl U.vm) q4, am_env.moved (U := U.calling g mk a) hN (State.WarmedH.refl U) q5⟩
/-- what is proved of a run of n steps -/
def am_Wst (l : Launch) (b sz L : Nat) (xs : Nat → Int32) (dC : Nat → ClassId) (dI : Nat → Nat → Nat) (dA : Nat → ClassId) (cl : List vw_C) (tbl nst : List Cond) (aos : List String) (tl : List Nat) (P : am_P) (T : Nat → Nat → Option am_I) (mt : Nat → am_M) (n : Nat) : Prop :=
  ∀ (mi pc : Nat) (lv : am_L) (st : List Value) (h : am_H) (v : Option Value) (h' : am_H), am_run P T mt L xs n mi pc lv st h = some (v, h') →
  ∀ (p : Program) (e : Env) (R : Room) (s : State) (m : MethodId) (args : Array Value) (below : List Frame) (meth : Method) (c : Code) (H : Heap) (locs : List Loc) (cells slots : Nat) (Q : State → Prop) (ls : Array Slot),
  p.tables.exec = Jvm.exec → c.code = (mt mi).2.1 → c.maxLocals = (mt mi).2.2.1 → s.vm.findClass (mt mi).1.cls = some m.cls → ((mt mi).1.name = "<init>" → meth.name = "<init>") → (∀ w ∈ tbl, w.before args s = true) → am_env dC dI dA cl tl nst aos s → va_X b L xs s s.heap → sz ≤ s.heap.size →
  va_P (dC, dI) cl (am_ws b sz dA h) H → va_S (fun q : Nat => sz ≤ q) s.heap H locs → s.heap.size + cells = sz + h.length → lv_has ls (mt mi).2.2.1 (am_lvT b sz lv) → (mt mi).2.2.2.2.1.1 ≤ R.frames → (mt mi).2.2.2.2.1.2 ≤ R.locals → cells + (h'.length - h.length) ≤ R.cells → slots + (am_sl h' - am_sl h) ≤ R.slots →
  (∀ (pc' : Nat) (ins : Jvm.ClassFile.Instr) (ls' : Array Slot) (H' : Heap) (locs' : List Loc), decode (mt mi).2.1 pc' = .ok (ins, 1) → am_ret ins (mt mi).2.2.2.1 v.toList = some v → va_P (dC, dI) cl (am_ws b sz dA h') H' → va_S (fun q : Nat => sz ≤ q) s.heap H' locs' → W p l e R s m args below meth c H' locs' (cells + (h'.length - h.length)) (slots + (am_sl h' - am_sl h)) Q (F0 m pc' ls' (v.toList.map (am_tv b sz)))) →
  W p l e R s m args below meth c H locs cells slots Q (F0 m pc ls (st.map (am_tv b sz)))
section AMR
variable {l : Launch} {b sz L : Nat} {xs : Nat → Int32} {dC : Nat → ClassId} {dI : Nat → Nat → Nat} {dA : Nat → ClassId} {cl : List vw_C} {tbl nst : List Cond} {aos : List String} {tl : List Nat} {P : am_P} {T : Nat → Nat → Option am_I} {mt : Nat → am_M}
/-- the return of a method that was called -/
theorem am_ret_W {p : Program} {e : Env} {R : Room} {s : State} {m : MethodId} {args : Array Value} {below : List Frame} {meth : Method} {c : Code} {H : Heap} {locs : List Loc} {cells slots : Nat} {cc : ByteArray} {rt : Option FieldType} {pc : Nat} {ins : Jvm.ClassFile.Instr} {ls : Array Slot} {v : Option Value} {h : am_H} (hx : p.tables.exec = Jvm.exec) (hb : c.code = cc) (hr : meth.sig.returnType = rt) (hlocks : meth.locks = false) (hd : decode cc pc = .ok (ins, 1)) (hret : am_ret ins rt v.toList = some v) (hP : va_P (dC, dI) cl (am_ws b sz dA h) H) (hS : va_S (fun q : Nat => sz ≤ q) s.heap H locs) :
    W p l e R s m args below meth c H locs cells slots (MQ below (am_Qc b sz dC dI dA cl v h) args s cells slots (fun q : Nat => sz ≤ q)) (F0 m pc ls (v.toList.map (am_tv b sz))) := by
  have hq : ∀ t : State, t.heap = H → s.WarmedH t.vm → am_Qc b sz dC dI dA cl v h args s (.returned (v.map (am_tv b sz))) t := fun t ht _ => ⟨rfl, by rw [ht]; exact hP, hS.F ht⟩
  generalize hst : v.toList = st at hret
  unfold am_ret at hret
  split at hret
  · split at hret
    · rename_i hn
      cases hret
      exact W.zret hx hb hr hn hq hS.2.2 hd hlocks
    · cases hret
  · cases hret
    exact W.lret hx hb hr hq hS.2.2 hd hlocks
  · cases hret
    exact W.aret hx hb hr (Or.inl ⟨_, rfl⟩) (Or.inr ⟨_, rfl⟩) hq hS.2.2 hd hlocks
  · cases hret
    exact W.aret hx hb hr (Or.inl ⟨_, rfl⟩) (Or.inl rfl) hq hS.2.2 hd hlocks
  · cases hret
    exact W.aret hx hb hr (Or.inr ⟨_, rfl⟩) (Or.inr ⟨_, rfl⟩) hq hS.2.2 hd hlocks
  · cases hret
    exact W.aret hx hb hr (Or.inr ⟨_, rfl⟩) (Or.inl rfl) hq hS.2.2 hd hlocks
  · cases hret
    exact W.vret hx hb hr hq hS.2.2 hd hlocks
  · cases hret
abbrev am_rm (M : am_M) (mc ms : Nat) : Room := { frames := M.2.2.2.2.1.1, cells := mc, slots := ms, locals := M.2.2.2.2.1.2 }
abbrev am_wd (tbl : List Cond) (M : am_M) : List Cond := Cond.code M.1 M.2.1 M.2.2.1 M.2.2.2.1 :: tbl
/-- a callee's contract out of its run -/
theorem am_met {n mj : Nat} {as : List Value} {h h' : am_H} {v : Option Value} (hbs : b < sz) (ih : am_Wst l b sz L xs dC dI dA cl tbl nst aos tl P T mt n) (hM : am_okM tbl (mt mj)) (hw : (as.map fun v => v.category).sum ≤ (mt mj).2.2.1) (hr : am_run P T mt L xs n mj 0 (lv_args 0 as) [] h = some (v, h')) :
    Met l (mt mj).1 (am_wd tbl (mt mj)) (am_rm (mt mj) (h'.length - h.length) (am_sl h' - am_sl h)) (am_Pc b sz L xs dC dI dA cl tl nst aos as h) (am_Qc b sz dC dI dA cl v h') (h'.length - h.length) (am_sl h' - am_sl h) (fun q : Nat => sz ≤ q) := by
  refine Met.ofW (cc := (mt mj).2.1) (maxL := (mt mj).2.2.1) (ret := (mt mj).2.2.2.1) hM.2.2.1 rfl ?_
  intro p e s m args below meth c s₁ B hml hv
  obtain ⟨rfl, hsz, hP, hX, hE⟩ := hv
  have hts := atoms_spec (ws := am_wd tbl (mt mj)) B.pre
  have hl := lv_entry (as.map (am_tv b sz)) (n := (mt mj).2.2.1) (by rw [am_sl_len, am_sum_tv]; exact hw)
  rw [lg_entry_eq]
  generalize (lg_sl (as.map (am_tv b sz)) ++ List.replicate ((mt mj).2.2.1 - (lg_sl (as.map (am_tv b sz))).length) Slot.unset).toArray = ls at hl ⊢
  rw [am_args_tv] at hl
  have key := ih mj 0 (lv_args 0 as) [] h v h' hr p e (am_rm (mt mj) (h'.length - h.length) (am_sl h' - am_sl h)) s m (as.map (am_tv b sz)).toArray below meth c s.heap [] 0 0 (MQ below (am_Qc b sz dC dI dA cl v h') (as.map (am_tv b sz)).toArray s (h'.length - h.length) (am_sl h' - am_sl h) (fun q : Nat => sz ≤ q)) ls B.exec B.bytes hml (findClass_of_methodNamed B.named) (fun z => (name_of_methodNamed B.named B.method).1.trans z) (fun w h1 => hts w (List.mem_cons_of_mem _ h1)) hE hX (by omega) hP va_S.rf (by omega) hl (Nat.le_refl _) (Nat.le_refl _) (Nat.le_of_eq (Nat.zero_add _)) (Nat.le_of_eq (Nat.zero_add _)) (fun pc' ins ls' H' locs' g1 g2 g3 g4 => by
      rw [Nat.zero_add, Nat.zero_add]
      exact am_ret_W B.exec B.bytes B.returns B.notSynchronized g1 g2 g3 g4)
  exact key
/-- the heap is as large as it should be -/
theorem am_size {p : Program} {e : Env} {R : Room} {s : State} {m : MethodId} {args : Array Value} {below : List Frame} {meth : Method} {c : Code} {H : Heap} {locs : List Loc} {cells slots : Nat} {Q : State → Prop} {g : JFrame} {h : am_H} (hP : va_P (dC, dI) cl (am_ws b sz dA h) H) (hS : va_S (fun q : Nat => sz ≤ q) s.heap H locs) (hss : sz ≤ s.heap.size) (hcnt : s.heap.size + cells = sz + h.length)
    (kk : H.size = sz + h.length → W p l e R s m args below meth c H locs cells slots Q g) : W p l e R s m args below meth c H locs cells slots Q g := by
  intro T hT X
  have h1 : H.size ≤ s.heap.size + cells := by rw [← hT]; exact X.heapSize
  have h2 : sz + h.length ≤ H.size := by
    cases hz : h.length with
    | zero => exact Nat.le_trans hss hS.1
    | succ k =>
      have hi : k < h.length := by omega
      have h3 := (hP k _ (am_ws_get (List.getElem?_eq_getElem hi))).lt
      have h3 : sz + k < H.size := h3
      omega
  exact kk (by omega) T hT X
/-- behind a call -/
theorem am_goes {p : Program} {e : Env} {R : Room} {s : State} {m : MethodId} {args : Array Value} {below : List Frame} {meth : Method} {c : Code} {H : Heap} {locs : List Loc} {cells slots mc ms : Nat} {Q : State → Prop} {pc : Nat} {ls : Array Slot} {st0 rest : List Value} {a : Array Value} {v : Option Value} {h : am_H}
    (hr : va_Run p l e R s m args below meth c H locs cells slots mc ms (F0 m pc ls st0) rest (am_Qc b sz dC dI dA cl v h a) (fun q : Nat => sz ≤ q)) (hS : va_S (fun q : Nat => sz ≤ q) s.heap H locs)
    (k : ∀ (H1 : Heap) (locs1 : List Loc), va_P (dC, dI) cl (am_ws b sz dA h) H1 → va_S (fun q : Nat => sz ≤ q) s.heap H1 locs1 → W p l e R s m args below meth c H1 locs1 (cells + mc) (slots + ms) Q (F0 m (pc + 3) ls ((v.map (am_tv b sz)).toList ++ rest))) : W p l e R s m args below meth c H locs cells slots Q (F0 m pc ls st0) := by
  intro T hT X
  obtain ⟨v', st₀, t, T', L, h0, X', hL, e1, e2, ⟨hv, hPt, hz, hk⟩, st⟩ := hr T hT X
  cases hv
  rw [h0] at hz hk
  obtain ⟨t2, a1, b1⟩ := k T'.heap (locs ++ L) (by rw [e1]; exact hPt) ⟨Nat.le_trans hS.1 (by rw [e1]; exact hz), fun q g1 g2 => by
      rw [e1, hk q (Nat.lt_of_lt_of_le g1 hS.1) g2]
      exact hS.2.1 q g1 g2, fun q hq => by
      rcases List.mem_append.mp hq with g | g
      · exact hS.2.2 q g
      · exact hL q g⟩ T' rfl X'
  exact ⟨t2, st t2 a1, b1⟩
theorem am_call_inv {ins : Jvm.ClassFile.Instr} {ci mL a2 : Nat} {st as rest : List Value} {h : am_H} (hc : am_call ins ci mL a2 st h = some (as, rest)) : st = as.reverse ++ rest ∧ as.length = a2 ∧ (rest.map fun v => v.category).sum ≤ 8 ∧ (as.map fun v => v.category).sum ≤ mL ∧ ((∃ i, ins = .invokestatic i) ∨ ((∃ i, ins = .invokespecial i) ∧ ∃ a as', as = .ref a :: as') ∨ ((∃ i, ins = .invokevirtual i) ∧ ∃ a as' fs, as = .ref a :: as' ∧ am_get h a = some (.inr (ci, fs)))) := by
  unfold am_call at hc
  split at hc
  · rename_i hcd
    obtain ⟨c1, c2, c3⟩ := hcd
    have base : st = ((st.take a2).reverse).reverse ++ st.drop a2 := by rw [List.reverse_reverse, List.take_append_drop]
    have blen : ((st.take a2).reverse).length = a2 := by rw [List.length_reverse, List.length_take]; omega
    generalize hg : (st.take a2).reverse = q at hc c3 base blen
    split at hc
    · cases hc
      exact ⟨base, blen, c2, c3, Or.inl ⟨_, rfl⟩⟩
    · cases hc
      exact ⟨base, blen, c2, c3, Or.inr (Or.inl ⟨⟨_, rfl⟩, _, _, rfl⟩)⟩
    · split at hc
      · split at hc
        · rename_i hgg hci
          cases hc
          subst hci
          exact ⟨base, blen, c2, c3, Or.inr (Or.inr ⟨⟨_, rfl⟩, _, _, _, rfl, hgg⟩)⟩
        · cases hc
      · cases hc
    · cases hc
  · cases hc
set_option maxHeartbeats 4000000 in
/-- THE RUN IS SOUND -/
theorem am_W_all (hbs : b < sz) (hA : am_okA cl tbl nst aos tl P T mt) : ∀ n : Nat, am_Wst l b sz L xs dC dI dA cl tbl nst aos tl P T mt n := by
  obtain ⟨hI, hC, hG, hN⟩ := hA
  intro n
  induction n with
  | zero => intro mi pc lv st h v h' hr; simp [am_run] at hr
  | succ n ih =>
    intro mi pc lv st h v h' hr p e R s m args below meth c H locs cells slots Q ls hx hb hml hown hnm hts hE hX hss hP hS hcnt hl hf1 hf2 hc1 hc2 kk
    unfold am_run at hr
    split at hr
    · cases hr
    · rename_i k ins len a1 a2 va sw lm hT
      obtain ⟨hd, hsw, hok⟩ := hI _ _ _ hT
      split at hr
      · split at hr
        · cases hr
        · rename_i st1 hp
          obtain ⟨hs0, hok⟩ := (show am_isSw ins = false ∧ am_ok0 tbl (mt mi).1.cls ins va from hok)
          have hn : len = am_len ins := by rcases hsw with z | z; · rw [hs0] at z; cases z
                                           · exact z
          exact am_pure_W hx hb hown hts hd hn hok hp (ih mi _ _ _ h v h' hr p e R s m args below meth c H locs cells slots Q ls hx hb hml hown hnm hts hE hX hss hP hS hcnt (am_has_live hl) hf1 hf2 hc1 hc2 kk)
      · split at hr
        · cases hr
        · rename_i lv1 st1 hp
          obtain ⟨hs0, hok⟩ := (show am_isSw ins = false ∧ am_ok1 ins va from hok)
          have hn : len = am_len ins := by rcases hsw with z | z; · rw [hs0] at z; cases z
                                           · exact z
          exact am_loc_W hx hb hd hn hok (am_has_live (lm := lm) hl) hp (fun ls' hl' => ih mi _ _ _ h v h' hr p e R s m args below meth c H locs cells slots Q ls' hx hb hml hown hnm hts hE hX hss hP hS hcnt hl' hf1 hf2 hc1 hc2 kk)
      · split at hr
        · cases hr
        · rename_i pc1 st1 hp
          exact am_jump_W hx hb hd hsw (show am_ok2 ins pc a1 sw from hok) hp (ih mi _ _ _ h v h' hr p e R s m args below meth c H locs cells slots Q ls hx hb hml hown hnm hts hE hX hss hP hS hcnt (am_has_live hl) hf1 hf2 hc1 hc2 kk)
      · split at hr
        · cases hr
        · rename_i st1 h1 hp
          obtain ⟨hs0, hok⟩ := (show am_isSw ins = false ∧ am_ok3 cl tbl nst aos tl P.1 P.2 (mt mi).1 (mt mi).2.2.2.2.1 ins a1 a2 from hok)
          have hn : len = am_len ins := by rcases hsw with z | z; · rw [hs0] at z; cases z
                                           · exact z
          have m1 := am_heap_mono hp
          have m2 := am_run_mono n hr
          refine am_heap_W (fty := P.1) (dfl := P.2) (rk := (mt mi).2.2.2.2.1) hx hb (hml.trans hl.1.symm) hown hnm hts hE hC hd hn hok hX hbs hss hP hS hcnt ⟨hf1, hf2⟩ hp (by omega) (by omega) (fun H' locs' g1 g2 => ?_)
          refine ih mi _ _ _ h1 v h' hr p e R s m args below meth c H' locs' _ _ Q ls hx hb hml hown hnm hts hE hX hss g1 g2 (by omega) (am_has_live hl) hf1 hf2 (by omega) (by omega) ?_
          rw [show cells + (h1.length - h.length) + (h'.length - h1.length) = cells + (h'.length - h.length) by omega, show slots + (am_sl h1 - am_sl h) + (am_sl h' - am_sl h1) = slots + (am_sl h' - am_sl h) by omega]
          exact kk
      · split at hr
        · cases hr
        · rename_i as st1 hp
          split at hr
          · cases hr
          · rename_i rv h1 hcal
            obtain ⟨hs0, hrk, hM, hok⟩ := (show am_isSw ins = false ∧ am_ok4 cl tbl nst (mt mi).1.cls (mt mi).2.2.2.2.1 ins (mt a1) a2 from hok)
            have hn : len = am_len ins := by rcases hsw with z | z; · rw [hs0] at z; cases z
                                             · exact z
            obtain ⟨e1, e2, e3, e4, e5⟩ := am_call_inv hp
            have m1 := am_run_mono n hcal
            have m2 := am_run_mono n hr
            have met := am_met hbs ih hM e4 hcal
            have hgood : GoodIn tbl (am_wd tbl (mt a1)) := fun w hw => by
              rcases List.mem_cons.mp hw with z | z
              · rw [z]; exact ⟨hM.1, Or.inl rfl⟩
              · exact ⟨z, hG w z⟩
            have hpay := pay_in hts hgood
            have hini := hts _ hM.2.1
            have hroom : (am_rm (mt a1) (h1.length - h.length) (am_sl h1 - am_sl h)).frames + 1 ≤ R.frames ∧ 8 + ((mt a1).2.2.1 + 11) + (am_rm (mt a1) (h1.length - h.length) (am_sl h1 - am_sl h)).locals ≤ R.locals := by
              show (mt a1).2.2.2.2.1.1 + 1 ≤ _ ∧ _ + (mt a1).2.2.2.2.1.2 ≤ _
              omega
            refine am_size hP hS hss hcnt fun hz => ?_
            have hpre : ∀ U : State, U.heap = H → s.WarmedH U.vm → am_Pc b sz L xs dC dI dA cl tl nst aos as h (as.map (am_tv b sz)).toArray U := fun U hU hW => by
              exact ⟨rfl, by rw [hU]; exact hz, by rw [hU]; exact hP, va_X.moved hW.alike (by rw [hU]; exact hX.kept (hS.2.1 b (by omega) (by omega))), am_env.moved hN hW hE⟩
            have hcw : ((st1.map (am_tv b sz)).map fun v => v.category).sum ≤ 8 := by rw [am_sum_tv]; exact e3
            have hmon : ∀ st0 : List Value, 2 * (F0 m pc ls st0).monitorRoom + ((st1.map (am_tv b sz)).map fun v => v.category).sum ≤ 8 := fun st0 => by show 2 * 0 + _ ≤ 8; omega
            have hstk : st.map (am_tv b sz) = (as.map (am_tv b sz)).reverse ++ st1.map (am_tv b sz) := by rw [e1, List.map_append, List.map_reverse]
            have fin : ∀ {a : Array Value}, va_Run p l e R s m args below meth c H locs cells slots (h1.length - h.length) (am_sl h1 - am_sl h) (F0 m pc ls (st.map (am_tv b sz))) (st1.map (am_tv b sz)) (am_Qc b sz dC dI dA cl rv h1 a) (fun q : Nat => sz ≤ q) → len = 3 → W p l e R s m args below meth c H locs cells slots Q (F0 m pc ls (st.map (am_tv b sz))) := by
              intro a hrun hl3
              subst hl3
              refine am_goes hrun hS fun H' locs' g1 g2 => ?_
              have e6 : (rv.map (am_tv b sz)).toList ++ st1.map (am_tv b sz) = (rv.toList ++ st1).map (am_tv b sz) := by cases rv <;> simp
              rw [e6]
              refine ih mi _ _ _ h1 v h' hr p e R s m args below meth c H' locs' _ _ Q ls hx hb hml hown hnm hts hE hX hss g1 g2 (by omega) (am_has_live hl) hf1 hf2 (by omega) (by omega) ?_
              rw [show cells + (h1.length - h.length) + (h'.length - h1.length) = cells + (h'.length - h.length) by omega, show slots + (am_sl h1 - am_sl h) + (am_sl h' - am_sl h1) = slots + (am_sl h' - am_sl h) by omega]
              exact kk
            have hcs : cells + (h1.length - h.length) ≤ R.cells ∧ slots + (am_sl h1 - am_sl h) ≤ R.slots := by omega
            have fixS : CallFix p m c (mt mi).2.1 (mt mi).2.2.1 s args tbl (mt mi).1.cls := ⟨hx, hb, hml, hown, hts⟩
            rcases e5 with ⟨i, rfl⟩ | ⟨⟨i, rfl⟩, a, as', rfl⟩ | ⟨⟨i, rfl⟩, a, as', fs, rfl, hrec⟩
            · obtain ⟨k1, k2, k3⟩ := hok
              rcases k3 with k3 | ⟨host, k3⟩
              · exact fin (va_runS fixS met ⟨callB_of a2 hts hgood rfl rfl rfl hini (hts _ k3) ⟨hM.2.2.2.1, hM.2.2.2.2, k1⟩ hroom, hts _ k2⟩ ⟨am_blind hN, hpre⟩ rfl (by rw [List.length_map]; exact e2) hl.1 hstk (hmon _) (by rw [hn] at hd; exact hd) hcs) hn
              · exact fin (va_runSN fixS met ⟨va_cnB a2 hts hgood rfl rfl rfl (hE.2.1 _ k3) hini ⟨hM.2.2.2.1, hM.2.2.2.2, k1⟩ hroom, hts _ k2, trivial⟩ ⟨am_blind hN, hpre⟩ rfl (by rw [List.length_map]; exact e2) hl.1 hstk (hmon _) (by rw [hn] at hd; exact hd) hcs) hn
            · obtain ⟨k1, k2, k2b, k3, k4⟩ := hok
              have k1' : (parseMethodDescriptor (mt a1).1.desc).map (fun d => d.parameters.length) = some as'.length := by
                cases hz : parseMethodDescriptor (mt a1).1.desc with
                | none => rw [hz] at k1; cases k1
                | some d =>
                  rw [hz] at k1
                  have k1 : d.parameters.length + 1 = _ := Option.some.inj k1
                  simp only [List.length_cons] at e2
                  show some d.parameters.length = _
                  congr 1
                  omega
              have hstk2 : st.map (am_tv b sz) = (as'.map (am_tv b sz)).reverse ++ .ref (am_ad b sz a) :: st1.map (am_tv b sz) := by rw [hstk]; simp [am_tv]
              have met' := met
              rw [show am_wd tbl (mt a1) = Cond.code (mt a1).1 (mt a1).2.1 (mt a1).2.2.1 none :: tbl by rw [am_wd, k2b]] at met'
              have hgood' : GoodIn tbl (Cond.code (mt a1).1 (mt a1).2.1 (mt a1).2.2.1 none :: tbl) := by rw [← k2b]; exact hgood
              rcases k4 with k4 | ⟨host, k4⟩
              · exact fin (va_runI (As := as'.map (am_tv b sz)) fixS met' ⟨callB_of as'.length hts hgood' rfl rfl rfl hini (hts _ k4) ⟨hM.2.2.2.1, hM.2.2.2.2, k1'⟩ hroom, k2, hts _ k3⟩ ⟨am_blind hN, hpre⟩ rfl (by rw [List.length_map]) hl.1 hstk2 (hmon _) (by rw [hn] at hd; exact hd) hcs) hn
              · exact fin (va_runIN (As := as'.map (am_tv b sz)) fixS met' ⟨va_cnB as'.length hts hgood' rfl rfl rfl (hE.2.1 _ k4) hini ⟨hM.2.2.2.1, hM.2.2.2.2, k1'⟩ hroom, k2, hts _ k3⟩ ⟨am_blind hN, hpre⟩ rfl (by rw [List.length_map]) hl.1 hstk2 (hmon _) (by rw [hn] at hd; exact hd) hcs) hn
            · obtain ⟨k1, ⟨⟨C, Tf, N⟩, k2, k2b⟩, k3, k4, k5⟩ := hok
              have k2b : C = (mt a1).1.cls := k2b
              subst k2b
              have k1' : (parseMethodDescriptor (mt a1).1.desc).map (fun d => d.parameters.length) = some as'.length := by
                cases hz : parseMethodDescriptor (mt a1).1.desc with
                | none => rw [hz] at k1; cases k1
                | some d =>
                  rw [hz] at k1
                  have k1 : d.parameters.length + 1 = _ := Option.some.inj k1
                  simp only [List.length_cons] at e2
                  show some d.parameters.length = _
                  congr 1
                  omega
              have hstk2 : st.map (am_tv b sz) = (as'.map (am_tv b sz)).reverse ++ .ref (am_ad b sz a) :: st1.map (am_tv b sz) := by rw [hstk]; simp [am_tv]
              obtain ⟨j, rfl, hj⟩ := am_get_eq hrec
              have he := am_ws_get (b := b) (sz := sz) (dA := dA) hj
              have hrv := va_recv hE.1 hP k2 he
              rcases k5 with k5 | ⟨host, k5⟩
              · exact fin (va_runV (As := as'.map (am_tv b sz)) (C := (mt a1).1.cls) fixS met ⟨callB_of as'.length hts hgood rfl rfl rfl hini (hts _ k5) ⟨hM.2.2.2.1, hM.2.2.2.2, k1'⟩ hroom, hts _ k3, hts _ k4⟩ ⟨am_blind hN, hrv, hpre⟩ rfl (by rw [List.length_map]) hl.1 hstk2 (hmon _) (by rw [hn] at hd; exact hd) hcs) hn
              · exact fin (va_runVN (As := as'.map (am_tv b sz)) (C := (mt a1).1.cls) fixS met ⟨va_cnB as'.length hts hgood rfl rfl rfl (hE.2.1 _ k5) hini ⟨hM.2.2.2.1, hM.2.2.2.2, k1'⟩ hroom, hts _ k3, hts _ k4⟩ ⟨am_blind hN, hrv, hpre⟩ rfl (by rw [List.length_map]) hl.1 hstk2 (hmon _) (by rw [hn] at hd; exact hd) hcs) hn
      · split at hr
        · cases hr
        · rename_i rv hp
          cases hr
          have h0 := am_ret_st hp
          rw [h0] at hp ⊢
          have hn : len = 1 := by
            rcases hsw with z | z
            · cases ins <;> first | (simp [am_isSw] at z; done) | (simp [am_ret] at hp)
            · cases ins <;> first | exact z | (simp [am_ret] at hp)
          rw [hn] at hd
          have := kk pc ins ls H locs hd hp hP hS
          rw [Nat.sub_self, Nat.sub_self] at this
          exact this
end AMR
end
section
/-! RUNS, said of the function alone: am_ev (a method's answer), am_wp (from a place on) -/
section AMP
variable (P : am_P) (T : Nat → Nat → Option am_I) (mt : Nat → am_M) (L : Nat) (xs : Nat → Int32)
/-- from here on the run ends, with Q -/
def am_wp (mi pc : Nat) (lv : am_L) (st : List Value) (h : am_H) (Q : Option Value → am_H → Prop) : Prop := ∃ (v : Option Value) (h' : am_H), Q v h' ∧ ∃ N, ∀ n, N ≤ n → am_run P T mt L xs n mi pc lv st h = some (v, h')
/-- the method mi, with these arguments, answers v and leaves h' -/
def am_ev (mi : Nat) (as : List Value) (h : am_H) (v : Option Value) (h' : am_H) : Prop := ∃ N, ∀ n, N ≤ n → am_run P T mt L xs n mi 0 (lv_args 0 as) [] h = some (v, h')
end AMP
section AMQ
variable {P : am_P} {T : Nat → Nat → Option am_I} {mt : Nat → am_M} {L : Nat} {xs : Nat → Int32}
variable {mi pc : Nat} {lv : am_L} {st st' : List Value} {h : am_H} {Q : Option Value → am_H → Prop} {ins : Jvm.ClassFile.Instr} {len a1 a2 : Nat} {v : Value} {sw : List (Int32 × Nat)} {lm : Option (List Nat)}
theorem am_wp_step {mi2 pc2 : Nat} {lv2 : am_L} {st2 : List Value} {h2 : am_H} (hs : ∀ n, am_run P T mt L xs (n + 1) mi pc lv st h = am_run P T mt L xs n mi2 pc2 lv2 st2 h2) (k : am_wp P T mt L xs mi2 pc2 lv2 st2 h2 Q) : am_wp P T mt L xs mi pc lv st h Q := by
  obtain ⟨v, h', q, N, hN⟩ := k
  refine ⟨v, h', q, N + 1, fun n hn => ?_⟩
  obtain ⟨n', rfl⟩ : ∃ n', n = n' + 1 := ⟨n - 1, by omega⟩
  rw [hs]
  exact hN n' (by omega)
theorem am_wp_ev {as : List Value} {v : Option Value} {h' : am_H} (k : am_wp P T mt L xs mi 0 (lv_args 0 as) [] h (fun v1 h1 => v1 = v ∧ h1 = h')) : am_ev P T mt L xs mi as h v h' := by
  obtain ⟨v1, h1, ⟨rfl, rfl⟩, N, hN⟩ := k
  exact ⟨N, hN⟩
theorem am_wp_mono {Q' : Option Value → am_H → Prop} (k : am_wp P T mt L xs mi pc lv st h Q) (hq : ∀ v h, Q v h → Q' v h) : am_wp P T mt L xs mi pc lv st h Q' := by
  obtain ⟨v1, h1, q, N, hN⟩ := k
  exact ⟨v1, h1, hq _ _ q, N, hN⟩
/-- a value from the stack -/
theorem wp0 (hT : T mi pc = some (0, ins, len, a1, a2, v, sw, lm)) (hp : am_pure ins v st = some st') (k : am_wp P T mt L xs mi (pc + len) (am_live lm lv) st' h Q) : am_wp P T mt L xs mi pc lv st h Q :=
  am_wp_step (fun n => by simp only [am_run, hT, hp]) k
/-- locals -/
theorem wp1 {lv' : am_L} (hT : T mi pc = some (1, ins, len, a1, a2, v, sw, lm)) (hp : am_loc ins v (mt mi).2.2.1 (am_live lm lv) st = some (lv', st')) (k : am_wp P T mt L xs mi (pc + len) lv' st' h Q) : am_wp P T mt L xs mi pc lv st h Q :=
  am_wp_step (fun n => by simp only [am_run, hT, hp]) k
/-- jumps -/
theorem wp2 {pc' : Nat} (hT : T mi pc = some (2, ins, len, a1, a2, v, sw, lm)) (hp : am_jump ins a1 (pc + len) sw st = some (pc', st')) (k : am_wp P T mt L xs mi pc' (am_live lm lv) st' h Q) : am_wp P T mt L xs mi pc lv st h Q :=
  am_wp_step (fun n => by simp only [am_run, hT, hp]) k
/-- a branch: both ways -/
theorem wp2b {c : Prop} [Decidable c] {t1 t2 : Nat} (hT : T mi pc = some (2, ins, len, a1, a2, v, sw, lm)) (hp : am_jump ins a1 (pc + len) sw st = some (if c then t1 else t2, st')) (k1 : c → am_wp P T mt L xs mi t1 (am_live lm lv) st' h Q) (k2 : ¬ c → am_wp P T mt L xs mi t2 (am_live lm lv) st' h Q) : am_wp P T mt L xs mi pc lv st h Q := by
  refine wp2 hT hp ?_
  by_cases hc : c
  · rw [if_pos hc]; exact k1 hc
  · rw [if_neg hc]; exact k2 hc
/-- the heap -/
theorem wp3 {h' : am_H} (hT : T mi pc = some (3, ins, len, a1, a2, v, sw, lm)) (hp : am_heap P L xs ins a1 a2 st h = some (st', h')) (k : am_wp P T mt L xs mi (pc + len) (am_live lm lv) st' h' Q) : am_wp P T mt L xs mi pc lv st h Q :=
  am_wp_step (fun n => by simp only [am_run, hT, hp]) k
theorem am_ev_at {as rest : List Value} {rv : Option Value} {h1 : am_H} (hT : T mi pc = some (4, ins, len, a1, a2, v, sw, lm)) (hp : am_call ins (mt a1).2.2.2.2.2 (mt a1).2.2.1 a2 st h = some (as, rest)) (hc : am_ev P T mt L xs a1 as h rv h1) (k : am_wp P T mt L xs mi (pc + len) (am_live lm lv) (rv.toList ++ rest) h1 Q) : am_wp P T mt L xs mi pc lv st h Q := by
  obtain ⟨v2, h2, q, N, hN⟩ := k
  obtain ⟨N1, hN1⟩ := hc
  refine ⟨v2, h2, q, N + N1 + 1, fun n hn => ?_⟩
  obtain ⟨n', rfl⟩ : ∃ n', n = n' + 1 := ⟨n - 1, by omega⟩
  simp only [am_run, hT, hp, hN1 n' (by omega)]
  exact hN n' (by omega)
/-- a call whose callee has such an answer -/
theorem wp4 {as rest : List Value} {Qc : Option Value → am_H → Prop} (hT : T mi pc = some (4, ins, len, a1, a2, v, sw, lm)) (hp : am_call ins (mt a1).2.2.2.2.2 (mt a1).2.2.1 a2 st h = some (as, rest)) (hc : am_wp P T mt L xs a1 0 (lv_args 0 as) [] h Qc) (k : ∀ rv h1, Qc rv h1 → am_wp P T mt L xs mi (pc + len) (am_live lm lv) (rv.toList ++ rest) h1 Q) : am_wp P T mt L xs mi pc lv st h Q := by
  obtain ⟨rv, h1, q, hN⟩ := hc
  exact am_ev_at hT hp hN (k rv h1 q)
/-- the end -/
theorem wp5 {rv : Option Value} (hT : T mi pc = some (5, ins, len, a1, a2, v, sw, lm)) (hp : am_ret ins (mt mi).2.2.2.1 st = some rv) (q : Q rv h) : am_wp P T mt L xs mi pc lv st h Q := by
  refine ⟨rv, h, q, 1, fun n hn => ?_⟩
  obtain ⟨n', rfl⟩ : ∃ n', n = n' + 1 := ⟨n - 1, by omega⟩
  simp only [am_run, hT, hp]
/-- where the table names what lives, no more is looked at -/
theorem am_live_live (lm : Option (List Nat)) (lv : am_L) : am_live lm (am_live lm lv) = am_live lm lv := by
  cases lm with
  | none => rfl
  | some m => simp [am_live, List.filter_filter]
theorem am_run_live {en : am_I} (hT : T mi pc = some en) (n : Nat) : am_run P T mt L xs n mi pc (am_live en.2.2.2.2.2.2.2 lv) st h = am_run P T mt L xs n mi pc lv st h := by
  obtain ⟨k, ins, len, a1, a2, v, sw, lm⟩ := en
  cases n with
  | zero => rfl
  | succ n => simp only [am_run, hT, am_live_live]
theorem wpL {en : am_I} {lv' : am_L} (hT : T mi pc = some en) (hl : am_live en.2.2.2.2.2.2.2 lv = lv') (k : am_wp P T mt L xs mi pc lv' st h Q) : am_wp P T mt L xs mi pc lv st h Q := by
  subst hl
  obtain ⟨v1, h1, q, N, hN⟩ := k
  exact ⟨v1, h1, q, N, fun n hn => by rw [← am_run_live hT]; exact hN n hn⟩
/-- heap rows with what they need of the heap -/
theorem am_getf {P : am_P} {i0 i ci k : Nat} {fs : List Value} {v : Value} (hg : am_get h i = some (.inr (ci, fs))) (hv : fs[k]? = some v) : am_heap P L xs (.getfield i0) ci k (.ref i :: st) h = some (v :: st, h) := by
  simp only [am_heap, hg, if_true, hv]
theorem am_putf {P : am_P} {i0 i ci k : Nat} {fs : List Value} {v : Value} (hg : am_get h i = some (.inr (ci, fs))) (hl : k < fs.length) (hn : narrow (P.1 ci k) v = v) (hf : fits (P.1 ci k) v = true) : am_heap P L xs (.putfield i0) ci k (v :: .ref i :: st) h = some (st, am_set h i (.inr (ci, fs.set k v))) := by
  simp only [am_heap, hg]
  rw [if_pos ⟨trivial, hl, hn, hf⟩]
theorem am_iald {i a1 a2 n : Nat} {f : Nat → Int32} {j : Int32} (hg : am_get h i = some (.inl (0, n, .inl f))) (hj : am_in j n = true) : am_heap P L xs .iaload a1 a2 (.int j :: .ref i :: st) h = some (.int (f j.toNatClampNeg) :: st, h) := by
  cases i with
  | zero => simp [am_get] at hg
  | succ i => simp [am_heap, hg, hj]
theorem am_sald {a1 a2 : Nat} {j : Int32} (hj : am_in j L = true) : am_heap P L xs .iaload a1 a2 (.int j :: .ref 0 :: st) h = some (.int (xs j.toNatClampNeg) :: st, h) := by
  simp [am_heap, hj]
theorem am_bald {i a1 a2 n : Nat} {f : Nat → Int32} {j : Int32} (hg : am_get h i = some (.inl (a1, n, .inl f))) (hj : am_in j n = true) : am_heap P L xs .baload a1 a2 (.int j :: .ref i :: st) h = some (.int (f j.toNatClampNeg) :: st, h) := by
  simp [am_heap, hg, hj]
theorem am_lald {i a1 a2 n : Nat} {f : Nat → Int64} {j : Int32} (hg : am_get h i = some (.inl (3, n, .inr (.inl f)))) (hj : am_in j n = true) : am_heap P L xs .laload a1 a2 (.int j :: .ref i :: st) h = some (.long (f j.toNatClampNeg) :: st, h) := by
  simp [am_heap, hg, hj]
theorem am_aald {i a1 a2 n : Nat} {f : Nat → Option Nat} {j : Int32} (hg : am_get h i = some (.inl (a1 + 4, n, .inr (.inr f)))) (hj : am_in j n = true) : am_heap P L xs .aaload a1 a2 (.int j :: .ref i :: st) h = some (am_rf (f j.toNatClampNeg) :: st, h) := by
  simp [am_heap, hg, hj]
theorem am_iast {i a1 a2 n : Nat} {f : Nat → Int32} {j x : Int32} (hg : am_get h i = some (.inl (0, n, .inl f))) (hj : am_in j n = true) : am_heap P L xs .iastore a1 a2 (.int x :: .int j :: .ref i :: st) h = some (st, am_set h i (.inl (0, n, .inl (upd f j.toNatClampNeg x)))) := by
  simp [am_heap, hg, hj]
theorem am_bast {i a2 n : Nat} {f : Nat → Int32} {j x : Int32} (hg : am_get h i = some (.inl (1, n, .inl f))) (hj : am_in j n = true) : am_heap P L xs .bastore 1 a2 (.int x :: .int j :: .ref i :: st) h = some (st, am_set h i (.inl (1, n, .inl (upd f j.toNatClampNeg (vp_nar .byte x))))) := by
  simp [am_heap, hg, hj]
theorem am_zast {i a2 n : Nat} {f : Nat → Int32} {j x : Int32} (hg : am_get h i = some (.inl (2, n, .inl f))) (hj : am_in j n = true) : am_heap P L xs .bastore 2 a2 (.int x :: .int j :: .ref i :: st) h = some (st, am_set h i (.inl (2, n, .inl (upd f j.toNatClampNeg (vp_nar .boolean x))))) := by
  simp [am_heap, hg, hj]
theorem am_last {i a1 a2 n : Nat} {f : Nat → Int64} {j : Int32} {x : Int64} (hg : am_get h i = some (.inl (3, n, .inr (.inl f)))) (hj : am_in j n = true) : am_heap P L xs .lastore a1 a2 (.long x :: .int j :: .ref i :: st) h = some (st, am_set h i (.inl (3, n, .inr (.inl (vp_updL f j.toNatClampNeg x))))) := by
  simp [am_heap, hg, hj]
theorem am_aast {i w ci a2 n : Nat} {f : Nat → Option Nat} {j : Int32} {fs : List Value} (hg : am_get h i = some (.inl (ci + 4, n, .inr (.inr f)))) (hw : am_get h w = some (.inr (ci, fs))) (hj : am_in j n = true) : am_heap P L xs .aastore ci a2 (.ref w :: .int j :: .ref i :: st) h = some (st, am_set h i (.inl (ci + 4, n, .inr (.inr (va_up f j.toNatClampNeg (some w)))))) := by
  simp [am_heap, hg, hw, hj]
theorem am_alen {i a1 a2 n : Nat} {f : (Nat → Int32) ⊕ ((Nat → Int64) ⊕ (Nat → Option Nat))} (hg : am_get h i = some (.inl (a1, n, f))) : am_heap P L xs .arraylength a1 a2 (.ref i :: st) h = some (.int (Int32.ofNat n) :: st, h) := by
  cases i with
  | zero => simp [am_get] at hg
  | succ i => simp [am_heap, hg]
theorem am_acpy {i0 sr d a2 n0 n1 : Nat} {f g : Nat → Int32} {sp dp n : Int32} (hg : am_get h sr = some (.inl (1, n0, .inl f))) (hg2 : am_get h d = some (.inl (1, n1, .inl g))) (h1 : ¬ sp < 0) (h2 : ¬ dp < 0) (h3 : ¬ n < 0) (h4 : sp.toNatClampNeg + n.toNatClampNeg ≤ n0) (h5 : dp.toNatClampNeg + n.toNatClampNeg ≤ n1) (h6 : (st.map fun v => v.category).sum ≤ 8) (h7 : ∀ i, i < n.toNatClampNeg → fits .byte (.int (f (sp.toNatClampNeg + i))) = true) : am_heap P L xs (.invokestatic i0) 0 a2 (.int n :: .int dp :: .ref d :: .int sp :: .ref sr :: st) h = some (st, am_set h d (.inl (1, n1, .inl (va_cpy f g sp.toNatClampNeg dp.toNatClampNeg n.toNatClampNeg)))) := by
  have e0 : ¬ (0 : Nat) = 1 := by decide
  have e1 : ¬ (0 : Nat) = 2 := by decide
  simp only [am_heap, if_neg e0, if_neg e1, hg, hg2]
  rw [if_pos ⟨trivial, trivial, h1, h2, h3, h4, h5, h6, h7⟩]
theorem am_mmax {i0 a2 : Nat} {x y : Int32} (h6 : (st.map fun v => v.category).sum ≤ 8) : am_heap P L xs (.invokestatic i0) 1 a2 (.int y :: .int x :: st) h = some (.int (if x < y then y else x) :: st, h) := by
  simp only [am_heap, if_true, if_pos h6]
theorem am_mmin {i0 a2 : Nat} {x y : Int32} (h6 : (st.map fun v => v.category).sum ≤ 8) : am_heap P L xs (.invokestatic i0) 2 a2 (.int y :: .int x :: st) h = some (.int (if y < x then y else x) :: st, h) := by
  have e0 : ¬ (2 : Nat) = 1 := by decide
  simp only [am_heap, if_neg e0, if_true, if_pos h6]
end AMQ
end
section
/-! THE TABLE CHECKED BY COMPUTATION: booleans that the kernel reckons, and that they give am_okA -/
/-- the links of a file, by places in its pool: constants; fields; final fields that its constructors write; kinds; methods; Object's constructor; natives -/
abbrev am_K : Type := List (Nat × Value) × List (Nat × Nat × Nat) × List (Nat × Nat × Nat) × List (Nat × Nat) × List (Nat × Nat) × List Nat × List (Nat × Nat)
def am_vc (tbl : List Cond) (own : String) (r : Nat × Value) : Prop := match r.2 with
  | .int x => Cond.constant own r.1 x ∈ tbl
  | .long x => Cond.constantLong own r.1 x ∈ tbl
  | _ => False
def am_vf (tbl nst : List Cond) (cl : List vw_C) (own : String) (r : Nat × Nat × Nat) : Prop := ∃ q, cl[r.2.1]? = some q ∧ r.2.2 < q.2.2 ∧ am_lnk tbl nst own r.1 (q.2.1 r.2.2)
def am_vg (tbl : List Cond) (cl : List vw_C) (own : String) (r : Nat × Nat × Nat) : Prop := ∃ q, cl[r.2.1]? = some q ∧ r.2.2 < q.2.2 ∧ (q.2.1 r.2.2).2.2.2 = true ∧ (q.2.1 r.2.2).1 = own ∧ Cond.fieldLink own r.1 (q.2.1 r.2.2).1 (q.2.1 r.2.2).2.1 (q.2.1 r.2.2).2.2.1 ∈ tbl
def am_vn (tbl : List Cond) (cl : List vw_C) (own : String) (r : Nat × Nat) : Prop := ∃ q, cl[r.2]? = some q ∧ Cond.classLink own r.1 q.1 ∈ tbl
def am_vx (tbl : List Cond) (tl : List Nat) (own : String) (r : Nat × Nat) : Prop := match r.2 with
  | 1 => Cond.methodLink own r.1 Lib.Math.max.name ∈ tbl ∧ Cond.static Lib.Math.max.name ∈ tbl ∧ Cond.initialized "java/lang/Math" ∈ tbl ∧ Cond.code Lib.Math.max.name Lib.Math.max.code 2 (some .int) ∈ tbl
  | 2 => Cond.methodLink own r.1 Lib.Math.min.name ∈ tbl ∧ Cond.static Lib.Math.min.name ∈ tbl ∧ Cond.initialized "java/lang/Math" ∈ tbl ∧ Cond.code Lib.Math.min.name Lib.Math.min.code 2 (some .int) ∈ tbl
  | _ => Cond.methodLink own r.1 arraycopyName ∈ tbl ∧ Cond.native arraycopyName ∈ tbl ∧ Cond.static arraycopyName ∈ tbl ∧ Cond.initialized "java/lang/System" ∈ tbl ∧ 1 ∈ tl
def am_vK (tbl nst : List Cond) (cl : List vw_C) (tl : List Nat) (mt : Nat → am_M) (own : String) (K : am_K) : Prop := (∀ r ∈ K.1, am_vc tbl own r) ∧ (∀ r ∈ K.2.1, am_vf tbl nst cl own r) ∧ (∀ r ∈ K.2.2.1, am_vg tbl cl own r) ∧ (∀ r ∈ K.2.2.2.1, am_vn tbl cl own r) ∧ (∀ r ∈ K.2.2.2.2.1, am_lnkM tbl nst own r.1 (mt r.2).1) ∧ (∀ r ∈ K.2.2.2.2.2.1, Cond.methodLink own r objectInit ∈ tbl) ∧ (∀ r ∈ K.2.2.2.2.2.2, am_vx tbl tl own r)
/-- a method's words: kind of call, arguments -/
def am_vJ (tbl : List Cond) (cl : List vw_C) (M : am_M) (kd na : Nat) : Prop := am_okM tbl M ∧ match kd with
  | 0 => Cond.static M.1 ∈ tbl ∧ (parseMethodDescriptor M.1.desc).map (fun d => d.parameters.length) = some na
  | 1 => Cond.instanceMethod M.1 ∈ tbl ∧ M.1.name = "<init>" ∧ M.2.2.2.1 = none ∧ (parseMethodDescriptor M.1.desc).map (fun d => d.parameters.length + 1) = some na
  | _ => Cond.instanceMethod M.1 ∈ tbl ∧ Cond.selects M.1.cls M.1 M.1 ∈ tbl ∧ (parseMethodDescriptor M.1.desc).map (fun d => d.parameters.length + 1) = some na ∧ ∃ q, cl[M.2.2.2.2.2]? = some q ∧ q.1 = M.1.cls
theorem am_fa0 {α : Type} {p : α → Prop} : ∀ x ∈ ([] : List α), p x := fun _ h => absurd h List.not_mem_nil
theorem am_fa1 {α : Type} {p : α → Prop} {a : α} {l : List α} (h : p a) (t : ∀ x ∈ l, p x) : ∀ x ∈ a :: l, p x := List.forall_mem_cons.mpr ⟨h, t⟩
def am_ck0 (K : am_K) (ins : Jvm.ClassFile.Instr) (v : Value) : Bool := match ins with
  | .iconst n => decide (v = .int (Int32.ofInt n))
  | .bipush n => decide (v = .int ((Int8.ofInt n).toInt32))
  | .sipush n => decide (v = .int ((Int16.ofInt n).toInt32))
  | .lconst n => decide (v = .long (Int64.ofNat n))
  | .ldc i => (match v with
    | .int _ => true
    | _ => false) && K.1.any (fun r => Nat.beq r.1 i && decide (r.2 = v))
  | .ldc2_w i => (match v with
    | .long _ => true
    | _ => false) && K.1.any (fun r => Nat.beq r.1 i && decide (r.2 = v))
  | _ => true
def am_ck1 (ins : Jvm.ClassFile.Instr) (v : Value) : Bool := match ins with
  | .iinc _ n => decide (v = .int (Int32.ofInt n))
  | _ => true
def am_ck2 (ins : Jvm.ClassFile.Instr) (pc t : Nat) (sw : List (Int32 × Nat)) : Bool := match ins with
  | .goto o => decide ((pc : Int) + o = (t : Int))
  | .ifCond _ o => decide ((pc : Int) + o = (t : Int))
  | .if_icmp _ o => decide ((pc : Int) + o = (t : Int))
  | .ifnull o => decide ((pc : Int) + o = (t : Int))
  | .ifnonnull o => decide ((pc : Int) + o = (t : Int))
  | .tableswitch d lo hi offs => decide ((pc : Int) + d = (t : Int)) && (decide (hi - lo + 1 = (sw.length : Int)) && (decide (offs.toList.map (fun o => (pc : Int) + o) = sw.map (fun q => (q.2 : Int))) && decide (sw.map (fun q => q.1.toInt) = (List.range sw.length).map (fun j : Nat => lo + (j : Int)))))
  | .lookupswitch d ps => decide ((pc : Int) + d = (t : Int)) && ((ps.toList.zip (ps.toList.drop 1)).all (fun (a, next) => a.1 < next.1) && decide (ps.toList.map (fun q => (q.1, (pc : Int) + q.2)) = sw.map (fun q => (q.1.toInt, (q.2 : Int)))))
  | _ => true
def am_fin (cl : List vw_C) (a1 a2 : Nat) : Bool := match cl[a1]? with
  | some q => (q.2.1 a2).2.2.2
  | none => true
def am_ck3 (cl : List vw_C) (aos : List String) (tl : List Nat) (oks : List Nat) (K : am_K) (kd : Nat) (rk : Nat × Nat) (ins : Jvm.ClassFile.Instr) (a1 a2 : Nat) : Bool := match ins with
  | .getfield i => K.2.1.any (fun r => Nat.beq r.1 i && (Nat.beq r.2.1 a1 && Nat.beq r.2.2 a2))
  | .putfield i => bif am_fin cl a1 a2 then Nat.beq kd 1 && K.2.2.1.any (fun r => Nat.beq r.1 i && (Nat.beq r.2.1 a1 && Nat.beq r.2.2 a2)) else K.2.1.any (fun r => Nat.beq r.1 i && (Nat.beq r.2.1 a1 && Nat.beq r.2.2 a2))
  | .new i => oks.contains a1 && K.2.2.2.1.any (fun r => Nat.beq r.1 i && Nat.beq r.2 a1)
  | .newarray t => match t with
    | .int => tl.contains 0
    | .byte => tl.contains 1
    | .boolean => tl.contains 2
    | .long => tl.contains 3
    | _ => false
  | .anewarray i => tl.contains (a1 + 4) && (K.2.2.2.1.any (fun r => Nat.beq r.1 i && Nat.beq r.2 a1) && match cl[a1]? with
    | some q => aos.contains q.1
    | none => false)
  | .arraylength => tl.contains a1
  | .iaload => tl.contains 0
  | .iastore => tl.contains 0
  | .baload => (Nat.beq a1 1 || Nat.beq a1 2) && tl.contains a1
  | .bastore => (Nat.beq a1 1 || Nat.beq a1 2) && tl.contains a1
  | .laload => tl.contains 3
  | .lastore => tl.contains 3
  | .aaload => tl.contains (a1 + 4) && (cl[a1]?).isSome
  | .aastore => tl.contains (a1 + 4) && (cl[a1]?).isSome
  | .invokespecial i => Nat.ble 1 rk.1 && (Nat.ble 20 rk.2 && K.2.2.2.2.2.1.any (fun r => Nat.beq r i))
  | .invokestatic i => Nat.ble 1 rk.1 && (Nat.ble 26 rk.2 && K.2.2.2.2.2.2.any (fun r => Nat.beq r.1 i && Nat.beq r.2 a1))
  | _ => false
def am_ck4 (mt : Nat → am_M) (mj : Nat → Nat × Nat) (nM : Nat) (K : am_K) (rk : Nat × Nat) (ins : Jvm.ClassFile.Instr) (a1 a2 : Nat) : Bool := Nat.ble 1 a1 && (Nat.blt a1 nM && (Nat.blt (mt a1).2.2.2.2.1.1 rk.1 && (Nat.ble (8 + ((mt a1).2.2.1 + 11) + (mt a1).2.2.2.2.1.2) rk.2 && (Nat.beq (mj a1).2 a2 && match ins with
  | .invokestatic i => Nat.beq (mj a1).1 0 && K.2.2.2.2.1.any (fun r => Nat.beq r.1 i && Nat.beq r.2 a1)
  | .invokespecial i => Nat.beq (mj a1).1 1 && K.2.2.2.2.1.any (fun r => Nat.beq r.1 i && Nat.beq r.2 a1)
  | .invokevirtual i => Nat.ble 2 (mj a1).1 && K.2.2.2.2.1.any (fun r => Nat.beq r.1 i && Nat.beq r.2 a1)
  | _ => false))))
def am_ckE (cl : List vw_C) (aos : List String) (tl oks : List Nat) (mt : Nat → am_M) (mj : Nat → Nat × Nat) (nM : Nat) (K : am_K) (mi : Nat) (q : Nat × am_I) : Bool := match q.2 with
  | (k, ins, len, a1, a2, v, sw, _) => decide (decode (mt mi).2.1 q.1 = .ok (ins, len)) && ((am_isSw ins || Nat.beq len (am_len ins)) && match k with
    | 0 => !am_isSw ins && am_ck0 K ins v
    | 1 => !am_isSw ins && am_ck1 ins v
    | 2 => am_ck2 ins q.1 a1 sw
    | 3 => !am_isSw ins && am_ck3 cl aos tl oks K (mj mi).1 (mt mi).2.2.2.2.1 ins a1 a2
    | 4 => !am_isSw ins && am_ck4 mt mj nM K (mt mi).2.2.2.2.1 ins a1 a2
    | _ => true)
def am_find (pc : Nat) : List (Nat × am_I) → Option am_I
  | [] => none
  | q :: r => bif Nat.beq q.1 pc then some q.2 else am_find pc r
theorem am_find_mem {pc : Nat} {en : am_I} : ∀ {l : List (Nat × am_I)}, am_find pc l = some en → (pc, en) ∈ l
  | [], h => by cases h
  | q :: r, h => by
    unfold am_find at h
    cases hb : Nat.beq q.1 pc with
    | true =>
      rw [hb] at h
      have e := Nat.eq_of_beq_eq_true hb
      have e2 : q.2 = en := Option.some.inj h
      rw [← e, ← e2]
      exact List.mem_cons_self
    | false =>
      rw [hb] at h
      exact List.mem_cons_of_mem _ (am_find_mem h)
section AMK
variable {tbl nst : List Cond} {cl : List vw_C} {aos : List String} {tl oks : List Nat} {mt : Nat → am_M} {mj : Nat → Nat × Nat} {nM : Nat} {K : am_K} {P : am_P} {mi : Nat} {ins : Jvm.ClassFile.Instr} {a1 a2 kd : Nat} {v : Value} {y : MethodName} {rk : Nat × Nat} {own : String}
theorem am_fld_ok {i : Nat} (hK : ∀ r ∈ K.2.1, am_vf tbl nst cl own r) (h : K.2.1.any (fun r => Nat.beq r.1 i && (Nat.beq r.2.1 a1 && Nat.beq r.2.2 a2)) = true) : ∃ q, cl[a1]? = some q ∧ a2 < q.2.2 ∧ am_lnk tbl nst own i (q.2.1 a2) := by
  obtain ⟨r, hr, h⟩ := List.any_eq_true.mp h
  simp only [Bool.and_eq_true] at h
  have g := hK r hr
  unfold am_vf at g
  rw [Nat.eq_of_beq_eq_true h.1, Nat.eq_of_beq_eq_true h.2.1, Nat.eq_of_beq_eq_true h.2.2] at g
  exact g
/-- a kind's words are given -/
def am_okq (tbl : List Cond) (cl : List vw_C) (P : am_P) (oks : List Nat) : Prop := ∀ ci ∈ oks, ∃ q, cl[ci]? = some q ∧ Cond.instantiable q.1 q.2.2 ∈ tbl ∧ Cond.initialized q.1 ∈ tbl ∧ (P.2 ci).length = q.2.2 ∧ (∀ j, j < q.2.2 → defaultValue (P.1 ci j) = vp_V (P.2 ci) j) ∧ ∀ v ∈ P.2 ci, v.asRef? = none ∨ v = .null
/-- the methods' words are given -/
def am_okj (tbl : List Cond) (cl : List vw_C) (mt : Nat → am_M) (mj : Nat → Nat × Nat) (nM : Nat) : Prop := ∀ j, 0 < j → j < nM → am_vJ tbl cl (mt j) (mj j).1 (mj j).2
/-- what Object's constructor and arrays need -/
def am_okx (tbl : List Cond) (tl : List Nat) : Prop := Cond.instanceMethod objectInit ∈ tbl ∧ Cond.code objectInit ⟨#[0xb1]⟩ 1 none ∈ tbl ∧ (0 ∈ tl → Cond.arrayClass .int ∈ tbl) ∧ (1 ∈ tl → Cond.arrayClass .byte ∈ tbl) ∧ (2 ∈ tl → Cond.arrayClass .boolean ∈ tbl) ∧ (3 ∈ tl → Cond.arrayClass .long ∈ tbl)
theorem am_con {l : List Nat} {x : Nat} (h : l.contains x = true) : x ∈ l := by simpa using h
set_option maxHeartbeats 4000000 in
theorem am_ck0_ok (hK : ∀ r ∈ K.1, am_vc tbl own r) (h : am_ck0 K ins v = true) : am_ok0 tbl own ins v := by
  have key : ∀ i, K.1.any (fun r => Nat.beq r.1 i && decide (r.2 = v)) = true → ∃ r, am_vc tbl own r ∧ r.1 = i ∧ r.2 = v := by
    intro i h
    obtain ⟨r, hr, h⟩ := List.any_eq_true.mp h
    simp only [Bool.and_eq_true, decide_eq_true_eq] at h
    exact ⟨r, hK r hr, Nat.eq_of_beq_eq_true h.1, h.2⟩
  unfold am_ck0 at h
  split at h
  · have h := of_decide_eq_true h; exact h
  · have h := of_decide_eq_true h; exact h
  · have h := of_decide_eq_true h; exact h
  · have h := of_decide_eq_true h; exact h
  · rw [Bool.and_eq_true] at h
    obtain ⟨h1, h2⟩ := h
    split at h1
    · obtain ⟨r, g1, g2, g3⟩ := key _ h2
      unfold am_vc at g1
      rw [g3] at g1
      exact ⟨_, rfl, by rw [← g2]; exact g1⟩
    · cases h1
  · rw [Bool.and_eq_true] at h
    obtain ⟨h1, h2⟩ := h
    split at h1
    · obtain ⟨r, g1, g2, g3⟩ := key _ h2
      unfold am_vc at g1
      rw [g3] at g1
      exact ⟨_, rfl, by rw [← g2]; exact g1⟩
    · cases h1
  · rename_i h1 h2 h3 h4 h5 h6
    unfold am_ok0
    split
    · exact absurd rfl (h1 _)
    · exact absurd rfl (h2 _)
    · exact absurd rfl (h3 _)
    · exact absurd rfl (h4 _)
    · exact absurd rfl (h5 _)
    · exact absurd rfl (h6 _)
    · trivial
theorem am_ck1_ok (h : am_ck1 ins v = true) : am_ok1 ins v := by
  unfold am_ck1 at h
  split at h
  · have h := of_decide_eq_true h; exact h
  · rename_i h1
    unfold am_ok1
    split
    · exact absurd rfl (h1 _ _)
    · trivial
theorem am_ck2_ok {pc t : Nat} {sw : List (Int32 × Nat)} (h : am_ck2 ins pc t sw = true) : am_ok2 ins pc t sw := by
  unfold am_ck2 at h
  split at h
  · have h := of_decide_eq_true h; exact h
  · have h := of_decide_eq_true h; exact h
  · have h := of_decide_eq_true h; exact h
  · have h := of_decide_eq_true h; exact h
  · have h := of_decide_eq_true h; exact h
  · simp only [Bool.and_eq_true, decide_eq_true_eq] at h
    exact ⟨h.1, h.2.1, h.2.2.1, h.2.2.2⟩
  · simp only [Bool.and_eq_true, decide_eq_true_eq] at h
    exact ⟨h.1, h.2.1, h.2.2⟩
  · rename_i h1 h2 h3 h4 h5 h6 h7
    unfold am_ok2
    split
    · exact absurd rfl (h1 _)
    · exact absurd rfl (h2 _ _)
    · exact absurd rfl (h3 _ _)
    · exact absurd rfl (h4 _)
    · exact absurd rfl (h5 _)
    · exact absurd rfl (h6 _ _ _ _)
    · exact absurd rfl (h7 _ _)
    · trivial
set_option maxHeartbeats 4000000 in
theorem am_ck3_ok (hK : am_vK tbl nst cl tl mt y.cls K) (hkd : kd = 1 → y.name = "<init>") (hq : am_okq tbl cl P oks) (hx : am_okx tbl tl) (h : am_ck3 cl aos tl oks K kd rk ins a1 a2 = true) : am_ok3 cl tbl nst aos tl P.1 P.2 y rk ins a1 a2 := by
  obtain ⟨k1, k2, k3, k4, k5, k6, k7⟩ := hK
  have cls : ∀ i, K.2.2.2.1.any (fun r => Nat.beq r.1 i && Nat.beq r.2 a1) = true → ∃ q, cl[a1]? = some q ∧ Cond.classLink y.cls i q.1 ∈ tbl := by
    intro i h
    obtain ⟨r, hr, h⟩ := List.any_eq_true.mp h
    simp only [Bool.and_eq_true] at h
    have g := k4 r hr
    unfold am_vn at g
    rw [Nat.eq_of_beq_eq_true h.1, Nat.eq_of_beq_eq_true h.2] at g
    exact g
  unfold am_ck3 at h
  split at h
  · exact am_fld_ok k2 h
  · rename_i i
    cases hf : am_fin cl a1 a2 with
    | false =>
      rw [hf] at h
      obtain ⟨q, q1, q2, q3⟩ := am_fld_ok k2 h
      refine ⟨q, q1, q2, Or.inl ⟨?_, q3⟩⟩
      unfold am_fin at hf
      rw [q1] at hf
      exact hf
    | true =>
      rw [hf] at h
      simp only [cond_true, Bool.and_eq_true] at h
      obtain ⟨g1, g3⟩ := h
      obtain ⟨r, hr, g3⟩ := List.any_eq_true.mp g3
      simp only [Bool.and_eq_true] at g3
      have g := k3 r hr
      unfold am_vg at g
      rw [Nat.eq_of_beq_eq_true g3.1, Nat.eq_of_beq_eq_true g3.2.1, Nat.eq_of_beq_eq_true g3.2.2] at g
      obtain ⟨q, q1, q2, q3, q4, q5⟩ := g
      exact ⟨q, q1, q2, Or.inr ⟨q3, hkd (Nat.eq_of_beq_eq_true g1), q4, q5⟩⟩
  · rw [Bool.and_eq_true] at h
    obtain ⟨q, q1, q2, q3, q4, q5, q6⟩ := hq a1 (am_con h.1)
    obtain ⟨q', p1, p2⟩ := cls _ h.2
    have e : q' = q := Option.some.inj (p1.symm.trans q1)
    subst e
    exact ⟨q', q1, p2, q2, q3, q4, q5, q6⟩
  · split at h
    · exact ⟨hx.2.2.1 (am_con h), Or.inl ⟨rfl, am_con h⟩⟩
    · exact ⟨hx.2.2.2.1 (am_con h), Or.inr (Or.inl ⟨rfl, am_con h⟩)⟩
    · exact ⟨hx.2.2.2.2.1 (am_con h), Or.inr (Or.inr (Or.inl ⟨rfl, am_con h⟩))⟩
    · exact ⟨hx.2.2.2.2.2 (am_con h), Or.inr (Or.inr (Or.inr ⟨rfl, am_con h⟩))⟩
    · cases h
  · simp only [Bool.and_eq_true] at h
    obtain ⟨h1, h2, h3⟩ := h
    obtain ⟨q, p1, p2⟩ := cls _ h2
    rw [p1] at h3
    exact ⟨q, p1, p2, by simpa using h3, am_con h1⟩
  · exact am_con h
  · exact am_con h
  · exact am_con h
  · simp only [Bool.and_eq_true, Bool.or_eq_true] at h
    exact ⟨h.1.imp Nat.eq_of_beq_eq_true Nat.eq_of_beq_eq_true, am_con h.2⟩
  · simp only [Bool.and_eq_true, Bool.or_eq_true] at h
    exact ⟨h.1.imp Nat.eq_of_beq_eq_true Nat.eq_of_beq_eq_true, am_con h.2⟩
  · exact am_con h
  · exact am_con h
  · simp only [Bool.and_eq_true] at h
    exact ⟨Option.isSome_iff_exists.mp h.2, am_con h.1⟩
  · simp only [Bool.and_eq_true] at h
    exact ⟨Option.isSome_iff_exists.mp h.2, am_con h.1⟩
  · simp only [Bool.and_eq_true] at h
    obtain ⟨h1, h2, h3⟩ := h
    obtain ⟨r, hr, h3⟩ := List.any_eq_true.mp h3
    have g := k6 r hr
    rw [Nat.eq_of_beq_eq_true h3] at g
    exact ⟨⟨Nat.le_of_ble_eq_true h1, Nat.le_of_ble_eq_true h2⟩, g, hx.1, hx.2.1⟩
  · simp only [Bool.and_eq_true] at h
    obtain ⟨h1, h2, h4⟩ := h
    obtain ⟨r, hr, h4⟩ := List.any_eq_true.mp h4
    simp only [Bool.and_eq_true] at h4
    have g := k7 r hr
    unfold am_vx at g
    rw [Nat.eq_of_beq_eq_true h4.1, Nat.eq_of_beq_eq_true h4.2] at g
    exact ⟨⟨Nat.le_of_ble_eq_true h1, Nat.le_of_ble_eq_true h2⟩, g⟩
  · cases h
set_option maxHeartbeats 4000000 in
theorem am_ck4_ok (hK : am_vK tbl nst cl tl mt own K) (hj : am_okj tbl cl mt mj nM) (h : am_ck4 mt mj nM K rk ins a1 a2 = true) : am_ok4 cl tbl nst own rk ins (mt a1) a2 := by
  obtain ⟨k1, k2, k3, k4, k5, k6, k7⟩ := hK
  have lnk : ∀ i, K.2.2.2.2.1.any (fun r => Nat.beq r.1 i && Nat.beq r.2 a1) = true → am_lnkM tbl nst own i (mt a1).1 := by
    intro i h
    obtain ⟨r, hr, h⟩ := List.any_eq_true.mp h
    simp only [Bool.and_eq_true] at h
    have g := k5 r hr
    rw [Nat.eq_of_beq_eq_true h.1, Nat.eq_of_beq_eq_true h.2] at g
    exact g
  unfold am_ck4 at h
  simp only [Bool.and_eq_true] at h
  obtain ⟨h00, h0, h1, h2, h3, h4⟩ := h
  have h00 : 0 < a1 := Nat.le_of_ble_eq_true h00
  have h0 : a1 < nM := Nat.le_of_ble_eq_true h0
  have h1 : (mt a1).2.2.2.2.1.1 < rk.1 := Nat.le_of_ble_eq_true h1
  have h2 := Nat.le_of_ble_eq_true h2
  have h3 := Nat.eq_of_beq_eq_true h3
  have hJ := hj a1 h00 h0
  rw [h3] at hJ
  obtain ⟨j1, j6⟩ := hJ
  refine ⟨⟨h1, h2⟩, j1, ?_⟩
  split at h4
  · simp only [Bool.and_eq_true] at h4
    rw [Nat.eq_of_beq_eq_true h4.1] at j6
    exact ⟨j6.2, j6.1, lnk _ h4.2⟩
  · simp only [Bool.and_eq_true] at h4
    rw [Nat.eq_of_beq_eq_true h4.1] at j6
    exact ⟨j6.2.2.2, j6.2.1, j6.2.2.1, j6.1, lnk _ h4.2⟩
  · simp only [Bool.and_eq_true] at h4
    have hge := Nat.le_of_ble_eq_true h4.1
    obtain ⟨kd, hkd⟩ : ∃ kd, (mj a1).1 = kd + 2 := ⟨(mj a1).1 - 2, by omega⟩
    rw [hkd] at j6
    exact ⟨j6.2.2.1, j6.2.2.2, j6.1, j6.2.1, lnk _ h4.2⟩
  · cases h4
theorem am_ckE_ok {pc : Nat} {en : am_I} (hK : am_vK tbl nst cl tl mt (mt mi).1.cls K) (hkd : (mj mi).1 = 1 → (mt mi).1.name = "<init>") (hq : am_okq tbl cl P oks) (hx : am_okx tbl tl) (hj : am_okj tbl cl mt mj nM) (h : am_ckE cl aos tl oks mt mj nM K mi (pc, en) = true) : am_okK cl tbl nst aos tl P mt mi pc en := by
  obtain ⟨k, ins, len, a1, a2, v, sw, lm⟩ := en
  unfold am_ckE at h
  simp only [Bool.and_eq_true, decide_eq_true_eq, Bool.or_eq_true] at h
  obtain ⟨h1, h2, h3⟩ := h
  refine ⟨h1, h2.imp id Nat.eq_of_beq_eq_true, ?_⟩
  split at h3
  · simp only [Bool.and_eq_true, Bool.not_eq_true'] at h3
    exact ⟨h3.1, am_ck0_ok hK.1 h3.2⟩
  · simp only [Bool.and_eq_true, Bool.not_eq_true'] at h3
    exact ⟨h3.1, am_ck1_ok h3.2⟩
  · exact am_ck2_ok h3
  · simp only [Bool.and_eq_true, Bool.not_eq_true'] at h3
    exact ⟨h3.1, am_ck3_ok hK hkd hq hx h3.2⟩
  · simp only [Bool.and_eq_true, Bool.not_eq_true'] at h3
    exact ⟨h3.1, am_ck4_ok hK hj h3.2⟩
  · rename_i g0 g1 g2 g3 g4
    split
    · exact absurd rfl g0
    · exact absurd rfl g1
    · exact absurd rfl g2
    · exact absurd rfl g3
    · exact absurd rfl g4
    · trivial
end AMK
section AMV
variable {tbl nst : List Cond} {cl : List vw_C} {own : String} {M : am_M} {na : Nat} {q : vw_C} {tl : List Nat}
theorem am_vf_p {r : Nat × Nat × Nat} (h1 : cl[r.2.1]? = some q) (h2 : r.2.2 < q.2.2) (h3 : Cond.fieldLink own r.1 (q.2.1 r.2.2).1 (q.2.1 r.2.2).2.1 (q.2.1 r.2.2).2.2.1 ∈ tbl) : am_vf tbl nst cl own r := ⟨q, h1, h2, Or.inl h3⟩
theorem am_vf_n {r : Nat × Nat × Nat} {host : String} (h1 : cl[r.2.1]? = some q) (h2 : r.2.2 < q.2.2) (h3 : Cond.fieldLinkNest own r.1 (q.2.1 r.2.2).1 (q.2.1 r.2.2).2.1 (q.2.1 r.2.2).2.2.1 host ∈ nst) : am_vf tbl nst cl own r := ⟨q, h1, h2, Or.inr ⟨host, h3⟩⟩
theorem am_vg_p {r : Nat × Nat × Nat} (h1 : cl[r.2.1]? = some q) (h2 : r.2.2 < q.2.2) (h4 : (q.2.1 r.2.2).2.2.2 = true) (h5 : (q.2.1 r.2.2).1 = own) (h3 : Cond.fieldLink own r.1 (q.2.1 r.2.2).1 (q.2.1 r.2.2).2.1 (q.2.1 r.2.2).2.2.1 ∈ tbl) : am_vg tbl cl own r := ⟨q, h1, h2, h4, h5, h3⟩
theorem am_vn_p {r : Nat × Nat} (h1 : cl[r.2]? = some q) (h3 : Cond.classLink own r.1 q.1 ∈ tbl) : am_vn tbl cl own r := ⟨q, h1, h3⟩
theorem am_vx0 {i : Nat} (h1 : Cond.methodLink own i arraycopyName ∈ tbl) (h2 : Cond.native arraycopyName ∈ tbl) (h3 : Cond.static arraycopyName ∈ tbl) (h4 : Cond.initialized "java/lang/System" ∈ tbl) (h5 : 1 ∈ tl) : am_vx tbl tl own (i, 0) := ⟨h1, h2, h3, h4, h5⟩
theorem am_vx1 {i : Nat} (h1 : Cond.methodLink own i Lib.Math.max.name ∈ tbl) (h2 : Cond.static Lib.Math.max.name ∈ tbl) (h3 : Cond.initialized "java/lang/Math" ∈ tbl) (h4 : Cond.code Lib.Math.max.name Lib.Math.max.code 2 (some .int) ∈ tbl) : am_vx tbl tl own (i, 1) := ⟨h1, h2, h3, h4⟩
theorem am_vx2 {i : Nat} (h1 : Cond.methodLink own i Lib.Math.min.name ∈ tbl) (h2 : Cond.static Lib.Math.min.name ∈ tbl) (h3 : Cond.initialized "java/lang/Math" ∈ tbl) (h4 : Cond.code Lib.Math.min.name Lib.Math.min.code 2 (some .int) ∈ tbl) : am_vx tbl tl own (i, 2) := ⟨h1, h2, h3, h4⟩
theorem am_vJ0 (h : am_okM tbl M) (h1 : Cond.static M.1 ∈ tbl) (h2 : (parseMethodDescriptor M.1.desc).map (fun d => d.parameters.length) = some na) : am_vJ tbl cl M 0 na := ⟨h, h1, h2⟩
theorem am_vJ1 (h : am_okM tbl M) (h1 : Cond.instanceMethod M.1 ∈ tbl) (h3 : M.1.name = "<init>") (h4 : M.2.2.2.1 = none) (h2 : (parseMethodDescriptor M.1.desc).map (fun d => d.parameters.length + 1) = some na) : am_vJ tbl cl M 1 na := ⟨h, h1, h3, h4, h2⟩
theorem am_vJ2 (h : am_okM tbl M) (h1 : Cond.instanceMethod M.1 ∈ tbl) (h3 : Cond.selects M.1.cls M.1 M.1 ∈ tbl) (h2 : (parseMethodDescriptor M.1.desc).map (fun d => d.parameters.length + 1) = some na) (h4 : cl[M.2.2.2.2.2]? = some q) (h5 : q.1 = M.1.cls) : am_vJ tbl cl M 2 na := ⟨h, h1, h3, h2, q, h4, h5⟩
end AMV
end
section
/-! PRINTED by wip/tools/gen.py out of the task's listing: kinds, fields, methods, code of the abstract machine -/
def tb_F0 : u_T := fun k => match k with
  | 0 => ("FlagMachine", "hand", "LFlagMachine$Instruction;", true)
  | 1 => ("FlagMachine", "filled", "LFlagMachine$Stretch;", true)
  | 2 => ("FlagMachine", "core", "LFlagMachine$Core;", true)
  | 3 => ("FlagMachine", "sums", "LFlagMachine$Sums;", true)
  | 4 => ("FlagMachine", "products", "LFlagMachine$Products;", true)
  | 5 => ("FlagMachine", "bits", "LFlagMachine$Bits;", true)
  | 6 => ("FlagMachine", "moves", "LFlagMachine$Moves;", true)
  | 7 => ("FlagMachine", "services", "LFlagMachine$Services;", true)
  | 8 => ("FlagMachine", "ended", "Z", false)
  | 9 => ("FlagMachine", "steps", "J", false)
  | _ => ("", "", "", false)
def tb_t0 : Nat → FieldType := fun k => match k with
  | 0 => (.object "FlagMachine$Instruction")
  | 1 => (.object "FlagMachine$Stretch")
  | 2 => (.object "FlagMachine$Core")
  | 3 => (.object "FlagMachine$Sums")
  | 4 => (.object "FlagMachine$Products")
  | 5 => (.object "FlagMachine$Bits")
  | 6 => (.object "FlagMachine$Moves")
  | 7 => (.object "FlagMachine$Services")
  | 8 => .boolean
  | 9 => .long
  | _ => .int
def tb_F1 : u_T := fun k => match k with
  | 0 => ("FlagMachine$Instruction", "op", "I", false)
  | 1 => ("FlagMachine$Instruction", "size", "I", false)
  | 2 => ("FlagMachine$Instruction", "condition", "I", false)
  | 3 => ("FlagMachine$Instruction", "kinds", "[I", true)
  | 4 => ("FlagMachine$Instruction", "registers", "[I", true)
  | 5 => ("FlagMachine$Instruction", "base", "I", false)
  | 6 => ("FlagMachine$Instruction", "index", "I", false)
  | 7 => ("FlagMachine$Instruction", "scale", "I", false)
  | 8 => ("FlagMachine$Instruction", "displacement", "I", false)
  | 9 => ("FlagMachine$Instruction", "number", "J", false)
  | _ => ("", "", "", false)
def tb_t1 : Nat → FieldType := fun k => match k with
  | 0 => .int
  | 1 => .int
  | 2 => .int
  | 3 => (.array .int)
  | 4 => (.array .int)
  | 5 => .int
  | 6 => .int
  | 7 => .int
  | 8 => .int
  | 9 => .long
  | _ => .int
def tb_F2 : u_T := fun k => match k with
  | 0 => ("FlagMachine$Stretch", "pages", "[LFlagMachine$Page;", true)
  | 1 => ("FlagMachine$Stretch", "newest", "LFlagMachine$Page;", false)
  | _ => ("", "", "", false)
def tb_t2 : Nat → FieldType := fun k => match k with
  | 0 => (.array (.object "FlagMachine$Page"))
  | 1 => (.object "FlagMachine$Page")
  | _ => .int
def tb_F3 : u_T := fun k => match k with
  | 0 => ("FlagMachine$Core", "registers", "[J", true)
  | 1 => ("FlagMachine$Core", "flags", "LFlagMachine$Flags;", true)
  | 2 => ("FlagMachine$Core", "memory", "LFlagMachine$Memory;", true)
  | 3 => ("FlagMachine$Core", "hand", "LFlagMachine$Instruction;", true)
  | 4 => ("FlagMachine$Core", "ip", "J", false)
  | 5 => ("FlagMachine$Core", "next", "J", false)
  | 6 => ("FlagMachine$Core", "address", "J", false)
  | 7 => ("FlagMachine$Core", "stop", "I", false)
  | 8 => ("FlagMachine$Core", "stopValue", "J", false)
  | _ => ("", "", "", false)
def tb_t3 : Nat → FieldType := fun k => match k with
  | 0 => (.array .long)
  | 1 => (.object "FlagMachine$Flags")
  | 2 => (.object "FlagMachine$Memory")
  | 3 => (.object "FlagMachine$Instruction")
  | 4 => .long
  | 5 => .long
  | 6 => .long
  | 7 => .int
  | 8 => .long
  | _ => .int
def tb_F4 : u_T := fun k => match k with
  | 0 => ("FlagMachine$Flags", "carry", "Z", false)
  | 1 => ("FlagMachine$Flags", "parity", "Z", false)
  | 2 => ("FlagMachine$Flags", "zero", "Z", false)
  | 3 => ("FlagMachine$Flags", "sign", "Z", false)
  | 4 => ("FlagMachine$Flags", "overflow", "Z", false)
  | _ => ("", "", "", false)
def tb_t4 : Nat → FieldType := fun k => match k with
  | 0 => .boolean
  | 1 => .boolean
  | 2 => .boolean
  | 3 => .boolean
  | 4 => .boolean
  | _ => .int
def tb_F5 : u_T := fun k => match k with
  | 0 => ("FlagMachine$Memory", "cells", "LFlagMachine$Stretch;", true)
  | 1 => ("FlagMachine$Memory", "starts", "[I", true)
  | 2 => ("FlagMachine$Memory", "ends", "[I", true)
  | _ => ("", "", "", false)
def tb_t5 : Nat → FieldType := fun k => match k with
  | 0 => (.object "FlagMachine$Stretch")
  | 1 => (.array .int)
  | 2 => (.array .int)
  | _ => .int
def tb_F6 : u_T := fun k => match k with
  | 0 => ("FlagMachine$Sums", "core", "LFlagMachine$Core;", true)
  | 1 => ("FlagMachine$Sums", "flags", "LFlagMachine$Flags;", true)
  | 2 => ("FlagMachine$Sums", "hand", "LFlagMachine$Instruction;", true)
  | _ => ("", "", "", false)
def tb_t6 : Nat → FieldType := fun k => match k with
  | 0 => (.object "FlagMachine$Core")
  | 1 => (.object "FlagMachine$Flags")
  | 2 => (.object "FlagMachine$Instruction")
  | _ => .int
def tb_F7 : u_T := fun k => match k with
  | 0 => ("FlagMachine$Products", "core", "LFlagMachine$Core;", true)
  | 1 => ("FlagMachine$Products", "hand", "LFlagMachine$Instruction;", true)
  | 2 => ("FlagMachine$Products", "lower", "J", false)
  | 3 => ("FlagMachine$Products", "upper", "J", false)
  | 4 => ("FlagMachine$Products", "quotient", "J", false)
  | 5 => ("FlagMachine$Products", "rest", "J", false)
  | _ => ("", "", "", false)
def tb_t7 : Nat → FieldType := fun k => match k with
  | 0 => (.object "FlagMachine$Core")
  | 1 => (.object "FlagMachine$Instruction")
  | 2 => .long
  | 3 => .long
  | 4 => .long
  | 5 => .long
  | _ => .int
def tb_F8 : u_T := fun k => match k with
  | 0 => ("FlagMachine$Bits", "core", "LFlagMachine$Core;", true)
  | 1 => ("FlagMachine$Bits", "flags", "LFlagMachine$Flags;", true)
  | 2 => ("FlagMachine$Bits", "hand", "LFlagMachine$Instruction;", true)
  | _ => ("", "", "", false)
def tb_t8 : Nat → FieldType := fun k => match k with
  | 0 => (.object "FlagMachine$Core")
  | 1 => (.object "FlagMachine$Flags")
  | 2 => (.object "FlagMachine$Instruction")
  | _ => .int
def tb_F9 : u_T := fun k => match k with
  | 0 => ("FlagMachine$Moves", "core", "LFlagMachine$Core;", true)
  | 1 => ("FlagMachine$Moves", "hand", "LFlagMachine$Instruction;", true)
  | _ => ("", "", "", false)
def tb_t9 : Nat → FieldType := fun k => match k with
  | 0 => (.object "FlagMachine$Core")
  | 1 => (.object "FlagMachine$Instruction")
  | _ => .int
def tb_F10 : u_T := fun k => match k with
  | 0 => ("FlagMachine$Services", "core", "LFlagMachine$Core;", true)
  | 1 => ("FlagMachine$Services", "incoming", "LFlagMachine$Stretch;", true)
  | 2 => ("FlagMachine$Services", "outgoing", "LFlagMachine$Stretch;", true)
  | 3 => ("FlagMachine$Services", "first", "I", false)
  | 4 => ("FlagMachine$Services", "waiting", "I", false)
  | 5 => ("FlagMachine$Services", "sent", "I", false)
  | _ => ("", "", "", false)
def tb_t10 : Nat → FieldType := fun k => match k with
  | 0 => (.object "FlagMachine$Core")
  | 1 => (.object "FlagMachine$Stretch")
  | 2 => (.object "FlagMachine$Stretch")
  | 3 => .int
  | 4 => .int
  | 5 => .int
  | _ => .int
def tb_F11 : u_T := fun k => match k with
  | 0 => ("FlagMachine$Page", "number", "I", true)
  | 1 => ("FlagMachine$Page", "older", "LFlagMachine$Page;", true)
  | 2 => ("FlagMachine$Page", "cells", "[B", true)
  | _ => ("", "", "", false)
def tb_t11 : Nat → FieldType := fun k => match k with
  | 0 => .int
  | 1 => (.object "FlagMachine$Page")
  | 2 => (.array .byte)
  | _ => .int
def tb_F12 : u_T := fun k => match k with
  | 0 => ("FlagMachineModel", "thrown", "I", false)
  | 1 => ("FlagMachineModel", "filled", "[B", true)
  | 2 => ("FlagMachineModel", "memory", "[B", true)
  | 3 => ("FlagMachineModel", "heap", "[B", true)
  | 4 => ("FlagMachineModel", "stack", "[B", true)
  | 5 => ("FlagMachineModel", "given", "[B", true)
  | 6 => ("FlagMachineModel", "shown", "[B", true)
  | 7 => ("FlagMachineModel", "end", "I", false)
  | 8 => ("FlagMachineModel", "textEnd", "I", false)
  | 9 => ("FlagMachineModel", "rodataBegin", "I", false)
  | 10 => ("FlagMachineModel", "rodataEnd", "I", false)
  | 11 => ("FlagMachineModel", "dataBegin", "I", false)
  | 12 => ("FlagMachineModel", "dataEnd", "I", false)
  | 13 => ("FlagMachineModel", "heapSize", "I", false)
  | 14 => ("FlagMachineModel", "givenSize", "I", false)
  | 15 => ("FlagMachineModel", "shownSize", "I", false)
  | 16 => ("FlagMachineModel", "registers0", "[J", true)
  | 17 => ("FlagMachineModel", "kept0", "[J", true)
  | 18 => ("FlagMachineModel", "ip", "J", false)
  | 19 => ("FlagMachineModel", "stopValue", "J", false)
  | 20 => ("FlagMachineModel", "stepsDone", "J", false)
  | 21 => ("FlagMachineModel", "carry", "Z", false)
  | 22 => ("FlagMachineModel", "parity", "Z", false)
  | 23 => ("FlagMachineModel", "zero", "Z", false)
  | 24 => ("FlagMachineModel", "negative", "Z", false)
  | 25 => ("FlagMachineModel", "over", "Z", false)
  | 26 => ("FlagMachineModel", "stopKind", "I", false)
  | 27 => ("FlagMachineModel", "halt", "I", false)
  | 28 => ("FlagMachineModel", "haltValue", "J", false)
  | 29 => ("FlagMachineModel", "operandAt", "J", false)
  | 30 => ("FlagMachineModel", "op", "I", false)
  | 31 => ("FlagMachineModel", "width", "I", false)
  | 32 => ("FlagMachineModel", "condition", "I", false)
  | 33 => ("FlagMachineModel", "base", "I", false)
  | 34 => ("FlagMachineModel", "index", "I", false)
  | 35 => ("FlagMachineModel", "scale", "I", false)
  | 36 => ("FlagMachineModel", "displacement", "I", false)
  | 37 => ("FlagMachineModel", "length", "I", false)
  | 38 => ("FlagMachineModel", "number", "J", false)
  | 39 => ("FlagMachineModel", "kinds", "[I", true)
  | 40 => ("FlagMachineModel", "places", "[I", true)
  | _ => ("", "", "", false)
def tb_t12 : Nat → FieldType := fun k => match k with
  | 0 => .int
  | 1 => (.array .byte)
  | 2 => (.array .byte)
  | 3 => (.array .byte)
  | 4 => (.array .byte)
  | 5 => (.array .byte)
  | 6 => (.array .byte)
  | 7 => .int
  | 8 => .int
  | 9 => .int
  | 10 => .int
  | 11 => .int
  | 12 => .int
  | 13 => .int
  | 14 => .int
  | 15 => .int
  | 16 => (.array .long)
  | 17 => (.array .long)
  | 18 => .long
  | 19 => .long
  | 20 => .long
  | 21 => .boolean
  | 22 => .boolean
  | 23 => .boolean
  | 24 => .boolean
  | 25 => .boolean
  | 26 => .int
  | 27 => .int
  | 28 => .long
  | 29 => .long
  | 30 => .int
  | 31 => .int
  | 32 => .int
  | 33 => .int
  | 34 => .int
  | 35 => .int
  | 36 => .int
  | 37 => .int
  | 38 => .long
  | 39 => (.array .int)
  | 40 => (.array .int)
  | _ => .int
abbrev tb_cl : List vw_C := [("FlagMachine", tb_F0, 10), ("FlagMachine$Instruction", tb_F1, 10), ("FlagMachine$Stretch", tb_F2, 2), ("FlagMachine$Core", tb_F3, 9), ("FlagMachine$Flags", tb_F4, 5), ("FlagMachine$Memory", tb_F5, 3), ("FlagMachine$Sums", tb_F6, 3), ("FlagMachine$Products", tb_F7, 6), ("FlagMachine$Bits", tb_F8, 3), ("FlagMachine$Moves", tb_F9, 2), ("FlagMachine$Services", tb_F10, 6), ("FlagMachine$Page", tb_F11, 3), ("FlagMachineModel", tb_F12, 41)]
def tb_fty (ci k : Nat) : FieldType := match ci with
  | 0 => tb_t0 k
  | 1 => tb_t1 k
  | 2 => tb_t2 k
  | 3 => tb_t3 k
  | 4 => tb_t4 k
  | 5 => tb_t5 k
  | 6 => tb_t6 k
  | 7 => tb_t7 k
  | 8 => tb_t8 k
  | 9 => tb_t9 k
  | 10 => tb_t10 k
  | 11 => tb_t11 k
  | 12 => tb_t12 k
  | _ => .int
def tb_dfl (ci : Nat) : List Value := match ci with
  | 0 => [.null, .null, .null, .null, .null, .null, .null, .null, .int 0, .long 0]
  | 1 => [.int 0, .int 0, .int 0, .null, .null, .int 0, .int 0, .int 0, .int 0, .long 0]
  | 2 => [.null, .null]
  | 3 => [.null, .null, .null, .null, .long 0, .long 0, .long 0, .int 0, .long 0]
  | 4 => [.int 0, .int 0, .int 0, .int 0, .int 0]
  | 5 => [.null, .null, .null]
  | 6 => [.null, .null, .null]
  | 7 => [.null, .null, .long 0, .long 0, .long 0, .long 0]
  | 8 => [.null, .null, .null]
  | 9 => [.null, .null]
  | 10 => [.null, .null, .null, .int 0, .int 0, .int 0]
  | 11 => [.int 0, .null, .null]
  | 12 => [.int 0, .null, .null, .null, .null, .null, .null, .int 0, .int 0, .int 0, .int 0, .int 0, .int 0, .int 0, .int 0, .int 0, .null, .null, .long 0, .long 0, .long 0, .int 0, .int 0, .int 0, .int 0, .int 0, .int 0, .int 0, .long 0, .long 0, .int 0, .int 0, .int 0, .int 0, .int 0, .int 0, .int 0, .int 0, .long 0, .null, .null]
  | _ => []
abbrev tb_P : am_P := (tb_fty, tb_dfl)
abbrev tb_tl : List Nat := [0, 1, 3, 15]
abbrev tb_aos : List String := ["FlagMachine$Page"]
def tb_m0 : List am_M := [
  (⟨"FlagMachineLaw", "law", "([I)Z"⟩, code, 4, (some .boolean), (9, 210), 13),
  (⟨"FlagMachine", "<init>", "()V"⟩, prog_1_method_1_code, 1, none, (7, 170), 0),
  (⟨"FlagMachine", "begin", "(IIIIII)Z"⟩, prog_1_method_2_code, 8, (some .boolean), (6, 143), 0),
  (⟨"FlagMachine", "below", "(JJ)Z"⟩, prog_1_method_20_code, 4, (some .boolean), (0, 0), 0),
  (⟨"FlagMachine", "fill", "(IJ)V"⟩, prog_1_method_3_code, 7, none, (4, 87), 0),
  (⟨"FlagMachine", "finish", "(I)I"⟩, prog_1_method_16_code, 2, (some .int), (0, 0), 0),
  (⟨"FlagMachine", "input", "(JI)Z"⟩, prog_1_method_12_code, 4, (some .boolean), (5, 111), 0),
  (⟨"FlagMachine", "maskOf", "(I)J"⟩, prog_1_method_17_code, 1, (some .long), (0, 0), 0),
  (⟨"FlagMachine", "memory", "(IIII)V"⟩, prog_1_method_6_code, 5, none, (0, 0), 0),
  (⟨"FlagMachine", "number", "(J)V"⟩, prog_1_method_7_code, 3, none, (0, 0), 0),
  (⟨"FlagMachine", "op", "(III)V"⟩, prog_1_method_4_code, 5, none, (0, 0), 0),
  (⟨"FlagMachine", "operand", "(III)Z"⟩, prog_1_method_5_code, 4, (some .boolean), (0, 0), 0),
  (⟨"FlagMachine", "output", "(I)I"⟩, prog_1_method_13_code, 2, (some .int), (3, 65), 0),
  (⟨"FlagMachine", "peek", "(J)I"⟩, prog_1_method_14_code, 4, (some .int), (2, 48), 0),
  (⟨"FlagMachine", "poke", "(JI)Z"⟩, prog_1_method_15_code, 5, (some .boolean), (4, 87), 0),
  (⟨"FlagMachine", "register", "(I)J"⟩, prog_1_method_10_code, 2, (some .long), (1, 20), 0)]
def tb_m1 : List am_M := [
  (⟨"FlagMachine", "set", "(IJ)Z"⟩, prog_1_method_11_code, 4, (some .boolean), (0, 0), 0),
  (⟨"FlagMachine", "signed", "(JI)J"⟩, prog_1_method_19_code, 4, (some .long), (0, 0), 0),
  (⟨"FlagMachine", "step", "(I)I"⟩, prog_1_method_8_code, 2, (some .int), (8, 189), 0),
  (⟨"FlagMachine", "topOf", "(I)J"⟩, prog_1_method_18_code, 1, (some .long), (0, 0), 0),
  (⟨"FlagMachine", "value", "()J"⟩, prog_1_method_9_code, 1, (some .long), (0, 0), 0),
  (⟨"FlagMachine$Bits", "<init>", "(LFlagMachine$Core;)V"⟩, prog_2_method_1_code, 2, none, (1, 20), 8),
  (⟨"FlagMachine$Bits", "highestBit", "(J)I"⟩, prog_2_method_8_code, 3, (some .int), (0, 0), 8),
  (⟨"FlagMachine$Bits", "lowestBit", "(J)I"⟩, prog_2_method_7_code, 3, (some .int), (0, 0), 8),
  (⟨"FlagMachine$Bits", "overflowOfOne", "(IJJI)Z"⟩, prog_2_method_5_code, 10, (some .boolean), (1, 20), 8),
  (⟨"FlagMachine$Bits", "perform", "(I)V"⟩, prog_2_method_2_code, 2, none, (7, 168), 8),
  (⟨"FlagMachine$Bits", "search", "(Z)V"⟩, prog_2_method_6_code, 5, none, (6, 140), 8),
  (⟨"FlagMachine$Bits", "shift", "(I)V"⟩, prog_2_method_3_code, 9, none, (6, 140), 8),
  (⟨"FlagMachine$Bits", "shiftOnce", "(IJI)J"⟩, prog_2_method_4_code, 6, (some .long), (1, 20), 8),
  (⟨"FlagMachine$Bits", "testBit", "()V"⟩, prog_2_method_10_code, 5, none, (4, 94), 8),
  (⟨"FlagMachine$Bits", "turnBytes", "()V"⟩, prog_2_method_9_code, 7, none, (6, 140), 8),
  (⟨"FlagMachine$Core", "<init>", "(LFlagMachine$Instruction;)V"⟩, prog_3_method_1_code, 2, none, (3, 67), 3)]
def tb_m2 : List am_M := [
  (⟨"FlagMachine$Core", "fetch", "(II)J"⟩, prog_3_method_9_code, 3, (some .long), (3, 72), 3),
  (⟨"FlagMachine$Core", "load", "(JI)J"⟩, prog_3_method_10_code, 5, (some .long), (2, 48), 3),
  (⟨"FlagMachine$Core", "memoryAddress", "()J"⟩, prog_3_method_4_code, 3, (some .long), (1, 21), 3),
  (⟨"FlagMachine$Core", "part", "(II)J"⟩, prog_3_method_7_code, 3, (some .long), (1, 20), 3),
  (⟨"FlagMachine$Core", "prepare", "(I)V"⟩, prog_3_method_3_code, 2, none, (2, 43), 3),
  (⟨"FlagMachine$Core", "putPart", "(IIJ)V"⟩, prog_3_method_8_code, 5, none, (1, 20), 3),
  (⟨"FlagMachine$Core", "registerOrZero", "(I)J"⟩, prog_3_method_5_code, 2, (some .long), (0, 0), 3),
  (⟨"FlagMachine$Core", "save", "(JIJ)Z"⟩, prog_3_method_12_code, 7, (some .boolean), (4, 90), 3),
  (⟨"FlagMachine$Core", "startAnew", "()V"⟩, prog_3_method_2_code, 1, none, (1, 24), 3),
  (⟨"FlagMachine$Core", "stopWith", "(IJ)V"⟩, prog_3_method_6_code, 4, none, (0, 0), 3),
  (⟨"FlagMachine$Core", "store", "(IIJ)Z"⟩, prog_3_method_11_code, 5, (some .boolean), (5, 116), 3),
  (⟨"FlagMachine$Flags", "<init>", "()V"⟩, prog_4_method_1_code, 1, none, (1, 20), 4),
  (⟨"FlagMachine$Flags", "asWord", "()J"⟩, prog_4_method_3_code, 1, (some .long), (0, 0), 4),
  (⟨"FlagMachine$Flags", "clear", "()V"⟩, prog_4_method_2_code, 1, none, (0, 0), 4),
  (⟨"FlagMachine$Flags", "holds", "(I)Z"⟩, prog_4_method_4_code, 3, (some .boolean), (1, 21), 4),
  (⟨"FlagMachine$Flags", "pairHolds", "(I)Z"⟩, prog_4_method_5_code, 2, (some .boolean), (0, 0), 4)]
def tb_m3 : List am_M := [
  (⟨"FlagMachine$Flags", "tellBits", "(JI)V"⟩, prog_4_method_9_code, 4, none, (2, 44), 4),
  (⟨"FlagMachine$Flags", "tellDifference", "(JJJI)V"⟩, prog_4_method_8_code, 10, none, (2, 44), 4),
  (⟨"FlagMachine$Flags", "tellOversize", "(Z)V"⟩, prog_4_method_10_code, 2, none, (0, 0), 4),
  (⟨"FlagMachine$Flags", "tellResult", "(JI)V"⟩, prog_4_method_6_code, 4, none, (1, 21), 4),
  (⟨"FlagMachine$Flags", "tellSum", "(JJJI)V"⟩, prog_4_method_7_code, 10, none, (2, 44), 4),
  (⟨"FlagMachine$Instruction", "<init>", "()V"⟩, prog_5_method_1_code, 1, none, (1, 20), 1),
  (⟨"FlagMachine$Instruction", "conditionFits", "()Z"⟩, prog_5_method_6_code, 2, (some .boolean), (0, 0), 1),
  (⟨"FlagMachine$Instruction", "has", "(I)Z"⟩, prog_5_method_3_code, 2, (some .boolean), (0, 0), 1),
  (⟨"FlagMachine$Instruction", "isPlace", "(I)Z"⟩, prog_5_method_10_code, 1, (some .boolean), (0, 0), 1),
  (⟨"FlagMachine$Instruction", "isSound", "()Z"⟩, prog_5_method_2_code, 1, (some .boolean), (3, 63), 1),
  (⟨"FlagMachine$Instruction", "memoryFits", "()Z"⟩, prog_5_method_11_code, 1, (some .boolean), (0, 0), 1),
  (⟨"FlagMachine$Instruction", "numberFits", "()Z"⟩, prog_5_method_12_code, 1, (some .boolean), (1, 23), 1),
  (⟨"FlagMachine$Instruction", "onlyOperandFits", "(I)Z"⟩, prog_5_method_9_code, 2, (some .boolean), (1, 20), 1),
  (⟨"FlagMachine$Instruction", "operandsFit", "()Z"⟩, prog_5_method_8_code, 3, (some .boolean), (2, 41), 1),
  (⟨"FlagMachine$Instruction", "registersDiffer", "()Z"⟩, prog_5_method_4_code, 1, (some .boolean), (0, 0), 1),
  (⟨"FlagMachine$Instruction", "sizeFits", "()Z"⟩, prog_5_method_5_code, 1, (some .boolean), (0, 0), 1)]
def tb_m4 : List am_M := [
  (⟨"FlagMachine$Instruction", "thirdFits", "()Z"⟩, prog_5_method_7_code, 1, (some .boolean), (0, 0), 1),
  (⟨"FlagMachine$Memory", "<init>", "()V"⟩, prog_6_method_1_code, 1, none, (2, 47), 5),
  (⟨"FlagMachine$Memory", "breakAddress", "()J"⟩, prog_6_method_5_code, 1, (some .long), (0, 0), 5),
  (⟨"FlagMachine$Memory", "layRow", "(III)V"⟩, prog_6_method_3_code, 4, none, (0, 0), 5),
  (⟨"FlagMachine$Memory", "layRows", "(IIIIII)V"⟩, prog_6_method_2_code, 8, none, (1, 23), 5),
  (⟨"FlagMachine$Memory", "loadImage", "(LFlagMachine$Stretch;I)V"⟩, prog_6_method_4_code, 3, none, (5, 121), 5),
  (⟨"FlagMachine$Memory", "moveBreak", "(J)V"⟩, prog_6_method_6_code, 6, none, (4, 94), 5),
  (⟨"FlagMachine$Memory", "placeFor", "(JII)I"⟩, prog_6_method_7_code, 8, (some .int), (1, 21), 5),
  (⟨"FlagMachine$Memory", "placeOf", "(J)I"⟩, prog_6_method_8_code, 2, (some .int), (0, 0), 5),
  (⟨"FlagMachine$Moves", "<init>", "(LFlagMachine$Core;)V"⟩, prog_7_method_1_code, 2, none, (1, 20), 9),
  (⟨"FlagMachine$Moves", "call", "(J)V"⟩, prog_7_method_10_code, 5, none, (5, 116), 9),
  (⟨"FlagMachine$Moves", "comeBack", "()V"⟩, prog_7_method_12_code, 3, none, (4, 94), 9),
  (⟨"FlagMachine$Moves", "exchange", "()V"⟩, prog_7_method_6_code, 5, none, (6, 140), 9),
  (⟨"FlagMachine$Moves", "jump", "(J)V"⟩, prog_7_method_9_code, 3, none, (0, 0), 9),
  (⟨"FlagMachine$Moves", "leaveFrame", "()V"⟩, prog_7_method_13_code, 5, none, (3, 72), 9),
  (⟨"FlagMachine$Moves", "move", "(J)V"⟩, prog_7_method_3_code, 3, none, (6, 140), 9)]
def tb_m5 : List am_M := [
  (⟨"FlagMachine$Moves", "moveString", "(ZZ)V"⟩, prog_7_method_14_code, 7, none, (5, 116), 9),
  (⟨"FlagMachine$Moves", "perform", "(I)V"⟩, prog_7_method_2_code, 2, none, (7, 164), 9),
  (⟨"FlagMachine$Moves", "popOperand", "()V"⟩, prog_7_method_8_code, 5, none, (6, 140), 9),
  (⟨"FlagMachine$Moves", "pushOperand", "()V"⟩, prog_7_method_7_code, 5, none, (5, 116), 9),
  (⟨"FlagMachine$Moves", "target", "()J"⟩, prog_7_method_11_code, 3, (some .long), (4, 94), 9),
  (⟨"FlagMachine$Moves", "valueIfCondition", "()J"⟩, prog_7_method_5_code, 3, (some .long), (4, 94), 9),
  (⟨"FlagMachine$Moves", "valueOfMove", "(I)J"⟩, prog_7_method_4_code, 2, (some .long), (4, 94), 9),
  (⟨"FlagMachine$Page", "<init>", "(ILFlagMachine$Page;)V"⟩, prog_8_method_1_code, 3, none, (1, 20), 11),
  (⟨"FlagMachine$Products", "<init>", "(LFlagMachine$Core;)V"⟩, prog_9_method_1_code, 2, none, (1, 20), 7),
  (⟨"FlagMachine$Products", "divide", "(Z)V"⟩, prog_9_method_5_code, 6, none, (4, 94), 7),
  (⟨"FlagMachine$Products", "divideSigned", "(JI)Z"⟩, prog_9_method_11_code, 12, (some .boolean), (2, 52), 7),
  (⟨"FlagMachine$Products", "divideUnsigned", "(JI)Z"⟩, prog_9_method_10_code, 10, (some .boolean), (1, 23), 7),
  (⟨"FlagMachine$Products", "highOf", "(JJ)J"⟩, prog_9_method_9_code, 18, (some .long), (1, 20), 7),
  (⟨"FlagMachine$Products", "multiply", "(JJIZ)V"⟩, prog_9_method_8_code, 13, none, (2, 57), 7),
  (⟨"FlagMachine$Products", "multiplyNarrow", "()V"⟩, prog_9_method_4_code, 7, none, (6, 140), 7),
  (⟨"FlagMachine$Products", "multiplyWide", "(Z)V"⟩, prog_9_method_3_code, 5, none, (4, 94), 7)]
def tb_m6 : List am_M := [
  (⟨"FlagMachine$Products", "perform", "(I)V"⟩, prog_9_method_2_code, 2, none, (7, 166), 7),
  (⟨"FlagMachine$Products", "putPair", "(JJ)V"⟩, prog_9_method_6_code, 6, none, (2, 44), 7),
  (⟨"FlagMachine$Products", "signFill", "(JI)J"⟩, prog_9_method_7_code, 3, (some .long), (1, 20), 7),
  (⟨"FlagMachine$Services", "<init>", "(LFlagMachine$Core;)V"⟩, prog_10_method_1_code, 2, none, (2, 47), 10),
  (⟨"FlagMachine$Services", "appendInput", "(JI)Z"⟩, prog_10_method_3_code, 5, (some .boolean), (4, 87), 10),
  (⟨"FlagMachine$Services", "giveOutput", "(JJ)J"⟩, prog_10_method_7_code, 7, (some .long), (5, 124), 10),
  (⟨"FlagMachine$Services", "outputAt", "(I)I"⟩, prog_10_method_4_code, 2, (some .int), (2, 44), 10),
  (⟨"FlagMachine$Services", "serve", "()V"⟩, prog_10_method_5_code, 4, none, (6, 150), 10),
  (⟨"FlagMachine$Services", "startAnew", "()V"⟩, prog_10_method_2_code, 1, none, (0, 0), 10),
  (⟨"FlagMachine$Services", "takeInput", "(JJ)J"⟩, prog_10_method_6_code, 8, (some .long), (4, 87), 10),
  (⟨"FlagMachine$Stretch", "<init>", "(I)V"⟩, prog_11_method_1_code, 2, none, (1, 26), 2),
  (⟨"FlagMachine$Stretch", "becomeStartOf", "(LFlagMachine$Stretch;I)V"⟩, prog_11_method_8_code, 5, none, (4, 97), 2),
  (⟨"FlagMachine$Stretch", "byteAt", "(I)I"⟩, prog_11_method_2_code, 3, (some .int), (1, 22), 2),
  (⟨"FlagMachine$Stretch", "clear", "()V"⟩, prog_11_method_6_code, 2, none, (1, 23), 2),
  (⟨"FlagMachine$Stretch", "clearFrom", "(II)V"⟩, prog_11_method_7_code, 5, none, (3, 70), 2),
  (⟨"FlagMachine$Stretch", "clearPiece", "(II)V"⟩, prog_11_method_12_code, 5, none, (2, 46), 2)]
def tb_m7 : List am_M := [
  (⟨"FlagMachine$Stretch", "copyFrom", "(LFlagMachine$Stretch;III)V"⟩, prog_11_method_9_code, 8, none, (4, 97), 2),
  (⟨"FlagMachine$Stretch", "copyPiece", "(LFlagMachine$Stretch;III)V"⟩, prog_11_method_11_code, 8, none, (3, 70), 2),
  (⟨"FlagMachine$Stretch", "pageAt", "(I)LFlagMachine$Page;"⟩, prog_11_method_13_code, 3, (some (.object "FlagMachine$Page")), (0, 0), 2),
  (⟨"FlagMachine$Stretch", "pageFor", "(I)LFlagMachine$Page;"⟩, prog_11_method_14_code, 3, (some (.object "FlagMachine$Page")), (2, 42), 2),
  (⟨"FlagMachine$Stretch", "putByte", "(II)V"⟩, prog_11_method_3_code, 4, none, (3, 64), 2),
  (⟨"FlagMachine$Stretch", "putWord", "(IIJ)V"⟩, prog_11_method_5_code, 7, none, (3, 64), 2),
  (⟨"FlagMachine$Stretch", "restOfPage", "(I)I"⟩, prog_11_method_10_code, 1, (some .int), (0, 0), 2),
  (⟨"FlagMachine$Stretch", "wordAt", "(II)J"⟩, prog_11_method_4_code, 7, (some .long), (1, 22), 2),
  (⟨"FlagMachine$Sums", "<init>", "(LFlagMachine$Core;)V"⟩, prog_12_method_1_code, 2, none, (1, 20), 6),
  (⟨"FlagMachine$Sums", "compareAndExchange", "()V"⟩, prog_12_method_5_code, 6, none, (6, 140), 6),
  (⟨"FlagMachine$Sums", "perform", "(I)V"⟩, prog_12_method_2_code, 10, none, (6, 140), 6),
  (⟨"FlagMachine$Sums", "resultOf", "(IJJ)J"⟩, prog_12_method_3_code, 8, (some .long), (0, 0), 6),
  (⟨"FlagMachine$Sums", "tellFlags", "(IJJJ)V"⟩, prog_12_method_4_code, 10, none, (3, 73), 6),
  (⟨"FlagMachineModel", "<init>", "()V"⟩, prog_14_method_1_code, 1, none, (2, 49), 12),
  (⟨"FlagMachineModel", "add", "(JJZI)J"⟩, prog_14_method_34_code, 9, (some .long), (2, 47), 12),
  (⟨"FlagMachineModel", "addressNow", "()J"⟩, prog_14_method_26_code, 3, (some .long), (0, 0), 12)]
def tb_m8 : List am_M := [
  (⟨"FlagMachineModel", "anew", "(IIIIII)V"⟩, prog_14_method_3_code, 8, none, (1, 22), 12),
  (⟨"FlagMachineModel", "arithmetic", "(II)V"⟩, prog_14_method_39_code, 9, none, (4, 99), 12),
  (⟨"FlagMachineModel", "begin", "(IIIIII)Z"⟩, prog_14_method_4_code, 8, (some .boolean), (2, 49), 12),
  (⟨"FlagMachineModel", "below", "(JJ)Z"⟩, prog_14_method_42_code, 4, (some .boolean), (0, 0), 12),
  (⟨"FlagMachineModel", "bits", "(II)V"⟩, prog_14_method_54_code, 8, none, (4, 99), 12),
  (⟨"FlagMachineModel", "byteAtPlace", "(I)I"⟩, prog_14_method_19_code, 2, (some .int), (0, 0), 12),
  (⟨"FlagMachineModel", "choose", "(I)V"⟩, prog_14_method_60_code, 6, none, (4, 99), 12),
  (⟨"FlagMachineModel", "cut", "(JI)J"⟩, prog_14_method_24_code, 3, (some .long), (0, 0), 12),
  (⟨"FlagMachineModel", "divide", "(ZI)V"⟩, prog_14_method_47_code, 20, none, (4, 99), 12),
  (⟨"FlagMachineModel", "divideSmall", "(ZIJ)V"⟩, prog_14_method_46_code, 14, none, (1, 24), 12),
  (⟨"FlagMachineModel", "fill", "(IJ)V"⟩, prog_14_method_5_code, 7, none, (0, 0), 12),
  (⟨"FlagMachineModel", "find", "(JZ)I"⟩, prog_14_method_18_code, 10, (some .int), (1, 20), 12),
  (⟨"FlagMachineModel", "flags", "()J"⟩, prog_14_method_37_code, 1, (some .long), (0, 0), 12),
  (⟨"FlagMachineModel", "goes", "(I)V"⟩, prog_14_method_52_code, 4, none, (4, 99), 12),
  (⟨"FlagMachineModel", "heapBegin", "()J"⟩, prog_14_method_17_code, 1, (some .long), (0, 0), 12),
  (⟨"FlagMachineModel", "highSigned", "(JJ)J"⟩, prog_14_method_44_code, 4, (some .long), (1, 37), 12)]
def tb_m9 : List am_M := [
  (⟨"FlagMachineModel", "highUnsigned", "(JJ)J"⟩, prog_14_method_43_code, 18, (some .long), (0, 0), 12),
  (⟨"FlagMachineModel", "input", "(JI)Z"⟩, prog_14_method_65_code, 5, (some .boolean), (0, 0), 12),
  (⟨"FlagMachineModel", "isEither", "(I)Z"⟩, prog_14_method_10_code, 2, (some .boolean), (0, 0), 12),
  (⟨"FlagMachineModel", "isMet", "(I)Z"⟩, prog_14_method_36_code, 5, (some .boolean), (0, 0), 12),
  (⟨"FlagMachineModel", "isNumber", "(IJJ)Z"⟩, prog_14_method_11_code, 6, (some .boolean), (0, 0), 12),
  (⟨"FlagMachineModel", "isPlain", "(I)Z"⟩, prog_14_method_12_code, 2, (some .boolean), (1, 25), 12),
  (⟨"FlagMachineModel", "isSound", "()Z"⟩, prog_14_method_16_code, 4, (some .boolean), (3, 70), 12),
  (⟨"FlagMachineModel", "kindAt", "(I)I"⟩, prog_14_method_27_code, 2, (some .int), (0, 0), 12),
  (⟨"FlagMachineModel", "load", "(JI)J"⟩, prog_14_method_22_code, 8, (some .long), (2, 49), 12),
  (⟨"FlagMachineModel", "may", "(JJZ)Z"⟩, prog_14_method_57_code, 8, (some .boolean), (2, 49), 12),
  (⟨"FlagMachineModel", "memory", "(IIII)V"⟩, prog_14_method_8_code, 5, none, (0, 0), 12),
  (⟨"FlagMachineModel", "memoryFits", "()Z"⟩, prog_14_method_15_code, 2, (some .boolean), (0, 0), 12),
  (⟨"FlagMachineModel", "moves", "(II)V"⟩, prog_14_method_40_code, 7, none, (4, 99), 12),
  (⟨"FlagMachineModel", "multiply", "(ZI)V"⟩, prog_14_method_45_code, 11, none, (4, 99), 12),
  (⟨"FlagMachineModel", "number", "(J)V"⟩, prog_14_method_9_code, 3, none, (0, 0), 12),
  (⟨"FlagMachineModel", "op", "(III)V"⟩, prog_14_method_6_code, 5, none, (0, 0), 12)]
def tb_m10 : List am_M := [
  (⟨"FlagMachineModel", "operand", "(III)Z"⟩, prog_14_method_7_code, 4, (some .boolean), (0, 0), 12),
  (⟨"FlagMachineModel", "operandsFit", "()Z"⟩, prog_14_method_13_code, 5, (some .boolean), (2, 46), 12),
  (⟨"FlagMachineModel", "output", "(I)I"⟩, prog_14_method_66_code, 2, (some .int), (0, 0), 12),
  (⟨"FlagMachineModel", "peek", "(J)I"⟩, prog_14_method_67_code, 4, (some .int), (2, 49), 12),
  (⟨"FlagMachineModel", "perform", "()V"⟩, prog_14_method_59_code, 3, none, (5, 138), 12),
  (⟨"FlagMachineModel", "poke", "(JI)Z"⟩, prog_14_method_68_code, 5, (some .boolean), (2, 49), 12),
  (⟨"FlagMachineModel", "pop", "()J"⟩, prog_14_method_51_code, 3, (some .long), (3, 76), 12),
  (⟨"FlagMachineModel", "product", "(I)V"⟩, prog_14_method_48_code, 9, none, (4, 99), 12),
  (⟨"FlagMachineModel", "push", "(J)V"⟩, prog_14_method_50_code, 3, none, (3, 75), 12),
  (⟨"FlagMachineModel", "put", "(IIJ)V"⟩, prog_14_method_31_code, 5, none, (3, 75), 12),
  (⟨"FlagMachineModel", "register", "(I)J"⟩, prog_14_method_63_code, 2, (some .long), (1, 20), 12),
  (⟨"FlagMachineModel", "registerAt", "(I)I"⟩, prog_14_method_28_code, 2, (some .int), (0, 0), 12),
  (⟨"FlagMachineModel", "service", "()V"⟩, prog_14_method_58_code, 12, none, (3, 76), 12),
  (⟨"FlagMachineModel", "set", "(IJ)Z"⟩, prog_14_method_64_code, 4, (some .boolean), (0, 0), 12),
  (⟨"FlagMachineModel", "setFlags", "(J)V"⟩, prog_14_method_38_code, 3, none, (0, 0), 12),
  (⟨"FlagMachineModel", "setPlace", "(II)V"⟩, prog_14_method_20_code, 3, none, (0, 0), 12)]
def tb_m11 : List am_M := [
  (⟨"FlagMachineModel", "setRegister", "(IIJ)V"⟩, prog_14_method_30_code, 5, none, (0, 0), 12),
  (⟨"FlagMachineModel", "shift", "(II)V"⟩, prog_14_method_49_code, 15, none, (4, 99), 12),
  (⟨"FlagMachineModel", "signed", "(JI)J"⟩, prog_14_method_25_code, 3, (some .long), (0, 0), 12),
  (⟨"FlagMachineModel", "single", "(II)V"⟩, prog_14_method_41_code, 8, none, (4, 99), 12),
  (⟨"FlagMachineModel", "sizeFits", "()Z"⟩, prog_14_method_14_code, 4, (some .boolean), (0, 0), 12),
  (⟨"FlagMachineModel", "spread", "(II)V"⟩, prog_14_method_53_code, 5, none, (1, 24), 12),
  (⟨"FlagMachineModel", "step", "(I)I"⟩, prog_14_method_61_code, 7, (some .int), (6, 160), 12),
  (⟨"FlagMachineModel", "stopWith", "(IJ)V"⟩, prog_14_method_21_code, 4, none, (0, 0), 12),
  (⟨"FlagMachineModel", "store", "(JIJ)V"⟩, prog_14_method_23_code, 7, none, (2, 49), 12),
  (⟨"FlagMachineModel", "strings", "(II)V"⟩, prog_14_method_56_code, 7, none, (3, 76), 12),
  (⟨"FlagMachineModel", "subtract", "(JJZI)J"⟩, prog_14_method_35_code, 9, (some .long), (2, 47), 12),
  (⟨"FlagMachineModel", "take", "(II)J"⟩, prog_14_method_29_code, 4, (some .long), (3, 76), 12),
  (⟨"FlagMachineModel", "together", "(II)V"⟩, prog_14_method_55_code, 9, none, (4, 99), 12),
  (⟨"FlagMachineModel", "upper", "(JI)J"⟩, prog_14_method_32_code, 3, (some .long), (0, 0), 12),
  (⟨"FlagMachineModel", "value", "()J"⟩, prog_14_method_62_code, 1, (some .long), (0, 0), 12),
  (⟨"FlagMachineModel", "zsp", "(JI)V"⟩, prog_14_method_33_code, 6, none, (1, 22), 12)]
def tb_m12 : List am_M := [
  (⟨"java/lang/Long", "bitCount", "(J)I"⟩, prog_15_method_50_code, 2, (some .int), (0, 0), 14),
  (⟨"java/util/Arrays", "fill", "([BB)V"⟩, prog_18_method_109_code, 4, none, (0, 0), 15),
  (⟨"java/util/Arrays", "fill", "([BIIB)V"⟩, prog_18_method_110_code, 5, none, (1, 22), 15),
  (⟨"java/util/Arrays", "fill", "([JJ)V"⟩, prog_18_method_101_code, 5, none, (0, 0), 15),
  (⟨"java/util/Arrays", "rangeCheck", "(III)V"⟩, prog_18_method_30_code, 3, none, (0, 0), 15)]
def tb_ms : List (List am_M) := [tb_m0, tb_m1, tb_m2, tb_m3, tb_m4, tb_m5, tb_m6, tb_m7, tb_m8, tb_m9, tb_m10, tb_m11, tb_m12]
def tb_mt (j : Nat) : am_M := (tb_ms.getD (j / 16) []).getD (j % 16) (⟨"", "", ""⟩, ⟨#[]⟩, 0, none, (0, 0), 0)
def tb_js : List (List (Nat × Nat)) := [[(0, 1), (1, 1), (2, 7), (0, 2), (2, 3), (2, 2), (2, 3), (0, 1), (2, 5), (2, 2), (2, 4), (2, 4), (2, 2), (2, 2), (2, 3), (2, 2)], [(2, 3), (0, 2), (2, 2), (0, 1), (2, 1), (1, 2), (0, 1), (0, 1), (2, 5), (2, 2), (2, 2), (2, 2), (0, 3), (2, 1), (2, 1), (1, 2)], [(2, 3), (2, 3), (2, 1), (2, 3), (2, 2), (2, 4), (2, 2), (2, 4), (2, 1), (2, 3), (2, 4), (1, 1), (2, 1), (2, 1), (2, 2), (2, 2)], [(2, 3), (2, 5), (2, 2), (2, 3), (2, 5), (1, 1), (2, 1), (2, 2), (0, 1), (2, 1), (2, 1), (2, 1), (2, 2), (2, 1), (2, 1), (2, 1)], [(2, 1), (1, 1), (2, 1), (2, 4), (2, 7), (2, 3), (2, 2), (2, 4), (0, 1), (1, 2), (2, 2), (2, 1), (2, 1), (2, 2), (2, 1), (2, 2)], [(2, 3), (2, 2), (2, 1), (2, 1), (2, 1), (2, 1), (2, 2), (1, 3), (1, 2), (2, 2), (2, 3), (2, 3), (0, 2), (2, 5), (2, 1), (2, 2)], [(2, 2), (2, 3), (0, 2), (1, 2), (2, 3), (2, 3), (2, 2), (2, 1), (2, 1), (2, 3), (1, 2), (2, 3), (2, 2), (2, 1), (2, 3), (2, 3)], [(2, 5), (2, 5), (2, 2), (2, 2), (2, 3), (2, 4), (0, 1), (2, 3), (1, 2), (2, 1), (2, 2), (2, 4), (2, 5), (1, 1), (2, 5), (2, 1)], [(2, 7), (2, 3), (2, 7), (0, 2), (2, 3), (2, 2), (2, 2), (0, 2), (2, 3), (2, 4), (2, 3), (2, 3), (2, 1), (2, 2), (2, 1), (0, 2)], [(0, 2), (2, 3), (2, 2), (2, 2), (2, 4), (2, 2), (2, 1), (2, 2), (2, 3), (2, 4), (2, 5), (2, 1), (2, 3), (2, 3), (2, 2), (2, 4)], [(2, 4), (2, 1), (2, 2), (2, 2), (2, 1), (2, 3), (2, 1), (2, 2), (2, 2), (2, 4), (2, 2), (2, 2), (2, 1), (2, 3), (2, 2), (2, 3)], [(2, 4), (2, 3), (0, 2), (2, 3), (2, 1), (2, 3), (2, 2), (2, 3), (2, 4), (2, 3), (2, 5), (2, 3), (2, 3), (0, 2), (2, 1), (2, 3)], [(0, 1), (0, 2), (0, 4), (0, 2), (0, 3)]]
def tb_mj (j : Nat) : Nat × Nat := (tb_js.getD (j / 16) []).getD (j % 16) (0, 0)
abbrev tb_nM : Nat := 197
end
section
/-! PRINTED by wip/tools/gen.py: the code -/
/- 0: FlagMachineLaw.law([I)Z -/
noncomputable def tb_c0 : List (List (Nat × am_I)) := [[(0, (3, .new 7, 3, 0, 0, .null, [], none)),
  (3, (0, .dup, 1, 0, 0, .null, [], none)),
  (4, (4, .invokespecial 9, 3, 1, 1, .null, [], none)),
  (7, (1, .astore_n 1, 1, 0, 0, .null, [], none)),
  (8, (3, .new 10, 3, 12, 0, .null, [], none)),
  (11, (0, .dup, 1, 0, 0, .null, [], none)),
  (12, (4, .invokespecial 12, 3, 125, 1, .null, [], none)),
  (15, (1, .astore_n 2, 1, 0, 0, .null, [], none)),
  (16, (0, .iconst 0, 1, 0, 0, (.int 0), [], none)),
  (17, (1, .istore_n 3, 1, 0, 0, .null, [], none)),
  (18, (1, .iload_n 3, 1, 0, 0, .null, [], some [0, 1, 2, 3])),
  (19, (1, .aload_n 0, 1, 0, 0, .null, [], none)),
  (20, (3, .arraylength, 1, 0, 0, .null, [], none)),
  (21, (0, .bipush 7, 2, 0, 0, (.int 7), [], none)),
  (23, (0, .isub, 1, 0, 0, .null, [], none)),
  (24, (2, .if_icmp .gt 732, 3, 756, 0, .null, [], none)),
  (27, (1, .aload_n 0, 1, 0, 0, .null, [], none)),
  (28, (1, .iload_n 3, 1, 0, 0, .null, [], none)),
  (29, (3, .iaload, 1, 0, 0, .null, [], none)),
  (30, (0, .bipush 15, 2, 0, 0, (.int 15), [], none))],
 [(32, (0, .iand, 1, 0, 0, .null, [], none)),
  (33, (2, .tableswitch 717 0 13 #[71, 146, 207, 248, 291, 342, 393, 416, 429, 452, 515, 578, 601, 654], 71, 750, 0, .null, [(0, 104), (1, 179), (2, 240), (3, 281), (4, 324), (5, 375), (6, 426), (7, 449), (8, 462), (9, 485), (10, 548), (11, 611), (12, 634), (13, 687)], none))],
 [],
 [(104, (1, .aload_n 1, 1, 0, 0, .null, [], none)),
  (105, (1, .aload_n 0, 1, 0, 0, .null, [], none)),
  (106, (1, .iload_n 3, 1, 0, 0, .null, [], none)),
  (107, (0, .iconst 1, 1, 0, 0, (.int 1), [], none)),
  (108, (0, .iadd, 1, 0, 0, .null, [], none)),
  (109, (3, .iaload, 1, 0, 0, .null, [], none)),
  (110, (1, .aload_n 0, 1, 0, 0, .null, [], none)),
  (111, (1, .iload_n 3, 1, 0, 0, .null, [], none)),
  (112, (0, .iconst 2, 1, 0, 0, (.int 2), [], none)),
  (113, (0, .iadd, 1, 0, 0, .null, [], none)),
  (114, (3, .iaload, 1, 0, 0, .null, [], none)),
  (115, (1, .aload_n 0, 1, 0, 0, .null, [], none)),
  (116, (1, .iload_n 3, 1, 0, 0, .null, [], none)),
  (117, (0, .iconst 3, 1, 0, 0, (.int 3), [], none)),
  (118, (0, .iadd, 1, 0, 0, .null, [], none)),
  (119, (3, .iaload, 1, 0, 0, .null, [], none)),
  (120, (1, .aload_n 0, 1, 0, 0, .null, [], none)),
  (121, (1, .iload_n 3, 1, 0, 0, .null, [], none)),
  (122, (0, .iconst 4, 1, 0, 0, (.int 4), [], none)),
  (123, (0, .iadd, 1, 0, 0, .null, [], none)),
  (124, (3, .iaload, 1, 0, 0, .null, [], none)),
  (125, (1, .aload_n 0, 1, 0, 0, .null, [], none)),
  (126, (1, .iload_n 3, 1, 0, 0, .null, [], none)),
  (127, (0, .iconst 5, 1, 0, 0, (.int 5), [], none))],
 [(128, (0, .iadd, 1, 0, 0, .null, [], none)),
  (129, (3, .iaload, 1, 0, 0, .null, [], none)),
  (130, (1, .aload_n 0, 1, 0, 0, .null, [], none)),
  (131, (1, .iload_n 3, 1, 0, 0, .null, [], none)),
  (132, (0, .bipush 6, 2, 0, 0, (.int 6), [], none)),
  (134, (0, .iadd, 1, 0, 0, .null, [], none)),
  (135, (3, .iaload, 1, 0, 0, .null, [], none)),
  (136, (4, .invokevirtual 13, 3, 2, 7, .null, [], none)),
  (139, (1, .aload_n 2, 1, 0, 0, .null, [], none)),
  (140, (1, .aload_n 0, 1, 0, 0, .null, [], none)),
  (141, (1, .iload_n 3, 1, 0, 0, .null, [], none)),
  (142, (0, .iconst 1, 1, 0, 0, (.int 1), [], none)),
  (143, (0, .iadd, 1, 0, 0, .null, [], none)),
  (144, (3, .iaload, 1, 0, 0, .null, [], none)),
  (145, (1, .aload_n 0, 1, 0, 0, .null, [], none)),
  (146, (1, .iload_n 3, 1, 0, 0, .null, [], none)),
  (147, (0, .iconst 2, 1, 0, 0, (.int 2), [], none)),
  (148, (0, .iadd, 1, 0, 0, .null, [], none)),
  (149, (3, .iaload, 1, 0, 0, .null, [], none)),
  (150, (1, .aload_n 0, 1, 0, 0, .null, [], none)),
  (151, (1, .iload_n 3, 1, 0, 0, .null, [], none)),
  (152, (0, .iconst 3, 1, 0, 0, (.int 3), [], none)),
  (153, (0, .iadd, 1, 0, 0, .null, [], none)),
  (154, (3, .iaload, 1, 0, 0, .null, [], none)),
  (155, (1, .aload_n 0, 1, 0, 0, .null, [], none)),
  (156, (1, .iload_n 3, 1, 0, 0, .null, [], none)),
  (157, (0, .iconst 4, 1, 0, 0, (.int 4), [], none)),
  (158, (0, .iadd, 1, 0, 0, .null, [], none)),
  (159, (3, .iaload, 1, 0, 0, .null, [], none))],
 [(160, (1, .aload_n 0, 1, 0, 0, .null, [], none)),
  (161, (1, .iload_n 3, 1, 0, 0, .null, [], none)),
  (162, (0, .iconst 5, 1, 0, 0, (.int 5), [], none)),
  (163, (0, .iadd, 1, 0, 0, .null, [], none)),
  (164, (3, .iaload, 1, 0, 0, .null, [], none)),
  (165, (1, .aload_n 0, 1, 0, 0, .null, [], none)),
  (166, (1, .iload_n 3, 1, 0, 0, .null, [], none)),
  (167, (0, .bipush 6, 2, 0, 0, (.int 6), [], none)),
  (169, (0, .iadd, 1, 0, 0, .null, [], none)),
  (170, (3, .iaload, 1, 0, 0, .null, [], none)),
  (171, (4, .invokevirtual 17, 3, 130, 7, .null, [], none)),
  (174, (2, .if_icmp .eq 576, 3, 750, 0, .null, [], none)),
  (177, (0, .iconst 0, 1, 0, 0, (.int 0), [], none)),
  (178, (5, .ireturn, 1, 0, 0, .null, [], none)),
  (179, (1, .aload_n 1, 1, 0, 0, .null, [], none)),
  (180, (1, .aload_n 0, 1, 0, 0, .null, [], none)),
  (181, (1, .iload_n 3, 1, 0, 0, .null, [], none)),
  (182, (0, .iconst 1, 1, 0, 0, (.int 1), [], none)),
  (183, (0, .iadd, 1, 0, 0, .null, [], none)),
  (184, (3, .iaload, 1, 0, 0, .null, [], none)),
  (185, (1, .aload_n 0, 1, 0, 0, .null, [], none)),
  (186, (1, .iload_n 3, 1, 0, 0, .null, [], none)),
  (187, (0, .iconst 2, 1, 0, 0, (.int 2), [], none)),
  (188, (0, .iadd, 1, 0, 0, .null, [], none)),
  (189, (3, .iaload, 1, 0, 0, .null, [], none)),
  (190, (0, .i2l, 1, 0, 0, .null, [], none)),
  (191, (0, .bipush 32, 2, 0, 0, (.int 32), [], none))],
 [(193, (0, .lshl, 1, 0, 0, .null, [], none)),
  (194, (1, .aload_n 0, 1, 0, 0, .null, [], none)),
  (195, (1, .iload_n 3, 1, 0, 0, .null, [], none)),
  (196, (0, .iconst 3, 1, 0, 0, (.int 3), [], none)),
  (197, (0, .iadd, 1, 0, 0, .null, [], none)),
  (198, (3, .iaload, 1, 0, 0, .null, [], none)),
  (199, (0, .i2l, 1, 0, 0, .null, [], none)),
  (200, (0, .ldc2_w 18, 3, 0, 0, (.long 4294967295), [], none)),
  (203, (0, .land, 1, 0, 0, .null, [], none)),
  (204, (0, .lor, 1, 0, 0, .null, [], none)),
  (205, (4, .invokevirtual 20, 3, 4, 3, .null, [], none)),
  (208, (1, .aload_n 2, 1, 0, 0, .null, [], none)),
  (209, (1, .aload_n 0, 1, 0, 0, .null, [], none)),
  (210, (1, .iload_n 3, 1, 0, 0, .null, [], none)),
  (211, (0, .iconst 1, 1, 0, 0, (.int 1), [], none)),
  (212, (0, .iadd, 1, 0, 0, .null, [], none)),
  (213, (3, .iaload, 1, 0, 0, .null, [], none)),
  (214, (1, .aload_n 0, 1, 0, 0, .null, [], none)),
  (215, (1, .iload_n 3, 1, 0, 0, .null, [], none)),
  (216, (0, .iconst 2, 1, 0, 0, (.int 2), [], none)),
  (217, (0, .iadd, 1, 0, 0, .null, [], none)),
  (218, (3, .iaload, 1, 0, 0, .null, [], none)),
  (219, (0, .i2l, 1, 0, 0, .null, [], none)),
  (220, (0, .bipush 32, 2, 0, 0, (.int 32), [], none)),
  (222, (0, .lshl, 1, 0, 0, .null, [], none)),
  (223, (1, .aload_n 0, 1, 0, 0, .null, [], none))],
 [(224, (1, .iload_n 3, 1, 0, 0, .null, [], none)),
  (225, (0, .iconst 3, 1, 0, 0, (.int 3), [], none)),
  (226, (0, .iadd, 1, 0, 0, .null, [], none)),
  (227, (3, .iaload, 1, 0, 0, .null, [], none)),
  (228, (0, .i2l, 1, 0, 0, .null, [], none)),
  (229, (0, .ldc2_w 18, 3, 0, 0, (.long 4294967295), [], none)),
  (232, (0, .land, 1, 0, 0, .null, [], none)),
  (233, (0, .lor, 1, 0, 0, .null, [], none)),
  (234, (4, .invokevirtual 24, 3, 138, 3, .null, [], none)),
  (237, (2, .goto 513, 3, 750, 0, .null, [], none)),
  (240, (1, .aload_n 1, 1, 0, 0, .null, [], none)),
  (241, (1, .aload_n 0, 1, 0, 0, .null, [], none)),
  (242, (1, .iload_n 3, 1, 0, 0, .null, [], none)),
  (243, (0, .iconst 1, 1, 0, 0, (.int 1), [], none)),
  (244, (0, .iadd, 1, 0, 0, .null, [], none)),
  (245, (3, .iaload, 1, 0, 0, .null, [], none)),
  (246, (1, .aload_n 0, 1, 0, 0, .null, [], none)),
  (247, (1, .iload_n 3, 1, 0, 0, .null, [], none)),
  (248, (0, .iconst 2, 1, 0, 0, (.int 2), [], none)),
  (249, (0, .iadd, 1, 0, 0, .null, [], none)),
  (250, (3, .iaload, 1, 0, 0, .null, [], none)),
  (251, (1, .aload_n 0, 1, 0, 0, .null, [], none)),
  (252, (1, .iload_n 3, 1, 0, 0, .null, [], none)),
  (253, (0, .iconst 3, 1, 0, 0, (.int 3), [], none)),
  (254, (0, .iadd, 1, 0, 0, .null, [], none)),
  (255, (3, .iaload, 1, 0, 0, .null, [], none))],
 [(256, (4, .invokevirtual 25, 3, 10, 4, .null, [], none)),
  (259, (1, .aload_n 2, 1, 0, 0, .null, [], none)),
  (260, (1, .aload_n 0, 1, 0, 0, .null, [], none)),
  (261, (1, .iload_n 3, 1, 0, 0, .null, [], none)),
  (262, (0, .iconst 1, 1, 0, 0, (.int 1), [], none)),
  (263, (0, .iadd, 1, 0, 0, .null, [], none)),
  (264, (3, .iaload, 1, 0, 0, .null, [], none)),
  (265, (1, .aload_n 0, 1, 0, 0, .null, [], none)),
  (266, (1, .iload_n 3, 1, 0, 0, .null, [], none)),
  (267, (0, .iconst 2, 1, 0, 0, (.int 2), [], none)),
  (268, (0, .iadd, 1, 0, 0, .null, [], none)),
  (269, (3, .iaload, 1, 0, 0, .null, [], none)),
  (270, (1, .aload_n 0, 1, 0, 0, .null, [], none)),
  (271, (1, .iload_n 3, 1, 0, 0, .null, [], none)),
  (272, (0, .iconst 3, 1, 0, 0, (.int 3), [], none)),
  (273, (0, .iadd, 1, 0, 0, .null, [], none)),
  (274, (3, .iaload, 1, 0, 0, .null, [], none)),
  (275, (4, .invokevirtual 29, 3, 159, 4, .null, [], none)),
  (278, (2, .goto 472, 3, 750, 0, .null, [], none)),
  (281, (1, .aload_n 1, 1, 0, 0, .null, [], none)),
  (282, (1, .aload_n 0, 1, 0, 0, .null, [], none)),
  (283, (1, .iload_n 3, 1, 0, 0, .null, [], none)),
  (284, (0, .iconst 1, 1, 0, 0, (.int 1), [], none)),
  (285, (0, .iadd, 1, 0, 0, .null, [], none)),
  (286, (3, .iaload, 1, 0, 0, .null, [], none)),
  (287, (1, .aload_n 0, 1, 0, 0, .null, [], none))],
 [(288, (1, .iload_n 3, 1, 0, 0, .null, [], none)),
  (289, (0, .iconst 2, 1, 0, 0, (.int 2), [], none)),
  (290, (0, .iadd, 1, 0, 0, .null, [], none)),
  (291, (3, .iaload, 1, 0, 0, .null, [], none)),
  (292, (1, .aload_n 0, 1, 0, 0, .null, [], none)),
  (293, (1, .iload_n 3, 1, 0, 0, .null, [], none)),
  (294, (0, .iconst 3, 1, 0, 0, (.int 3), [], none)),
  (295, (0, .iadd, 1, 0, 0, .null, [], none)),
  (296, (3, .iaload, 1, 0, 0, .null, [], none)),
  (297, (4, .invokevirtual 30, 3, 11, 4, .null, [], none)),
  (300, (0, .pop, 1, 0, 0, .null, [], none)),
  (301, (1, .aload_n 2, 1, 0, 0, .null, [], none)),
  (302, (1, .aload_n 0, 1, 0, 0, .null, [], none)),
  (303, (1, .iload_n 3, 1, 0, 0, .null, [], none)),
  (304, (0, .iconst 1, 1, 0, 0, (.int 1), [], none)),
  (305, (0, .iadd, 1, 0, 0, .null, [], none)),
  (306, (3, .iaload, 1, 0, 0, .null, [], none)),
  (307, (1, .aload_n 0, 1, 0, 0, .null, [], none)),
  (308, (1, .iload_n 3, 1, 0, 0, .null, [], none)),
  (309, (0, .iconst 2, 1, 0, 0, (.int 2), [], none)),
  (310, (0, .iadd, 1, 0, 0, .null, [], none)),
  (311, (3, .iaload, 1, 0, 0, .null, [], none)),
  (312, (1, .aload_n 0, 1, 0, 0, .null, [], none)),
  (313, (1, .iload_n 3, 1, 0, 0, .null, [], none)),
  (314, (0, .iconst 3, 1, 0, 0, (.int 3), [], none)),
  (315, (0, .iadd, 1, 0, 0, .null, [], none)),
  (316, (3, .iaload, 1, 0, 0, .null, [], none)),
  (317, (4, .invokevirtual 34, 3, 160, 4, .null, [], none))],
 [(320, (0, .pop, 1, 0, 0, .null, [], none)),
  (321, (2, .goto 429, 3, 750, 0, .null, [], none)),
  (324, (1, .aload_n 1, 1, 0, 0, .null, [], none)),
  (325, (1, .aload_n 0, 1, 0, 0, .null, [], none)),
  (326, (1, .iload_n 3, 1, 0, 0, .null, [], none)),
  (327, (0, .iconst 1, 1, 0, 0, (.int 1), [], none)),
  (328, (0, .iadd, 1, 0, 0, .null, [], none)),
  (329, (3, .iaload, 1, 0, 0, .null, [], none)),
  (330, (1, .aload_n 0, 1, 0, 0, .null, [], none)),
  (331, (1, .iload_n 3, 1, 0, 0, .null, [], none)),
  (332, (0, .iconst 2, 1, 0, 0, (.int 2), [], none)),
  (333, (0, .iadd, 1, 0, 0, .null, [], none)),
  (334, (3, .iaload, 1, 0, 0, .null, [], none)),
  (335, (1, .aload_n 0, 1, 0, 0, .null, [], none)),
  (336, (1, .iload_n 3, 1, 0, 0, .null, [], none)),
  (337, (0, .iconst 3, 1, 0, 0, (.int 3), [], none)),
  (338, (0, .iadd, 1, 0, 0, .null, [], none)),
  (339, (3, .iaload, 1, 0, 0, .null, [], none)),
  (340, (1, .aload_n 0, 1, 0, 0, .null, [], none)),
  (341, (1, .iload_n 3, 1, 0, 0, .null, [], none)),
  (342, (0, .iconst 4, 1, 0, 0, (.int 4), [], none)),
  (343, (0, .iadd, 1, 0, 0, .null, [], none)),
  (344, (3, .iaload, 1, 0, 0, .null, [], none)),
  (345, (4, .invokevirtual 35, 3, 8, 5, .null, [], none)),
  (348, (1, .aload_n 2, 1, 0, 0, .null, [], none)),
  (349, (1, .aload_n 0, 1, 0, 0, .null, [], none)),
  (350, (1, .iload_n 3, 1, 0, 0, .null, [], none)),
  (351, (0, .iconst 1, 1, 0, 0, (.int 1), [], none))],
 [(352, (0, .iadd, 1, 0, 0, .null, [], none)),
  (353, (3, .iaload, 1, 0, 0, .null, [], none)),
  (354, (1, .aload_n 0, 1, 0, 0, .null, [], none)),
  (355, (1, .iload_n 3, 1, 0, 0, .null, [], none)),
  (356, (0, .iconst 2, 1, 0, 0, (.int 2), [], none)),
  (357, (0, .iadd, 1, 0, 0, .null, [], none)),
  (358, (3, .iaload, 1, 0, 0, .null, [], none)),
  (359, (1, .aload_n 0, 1, 0, 0, .null, [], none)),
  (360, (1, .iload_n 3, 1, 0, 0, .null, [], none)),
  (361, (0, .iconst 3, 1, 0, 0, (.int 3), [], none)),
  (362, (0, .iadd, 1, 0, 0, .null, [], none)),
  (363, (3, .iaload, 1, 0, 0, .null, [], none)),
  (364, (1, .aload_n 0, 1, 0, 0, .null, [], none)),
  (365, (1, .iload_n 3, 1, 0, 0, .null, [], none)),
  (366, (0, .iconst 4, 1, 0, 0, (.int 4), [], none)),
  (367, (0, .iadd, 1, 0, 0, .null, [], none)),
  (368, (3, .iaload, 1, 0, 0, .null, [], none)),
  (369, (4, .invokevirtual 39, 3, 154, 5, .null, [], none)),
  (372, (2, .goto 378, 3, 750, 0, .null, [], none)),
  (375, (1, .aload_n 1, 1, 0, 0, .null, [], none)),
  (376, (1, .aload_n 0, 1, 0, 0, .null, [], none)),
  (377, (1, .iload_n 3, 1, 0, 0, .null, [], none)),
  (378, (0, .iconst 1, 1, 0, 0, (.int 1), [], none)),
  (379, (0, .iadd, 1, 0, 0, .null, [], none)),
  (380, (3, .iaload, 1, 0, 0, .null, [], none)),
  (381, (0, .i2l, 1, 0, 0, .null, [], none)),
  (382, (0, .bipush 32, 2, 0, 0, (.int 32), [], none))],
 [(384, (0, .lshl, 1, 0, 0, .null, [], none)),
  (385, (1, .aload_n 0, 1, 0, 0, .null, [], none)),
  (386, (1, .iload_n 3, 1, 0, 0, .null, [], none)),
  (387, (0, .iconst 2, 1, 0, 0, (.int 2), [], none)),
  (388, (0, .iadd, 1, 0, 0, .null, [], none)),
  (389, (3, .iaload, 1, 0, 0, .null, [], none)),
  (390, (0, .i2l, 1, 0, 0, .null, [], none)),
  (391, (0, .ldc2_w 18, 3, 0, 0, (.long 4294967295), [], none)),
  (394, (0, .land, 1, 0, 0, .null, [], none)),
  (395, (0, .lor, 1, 0, 0, .null, [], none)),
  (396, (4, .invokevirtual 40, 3, 9, 2, .null, [], none)),
  (399, (1, .aload_n 2, 1, 0, 0, .null, [], none)),
  (400, (1, .aload_n 0, 1, 0, 0, .null, [], none)),
  (401, (1, .iload_n 3, 1, 0, 0, .null, [], none)),
  (402, (0, .iconst 1, 1, 0, 0, (.int 1), [], none)),
  (403, (0, .iadd, 1, 0, 0, .null, [], none)),
  (404, (3, .iaload, 1, 0, 0, .null, [], none)),
  (405, (0, .i2l, 1, 0, 0, .null, [], none)),
  (406, (0, .bipush 32, 2, 0, 0, (.int 32), [], none)),
  (408, (0, .lshl, 1, 0, 0, .null, [], none)),
  (409, (1, .aload_n 0, 1, 0, 0, .null, [], none)),
  (410, (1, .iload_n 3, 1, 0, 0, .null, [], none)),
  (411, (0, .iconst 2, 1, 0, 0, (.int 2), [], none)),
  (412, (0, .iadd, 1, 0, 0, .null, [], none)),
  (413, (3, .iaload, 1, 0, 0, .null, [], none)),
  (414, (0, .i2l, 1, 0, 0, .null, [], none)),
  (415, (0, .ldc2_w 18, 3, 0, 0, (.long 4294967295), [], none))],
 [(418, (0, .land, 1, 0, 0, .null, [], none)),
  (419, (0, .lor, 1, 0, 0, .null, [], none)),
  (420, (4, .invokevirtual 44, 3, 158, 2, .null, [], none)),
  (423, (2, .goto 327, 3, 750, 0, .null, [], none)),
  (426, (1, .aload_n 1, 1, 0, 0, .null, [], none)),
  (427, (1, .aload_n 0, 1, 0, 0, .null, [], none)),
  (428, (1, .iload_n 3, 1, 0, 0, .null, [], none)),
  (429, (0, .iconst 1, 1, 0, 0, (.int 1), [], none)),
  (430, (0, .iadd, 1, 0, 0, .null, [], none)),
  (431, (3, .iaload, 1, 0, 0, .null, [], none)),
  (432, (4, .invokevirtual 45, 3, 18, 2, .null, [], none)),
  (435, (0, .pop, 1, 0, 0, .null, [], none)),
  (436, (1, .aload_n 2, 1, 0, 0, .null, [], none)),
  (437, (1, .aload_n 0, 1, 0, 0, .null, [], none)),
  (438, (1, .iload_n 3, 1, 0, 0, .null, [], none)),
  (439, (0, .iconst 1, 1, 0, 0, (.int 1), [], none)),
  (440, (0, .iadd, 1, 0, 0, .null, [], none)),
  (441, (3, .iaload, 1, 0, 0, .null, [], none)),
  (442, (4, .invokevirtual 49, 3, 182, 2, .null, [], none)),
  (445, (0, .pop, 1, 0, 0, .null, [], none)),
  (446, (2, .goto 304, 3, 750, 0, .null, [], none))],
 [(449, (1, .aload_n 1, 1, 0, 0, .null, [], none)),
  (450, (4, .invokevirtual 50, 3, 20, 1, .null, [], none)),
  (453, (0, .pop2, 1, 0, 0, .null, [], none)),
  (454, (1, .aload_n 2, 1, 0, 0, .null, [], none)),
  (455, (4, .invokevirtual 54, 3, 190, 1, .null, [], none)),
  (458, (0, .pop2, 1, 0, 0, .null, [], none)),
  (459, (2, .goto 291, 3, 750, 0, .null, [], none)),
  (462, (1, .aload_n 1, 1, 0, 0, .null, [], none)),
  (463, (1, .aload_n 0, 1, 0, 0, .null, [], none)),
  (464, (1, .iload_n 3, 1, 0, 0, .null, [], none)),
  (465, (0, .iconst 1, 1, 0, 0, (.int 1), [], none)),
  (466, (0, .iadd, 1, 0, 0, .null, [], none)),
  (467, (3, .iaload, 1, 0, 0, .null, [], none)),
  (468, (4, .invokevirtual 55, 3, 15, 2, .null, [], none)),
  (471, (0, .pop2, 1, 0, 0, .null, [], none)),
  (472, (1, .aload_n 2, 1, 0, 0, .null, [], none)),
  (473, (1, .aload_n 0, 1, 0, 0, .null, [], none)),
  (474, (1, .iload_n 3, 1, 0, 0, .null, [], none)),
  (475, (0, .iconst 1, 1, 0, 0, (.int 1), [], none)),
  (476, (0, .iadd, 1, 0, 0, .null, [], none)),
  (477, (3, .iaload, 1, 0, 0, .null, [], none)),
  (478, (4, .invokevirtual 59, 3, 170, 2, .null, [], none))],
 [(481, (0, .pop2, 1, 0, 0, .null, [], none)),
  (482, (2, .goto 268, 3, 750, 0, .null, [], none)),
  (485, (1, .aload_n 1, 1, 0, 0, .null, [], none)),
  (486, (1, .aload_n 0, 1, 0, 0, .null, [], none)),
  (487, (1, .iload_n 3, 1, 0, 0, .null, [], none)),
  (488, (0, .iconst 1, 1, 0, 0, (.int 1), [], none)),
  (489, (0, .iadd, 1, 0, 0, .null, [], none)),
  (490, (3, .iaload, 1, 0, 0, .null, [], none)),
  (491, (1, .aload_n 0, 1, 0, 0, .null, [], none)),
  (492, (1, .iload_n 3, 1, 0, 0, .null, [], none)),
  (493, (0, .iconst 2, 1, 0, 0, (.int 2), [], none)),
  (494, (0, .iadd, 1, 0, 0, .null, [], none)),
  (495, (3, .iaload, 1, 0, 0, .null, [], none)),
  (496, (0, .i2l, 1, 0, 0, .null, [], none)),
  (497, (0, .bipush 32, 2, 0, 0, (.int 32), [], none)),
  (499, (0, .lshl, 1, 0, 0, .null, [], none)),
  (500, (1, .aload_n 0, 1, 0, 0, .null, [], none)),
  (501, (1, .iload_n 3, 1, 0, 0, .null, [], none)),
  (502, (0, .iconst 3, 1, 0, 0, (.int 3), [], none)),
  (503, (0, .iadd, 1, 0, 0, .null, [], none)),
  (504, (3, .iaload, 1, 0, 0, .null, [], none)),
  (505, (0, .i2l, 1, 0, 0, .null, [], none)),
  (506, (0, .ldc2_w 18, 3, 0, 0, (.long 4294967295), [], none)),
  (509, (0, .land, 1, 0, 0, .null, [], none)),
  (510, (0, .lor, 1, 0, 0, .null, [], none)),
  (511, (4, .invokevirtual 60, 3, 16, 3, .null, [], none))],
 [(514, (0, .pop, 1, 0, 0, .null, [], none)),
  (515, (1, .aload_n 2, 1, 0, 0, .null, [], none)),
  (516, (1, .aload_n 0, 1, 0, 0, .null, [], none)),
  (517, (1, .iload_n 3, 1, 0, 0, .null, [], none)),
  (518, (0, .iconst 1, 1, 0, 0, (.int 1), [], none)),
  (519, (0, .iadd, 1, 0, 0, .null, [], none)),
  (520, (3, .iaload, 1, 0, 0, .null, [], none)),
  (521, (1, .aload_n 0, 1, 0, 0, .null, [], none)),
  (522, (1, .iload_n 3, 1, 0, 0, .null, [], none)),
  (523, (0, .iconst 2, 1, 0, 0, (.int 2), [], none)),
  (524, (0, .iadd, 1, 0, 0, .null, [], none)),
  (525, (3, .iaload, 1, 0, 0, .null, [], none)),
  (526, (0, .i2l, 1, 0, 0, .null, [], none)),
  (527, (0, .bipush 32, 2, 0, 0, (.int 32), [], none)),
  (529, (0, .lshl, 1, 0, 0, .null, [], none)),
  (530, (1, .aload_n 0, 1, 0, 0, .null, [], none)),
  (531, (1, .iload_n 3, 1, 0, 0, .null, [], none)),
  (532, (0, .iconst 3, 1, 0, 0, (.int 3), [], none)),
  (533, (0, .iadd, 1, 0, 0, .null, [], none)),
  (534, (3, .iaload, 1, 0, 0, .null, [], none)),
  (535, (0, .i2l, 1, 0, 0, .null, [], none)),
  (536, (0, .ldc2_w 18, 3, 0, 0, (.long 4294967295), [], none)),
  (539, (0, .land, 1, 0, 0, .null, [], none)),
  (540, (0, .lor, 1, 0, 0, .null, [], none)),
  (541, (4, .invokevirtual 64, 3, 173, 3, .null, [], none))],
 [(544, (0, .pop, 1, 0, 0, .null, [], none)),
  (545, (2, .goto 205, 3, 750, 0, .null, [], none)),
  (548, (1, .aload_n 1, 1, 0, 0, .null, [], none)),
  (549, (1, .aload_n 0, 1, 0, 0, .null, [], none)),
  (550, (1, .iload_n 3, 1, 0, 0, .null, [], none)),
  (551, (0, .iconst 1, 1, 0, 0, (.int 1), [], none)),
  (552, (0, .iadd, 1, 0, 0, .null, [], none)),
  (553, (3, .iaload, 1, 0, 0, .null, [], none)),
  (554, (0, .i2l, 1, 0, 0, .null, [], none)),
  (555, (0, .bipush 32, 2, 0, 0, (.int 32), [], none)),
  (557, (0, .lshl, 1, 0, 0, .null, [], none)),
  (558, (1, .aload_n 0, 1, 0, 0, .null, [], none)),
  (559, (1, .iload_n 3, 1, 0, 0, .null, [], none)),
  (560, (0, .iconst 2, 1, 0, 0, (.int 2), [], none)),
  (561, (0, .iadd, 1, 0, 0, .null, [], none)),
  (562, (3, .iaload, 1, 0, 0, .null, [], none)),
  (563, (0, .i2l, 1, 0, 0, .null, [], none)),
  (564, (0, .ldc2_w 18, 3, 0, 0, (.long 4294967295), [], none)),
  (567, (0, .land, 1, 0, 0, .null, [], none)),
  (568, (0, .lor, 1, 0, 0, .null, [], none)),
  (569, (1, .aload_n 0, 1, 0, 0, .null, [], none)),
  (570, (1, .iload_n 3, 1, 0, 0, .null, [], none)),
  (571, (0, .iconst 3, 1, 0, 0, (.int 3), [], none)),
  (572, (0, .iadd, 1, 0, 0, .null, [], none)),
  (573, (3, .iaload, 1, 0, 0, .null, [], none)),
  (574, (4, .invokevirtual 65, 3, 6, 3, .null, [], none))],
 [(577, (0, .pop, 1, 0, 0, .null, [], none)),
  (578, (1, .aload_n 2, 1, 0, 0, .null, [], none)),
  (579, (1, .aload_n 0, 1, 0, 0, .null, [], none)),
  (580, (1, .iload_n 3, 1, 0, 0, .null, [], none)),
  (581, (0, .iconst 1, 1, 0, 0, (.int 1), [], none)),
  (582, (0, .iadd, 1, 0, 0, .null, [], none)),
  (583, (3, .iaload, 1, 0, 0, .null, [], none)),
  (584, (0, .i2l, 1, 0, 0, .null, [], none)),
  (585, (0, .bipush 32, 2, 0, 0, (.int 32), [], none)),
  (587, (0, .lshl, 1, 0, 0, .null, [], none)),
  (588, (1, .aload_n 0, 1, 0, 0, .null, [], none)),
  (589, (1, .iload_n 3, 1, 0, 0, .null, [], none)),
  (590, (0, .iconst 2, 1, 0, 0, (.int 2), [], none)),
  (591, (0, .iadd, 1, 0, 0, .null, [], none)),
  (592, (3, .iaload, 1, 0, 0, .null, [], none)),
  (593, (0, .i2l, 1, 0, 0, .null, [], none)),
  (594, (0, .ldc2_w 18, 3, 0, 0, (.long 4294967295), [], none)),
  (597, (0, .land, 1, 0, 0, .null, [], none)),
  (598, (0, .lor, 1, 0, 0, .null, [], none)),
  (599, (1, .aload_n 0, 1, 0, 0, .null, [], none)),
  (600, (1, .iload_n 3, 1, 0, 0, .null, [], none)),
  (601, (0, .iconst 3, 1, 0, 0, (.int 3), [], none)),
  (602, (0, .iadd, 1, 0, 0, .null, [], none)),
  (603, (3, .iaload, 1, 0, 0, .null, [], none)),
  (604, (4, .invokevirtual 69, 3, 145, 3, .null, [], none)),
  (607, (0, .pop, 1, 0, 0, .null, [], none))],
 [(608, (2, .goto 142, 3, 750, 0, .null, [], none)),
  (611, (1, .aload_n 1, 1, 0, 0, .null, [], none)),
  (612, (1, .aload_n 0, 1, 0, 0, .null, [], none)),
  (613, (1, .iload_n 3, 1, 0, 0, .null, [], none)),
  (614, (0, .iconst 1, 1, 0, 0, (.int 1), [], none)),
  (615, (0, .iadd, 1, 0, 0, .null, [], none)),
  (616, (3, .iaload, 1, 0, 0, .null, [], none)),
  (617, (4, .invokevirtual 70, 3, 12, 2, .null, [], none)),
  (620, (0, .pop, 1, 0, 0, .null, [], none)),
  (621, (1, .aload_n 2, 1, 0, 0, .null, [], none)),
  (622, (1, .aload_n 0, 1, 0, 0, .null, [], none)),
  (623, (1, .iload_n 3, 1, 0, 0, .null, [], none)),
  (624, (0, .iconst 1, 1, 0, 0, (.int 1), [], none)),
  (625, (0, .iadd, 1, 0, 0, .null, [], none)),
  (626, (3, .iaload, 1, 0, 0, .null, [], none)),
  (627, (4, .invokevirtual 73, 3, 162, 2, .null, [], none)),
  (630, (0, .pop, 1, 0, 0, .null, [], none)),
  (631, (2, .goto 119, 3, 750, 0, .null, [], none)),
  (634, (1, .aload_n 1, 1, 0, 0, .null, [], none)),
  (635, (1, .aload_n 0, 1, 0, 0, .null, [], none)),
  (636, (1, .iload_n 3, 1, 0, 0, .null, [], none)),
  (637, (0, .iconst 1, 1, 0, 0, (.int 1), [], none)),
  (638, (0, .iadd, 1, 0, 0, .null, [], none)),
  (639, (3, .iaload, 1, 0, 0, .null, [], none))],
 [(640, (0, .i2l, 1, 0, 0, .null, [], none)),
  (641, (0, .bipush 32, 2, 0, 0, (.int 32), [], none)),
  (643, (0, .lshl, 1, 0, 0, .null, [], none)),
  (644, (1, .aload_n 0, 1, 0, 0, .null, [], none)),
  (645, (1, .iload_n 3, 1, 0, 0, .null, [], none)),
  (646, (0, .iconst 2, 1, 0, 0, (.int 2), [], none)),
  (647, (0, .iadd, 1, 0, 0, .null, [], none)),
  (648, (3, .iaload, 1, 0, 0, .null, [], none)),
  (649, (0, .i2l, 1, 0, 0, .null, [], none)),
  (650, (0, .ldc2_w 18, 3, 0, 0, (.long 4294967295), [], none)),
  (653, (0, .land, 1, 0, 0, .null, [], none)),
  (654, (0, .lor, 1, 0, 0, .null, [], none)),
  (655, (4, .invokevirtual 74, 3, 13, 2, .null, [], none)),
  (658, (0, .pop, 1, 0, 0, .null, [], none)),
  (659, (1, .aload_n 2, 1, 0, 0, .null, [], none)),
  (660, (1, .aload_n 0, 1, 0, 0, .null, [], none)),
  (661, (1, .iload_n 3, 1, 0, 0, .null, [], none)),
  (662, (0, .iconst 1, 1, 0, 0, (.int 1), [], none)),
  (663, (0, .iadd, 1, 0, 0, .null, [], none)),
  (664, (3, .iaload, 1, 0, 0, .null, [], none)),
  (665, (0, .i2l, 1, 0, 0, .null, [], none)),
  (666, (0, .bipush 32, 2, 0, 0, (.int 32), [], none)),
  (668, (0, .lshl, 1, 0, 0, .null, [], none)),
  (669, (1, .aload_n 0, 1, 0, 0, .null, [], none)),
  (670, (1, .iload_n 3, 1, 0, 0, .null, [], none)),
  (671, (0, .iconst 2, 1, 0, 0, (.int 2), [], none))],
 [(672, (0, .iadd, 1, 0, 0, .null, [], none)),
  (673, (3, .iaload, 1, 0, 0, .null, [], none)),
  (674, (0, .i2l, 1, 0, 0, .null, [], none)),
  (675, (0, .ldc2_w 18, 3, 0, 0, (.long 4294967295), [], none)),
  (678, (0, .land, 1, 0, 0, .null, [], none)),
  (679, (0, .lor, 1, 0, 0, .null, [], none)),
  (680, (4, .invokevirtual 78, 3, 163, 2, .null, [], none)),
  (683, (0, .pop, 1, 0, 0, .null, [], none)),
  (684, (2, .goto 66, 3, 750, 0, .null, [], none)),
  (687, (1, .aload_n 1, 1, 0, 0, .null, [], none)),
  (688, (1, .aload_n 0, 1, 0, 0, .null, [], none)),
  (689, (1, .iload_n 3, 1, 0, 0, .null, [], none)),
  (690, (0, .iconst 1, 1, 0, 0, (.int 1), [], none)),
  (691, (0, .iadd, 1, 0, 0, .null, [], none)),
  (692, (3, .iaload, 1, 0, 0, .null, [], none)),
  (693, (0, .i2l, 1, 0, 0, .null, [], none)),
  (694, (0, .bipush 32, 2, 0, 0, (.int 32), [], none)),
  (696, (0, .lshl, 1, 0, 0, .null, [], none)),
  (697, (1, .aload_n 0, 1, 0, 0, .null, [], none)),
  (698, (1, .iload_n 3, 1, 0, 0, .null, [], none)),
  (699, (0, .iconst 2, 1, 0, 0, (.int 2), [], none)),
  (700, (0, .iadd, 1, 0, 0, .null, [], none)),
  (701, (3, .iaload, 1, 0, 0, .null, [], none)),
  (702, (0, .i2l, 1, 0, 0, .null, [], none)),
  (703, (0, .ldc2_w 18, 3, 0, 0, (.long 4294967295), [], none))],
 [(706, (0, .land, 1, 0, 0, .null, [], none)),
  (707, (0, .lor, 1, 0, 0, .null, [], none)),
  (708, (1, .aload_n 0, 1, 0, 0, .null, [], none)),
  (709, (1, .iload_n 3, 1, 0, 0, .null, [], none)),
  (710, (0, .iconst 3, 1, 0, 0, (.int 3), [], none)),
  (711, (0, .iadd, 1, 0, 0, .null, [], none)),
  (712, (3, .iaload, 1, 0, 0, .null, [], none)),
  (713, (4, .invokevirtual 79, 3, 14, 3, .null, [], none)),
  (716, (0, .pop, 1, 0, 0, .null, [], none)),
  (717, (1, .aload_n 2, 1, 0, 0, .null, [], none)),
  (718, (1, .aload_n 0, 1, 0, 0, .null, [], none)),
  (719, (1, .iload_n 3, 1, 0, 0, .null, [], none)),
  (720, (0, .iconst 1, 1, 0, 0, (.int 1), [], none)),
  (721, (0, .iadd, 1, 0, 0, .null, [], none)),
  (722, (3, .iaload, 1, 0, 0, .null, [], none)),
  (723, (0, .i2l, 1, 0, 0, .null, [], none)),
  (724, (0, .bipush 32, 2, 0, 0, (.int 32), [], none)),
  (726, (0, .lshl, 1, 0, 0, .null, [], none)),
  (727, (1, .aload_n 0, 1, 0, 0, .null, [], none)),
  (728, (1, .iload_n 3, 1, 0, 0, .null, [], none)),
  (729, (0, .iconst 2, 1, 0, 0, (.int 2), [], none)),
  (730, (0, .iadd, 1, 0, 0, .null, [], none)),
  (731, (3, .iaload, 1, 0, 0, .null, [], none)),
  (732, (0, .i2l, 1, 0, 0, .null, [], none)),
  (733, (0, .ldc2_w 18, 3, 0, 0, (.long 4294967295), [], none))],
 [(736, (0, .land, 1, 0, 0, .null, [], none)),
  (737, (0, .lor, 1, 0, 0, .null, [], none)),
  (738, (1, .aload_n 0, 1, 0, 0, .null, [], none)),
  (739, (1, .iload_n 3, 1, 0, 0, .null, [], none)),
  (740, (0, .iconst 3, 1, 0, 0, (.int 3), [], none)),
  (741, (0, .iadd, 1, 0, 0, .null, [], none)),
  (742, (3, .iaload, 1, 0, 0, .null, [], none)),
  (743, (4, .invokevirtual 82, 3, 165, 3, .null, [], none)),
  (746, (0, .pop, 1, 0, 0, .null, [], none)),
  (747, (2, .goto 3, 3, 750, 0, .null, [], none)),
  (750, (1, .iinc 3 7, 3, 0, 0, (.int 7), [], some [0, 1, 2, 3])),
  (753, (2, .goto (-735), 3, 18, 0, .null, [], none)),
  (756, (0, .iconst 1, 1, 0, 0, (.int 1), [], none)),
  (757, (5, .ireturn, 1, 0, 0, .null, [], none))]]
/- 1: FlagMachine.<init>()V -/
noncomputable def tb_c1 : List (List (Nat × am_I)) := [[(0, (1, .aload_n 0, 1, 0, 0, .null, [], none)),
  (1, (3, .invokespecial 1, 3, 0, 0, .null, [], none)),
  (4, (1, .aload_n 0, 1, 0, 0, .null, [], none)),
  (5, (3, .new 7, 3, 1, 0, .null, [], none)),
  (8, (0, .dup, 1, 0, 0, .null, [], none)),
  (9, (4, .invokespecial 9, 3, 53, 1, .null, [], none)),
  (12, (3, .putfield 10, 3, 0, 0, .null, [], none)),
  (15, (1, .aload_n 0, 1, 0, 0, .null, [], none)),
  (16, (3, .new 16, 3, 2, 0, .null, [], none)),
  (19, (0, .dup, 1, 0, 0, .null, [], none)),
  (20, (0, .ldc 18, 2, 0, 0, (.int 262144), [], none)),
  (22, (4, .invokespecial 19, 3, 106, 2, .null, [], none)),
  (25, (3, .putfield 22, 3, 0, 1, .null, [], none)),
  (28, (1, .aload_n 0, 1, 0, 0, .null, [], none)),
  (29, (3, .new 26, 3, 3, 0, .null, [], none))],
 [(32, (0, .dup, 1, 0, 0, .null, [], none)),
  (33, (1, .aload_n 0, 1, 0, 0, .null, [], none)),
  (34, (3, .getfield 10, 3, 0, 0, .null, [], none)),
  (37, (4, .invokespecial 28, 3, 31, 2, .null, [], none)),
  (40, (3, .putfield 31, 3, 0, 2, .null, [], none)),
  (43, (1, .aload_n 0, 1, 0, 0, .null, [], none)),
  (44, (3, .new 35, 3, 6, 0, .null, [], none)),
  (47, (0, .dup, 1, 0, 0, .null, [], none)),
  (48, (1, .aload_n 0, 1, 0, 0, .null, [], none)),
  (49, (3, .getfield 31, 3, 0, 2, .null, [], none)),
  (52, (4, .invokespecial 37, 3, 120, 2, .null, [], none)),
  (55, (3, .putfield 40, 3, 0, 3, .null, [], none)),
  (58, (1, .aload_n 0, 1, 0, 0, .null, [], none)),
  (59, (3, .new 44, 3, 7, 0, .null, [], none)),
  (62, (0, .dup, 1, 0, 0, .null, [], none)),
  (63, (1, .aload_n 0, 1, 0, 0, .null, [], none))],
 [(64, (3, .getfield 31, 3, 0, 2, .null, [], none)),
  (67, (4, .invokespecial 46, 3, 88, 2, .null, [], none)),
  (70, (3, .putfield 47, 3, 0, 4, .null, [], none)),
  (73, (1, .aload_n 0, 1, 0, 0, .null, [], none)),
  (74, (3, .new 51, 3, 8, 0, .null, [], none)),
  (77, (0, .dup, 1, 0, 0, .null, [], none)),
  (78, (1, .aload_n 0, 1, 0, 0, .null, [], none)),
  (79, (3, .getfield 31, 3, 0, 2, .null, [], none)),
  (82, (4, .invokespecial 53, 3, 21, 2, .null, [], none)),
  (85, (3, .putfield 54, 3, 0, 5, .null, [], none)),
  (88, (1, .aload_n 0, 1, 0, 0, .null, [], none)),
  (89, (3, .new 58, 3, 9, 0, .null, [], none)),
  (92, (0, .dup, 1, 0, 0, .null, [], none)),
  (93, (1, .aload_n 0, 1, 0, 0, .null, [], none)),
  (94, (3, .getfield 31, 3, 0, 2, .null, [], none))],
 [(97, (4, .invokespecial 60, 3, 73, 2, .null, [], none)),
  (100, (3, .putfield 61, 3, 0, 6, .null, [], none)),
  (103, (1, .aload_n 0, 1, 0, 0, .null, [], none)),
  (104, (3, .new 65, 3, 10, 0, .null, [], none)),
  (107, (0, .dup, 1, 0, 0, .null, [], none)),
  (108, (1, .aload_n 0, 1, 0, 0, .null, [], none)),
  (109, (3, .getfield 31, 3, 0, 2, .null, [], none)),
  (112, (4, .invokespecial 67, 3, 99, 2, .null, [], none)),
  (115, (3, .putfield 68, 3, 0, 7, .null, [], none)),
  (118, (1, .aload_n 0, 1, 0, 0, .null, [], none)),
  (119, (0, .iconst 0, 1, 0, 0, (.int 0), [], none)),
  (120, (0, .iconst 0, 1, 0, 0, (.int 0), [], none)),
  (121, (0, .iconst 0, 1, 0, 0, (.int 0), [], none)),
  (122, (0, .iconst 0, 1, 0, 0, (.int 0), [], none)),
  (123, (0, .iconst 0, 1, 0, 0, (.int 0), [], none)),
  (124, (0, .iconst 0, 1, 0, 0, (.int 0), [], none)),
  (125, (4, .invokevirtual 72, 3, 2, 7, .null, [], none))],
 [(128, (0, .pop, 1, 0, 0, .null, [], none)),
  (129, (5, .return_, 1, 0, 0, .null, [], none))]]
/- 2: FlagMachine.begin(IIIIII)Z -/
noncomputable def tb_c2 : List (List (Nat × am_I)) := [[(0, (0, .iconst 0, 1, 0, 0, (.int 0), [], none)),
  (1, (1, .iload_n 2, 1, 0, 0, .null, [], none)),
  (2, (2, .if_icmp .gt 32, 3, 34, 0, .null, [], none)),
  (5, (1, .iload_n 2, 1, 0, 0, .null, [], none)),
  (6, (1, .iload_n 3, 1, 0, 0, .null, [], none)),
  (7, (2, .if_icmp .gt 27, 3, 34, 0, .null, [], none)),
  (10, (1, .iload_n 3, 1, 0, 0, .null, [], none)),
  (11, (1, .iload 4, 2, 0, 0, .null, [], none)),
  (13, (2, .if_icmp .gt 21, 3, 34, 0, .null, [], none)),
  (16, (1, .iload 4, 2, 0, 0, .null, [], none)),
  (18, (1, .iload 5, 2, 0, 0, .null, [], none)),
  (20, (2, .if_icmp .gt 14, 3, 34, 0, .null, [], none)),
  (23, (1, .iload 5, 2, 0, 0, .null, [], none)),
  (25, (1, .iload 6, 2, 0, 0, .null, [], none)),
  (27, (2, .if_icmp .gt 7, 3, 34, 0, .null, [], none)),
  (30, (0, .iconst 1, 1, 0, 0, (.int 1), [], none)),
  (31, (2, .goto 4, 3, 35, 0, .null, [], none))],
 [(34, (0, .iconst 0, 1, 0, 0, (.int 0), [], some [0, 1, 2, 3, 4, 5, 6])),
  (35, (1, .istore 7, 2, 0, 0, .null, [], some [0, 1, 2, 3, 4, 5, 6])),
  (37, (1, .iload 7, 2, 0, 0, .null, [], none)),
  (39, (2, .ifCond .eq 15, 3, 54, 0, .null, [], none)),
  (42, (1, .iload 6, 2, 0, 0, .null, [], none)),
  (44, (1, .iload_n 1, 1, 0, 0, .null, [], none)),
  (45, (2, .if_icmp .gt 9, 3, 54, 0, .null, [], none)),
  (48, (1, .iload_n 1, 1, 0, 0, .null, [], none)),
  (49, (0, .ldc 18, 2, 0, 0, (.int 262144), [], none)),
  (51, (2, .if_icmp .le 5, 3, 56, 0, .null, [], none)),
  (54, (0, .iconst 0, 1, 0, 0, (.int 0), [], some [])),
  (55, (5, .ireturn, 1, 0, 0, .null, [], none)),
  (56, (1, .aload_n 0, 1, 0, 0, .null, [], none)),
  (57, (3, .getfield 31, 3, 0, 2, .null, [], none)),
  (60, (3, .getfield 76, 3, 3, 2, .null, [], none)),
  (63, (1, .iload_n 1, 1, 0, 0, .null, [], none))],
 [(64, (1, .iload_n 2, 1, 0, 0, .null, [], none)),
  (65, (1, .iload_n 3, 1, 0, 0, .null, [], none)),
  (66, (1, .iload 4, 2, 0, 0, .null, [], none)),
  (68, (1, .iload 5, 2, 0, 0, .null, [], none)),
  (70, (1, .iload 6, 2, 0, 0, .null, [], none)),
  (72, (4, .invokevirtual 80, 3, 68, 7, .null, [], none)),
  (75, (1, .aload_n 0, 1, 0, 0, .null, [], none)),
  (76, (3, .getfield 31, 3, 0, 2, .null, [], none)),
  (79, (3, .getfield 76, 3, 3, 2, .null, [], none)),
  (82, (1, .aload_n 0, 1, 0, 0, .null, [], none)),
  (83, (3, .getfield 22, 3, 0, 1, .null, [], none)),
  (86, (1, .iload_n 1, 1, 0, 0, .null, [], none)),
  (87, (4, .invokevirtual 86, 3, 69, 3, .null, [], none)),
  (90, (1, .aload_n 0, 1, 0, 0, .null, [], none)),
  (91, (3, .getfield 31, 3, 0, 2, .null, [], none)),
  (94, (4, .invokevirtual 90, 3, 40, 1, .null, [], none))],
 [(97, (1, .aload_n 0, 1, 0, 0, .null, [], none)),
  (98, (3, .getfield 68, 3, 0, 7, .null, [], none)),
  (101, (4, .invokevirtual 93, 3, 104, 1, .null, [], none)),
  (104, (1, .aload_n 0, 1, 0, 0, .null, [], none)),
  (105, (0, .iconst 0, 1, 0, 0, (.int 0), [], none)),
  (106, (3, .putfield 94, 3, 0, 8, .null, [], none)),
  (109, (1, .aload_n 0, 1, 0, 0, .null, [], none)),
  (110, (0, .lconst 0, 1, 0, 0, (.long 0), [], none)),
  (111, (3, .putfield 98, 3, 0, 9, .null, [], none)),
  (114, (0, .iconst 1, 1, 0, 0, (.int 1), [], none)),
  (115, (5, .ireturn, 1, 0, 0, .null, [], none))]]
/- 3: FlagMachine.below(JJ)Z -/
noncomputable def tb_c3 : List (List (Nat × am_I)) := [[(0, (1, .lload_n 0, 1, 0, 0, .null, [], none)),
  (1, (0, .ldc2_w 216, 3, 0, 0, (.long (-9223372036854775808)), [], none)),
  (4, (0, .lxor, 1, 0, 0, .null, [], none)),
  (5, (1, .lload_n 2, 1, 0, 0, .null, [], none)),
  (6, (0, .ldc2_w 216, 3, 0, 0, (.long (-9223372036854775808)), [], none)),
  (9, (0, .lxor, 1, 0, 0, .null, [], none)),
  (10, (0, .lcmp, 1, 0, 0, .null, [], none)),
  (11, (2, .ifCond .ge 7, 3, 18, 0, .null, [], none)),
  (14, (0, .iconst 1, 1, 0, 0, (.int 1), [], none)),
  (15, (2, .goto 4, 3, 19, 0, .null, [], none)),
  (18, (0, .iconst 0, 1, 0, 0, (.int 0), [], none)),
  (19, (5, .ireturn, 1, 0, 0, .null, [], some []))]]
/- 4: FlagMachine.fill(IJ)V -/
noncomputable def tb_c4 : List (List (Nat × am_I)) := [[(0, (0, .iconst 0, 1, 0, 0, (.int 0), [], none)),
  (1, (1, .istore 4, 2, 0, 0, .null, [], none)),
  (3, (1, .iload 4, 2, 0, 0, .null, [], some [0, 1, 2, 4])),
  (5, (0, .bipush 8, 2, 0, 0, (.int 8), [], none)),
  (7, (2, .if_icmp .ge 55, 3, 62, 0, .null, [], none)),
  (10, (1, .iload_n 1, 1, 0, 0, .null, [], none)),
  (11, (0, .i2l, 1, 0, 0, .null, [], none)),
  (12, (1, .iload 4, 2, 0, 0, .null, [], none)),
  (14, (0, .i2l, 1, 0, 0, .null, [], none)),
  (15, (0, .ladd, 1, 0, 0, .null, [], none)),
  (16, (1, .lstore 5, 2, 0, 0, .null, [], none)),
  (18, (1, .lload 5, 2, 0, 0, .null, [], none)),
  (20, (0, .lconst 0, 1, 0, 0, (.long 0), [], none)),
  (21, (0, .lcmp, 1, 0, 0, .null, [], none)),
  (22, (2, .ifCond .lt 34, 3, 56, 0, .null, [], none)),
  (25, (1, .lload 5, 2, 0, 0, .null, [], none)),
  (27, (0, .ldc2_w 102, 3, 0, 0, (.long 262144), [], none)),
  (30, (0, .lcmp, 1, 0, 0, .null, [], none)),
  (31, (2, .ifCond .ge 25, 3, 56, 0, .null, [], none))],
 [(34, (1, .aload_n 0, 1, 0, 0, .null, [], none)),
  (35, (3, .getfield 22, 3, 0, 1, .null, [], none)),
  (38, (1, .lload 5, 2, 0, 0, .null, [], none)),
  (40, (0, .l2i, 1, 0, 0, .null, [], none)),
  (41, (1, .lload_n 2, 1, 0, 0, .null, [], none)),
  (42, (0, .bipush 8, 2, 0, 0, (.int 8), [], none)),
  (44, (1, .iload 4, 2, 0, 0, .null, [], none)),
  (46, (0, .imul, 1, 0, 0, .null, [], none)),
  (47, (0, .lushr, 1, 0, 0, .null, [], none)),
  (48, (0, .l2i, 1, 0, 0, .null, [], none)),
  (49, (0, .sipush 255, 3, 0, 0, (.int 255), [], none)),
  (52, (0, .iand, 1, 0, 0, .null, [], none)),
  (53, (4, .invokevirtual 104, 3, 116, 3, .null, [], none)),
  (56, (1, .iinc 4 1, 3, 0, 0, (.int 1), [], some [0, 1, 2, 4])),
  (59, (2, .goto (-56), 3, 3, 0, .null, [], none)),
  (62, (5, .return_, 1, 0, 0, .null, [], none))]]
/- 5: FlagMachine.finish(I)I -/
noncomputable def tb_c5 : List (List (Nat × am_I)) := [[(0, (1, .iload_n 1, 1, 0, 0, .null, [], none)),
  (1, (2, .ifCond .eq 14, 3, 15, 0, .null, [], none)),
  (4, (1, .iload_n 1, 1, 0, 0, .null, [], none)),
  (5, (0, .iconst 1, 1, 0, 0, (.int 1), [], none)),
  (6, (2, .if_icmp .eq 9, 3, 15, 0, .null, [], none)),
  (9, (1, .iload_n 1, 1, 0, 0, .null, [], none)),
  (10, (0, .bipush 6, 2, 0, 0, (.int 6), [], none)),
  (12, (2, .if_icmp .ne 27, 3, 39, 0, .null, [], none)),
  (15, (1, .aload_n 0, 1, 0, 0, .null, [], some [0, 1])),
  (16, (3, .getfield 31, 3, 0, 2, .null, [], none)),
  (19, (1, .aload_n 0, 1, 0, 0, .null, [], none)),
  (20, (3, .getfield 31, 3, 0, 2, .null, [], none)),
  (23, (3, .getfield 209, 3, 3, 5, .null, [], none)),
  (26, (3, .putfield 176, 3, 3, 4, .null, [], none)),
  (29, (1, .aload_n 0, 1, 0, 0, .null, [], none)),
  (30, (0, .dup, 1, 0, 0, .null, [], none)),
  (31, (3, .getfield 98, 3, 0, 9, .null, [], none))],
 [(34, (0, .lconst 1, 1, 0, 0, (.long 1), [], none)),
  (35, (0, .ladd, 1, 0, 0, .null, [], none)),
  (36, (3, .putfield 98, 3, 0, 9, .null, [], none)),
  (39, (1, .aload_n 0, 1, 0, 0, .null, [], some [0, 1])),
  (40, (1, .iload_n 1, 1, 0, 0, .null, [], none)),
  (41, (0, .iconst 1, 1, 0, 0, (.int 1), [], none)),
  (42, (2, .if_icmp .ne 7, 3, 49, 0, .null, [], none)),
  (45, (0, .iconst 1, 1, 0, 0, (.int 1), [], none)),
  (46, (2, .goto 4, 3, 50, 0, .null, [], none)),
  (49, (0, .iconst 0, 1, 0, 0, (.int 0), [], none)),
  (50, (3, .putfield 94, 3, 0, 8, .null, [], some [1])),
  (53, (1, .iload_n 1, 1, 0, 0, .null, [], none)),
  (54, (5, .ireturn, 1, 0, 0, .null, [], none))]]
/- 6: FlagMachine.input(JI)Z -/
noncomputable def tb_c6 : List (List (Nat × am_I)) := [[(0, (1, .aload_n 0, 1, 0, 0, .null, [], none)),
  (1, (3, .getfield 68, 3, 0, 7, .null, [], none)),
  (4, (1, .lload_n 1, 1, 0, 0, .null, [], none)),
  (5, (1, .iload_n 3, 1, 0, 0, .null, [], none)),
  (6, (4, .invokevirtual 192, 3, 100, 3, .null, [], none)),
  (9, (5, .ireturn, 1, 0, 0, .null, [], none))]]
/- 7: FlagMachine.maskOf(I)J -/
noncomputable def tb_c7 : List (List (Nat × am_I)) := [[(0, (1, .iload_n 0, 1, 0, 0, .null, [], none)),
  (1, (0, .bipush 8, 2, 0, 0, (.int 8), [], none)),
  (3, (2, .if_icmp .lt 9, 3, 12, 0, .null, [], none)),
  (6, (0, .ldc2_w 212, 3, 0, 0, (.long (-1)), [], none)),
  (9, (2, .goto 11, 3, 20, 0, .null, [], none)),
  (12, (0, .lconst 1, 1, 0, 0, (.long 1), [], none)),
  (13, (0, .bipush 8, 2, 0, 0, (.int 8), [], none)),
  (15, (1, .iload_n 0, 1, 0, 0, .null, [], none)),
  (16, (0, .imul, 1, 0, 0, .null, [], none)),
  (17, (0, .lshl, 1, 0, 0, .null, [], none)),
  (18, (0, .lconst 1, 1, 0, 0, (.long 1), [], none)),
  (19, (0, .lsub, 1, 0, 0, .null, [], none)),
  (20, (5, .lreturn, 1, 0, 0, .null, [], some []))]]
/- 8: FlagMachine.memory(IIII)V -/
noncomputable def tb_c8 : List (List (Nat × am_I)) := [[(0, (1, .aload_n 0, 1, 0, 0, .null, [], none)),
  (1, (3, .getfield 10, 3, 0, 0, .null, [], none)),
  (4, (1, .iload_n 1, 1, 0, 0, .null, [], none)),
  (5, (3, .putfield 125, 3, 1, 5, .null, [], none)),
  (8, (1, .aload_n 0, 1, 0, 0, .null, [], none)),
  (9, (3, .getfield 10, 3, 0, 0, .null, [], none)),
  (12, (1, .iload_n 2, 1, 0, 0, .null, [], none)),
  (13, (3, .putfield 128, 3, 1, 6, .null, [], none)),
  (16, (1, .aload_n 0, 1, 0, 0, .null, [], none)),
  (17, (3, .getfield 10, 3, 0, 0, .null, [], none)),
  (20, (1, .iload_n 3, 1, 0, 0, .null, [], none)),
  (21, (3, .putfield 131, 3, 1, 7, .null, [], none)),
  (24, (1, .aload_n 0, 1, 0, 0, .null, [], none)),
  (25, (3, .getfield 10, 3, 0, 0, .null, [], none)),
  (28, (1, .iload 4, 2, 0, 0, .null, [], none)),
  (30, (3, .putfield 134, 3, 1, 8, .null, [], none))],
 [(33, (5, .return_, 1, 0, 0, .null, [], none))]]
/- 9: FlagMachine.number(J)V -/
noncomputable def tb_c9 : List (List (Nat × am_I)) := [[(0, (1, .aload_n 0, 1, 0, 0, .null, [], none)),
  (1, (3, .getfield 10, 3, 0, 0, .null, [], none)),
  (4, (1, .lload_n 1, 1, 0, 0, .null, [], none)),
  (5, (3, .putfield 137, 3, 1, 9, .null, [], none)),
  (8, (5, .return_, 1, 0, 0, .null, [], none))]]
/- 10: FlagMachine.op(III)V -/
noncomputable def tb_c10 : List (List (Nat × am_I)) := [[(0, (1, .aload_n 0, 1, 0, 0, .null, [], none)),
  (1, (3, .getfield 10, 3, 0, 0, .null, [], none)),
  (4, (1, .iload_n 1, 1, 0, 0, .null, [], none)),
  (5, (3, .putfield 108, 3, 1, 0, .null, [], none)),
  (8, (1, .aload_n 0, 1, 0, 0, .null, [], none)),
  (9, (3, .getfield 10, 3, 0, 0, .null, [], none)),
  (12, (1, .iload_n 2, 1, 0, 0, .null, [], none)),
  (13, (3, .putfield 112, 3, 1, 1, .null, [], none)),
  (16, (1, .aload_n 0, 1, 0, 0, .null, [], none)),
  (17, (3, .getfield 10, 3, 0, 0, .null, [], none)),
  (20, (1, .iload_n 3, 1, 0, 0, .null, [], none)),
  (21, (3, .putfield 115, 3, 1, 2, .null, [], none)),
  (24, (0, .iconst 0, 1, 0, 0, (.int 0), [], none)),
  (25, (1, .istore 4, 2, 0, 0, .null, [], none)),
  (27, (1, .iload 4, 2, 0, 0, .null, [], some [0, 4])),
  (29, (0, .iconst 3, 1, 0, 0, (.int 3), [], none)),
  (30, (2, .if_icmp .ge 31, 3, 61, 0, .null, [], none))],
 [(33, (1, .aload_n 0, 1, 0, 0, .null, [], none)),
  (34, (3, .getfield 10, 3, 0, 0, .null, [], none)),
  (37, (3, .getfield 118, 3, 1, 3, .null, [], none)),
  (40, (1, .iload 4, 2, 0, 0, .null, [], none)),
  (42, (0, .iconst 0, 1, 0, 0, (.int 0), [], none)),
  (43, (3, .iastore, 1, 0, 0, .null, [], none)),
  (44, (1, .aload_n 0, 1, 0, 0, .null, [], none)),
  (45, (3, .getfield 10, 3, 0, 0, .null, [], none)),
  (48, (3, .getfield 122, 3, 1, 4, .null, [], none)),
  (51, (1, .iload 4, 2, 0, 0, .null, [], none)),
  (53, (0, .iconst 0, 1, 0, 0, (.int 0), [], none)),
  (54, (3, .iastore, 1, 0, 0, .null, [], none)),
  (55, (1, .iinc 4 1, 3, 0, 0, (.int 1), [], none)),
  (58, (2, .goto (-31), 3, 27, 0, .null, [], none)),
  (61, (5, .return_, 1, 0, 0, .null, [], none))]]
/- 11: FlagMachine.operand(III)Z -/
noncomputable def tb_c11 : List (List (Nat × am_I)) := [[(0, (1, .iload_n 1, 1, 0, 0, .null, [], none)),
  (1, (2, .ifCond .lt 17, 3, 18, 0, .null, [], none)),
  (4, (1, .iload_n 1, 1, 0, 0, .null, [], none)),
  (5, (0, .iconst 2, 1, 0, 0, (.int 2), [], none)),
  (6, (2, .if_icmp .gt 12, 3, 18, 0, .null, [], none)),
  (9, (1, .iload_n 2, 1, 0, 0, .null, [], none)),
  (10, (2, .ifCond .lt 8, 3, 18, 0, .null, [], none)),
  (13, (1, .iload_n 2, 1, 0, 0, .null, [], none)),
  (14, (0, .iconst 3, 1, 0, 0, (.int 3), [], none)),
  (15, (2, .if_icmp .le 5, 3, 20, 0, .null, [], none)),
  (18, (0, .iconst 0, 1, 0, 0, (.int 0), [], some [])),
  (19, (5, .ireturn, 1, 0, 0, .null, [], none)),
  (20, (1, .iload_n 3, 1, 0, 0, .null, [], none)),
  (21, (2, .ifCond .lt 18, 3, 39, 0, .null, [], none)),
  (24, (1, .iload_n 3, 1, 0, 0, .null, [], none)),
  (25, (0, .bipush 15, 2, 0, 0, (.int 15), [], none)),
  (27, (2, .if_icmp .gt 12, 3, 39, 0, .null, [], none)),
  (30, (1, .iload_n 2, 1, 0, 0, .null, [], none)),
  (31, (0, .iconst 1, 1, 0, 0, (.int 1), [], none))],
 [(32, (2, .if_icmp .eq 9, 3, 41, 0, .null, [], none)),
  (35, (1, .iload_n 3, 1, 0, 0, .null, [], none)),
  (36, (2, .ifCond .eq 5, 3, 41, 0, .null, [], none)),
  (39, (0, .iconst 0, 1, 0, 0, (.int 0), [], some [])),
  (40, (5, .ireturn, 1, 0, 0, .null, [], none)),
  (41, (1, .aload_n 0, 1, 0, 0, .null, [], some [0, 1, 2, 3])),
  (42, (3, .getfield 10, 3, 0, 0, .null, [], none)),
  (45, (3, .getfield 118, 3, 1, 3, .null, [], none)),
  (48, (1, .iload_n 1, 1, 0, 0, .null, [], none)),
  (49, (1, .iload_n 2, 1, 0, 0, .null, [], none)),
  (50, (3, .iastore, 1, 0, 0, .null, [], none)),
  (51, (1, .aload_n 0, 1, 0, 0, .null, [], none)),
  (52, (3, .getfield 10, 3, 0, 0, .null, [], none)),
  (55, (3, .getfield 122, 3, 1, 4, .null, [], none)),
  (58, (1, .iload_n 1, 1, 0, 0, .null, [], none)),
  (59, (1, .iload_n 3, 1, 0, 0, .null, [], none)),
  (60, (3, .iastore, 1, 0, 0, .null, [], none)),
  (61, (0, .iconst 1, 1, 0, 0, (.int 1), [], none)),
  (62, (5, .ireturn, 1, 0, 0, .null, [], none))]]
/- 12: FlagMachine.output(I)I -/
noncomputable def tb_c12 : List (List (Nat × am_I)) := [[(0, (1, .aload_n 0, 1, 0, 0, .null, [], none)),
  (1, (3, .getfield 68, 3, 0, 7, .null, [], none)),
  (4, (1, .iload_n 1, 1, 0, 0, .null, [], none)),
  (5, (4, .invokevirtual 196, 3, 102, 2, .null, [], none)),
  (8, (5, .ireturn, 1, 0, 0, .null, [], none))]]
/- 13: FlagMachine.peek(J)I -/
noncomputable def tb_c13 : List (List (Nat × am_I)) := [[(0, (1, .aload_n 0, 1, 0, 0, .null, [], none)),
  (1, (3, .getfield 31, 3, 0, 2, .null, [], none)),
  (4, (3, .getfield 76, 3, 3, 2, .null, [], none)),
  (7, (1, .lload_n 1, 1, 0, 0, .null, [], none)),
  (8, (0, .iconst 1, 1, 0, 0, (.int 1), [], none)),
  (9, (0, .iconst 0, 1, 0, 0, (.int 0), [], none)),
  (10, (4, .invokevirtual 199, 3, 71, 4, .null, [], none)),
  (13, (1, .istore_n 3, 1, 0, 0, .null, [], none)),
  (14, (1, .iload_n 3, 1, 0, 0, .null, [], none)),
  (15, (0, .iconst (-1), 1, 0, 0, (.int (-1)), [], none)),
  (16, (2, .if_icmp .ne 7, 3, 23, 0, .null, [], none)),
  (19, (0, .iconst (-1), 1, 0, 0, (.int (-1)), [], none)),
  (20, (2, .goto 17, 3, 37, 0, .null, [], none)),
  (23, (1, .aload_n 0, 1, 0, 0, .null, [], none)),
  (24, (3, .getfield 31, 3, 0, 2, .null, [], none)),
  (27, (3, .getfield 76, 3, 3, 2, .null, [], none)),
  (30, (3, .getfield 203, 3, 5, 0, .null, [], none))],
 [(33, (1, .iload_n 3, 1, 0, 0, .null, [], none)),
  (34, (4, .invokevirtual 206, 3, 108, 2, .null, [], none)),
  (37, (5, .ireturn, 1, 0, 0, .null, [], some []))]]
/- 14: FlagMachine.poke(JI)Z -/
noncomputable def tb_c14 : List (List (Nat × am_I)) := [[(0, (1, .aload_n 0, 1, 0, 0, .null, [], none)),
  (1, (3, .getfield 31, 3, 0, 2, .null, [], none)),
  (4, (3, .getfield 76, 3, 3, 2, .null, [], none)),
  (7, (1, .lload_n 1, 1, 0, 0, .null, [], none)),
  (8, (0, .iconst 1, 1, 0, 0, (.int 1), [], none)),
  (9, (0, .iconst 1, 1, 0, 0, (.int 1), [], none)),
  (10, (4, .invokevirtual 199, 3, 71, 4, .null, [], none)),
  (13, (1, .istore 4, 2, 0, 0, .null, [], none)),
  (15, (1, .iload 4, 2, 0, 0, .null, [], none)),
  (17, (0, .iconst (-1), 1, 0, 0, (.int (-1)), [], none)),
  (18, (2, .if_icmp .ne 5, 3, 23, 0, .null, [], none)),
  (21, (0, .iconst 0, 1, 0, 0, (.int 0), [], none)),
  (22, (5, .ireturn, 1, 0, 0, .null, [], none)),
  (23, (1, .aload_n 0, 1, 0, 0, .null, [], none)),
  (24, (3, .getfield 31, 3, 0, 2, .null, [], none)),
  (27, (3, .getfield 76, 3, 3, 2, .null, [], none)),
  (30, (3, .getfield 203, 3, 5, 0, .null, [], none))],
 [(33, (1, .iload 4, 2, 0, 0, .null, [], none)),
  (35, (1, .iload_n 3, 1, 0, 0, .null, [], none)),
  (36, (0, .sipush 255, 3, 0, 0, (.int 255), [], none)),
  (39, (0, .iand, 1, 0, 0, .null, [], none)),
  (40, (4, .invokevirtual 104, 3, 116, 3, .null, [], none)),
  (43, (0, .iconst 1, 1, 0, 0, (.int 1), [], none)),
  (44, (5, .ireturn, 1, 0, 0, .null, [], none))]]
/- 15: FlagMachine.register(I)J -/
noncomputable def tb_c15 : List (List (Nat × am_I)) := [[(0, (1, .iload_n 1, 1, 0, 0, .null, [], none)),
  (1, (2, .ifCond .lt 19, 3, 20, 0, .null, [], none)),
  (4, (1, .iload_n 1, 1, 0, 0, .null, [], none)),
  (5, (0, .bipush 15, 2, 0, 0, (.int 15), [], none)),
  (7, (2, .if_icmp .gt 13, 3, 20, 0, .null, [], none)),
  (10, (1, .aload_n 0, 1, 0, 0, .null, [], none)),
  (11, (3, .getfield 31, 3, 0, 2, .null, [], none)),
  (14, (3, .getfield 173, 3, 3, 0, .null, [], none)),
  (17, (1, .iload_n 1, 1, 0, 0, .null, [], none)),
  (18, (3, .laload, 1, 0, 0, .null, [], none)),
  (19, (5, .lreturn, 1, 0, 0, .null, [], none)),
  (20, (1, .iload_n 1, 1, 0, 0, .null, [], some [0, 1])),
  (21, (2, .tableswitch 66 16 19 #[31, 39, 50, 61], 31, 87, 0, .null, [(16, 52), (17, 60), (18, 71), (19, 82)], none))],
 [(52, (1, .aload_n 0, 1, 0, 0, .null, [], none)),
  (53, (3, .getfield 31, 3, 0, 2, .null, [], none)),
  (56, (3, .getfield 176, 3, 3, 4, .null, [], none)),
  (59, (5, .lreturn, 1, 0, 0, .null, [], none)),
  (60, (1, .aload_n 0, 1, 0, 0, .null, [], none)),
  (61, (3, .getfield 31, 3, 0, 2, .null, [], none))],
 [(64, (3, .getfield 179, 3, 3, 1, .null, [], none)),
  (67, (4, .invokevirtual 183, 3, 44, 1, .null, [], none)),
  (70, (5, .lreturn, 1, 0, 0, .null, [], none)),
  (71, (1, .aload_n 0, 1, 0, 0, .null, [], none)),
  (72, (3, .getfield 31, 3, 0, 2, .null, [], none)),
  (75, (3, .getfield 76, 3, 3, 2, .null, [], none)),
  (78, (4, .invokevirtual 189, 3, 66, 1, .null, [], none)),
  (81, (5, .lreturn, 1, 0, 0, .null, [], none)),
  (82, (1, .aload_n 0, 1, 0, 0, .null, [], none)),
  (83, (3, .getfield 98, 3, 0, 9, .null, [], none)),
  (86, (5, .lreturn, 1, 0, 0, .null, [], none)),
  (87, (0, .lconst 0, 1, 0, 0, (.long 0), [], none)),
  (88, (5, .lreturn, 1, 0, 0, .null, [], none))]]
/- 16: FlagMachine.set(IJ)Z -/
noncomputable def tb_c16 : List (List (Nat × am_I)) := [[(0, (1, .iload_n 1, 1, 0, 0, .null, [], none)),
  (1, (2, .ifCond .lt 9, 3, 10, 0, .null, [], none)),
  (4, (1, .iload_n 1, 1, 0, 0, .null, [], none)),
  (5, (0, .bipush 16, 2, 0, 0, (.int 16), [], none)),
  (7, (2, .if_icmp .le 5, 3, 12, 0, .null, [], none)),
  (10, (0, .iconst 0, 1, 0, 0, (.int 0), [], some [])),
  (11, (5, .ireturn, 1, 0, 0, .null, [], none)),
  (12, (1, .iload_n 1, 1, 0, 0, .null, [], none)),
  (13, (0, .bipush 16, 2, 0, 0, (.int 16), [], none)),
  (15, (2, .if_icmp .ne 14, 3, 29, 0, .null, [], none)),
  (18, (1, .aload_n 0, 1, 0, 0, .null, [], none)),
  (19, (3, .getfield 31, 3, 0, 2, .null, [], none)),
  (22, (1, .lload_n 2, 1, 0, 0, .null, [], none)),
  (23, (3, .putfield 176, 3, 3, 4, .null, [], none)),
  (26, (2, .goto 13, 3, 39, 0, .null, [], none)),
  (29, (1, .aload_n 0, 1, 0, 0, .null, [], none)),
  (30, (3, .getfield 31, 3, 0, 2, .null, [], none))],
 [(33, (3, .getfield 173, 3, 3, 0, .null, [], none)),
  (36, (1, .iload_n 1, 1, 0, 0, .null, [], none)),
  (37, (1, .lload_n 2, 1, 0, 0, .null, [], none)),
  (38, (3, .lastore, 1, 0, 0, .null, [], none)),
  (39, (0, .iconst 1, 1, 0, 0, (.int 1), [], some [])),
  (40, (5, .ireturn, 1, 0, 0, .null, [], none))]]
/- 17: FlagMachine.signed(JI)J -/
noncomputable def tb_c17 : List (List (Nat × am_I)) := [[(0, (0, .bipush 64, 2, 0, 0, (.int 64), [], none)),
  (2, (0, .bipush 8, 2, 0, 0, (.int 8), [], none)),
  (4, (1, .iload_n 2, 1, 0, 0, .null, [], none)),
  (5, (0, .imul, 1, 0, 0, .null, [], none)),
  (6, (0, .isub, 1, 0, 0, .null, [], none)),
  (7, (1, .istore_n 3, 1, 0, 0, .null, [], none)),
  (8, (1, .lload_n 0, 1, 0, 0, .null, [], none)),
  (9, (1, .iload_n 3, 1, 0, 0, .null, [], none)),
  (10, (0, .lshl, 1, 0, 0, .null, [], none)),
  (11, (1, .iload_n 3, 1, 0, 0, .null, [], none)),
  (12, (0, .lshr, 1, 0, 0, .null, [], none)),
  (13, (5, .lreturn, 1, 0, 0, .null, [], none))]]
/- 18: FlagMachine.step(I)I -/
noncomputable def tb_c18 : List (List (Nat × am_I)) := [[(0, (1, .aload_n 0, 1, 0, 0, .null, [], none)),
  (1, (3, .getfield 94, 3, 0, 8, .null, [], none)),
  (4, (2, .ifCond .ne 24, 3, 28, 0, .null, [], none)),
  (7, (1, .iload_n 1, 1, 0, 0, .null, [], none)),
  (8, (0, .iconst 1, 1, 0, 0, (.int 1), [], none)),
  (9, (2, .if_icmp .lt 19, 3, 28, 0, .null, [], none)),
  (12, (1, .iload_n 1, 1, 0, 0, .null, [], none)),
  (13, (0, .bipush 15, 2, 0, 0, (.int 15), [], none)),
  (15, (2, .if_icmp .gt 13, 3, 28, 0, .null, [], none)),
  (18, (1, .aload_n 0, 1, 0, 0, .null, [], none)),
  (19, (3, .getfield 10, 3, 0, 0, .null, [], none)),
  (22, (4, .invokevirtual 140, 3, 57, 1, .null, [], none)),
  (25, (2, .ifCond .ne 5, 3, 30, 0, .null, [], none)),
  (28, (0, .iconst (-1), 1, 0, 0, (.int (-1)), [], some [])),
  (29, (5, .ireturn, 1, 0, 0, .null, [], none)),
  (30, (1, .aload_n 0, 1, 0, 0, .null, [], none)),
  (31, (3, .getfield 31, 3, 0, 2, .null, [], none))],
 [(34, (1, .iload_n 1, 1, 0, 0, .null, [], none)),
  (35, (4, .invokevirtual 144, 3, 36, 2, .null, [], none)),
  (38, (1, .aload_n 0, 1, 0, 0, .null, [], none)),
  (39, (3, .getfield 10, 3, 0, 0, .null, [], none)),
  (42, (3, .getfield 108, 3, 1, 0, .null, [], none)),
  (45, (2, .tableswitch 314 0 49 #[215, 215, 215, 215, 215, 215, 215, 215, 314, 215, 314, 314, 314, 314, 314, 215, 215, 242, 242, 242, 242, 215, 215, 242, 259, 259, 259, 259, 259, 314, 314, 314, 314, 314, 314, 314, 314, 242, 242, 276, 279, 292, 304, 314, 259, 259, 259, 259, 215, 232], 215, 359, 0, .null, [(0, 260), (1, 260), (2, 260), (3, 260), (4, 260), (5, 260), (6, 260), (7, 260), (8, 359), (9, 260), (10, 359), (11, 359), (12, 359), (13, 359), (14, 359), (15, 260), (16, 260), (17, 287), (18, 287), (19, 287), (20, 287), (21, 260), (22, 260), (23, 287), (24, 304), (25, 304), (26, 304), (27, 304), (28, 304), (29, 359), (30, 359), (31, 359), (32, 359), (33, 359), (34, 359), (35, 359), (36, 359), (37, 287), (38, 287), (39, 321), (40, 324), (41, 337), (42, 349), (43, 359), (44, 304), (45, 304), (46, 304), (47, 304), (48, 260), (49, 277)], none))],
 [],
 [],
 [],
 [],
 [],
 [],
 [(260, (1, .aload_n 0, 1, 0, 0, .null, [], some [0])),
  (261, (3, .getfield 40, 3, 0, 3, .null, [], none)),
  (264, (1, .aload_n 0, 1, 0, 0, .null, [], none)),
  (265, (3, .getfield 10, 3, 0, 0, .null, [], none)),
  (268, (3, .getfield 108, 3, 1, 0, .null, [], none)),
  (271, (4, .invokevirtual 147, 3, 122, 2, .null, [], none)),
  (274, (2, .goto 99, 3, 373, 0, .null, [], none)),
  (277, (1, .aload_n 0, 1, 0, 0, .null, [], none)),
  (278, (3, .getfield 40, 3, 0, 3, .null, [], none)),
  (281, (4, .invokevirtual 150, 3, 121, 1, .null, [], none)),
  (284, (2, .goto 89, 3, 373, 0, .null, [], none)),
  (287, (1, .aload_n 0, 1, 0, 0, .null, [], some [0]))],
 [(288, (3, .getfield 47, 3, 0, 4, .null, [], none)),
  (291, (1, .aload_n 0, 1, 0, 0, .null, [], none)),
  (292, (3, .getfield 10, 3, 0, 0, .null, [], none)),
  (295, (3, .getfield 108, 3, 1, 0, .null, [], none)),
  (298, (4, .invokevirtual 153, 3, 96, 2, .null, [], none)),
  (301, (2, .goto 72, 3, 373, 0, .null, [], none)),
  (304, (1, .aload_n 0, 1, 0, 0, .null, [], some [0])),
  (305, (3, .getfield 54, 3, 0, 5, .null, [], none)),
  (308, (1, .aload_n 0, 1, 0, 0, .null, [], none)),
  (309, (3, .getfield 10, 3, 0, 0, .null, [], none)),
  (312, (3, .getfield 108, 3, 1, 0, .null, [], none)),
  (315, (4, .invokevirtual 154, 3, 25, 2, .null, [], none)),
  (318, (2, .goto 55, 3, 373, 0, .null, [], none))],
 [(321, (2, .goto 52, 3, 373, 0, .null, [], none)),
  (324, (1, .aload_n 0, 1, 0, 0, .null, [], none)),
  (325, (3, .getfield 31, 3, 0, 2, .null, [], none)),
  (328, (0, .bipush 6, 2, 0, 0, (.int 6), [], none)),
  (330, (0, .lconst 0, 1, 0, 0, (.long 0), [], none)),
  (331, (4, .invokevirtual 155, 3, 41, 3, .null, [], none)),
  (334, (2, .goto 39, 3, 373, 0, .null, [], none)),
  (337, (1, .aload_n 0, 1, 0, 0, .null, [], none)),
  (338, (3, .getfield 31, 3, 0, 2, .null, [], none)),
  (341, (0, .iconst 2, 1, 0, 0, (.int 2), [], none)),
  (342, (0, .lconst 0, 1, 0, 0, (.long 0), [], none)),
  (343, (4, .invokevirtual 155, 3, 41, 3, .null, [], none)),
  (346, (2, .goto 27, 3, 373, 0, .null, [], none)),
  (349, (1, .aload_n 0, 1, 0, 0, .null, [], none)),
  (350, (3, .getfield 68, 3, 0, 7, .null, [], none))],
 [(353, (4, .invokevirtual 159, 3, 103, 1, .null, [], none)),
  (356, (2, .goto 17, 3, 373, 0, .null, [], none)),
  (359, (1, .aload_n 0, 1, 0, 0, .null, [], some [0])),
  (360, (3, .getfield 61, 3, 0, 6, .null, [], none)),
  (363, (1, .aload_n 0, 1, 0, 0, .null, [], none)),
  (364, (3, .getfield 10, 3, 0, 0, .null, [], none)),
  (367, (3, .getfield 108, 3, 1, 0, .null, [], none)),
  (370, (4, .invokevirtual 162, 3, 81, 2, .null, [], none)),
  (373, (1, .aload_n 0, 1, 0, 0, .null, [], some [0])),
  (374, (1, .aload_n 0, 1, 0, 0, .null, [], none)),
  (375, (3, .getfield 31, 3, 0, 2, .null, [], none)),
  (378, (3, .getfield 163, 3, 3, 7, .null, [], none)),
  (381, (4, .invokevirtual 166, 3, 5, 2, .null, [], none))],
 [(384, (5, .ireturn, 1, 0, 0, .null, [], none))]]
/- 19: FlagMachine.topOf(I)J -/
noncomputable def tb_c19 : List (List (Nat × am_I)) := [[(0, (0, .lconst 1, 1, 0, 0, (.long 1), [], none)),
  (1, (0, .bipush 8, 2, 0, 0, (.int 8), [], none)),
  (3, (1, .iload_n 0, 1, 0, 0, .null, [], none)),
  (4, (0, .imul, 1, 0, 0, .null, [], none)),
  (5, (0, .iconst 1, 1, 0, 0, (.int 1), [], none)),
  (6, (0, .isub, 1, 0, 0, .null, [], none)),
  (7, (0, .lshl, 1, 0, 0, .null, [], none)),
  (8, (5, .lreturn, 1, 0, 0, .null, [], none))]]
/- 20: FlagMachine.value()J -/
noncomputable def tb_c20 : List (List (Nat × am_I)) := [[(0, (1, .aload_n 0, 1, 0, 0, .null, [], none)),
  (1, (3, .getfield 31, 3, 0, 2, .null, [], none)),
  (4, (3, .getfield 170, 3, 3, 8, .null, [], none)),
  (7, (5, .lreturn, 1, 0, 0, .null, [], none))]]
/- 21: FlagMachine$Bits.<init>(LFlagMachine$Core;)V -/
noncomputable def tb_c21 : List (List (Nat × am_I)) := [[(0, (1, .aload_n 0, 1, 0, 0, .null, [], none)),
  (1, (3, .invokespecial 1, 3, 0, 0, .null, [], none)),
  (4, (1, .aload_n 0, 1, 0, 0, .null, [], none)),
  (5, (1, .aload_n 1, 1, 0, 0, .null, [], none)),
  (6, (3, .putfield 7, 3, 8, 0, .null, [], none)),
  (9, (1, .aload_n 0, 1, 0, 0, .null, [], none)),
  (10, (1, .aload_n 1, 1, 0, 0, .null, [], none)),
  (11, (3, .getfield 13, 3, 3, 1, .null, [], none)),
  (14, (3, .putfield 19, 3, 8, 1, .null, [], none)),
  (17, (1, .aload_n 0, 1, 0, 0, .null, [], none)),
  (18, (1, .aload_n 1, 1, 0, 0, .null, [], none)),
  (19, (3, .getfield 20, 3, 3, 3, .null, [], none)),
  (22, (3, .putfield 24, 3, 8, 2, .null, [], none)),
  (25, (5, .return_, 1, 0, 0, .null, [], none))]]
/- 22: FlagMachine$Bits.highestBit(J)I -/
noncomputable def tb_c22 : List (List (Nat × am_I)) := [[(0, (0, .bipush 63, 2, 0, 0, (.int 63), [], none)),
  (2, (1, .istore_n 2, 1, 0, 0, .null, [], none)),
  (3, (1, .iload_n 2, 1, 0, 0, .null, [], some [0, 2])),
  (4, (2, .ifCond .le 19, 3, 23, 0, .null, [], none)),
  (7, (1, .lload_n 0, 1, 0, 0, .null, [], none)),
  (8, (1, .iload_n 2, 1, 0, 0, .null, [], none)),
  (9, (0, .lushr, 1, 0, 0, .null, [], none)),
  (10, (0, .lconst 1, 1, 0, 0, (.long 1), [], none)),
  (11, (0, .land, 1, 0, 0, .null, [], none)),
  (12, (0, .lconst 0, 1, 0, 0, (.long 0), [], none)),
  (13, (0, .lcmp, 1, 0, 0, .null, [], none)),
  (14, (2, .ifCond .ne 9, 3, 23, 0, .null, [], none)),
  (17, (1, .iinc 2 (-1), 3, 0, 0, (.int (-1)), [], none)),
  (20, (2, .goto (-17), 3, 3, 0, .null, [], none)),
  (23, (1, .iload_n 2, 1, 0, 0, .null, [], some [2])),
  (24, (5, .ireturn, 1, 0, 0, .null, [], none))]]
/- 23: FlagMachine$Bits.lowestBit(J)I -/
noncomputable def tb_c23 : List (List (Nat × am_I)) := [[(0, (0, .iconst 0, 1, 0, 0, (.int 0), [], none)),
  (1, (1, .istore_n 2, 1, 0, 0, .null, [], none)),
  (2, (1, .iload_n 2, 1, 0, 0, .null, [], some [0, 2])),
  (3, (0, .bipush 63, 2, 0, 0, (.int 63), [], none)),
  (5, (2, .if_icmp .ge 19, 3, 24, 0, .null, [], none)),
  (8, (1, .lload_n 0, 1, 0, 0, .null, [], none)),
  (9, (1, .iload_n 2, 1, 0, 0, .null, [], none)),
  (10, (0, .lushr, 1, 0, 0, .null, [], none)),
  (11, (0, .lconst 1, 1, 0, 0, (.long 1), [], none)),
  (12, (0, .land, 1, 0, 0, .null, [], none)),
  (13, (0, .lconst 0, 1, 0, 0, (.long 0), [], none)),
  (14, (0, .lcmp, 1, 0, 0, .null, [], none)),
  (15, (2, .ifCond .ne 9, 3, 24, 0, .null, [], none)),
  (18, (1, .iinc 2 1, 3, 0, 0, (.int 1), [], none)),
  (21, (2, .goto (-19), 3, 2, 0, .null, [], none)),
  (24, (1, .iload_n 2, 1, 0, 0, .null, [], some [2])),
  (25, (5, .ireturn, 1, 0, 0, .null, [], none))]]
/- 24: FlagMachine$Bits.overflowOfOne(IJJI)Z -/
noncomputable def tb_c24 : List (List (Nat × am_I)) := [[(0, (1, .iload 6, 2, 0, 0, .null, [], none)),
  (2, (4, .invokestatic 56, 3, 19, 1, .null, [], none)),
  (5, (1, .lstore 7, 2, 0, 0, .null, [], none)),
  (7, (1, .lload 4, 2, 0, 0, .null, [], none)),
  (9, (1, .lload 7, 2, 0, 0, .null, [], none)),
  (11, (0, .land, 1, 0, 0, .null, [], none)),
  (12, (0, .lconst 0, 1, 0, 0, (.long 0), [], none)),
  (13, (0, .lcmp, 1, 0, 0, .null, [], none)),
  (14, (2, .ifCond .eq 7, 3, 21, 0, .null, [], none)),
  (17, (0, .iconst 1, 1, 0, 0, (.int 1), [], none)),
  (18, (2, .goto 4, 3, 22, 0, .null, [], none)),
  (21, (0, .iconst 0, 1, 0, 0, (.int 0), [], none)),
  (22, (1, .istore 9, 2, 0, 0, .null, [], some [0, 1, 2, 4, 7])),
  (24, (1, .iload_n 1, 1, 0, 0, .null, [], none)),
  (25, (2, .tableswitch 92 24 27 #[31, 49, 31, 77], 31, 117, 0, .null, [(24, 56), (25, 74), (26, 56), (27, 102)], none))],
 [(56, (1, .aload_n 0, 1, 0, 0, .null, [], some [0, 9])),
  (57, (3, .getfield 19, 3, 8, 1, .null, [], none)),
  (60, (3, .getfield 66, 3, 4, 0, .null, [], none)),
  (63, (1, .iload 9, 2, 0, 0, .null, [], none))],
 [(65, (2, .if_icmp .eq 7, 3, 72, 0, .null, [], none)),
  (68, (0, .iconst 1, 1, 0, 0, (.int 1), [], none)),
  (69, (2, .goto 4, 3, 73, 0, .null, [], none)),
  (72, (0, .iconst 0, 1, 0, 0, (.int 0), [], none)),
  (73, (5, .ireturn, 1, 0, 0, .null, [], some [])),
  (74, (1, .iload 9, 2, 0, 0, .null, [], none)),
  (76, (1, .lload 4, 2, 0, 0, .null, [], none)),
  (78, (1, .lload 7, 2, 0, 0, .null, [], none)),
  (80, (0, .iconst 1, 1, 0, 0, (.int 1), [], none)),
  (81, (0, .lushr, 1, 0, 0, .null, [], none)),
  (82, (0, .land, 1, 0, 0, .null, [], none)),
  (83, (0, .lconst 0, 1, 0, 0, (.long 0), [], none)),
  (84, (0, .lcmp, 1, 0, 0, .null, [], none)),
  (85, (2, .ifCond .eq 7, 3, 92, 0, .null, [], none)),
  (88, (0, .iconst 1, 1, 0, 0, (.int 1), [], none)),
  (89, (2, .goto 4, 3, 93, 0, .null, [], none)),
  (92, (0, .iconst 0, 1, 0, 0, (.int 0), [], none)),
  (93, (2, .if_icmp .eq 7, 3, 100, 0, .null, [], some []))],
 [(96, (0, .iconst 1, 1, 0, 0, (.int 1), [], none)),
  (97, (2, .goto 4, 3, 101, 0, .null, [], none)),
  (100, (0, .iconst 0, 1, 0, 0, (.int 0), [], none)),
  (101, (5, .ireturn, 1, 0, 0, .null, [], some [])),
  (102, (1, .lload_n 2, 1, 0, 0, .null, [], none)),
  (103, (1, .lload 7, 2, 0, 0, .null, [], none)),
  (105, (0, .land, 1, 0, 0, .null, [], none)),
  (106, (0, .lconst 0, 1, 0, 0, (.long 0), [], none)),
  (107, (0, .lcmp, 1, 0, 0, .null, [], none)),
  (108, (2, .ifCond .eq 7, 3, 115, 0, .null, [], none)),
  (111, (0, .iconst 1, 1, 0, 0, (.int 1), [], none)),
  (112, (2, .goto 4, 3, 116, 0, .null, [], none)),
  (115, (0, .iconst 0, 1, 0, 0, (.int 0), [], none)),
  (116, (5, .ireturn, 1, 0, 0, .null, [], some [])),
  (117, (0, .iconst 0, 1, 0, 0, (.int 0), [], none)),
  (118, (5, .ireturn, 1, 0, 0, .null, [], none))]]
/- 25: FlagMachine$Bits.perform(I)V -/
noncomputable def tb_c25 : List (List (Nat × am_I)) := [[(0, (1, .iload_n 1, 1, 0, 0, .null, [], none)),
  (1, (2, .tableswitch 63 44 47 #[31, 31, 49, 56], 31, 64, 0, .null, [(44, 32), (45, 32), (46, 50), (47, 57)], none))],
 [(32, (1, .aload_n 0, 1, 0, 0, .null, [], some [0, 1])),
  (33, (1, .iload_n 1, 1, 0, 0, .null, [], none)),
  (34, (0, .bipush 44, 2, 0, 0, (.int 44), [], none)),
  (36, (2, .if_icmp .ne 7, 3, 43, 0, .null, [], none)),
  (39, (0, .iconst 1, 1, 0, 0, (.int 1), [], none)),
  (40, (2, .goto 4, 3, 44, 0, .null, [], none)),
  (43, (0, .iconst 0, 1, 0, 0, (.int 0), [], none)),
  (44, (4, .invokevirtual 25, 3, 26, 2, .null, [], some [])),
  (47, (2, .goto 22, 3, 69, 0, .null, [], none)),
  (50, (1, .aload_n 0, 1, 0, 0, .null, [], none)),
  (51, (4, .invokevirtual 29, 3, 30, 1, .null, [], none)),
  (54, (2, .goto 15, 3, 69, 0, .null, [], none)),
  (57, (1, .aload_n 0, 1, 0, 0, .null, [], none)),
  (58, (4, .invokevirtual 32, 3, 29, 1, .null, [], none)),
  (61, (2, .goto 8, 3, 69, 0, .null, [], none))],
 [(64, (1, .aload_n 0, 1, 0, 0, .null, [], none)),
  (65, (1, .iload_n 1, 1, 0, 0, .null, [], none)),
  (66, (4, .invokevirtual 35, 3, 27, 2, .null, [], none)),
  (69, (5, .return_, 1, 0, 0, .null, [], some []))]]
/- 26: FlagMachine$Bits.search(Z)V -/
noncomputable def tb_c26 : List (List (Nat × am_I)) := [[(0, (1, .aload_n 0, 1, 0, 0, .null, [], none)),
  (1, (3, .getfield 24, 3, 8, 2, .null, [], none)),
  (4, (3, .getfield 39, 3, 1, 1, .null, [], none)),
  (7, (1, .istore_n 2, 1, 0, 0, .null, [], none)),
  (8, (1, .aload_n 0, 1, 0, 0, .null, [], none)),
  (9, (3, .getfield 7, 3, 8, 0, .null, [], none)),
  (12, (0, .iconst 1, 1, 0, 0, (.int 1), [], none)),
  (13, (1, .iload_n 2, 1, 0, 0, .null, [], none)),
  (14, (4, .invokevirtual 45, 3, 32, 3, .null, [], none)),
  (17, (1, .lstore_n 3, 1, 0, 0, .null, [], none)),
  (18, (1, .aload_n 0, 1, 0, 0, .null, [], none)),
  (19, (3, .getfield 7, 3, 8, 0, .null, [], none)),
  (22, (3, .getfield 49, 3, 3, 7, .null, [], none)),
  (25, (2, .ifCond .eq 4, 3, 29, 0, .null, [], none)),
  (28, (5, .return_, 1, 0, 0, .null, [], none)),
  (29, (1, .aload_n 0, 1, 0, 0, .null, [], none)),
  (30, (3, .getfield 19, 3, 8, 1, .null, [], none))],
 [(33, (1, .lload_n 3, 1, 0, 0, .null, [], none)),
  (34, (0, .lconst 0, 1, 0, 0, (.long 0), [], none)),
  (35, (0, .lcmp, 1, 0, 0, .null, [], none)),
  (36, (2, .ifCond .ne 7, 3, 43, 0, .null, [], none)),
  (39, (0, .iconst 1, 1, 0, 0, (.int 1), [], none)),
  (40, (2, .goto 4, 3, 44, 0, .null, [], none)),
  (43, (0, .iconst 0, 1, 0, 0, (.int 0), [], none)),
  (44, (3, .putfield 86, 3, 4, 2, .null, [], some [0, 1, 2, 3])),
  (47, (1, .lload_n 3, 1, 0, 0, .null, [], none)),
  (48, (0, .lconst 0, 1, 0, 0, (.long 0), [], none)),
  (49, (0, .lcmp, 1, 0, 0, .null, [], none)),
  (50, (2, .ifCond .eq 30, 3, 80, 0, .null, [], none)),
  (53, (1, .aload_n 0, 1, 0, 0, .null, [], none)),
  (54, (3, .getfield 7, 3, 8, 0, .null, [], none)),
  (57, (0, .iconst 0, 1, 0, 0, (.int 0), [], none)),
  (58, (1, .iload_n 2, 1, 0, 0, .null, [], none)),
  (59, (1, .iload_n 1, 1, 0, 0, .null, [], none)),
  (60, (2, .ifCond .eq 11, 3, 71, 0, .null, [], none)),
  (63, (1, .lload_n 3, 1, 0, 0, .null, [], none))],
 [(64, (4, .invokestatic 89, 3, 23, 1, .null, [], none)),
  (67, (0, .i2l, 1, 0, 0, .null, [], none)),
  (68, (2, .goto 8, 3, 76, 0, .null, [], none)),
  (71, (1, .lload_n 3, 1, 0, 0, .null, [], none)),
  (72, (4, .invokestatic 93, 3, 22, 1, .null, [], none)),
  (75, (0, .i2l, 1, 0, 0, .null, [], none)),
  (76, (4, .invokevirtual 62, 3, 42, 4, .null, [], some [])),
  (79, (0, .pop, 1, 0, 0, .null, [], none)),
  (80, (5, .return_, 1, 0, 0, .null, [], some []))]]
/- 27: FlagMachine$Bits.shift(I)V -/
noncomputable def tb_c27 : List (List (Nat × am_I)) := [[(0, (1, .aload_n 0, 1, 0, 0, .null, [], none)),
  (1, (3, .getfield 24, 3, 8, 2, .null, [], none)),
  (4, (3, .getfield 39, 3, 1, 1, .null, [], none)),
  (7, (1, .istore_n 2, 1, 0, 0, .null, [], none)),
  (8, (1, .aload_n 0, 1, 0, 0, .null, [], none)),
  (9, (3, .getfield 7, 3, 8, 0, .null, [], none)),
  (12, (0, .iconst 0, 1, 0, 0, (.int 0), [], none)),
  (13, (1, .iload_n 2, 1, 0, 0, .null, [], none)),
  (14, (4, .invokevirtual 45, 3, 32, 3, .null, [], none)),
  (17, (1, .lstore_n 3, 1, 0, 0, .null, [], none)),
  (18, (1, .aload_n 0, 1, 0, 0, .null, [], none)),
  (19, (3, .getfield 7, 3, 8, 0, .null, [], none)),
  (22, (0, .iconst 1, 1, 0, 0, (.int 1), [], none)),
  (23, (0, .iconst 1, 1, 0, 0, (.int 1), [], none)),
  (24, (4, .invokevirtual 45, 3, 32, 3, .null, [], none)),
  (27, (0, .l2i, 1, 0, 0, .null, [], none)),
  (28, (1, .iload_n 2, 1, 0, 0, .null, [], none)),
  (29, (0, .bipush 8, 2, 0, 0, (.int 8), [], none)),
  (31, (2, .if_icmp .ne 8, 3, 39, 0, .null, [], none))],
 [(34, (0, .bipush 63, 2, 0, 0, (.int 63), [], none)),
  (36, (2, .goto 5, 3, 41, 0, .null, [], none)),
  (39, (0, .bipush 31, 2, 0, 0, (.int 31), [], none)),
  (41, (0, .iand, 1, 0, 0, .null, [], some [0, 1, 2, 3])),
  (42, (1, .istore 5, 2, 0, 0, .null, [], none)),
  (44, (1, .aload_n 0, 1, 0, 0, .null, [], none)),
  (45, (3, .getfield 7, 3, 8, 0, .null, [], none)),
  (48, (3, .getfield 49, 3, 3, 7, .null, [], none)),
  (51, (2, .ifCond .ne 8, 3, 59, 0, .null, [], none)),
  (54, (1, .iload 5, 2, 0, 0, .null, [], none)),
  (56, (2, .ifCond .ne 4, 3, 60, 0, .null, [], none)),
  (59, (5, .return_, 1, 0, 0, .null, [], some [])),
  (60, (1, .lload_n 3, 1, 0, 0, .null, [], none)),
  (61, (1, .lstore 6, 2, 0, 0, .null, [], none)),
  (63, (0, .iconst 1, 1, 0, 0, (.int 1), [], none))],
 [(64, (1, .istore 8, 2, 0, 0, .null, [], none)),
  (66, (1, .iload 8, 2, 0, 0, .null, [], some [0, 1, 2, 3, 5, 6, 8])),
  (68, (1, .iload 5, 2, 0, 0, .null, [], none)),
  (70, (2, .if_icmp .ge 18, 3, 88, 0, .null, [], none)),
  (73, (1, .iload_n 1, 1, 0, 0, .null, [], none)),
  (74, (1, .lload 6, 2, 0, 0, .null, [], none)),
  (76, (1, .iload_n 2, 1, 0, 0, .null, [], none)),
  (77, (4, .invokestatic 52, 3, 28, 3, .null, [], none)),
  (80, (1, .lstore 6, 2, 0, 0, .null, [], none)),
  (82, (1, .iinc 8 1, 3, 0, 0, (.int 1), [], none)),
  (85, (2, .goto (-19), 3, 66, 0, .null, [], none)),
  (88, (1, .lload 6, 2, 0, 0, .null, [], none)),
  (90, (1, .iload_n 1, 1, 0, 0, .null, [], none)),
  (91, (0, .bipush 24, 2, 0, 0, (.int 24), [], none)),
  (93, (2, .if_icmp .eq 9, 3, 102, 0, .null, [], none))],
 [(96, (1, .iload_n 1, 1, 0, 0, .null, [], none)),
  (97, (0, .bipush 26, 2, 0, 0, (.int 26), [], none)),
  (99, (2, .if_icmp .ne 10, 3, 109, 0, .null, [], none)),
  (102, (1, .iload_n 2, 1, 0, 0, .null, [], some [0, 1, 2, 3, 5, 6])),
  (103, (4, .invokestatic 56, 3, 19, 1, .null, [], none)),
  (106, (2, .goto 4, 3, 110, 0, .null, [], none)),
  (109, (0, .lconst 1, 1, 0, 0, (.long 1), [], none)),
  (110, (0, .land, 1, 0, 0, .null, [], some [0, 1, 2, 3, 5, 6])),
  (111, (0, .lconst 0, 1, 0, 0, (.long 0), [], none)),
  (112, (0, .lcmp, 1, 0, 0, .null, [], none)),
  (113, (2, .ifCond .eq 7, 3, 120, 0, .null, [], none)),
  (116, (0, .iconst 1, 1, 0, 0, (.int 1), [], none)),
  (117, (2, .goto 4, 3, 121, 0, .null, [], none)),
  (120, (0, .iconst 0, 1, 0, 0, (.int 0), [], none)),
  (121, (1, .istore 8, 2, 0, 0, .null, [], some [0, 1, 2, 3, 5, 6])),
  (123, (1, .iload_n 1, 1, 0, 0, .null, [], none)),
  (124, (1, .lload 6, 2, 0, 0, .null, [], none)),
  (126, (1, .iload_n 2, 1, 0, 0, .null, [], none)),
  (127, (4, .invokestatic 52, 3, 28, 3, .null, [], none))],
 [(130, (1, .lstore 6, 2, 0, 0, .null, [], none)),
  (132, (1, .aload_n 0, 1, 0, 0, .null, [], none)),
  (133, (3, .getfield 7, 3, 8, 0, .null, [], none)),
  (136, (0, .iconst 0, 1, 0, 0, (.int 0), [], none)),
  (137, (1, .iload_n 2, 1, 0, 0, .null, [], none)),
  (138, (1, .lload 6, 2, 0, 0, .null, [], none)),
  (140, (4, .invokevirtual 62, 3, 42, 4, .null, [], none)),
  (143, (2, .ifCond .ne 4, 3, 147, 0, .null, [], none)),
  (146, (5, .return_, 1, 0, 0, .null, [], none)),
  (147, (1, .aload_n 0, 1, 0, 0, .null, [], none)),
  (148, (3, .getfield 19, 3, 8, 1, .null, [], none)),
  (151, (1, .iload 8, 2, 0, 0, .null, [], none)),
  (153, (3, .putfield 66, 3, 4, 0, .null, [], none)),
  (156, (1, .iload 5, 2, 0, 0, .null, [], none)),
  (158, (0, .iconst 1, 1, 0, 0, (.int 1), [], none)),
  (159, (2, .if_icmp .ne 19, 3, 178, 0, .null, [], none))],
 [(162, (1, .aload_n 0, 1, 0, 0, .null, [], none)),
  (163, (3, .getfield 19, 3, 8, 1, .null, [], none)),
  (166, (1, .aload_n 0, 1, 0, 0, .null, [], none)),
  (167, (1, .iload_n 1, 1, 0, 0, .null, [], none)),
  (168, (1, .lload_n 3, 1, 0, 0, .null, [], none)),
  (169, (1, .lload 6, 2, 0, 0, .null, [], none)),
  (171, (1, .iload_n 2, 1, 0, 0, .null, [], none)),
  (172, (4, .invokevirtual 72, 3, 24, 5, .null, [], none)),
  (175, (3, .putfield 76, 3, 4, 4, .null, [], none)),
  (178, (1, .iload_n 1, 1, 0, 0, .null, [], some [0, 1, 2, 6])),
  (179, (0, .bipush 26, 2, 0, 0, (.int 26), [], none)),
  (181, (2, .if_icmp .lt 13, 3, 194, 0, .null, [], none)),
  (184, (1, .aload_n 0, 1, 0, 0, .null, [], none)),
  (185, (3, .getfield 19, 3, 8, 1, .null, [], none)),
  (188, (1, .lload 6, 2, 0, 0, .null, [], none)),
  (190, (1, .iload_n 2, 1, 0, 0, .null, [], none)),
  (191, (4, .invokevirtual 79, 3, 51, 3, .null, [], none))],
 [(194, (5, .return_, 1, 0, 0, .null, [], some []))]]
/- 28: FlagMachine$Bits.shiftOnce(IJI)J -/
noncomputable def tb_c28 : List (List (Nat × am_I)) := [[(0, (1, .iload_n 3, 1, 0, 0, .null, [], none)),
  (1, (4, .invokestatic 56, 3, 19, 1, .null, [], none)),
  (4, (1, .lstore 4, 2, 0, 0, .null, [], none)),
  (6, (1, .iload_n 0, 1, 0, 0, .null, [], none)),
  (7, (2, .tableswitch 86 24 27 #[29, 54, 73, 82], 29, 93, 0, .null, [(24, 36), (25, 61), (26, 80), (27, 89)], none))],
 [(36, (1, .lload_n 1, 1, 0, 0, .null, [], none)),
  (37, (0, .iconst 1, 1, 0, 0, (.int 1), [], none)),
  (38, (0, .lshl, 1, 0, 0, .null, [], none)),
  (39, (1, .iload_n 3, 1, 0, 0, .null, [], none)),
  (40, (4, .invokestatic 83, 3, 7, 1, .null, [], none)),
  (43, (0, .land, 1, 0, 0, .null, [], none)),
  (44, (1, .lload_n 1, 1, 0, 0, .null, [], none)),
  (45, (1, .lload 4, 2, 0, 0, .null, [], none)),
  (47, (0, .land, 1, 0, 0, .null, [], none)),
  (48, (0, .lconst 0, 1, 0, 0, (.long 0), [], none)),
  (49, (0, .lcmp, 1, 0, 0, .null, [], none)),
  (50, (2, .ifCond .eq 7, 3, 57, 0, .null, [], none)),
  (53, (0, .iconst 1, 1, 0, 0, (.int 1), [], none)),
  (54, (2, .goto 4, 3, 58, 0, .null, [], none)),
  (57, (0, .iconst 0, 1, 0, 0, (.int 0), [], none)),
  (58, (0, .i2l, 1, 0, 0, .null, [], some [])),
  (59, (0, .lor, 1, 0, 0, .null, [], none)),
  (60, (5, .lreturn, 1, 0, 0, .null, [], none)),
  (61, (1, .lload_n 1, 1, 0, 0, .null, [], none)),
  (62, (0, .iconst 1, 1, 0, 0, (.int 1), [], none)),
  (63, (0, .lushr, 1, 0, 0, .null, [], none))],
 [(64, (1, .lload_n 1, 1, 0, 0, .null, [], none)),
  (65, (0, .lconst 1, 1, 0, 0, (.long 1), [], none)),
  (66, (0, .land, 1, 0, 0, .null, [], none)),
  (67, (0, .lconst 0, 1, 0, 0, (.long 0), [], none)),
  (68, (0, .lcmp, 1, 0, 0, .null, [], none)),
  (69, (2, .ifCond .eq 8, 3, 77, 0, .null, [], none)),
  (72, (1, .lload 4, 2, 0, 0, .null, [], none)),
  (74, (2, .goto 4, 3, 78, 0, .null, [], none)),
  (77, (0, .lconst 0, 1, 0, 0, (.long 0), [], none)),
  (78, (0, .lor, 1, 0, 0, .null, [], some [])),
  (79, (5, .lreturn, 1, 0, 0, .null, [], none)),
  (80, (1, .lload_n 1, 1, 0, 0, .null, [], none)),
  (81, (0, .iconst 1, 1, 0, 0, (.int 1), [], none)),
  (82, (0, .lshl, 1, 0, 0, .null, [], none)),
  (83, (1, .iload_n 3, 1, 0, 0, .null, [], none)),
  (84, (4, .invokestatic 83, 3, 7, 1, .null, [], none)),
  (87, (0, .land, 1, 0, 0, .null, [], none)),
  (88, (5, .lreturn, 1, 0, 0, .null, [], none)),
  (89, (1, .lload_n 1, 1, 0, 0, .null, [], none)),
  (90, (0, .iconst 1, 1, 0, 0, (.int 1), [], none)),
  (91, (0, .lushr, 1, 0, 0, .null, [], none)),
  (92, (5, .lreturn, 1, 0, 0, .null, [], none)),
  (93, (1, .lload_n 1, 1, 0, 0, .null, [], none)),
  (94, (0, .iconst 1, 1, 0, 0, (.int 1), [], none)),
  (95, (0, .lushr, 1, 0, 0, .null, [], none))],
 [(96, (1, .lload_n 1, 1, 0, 0, .null, [], none)),
  (97, (1, .lload 4, 2, 0, 0, .null, [], none)),
  (99, (0, .land, 1, 0, 0, .null, [], none)),
  (100, (0, .lor, 1, 0, 0, .null, [], none)),
  (101, (5, .lreturn, 1, 0, 0, .null, [], none))]]
/- 29: FlagMachine$Bits.testBit()V -/
noncomputable def tb_c29 : List (List (Nat × am_I)) := [[(0, (1, .aload_n 0, 1, 0, 0, .null, [], none)),
  (1, (3, .getfield 24, 3, 8, 2, .null, [], none)),
  (4, (3, .getfield 39, 3, 1, 1, .null, [], none)),
  (7, (1, .istore_n 1, 1, 0, 0, .null, [], none)),
  (8, (1, .aload_n 0, 1, 0, 0, .null, [], none)),
  (9, (3, .getfield 7, 3, 8, 0, .null, [], none)),
  (12, (0, .iconst 0, 1, 0, 0, (.int 0), [], none)),
  (13, (1, .iload_n 1, 1, 0, 0, .null, [], none)),
  (14, (4, .invokevirtual 45, 3, 32, 3, .null, [], none)),
  (17, (1, .lstore_n 2, 1, 0, 0, .null, [], none)),
  (18, (1, .aload_n 0, 1, 0, 0, .null, [], none)),
  (19, (3, .getfield 7, 3, 8, 0, .null, [], none)),
  (22, (0, .iconst 1, 1, 0, 0, (.int 1), [], none)),
  (23, (0, .iconst 1, 1, 0, 0, (.int 1), [], none)),
  (24, (4, .invokevirtual 45, 3, 32, 3, .null, [], none)),
  (27, (0, .l2i, 1, 0, 0, .null, [], none)),
  (28, (0, .bipush 8, 2, 0, 0, (.int 8), [], none)),
  (30, (1, .iload_n 1, 1, 0, 0, .null, [], none)),
  (31, (0, .imul, 1, 0, 0, .null, [], none))],
 [(32, (0, .iconst 1, 1, 0, 0, (.int 1), [], none)),
  (33, (0, .isub, 1, 0, 0, .null, [], none)),
  (34, (0, .iand, 1, 0, 0, .null, [], none)),
  (35, (1, .istore 4, 2, 0, 0, .null, [], none)),
  (37, (1, .aload_n 0, 1, 0, 0, .null, [], none)),
  (38, (3, .getfield 7, 3, 8, 0, .null, [], none)),
  (41, (3, .getfield 49, 3, 3, 7, .null, [], none)),
  (44, (2, .ifCond .ne 26, 3, 70, 0, .null, [], none)),
  (47, (1, .aload_n 0, 1, 0, 0, .null, [], none)),
  (48, (3, .getfield 19, 3, 8, 1, .null, [], none)),
  (51, (1, .lload_n 2, 1, 0, 0, .null, [], none)),
  (52, (1, .iload 4, 2, 0, 0, .null, [], none)),
  (54, (0, .lushr, 1, 0, 0, .null, [], none)),
  (55, (0, .lconst 1, 1, 0, 0, (.long 1), [], none)),
  (56, (0, .land, 1, 0, 0, .null, [], none)),
  (57, (0, .lconst 0, 1, 0, 0, (.long 0), [], none)),
  (58, (0, .lcmp, 1, 0, 0, .null, [], none)),
  (59, (2, .ifCond .eq 7, 3, 66, 0, .null, [], none)),
  (62, (0, .iconst 1, 1, 0, 0, (.int 1), [], none)),
  (63, (2, .goto 4, 3, 67, 0, .null, [], none))],
 [(66, (0, .iconst 0, 1, 0, 0, (.int 0), [], none)),
  (67, (3, .putfield 66, 3, 4, 0, .null, [], some [])),
  (70, (5, .return_, 1, 0, 0, .null, [], some []))]]
/- 30: FlagMachine$Bits.turnBytes()V -/
noncomputable def tb_c30 : List (List (Nat × am_I)) := [[(0, (1, .aload_n 0, 1, 0, 0, .null, [], none)),
  (1, (3, .getfield 24, 3, 8, 2, .null, [], none)),
  (4, (3, .getfield 39, 3, 1, 1, .null, [], none)),
  (7, (1, .istore_n 1, 1, 0, 0, .null, [], none)),
  (8, (1, .aload_n 0, 1, 0, 0, .null, [], none)),
  (9, (3, .getfield 7, 3, 8, 0, .null, [], none)),
  (12, (0, .iconst 0, 1, 0, 0, (.int 0), [], none)),
  (13, (1, .iload_n 1, 1, 0, 0, .null, [], none)),
  (14, (4, .invokevirtual 45, 3, 32, 3, .null, [], none)),
  (17, (1, .lstore_n 2, 1, 0, 0, .null, [], none)),
  (18, (0, .lconst 0, 1, 0, 0, (.long 0), [], none)),
  (19, (1, .lstore 4, 2, 0, 0, .null, [], none)),
  (21, (0, .iconst 0, 1, 0, 0, (.int 0), [], none)),
  (22, (1, .istore 6, 2, 0, 0, .null, [], none)),
  (24, (1, .iload 6, 2, 0, 0, .null, [], some [0, 1, 2, 4, 6])),
  (26, (1, .iload_n 1, 1, 0, 0, .null, [], none)),
  (27, (2, .if_icmp .ge 28, 3, 55, 0, .null, [], none)),
  (30, (1, .lload 4, 2, 0, 0, .null, [], none))],
 [(32, (0, .bipush 8, 2, 0, 0, (.int 8), [], none)),
  (34, (0, .lshl, 1, 0, 0, .null, [], none)),
  (35, (1, .lload_n 2, 1, 0, 0, .null, [], none)),
  (36, (0, .bipush 8, 2, 0, 0, (.int 8), [], none)),
  (38, (1, .iload 6, 2, 0, 0, .null, [], none)),
  (40, (0, .imul, 1, 0, 0, .null, [], none)),
  (41, (0, .lushr, 1, 0, 0, .null, [], none)),
  (42, (0, .ldc2_w 96, 3, 0, 0, (.long 255), [], none)),
  (45, (0, .land, 1, 0, 0, .null, [], none)),
  (46, (0, .lor, 1, 0, 0, .null, [], none)),
  (47, (1, .lstore 4, 2, 0, 0, .null, [], none)),
  (49, (1, .iinc 6 1, 3, 0, 0, (.int 1), [], none)),
  (52, (2, .goto (-28), 3, 24, 0, .null, [], none)),
  (55, (1, .aload_n 0, 1, 0, 0, .null, [], none)),
  (56, (3, .getfield 7, 3, 8, 0, .null, [], none)),
  (59, (0, .iconst 0, 1, 0, 0, (.int 0), [], none)),
  (60, (1, .iload_n 1, 1, 0, 0, .null, [], none)),
  (61, (1, .lload 4, 2, 0, 0, .null, [], none)),
  (63, (4, .invokevirtual 62, 3, 42, 4, .null, [], none))],
 [(66, (0, .pop, 1, 0, 0, .null, [], none)),
  (67, (5, .return_, 1, 0, 0, .null, [], none))]]
/- 31: FlagMachine$Core.<init>(LFlagMachine$Instruction;)V -/
noncomputable def tb_c31 : List (List (Nat × am_I)) := [[(0, (1, .aload_n 0, 1, 0, 0, .null, [], none)),
  (1, (3, .invokespecial 3, 3, 0, 0, .null, [], none)),
  (4, (1, .aload_n 0, 1, 0, 0, .null, [], none)),
  (5, (0, .bipush 16, 2, 0, 0, (.int 16), [], none)),
  (7, (3, .newarray .long, 2, 0, 0, .null, [], none)),
  (9, (3, .putfield 9, 3, 3, 0, .null, [], none)),
  (12, (1, .aload_n 0, 1, 0, 0, .null, [], none)),
  (13, (3, .new 15, 3, 4, 0, .null, [], none)),
  (16, (0, .dup, 1, 0, 0, .null, [], none)),
  (17, (4, .invokespecial 17, 3, 43, 1, .null, [], none)),
  (20, (3, .putfield 18, 3, 3, 1, .null, [], none)),
  (23, (1, .aload_n 0, 1, 0, 0, .null, [], none)),
  (24, (3, .new 22, 3, 5, 0, .null, [], none)),
  (27, (0, .dup, 1, 0, 0, .null, [], none)),
  (28, (4, .invokespecial 24, 3, 65, 1, .null, [], none)),
  (31, (3, .putfield 25, 3, 3, 2, .null, [], none))],
 [(34, (1, .aload_n 0, 1, 0, 0, .null, [], none)),
  (35, (1, .aload_n 1, 1, 0, 0, .null, [], none)),
  (36, (3, .putfield 29, 3, 3, 3, .null, [], none)),
  (39, (5, .return_, 1, 0, 0, .null, [], none))]]
/- 32: FlagMachine$Core.fetch(II)J -/
noncomputable def tb_c32 : List (List (Nat × am_I)) := [[(0, (1, .aload_n 0, 1, 0, 0, .null, [], none)),
  (1, (3, .getfield 29, 3, 3, 3, .null, [], none)),
  (4, (3, .getfield 94, 3, 1, 3, .null, [], none)),
  (7, (1, .iload_n 1, 1, 0, 0, .null, [], none)),
  (8, (3, .iaload, 1, 0, 0, .null, [], none)),
  (9, (2, .tableswitch 65 1 3 #[27, 42, 52], 27, 74, 0, .null, [(1, 36), (2, 51), (3, 61)], none))],
 [(36, (1, .aload_n 0, 1, 0, 0, .null, [], none)),
  (37, (1, .aload_n 0, 1, 0, 0, .null, [], none)),
  (38, (3, .getfield 29, 3, 3, 3, .null, [], none)),
  (41, (3, .getfield 98, 3, 1, 4, .null, [], none)),
  (44, (1, .iload_n 1, 1, 0, 0, .null, [], none)),
  (45, (3, .iaload, 1, 0, 0, .null, [], none)),
  (46, (1, .iload_n 2, 1, 0, 0, .null, [], none)),
  (47, (4, .invokevirtual 100, 3, 35, 3, .null, [], none)),
  (50, (5, .lreturn, 1, 0, 0, .null, [], none)),
  (51, (1, .aload_n 0, 1, 0, 0, .null, [], none)),
  (52, (1, .aload_n 0, 1, 0, 0, .null, [], none)),
  (53, (3, .getfield 70, 3, 3, 6, .null, [], none)),
  (56, (1, .iload_n 2, 1, 0, 0, .null, [], none)),
  (57, (4, .invokevirtual 104, 3, 33, 3, .null, [], none)),
  (60, (5, .lreturn, 1, 0, 0, .null, [], none)),
  (61, (1, .aload_n 0, 1, 0, 0, .null, [], none)),
  (62, (3, .getfield 29, 3, 3, 3, .null, [], none))],
 [(65, (3, .getfield 108, 3, 1, 9, .null, [], none)),
  (68, (1, .iload_n 2, 1, 0, 0, .null, [], none)),
  (69, (4, .invokestatic 89, 3, 7, 1, .null, [], none)),
  (72, (0, .land, 1, 0, 0, .null, [], none)),
  (73, (5, .lreturn, 1, 0, 0, .null, [], none)),
  (74, (0, .lconst 0, 1, 0, 0, (.long 0), [], none)),
  (75, (5, .lreturn, 1, 0, 0, .null, [], none))]]
/- 33: FlagMachine$Core.load(JI)J -/
noncomputable def tb_c33 : List (List (Nat × am_I)) := [[(0, (1, .aload_n 0, 1, 0, 0, .null, [], none)),
  (1, (3, .getfield 25, 3, 3, 2, .null, [], none)),
  (4, (1, .lload_n 1, 1, 0, 0, .null, [], none)),
  (5, (1, .iload_n 3, 1, 0, 0, .null, [], none)),
  (6, (0, .iconst 0, 1, 0, 0, (.int 0), [], none)),
  (7, (4, .invokevirtual 111, 3, 71, 4, .null, [], none)),
  (10, (1, .istore 4, 2, 0, 0, .null, [], none)),
  (12, (1, .iload 4, 2, 0, 0, .null, [], none)),
  (14, (0, .iconst (-1), 1, 0, 0, (.int (-1)), [], none)),
  (15, (2, .if_icmp .ne 11, 3, 26, 0, .null, [], none)),
  (18, (1, .aload_n 0, 1, 0, 0, .null, [], none)),
  (19, (0, .iconst 3, 1, 0, 0, (.int 3), [], none)),
  (20, (1, .lload_n 1, 1, 0, 0, .null, [], none)),
  (21, (4, .invokevirtual 115, 3, 41, 3, .null, [], none)),
  (24, (0, .lconst 0, 1, 0, 0, (.long 0), [], none)),
  (25, (5, .lreturn, 1, 0, 0, .null, [], none)),
  (26, (1, .aload_n 0, 1, 0, 0, .null, [], none)),
  (27, (3, .getfield 25, 3, 3, 2, .null, [], none)),
  (30, (3, .getfield 119, 3, 5, 0, .null, [], none))],
 [(33, (1, .iload 4, 2, 0, 0, .null, [], none)),
  (35, (1, .iload_n 3, 1, 0, 0, .null, [], none)),
  (36, (4, .invokevirtual 123, 3, 119, 3, .null, [], none)),
  (39, (5, .lreturn, 1, 0, 0, .null, [], none))]]
/- 34: FlagMachine$Core.memoryAddress()J -/
noncomputable def tb_c34 : List (List (Nat × am_I)) := [[(0, (1, .aload_n 0, 1, 0, 0, .null, [], none)),
  (1, (3, .getfield 29, 3, 3, 3, .null, [], none)),
  (4, (3, .getfield 73, 3, 1, 5, .null, [], none)),
  (7, (0, .bipush 16, 2, 0, 0, (.int 16), [], none)),
  (9, (2, .if_icmp .ne 10, 3, 19, 0, .null, [], none)),
  (12, (1, .aload_n 0, 1, 0, 0, .null, [], none)),
  (13, (3, .getfield 57, 3, 3, 5, .null, [], none)),
  (16, (2, .goto 14, 3, 30, 0, .null, [], none)),
  (19, (1, .aload_n 0, 1, 0, 0, .null, [], none)),
  (20, (1, .aload_n 0, 1, 0, 0, .null, [], none)),
  (21, (3, .getfield 29, 3, 3, 3, .null, [], none)),
  (24, (3, .getfield 73, 3, 1, 5, .null, [], none)),
  (27, (4, .invokevirtual 76, 3, 38, 2, .null, [], none)),
  (30, (1, .lstore_n 1, 1, 0, 0, .null, [], some [0])),
  (31, (1, .lload_n 1, 1, 0, 0, .null, [], none))],
 [(32, (1, .aload_n 0, 1, 0, 0, .null, [], none)),
  (33, (1, .aload_n 0, 1, 0, 0, .null, [], none)),
  (34, (3, .getfield 29, 3, 3, 3, .null, [], none)),
  (37, (3, .getfield 80, 3, 1, 6, .null, [], none)),
  (40, (4, .invokevirtual 76, 3, 38, 2, .null, [], none)),
  (43, (1, .aload_n 0, 1, 0, 0, .null, [], none)),
  (44, (3, .getfield 29, 3, 3, 3, .null, [], none)),
  (47, (3, .getfield 83, 3, 1, 7, .null, [], none)),
  (50, (0, .i2l, 1, 0, 0, .null, [], none)),
  (51, (0, .lmul, 1, 0, 0, .null, [], none)),
  (52, (0, .ladd, 1, 0, 0, .null, [], none)),
  (53, (1, .aload_n 0, 1, 0, 0, .null, [], none)),
  (54, (3, .getfield 29, 3, 3, 3, .null, [], none)),
  (57, (3, .getfield 86, 3, 1, 8, .null, [], none)),
  (60, (0, .i2l, 1, 0, 0, .null, [], none)),
  (61, (0, .ladd, 1, 0, 0, .null, [], none)),
  (62, (5, .lreturn, 1, 0, 0, .null, [], none))]]
/- 35: FlagMachine$Core.part(II)J -/
noncomputable def tb_c35 : List (List (Nat × am_I)) := [[(0, (1, .aload_n 0, 1, 0, 0, .null, [], none)),
  (1, (3, .getfield 9, 3, 3, 0, .null, [], none)),
  (4, (1, .iload_n 1, 1, 0, 0, .null, [], none)),
  (5, (3, .laload, 1, 0, 0, .null, [], none)),
  (6, (1, .iload_n 2, 1, 0, 0, .null, [], none)),
  (7, (4, .invokestatic 89, 3, 7, 1, .null, [], none)),
  (10, (0, .land, 1, 0, 0, .null, [], none)),
  (11, (5, .lreturn, 1, 0, 0, .null, [], none))]]
/- 36: FlagMachine$Core.prepare(I)V -/
noncomputable def tb_c36 : List (List (Nat × am_I)) := [[(0, (1, .aload_n 0, 1, 0, 0, .null, [], none)),
  (1, (0, .iconst 0, 1, 0, 0, (.int 0), [], none)),
  (2, (3, .putfield 50, 3, 3, 7, .null, [], none)),
  (5, (1, .aload_n 0, 1, 0, 0, .null, [], none)),
  (6, (0, .lconst 0, 1, 0, 0, (.long 0), [], none)),
  (7, (3, .putfield 54, 3, 3, 8, .null, [], none)),
  (10, (1, .aload_n 0, 1, 0, 0, .null, [], none)),
  (11, (1, .aload_n 0, 1, 0, 0, .null, [], none)),
  (12, (3, .getfield 46, 3, 3, 4, .null, [], none)),
  (15, (1, .iload_n 1, 1, 0, 0, .null, [], none)),
  (16, (0, .i2l, 1, 0, 0, .null, [], none)),
  (17, (0, .ladd, 1, 0, 0, .null, [], none)),
  (18, (3, .putfield 57, 3, 3, 5, .null, [], none)),
  (21, (1, .aload_n 0, 1, 0, 0, .null, [], none)),
  (22, (1, .aload_n 0, 1, 0, 0, .null, [], none)),
  (23, (3, .getfield 29, 3, 3, 3, .null, [], none)),
  (26, (0, .iconst 2, 1, 0, 0, (.int 2), [], none)),
  (27, (4, .invokevirtual 60, 3, 55, 2, .null, [], none)),
  (30, (2, .ifCond .eq 10, 3, 40, 0, .null, [], none))],
 [(33, (1, .aload_n 0, 1, 0, 0, .null, [], none)),
  (34, (4, .invokevirtual 66, 3, 34, 1, .null, [], none)),
  (37, (2, .goto 4, 3, 41, 0, .null, [], none)),
  (40, (0, .lconst 0, 1, 0, 0, (.long 0), [], none)),
  (41, (3, .putfield 70, 3, 3, 6, .null, [], some [])),
  (44, (5, .return_, 1, 0, 0, .null, [], none))]]
/- 37: FlagMachine$Core.putPart(IIJ)V -/
noncomputable def tb_c37 : List (List (Nat × am_I)) := [[(0, (1, .iload_n 2, 1, 0, 0, .null, [], none)),
  (1, (0, .iconst 4, 1, 0, 0, (.int 4), [], none)),
  (2, (2, .if_icmp .lt 18, 3, 20, 0, .null, [], none)),
  (5, (1, .aload_n 0, 1, 0, 0, .null, [], none)),
  (6, (3, .getfield 9, 3, 3, 0, .null, [], none)),
  (9, (1, .iload_n 1, 1, 0, 0, .null, [], none)),
  (10, (1, .lload_n 3, 1, 0, 0, .null, [], none)),
  (11, (1, .iload_n 2, 1, 0, 0, .null, [], none)),
  (12, (4, .invokestatic 89, 3, 7, 1, .null, [], none)),
  (15, (0, .land, 1, 0, 0, .null, [], none)),
  (16, (3, .lastore, 1, 0, 0, .null, [], none)),
  (17, (2, .goto 31, 3, 48, 0, .null, [], none)),
  (20, (1, .aload_n 0, 1, 0, 0, .null, [], none)),
  (21, (3, .getfield 9, 3, 3, 0, .null, [], none)),
  (24, (1, .iload_n 1, 1, 0, 0, .null, [], none)),
  (25, (1, .aload_n 0, 1, 0, 0, .null, [], none)),
  (26, (3, .getfield 9, 3, 3, 0, .null, [], none)),
  (29, (1, .iload_n 1, 1, 0, 0, .null, [], none)),
  (30, (3, .laload, 1, 0, 0, .null, [], none)),
  (31, (1, .iload_n 2, 1, 0, 0, .null, [], none))],
 [(32, (4, .invokestatic 89, 3, 7, 1, .null, [], none)),
  (35, (0, .ldc2_w 92, 3, 0, 0, (.long (-1)), [], none)),
  (38, (0, .lxor, 1, 0, 0, .null, [], none)),
  (39, (0, .land, 1, 0, 0, .null, [], none)),
  (40, (1, .lload_n 3, 1, 0, 0, .null, [], none)),
  (41, (1, .iload_n 2, 1, 0, 0, .null, [], none)),
  (42, (4, .invokestatic 89, 3, 7, 1, .null, [], none)),
  (45, (0, .land, 1, 0, 0, .null, [], none)),
  (46, (0, .lor, 1, 0, 0, .null, [], none)),
  (47, (3, .lastore, 1, 0, 0, .null, [], none)),
  (48, (5, .return_, 1, 0, 0, .null, [], some []))]]
/- 38: FlagMachine$Core.registerOrZero(I)J -/
noncomputable def tb_c38 : List (List (Nat × am_I)) := [[(0, (1, .iload_n 1, 1, 0, 0, .null, [], none)),
  (1, (2, .ifCond .lt 21, 3, 22, 0, .null, [], none)),
  (4, (1, .iload_n 1, 1, 0, 0, .null, [], none)),
  (5, (1, .aload_n 0, 1, 0, 0, .null, [], none)),
  (6, (3, .getfield 9, 3, 3, 0, .null, [], none)),
  (9, (3, .arraylength, 1, 3, 0, .null, [], none)),
  (10, (2, .if_icmp .ge 12, 3, 22, 0, .null, [], none)),
  (13, (1, .aload_n 0, 1, 0, 0, .null, [], none)),
  (14, (3, .getfield 9, 3, 3, 0, .null, [], none)),
  (17, (1, .iload_n 1, 1, 0, 0, .null, [], none)),
  (18, (3, .laload, 1, 0, 0, .null, [], none)),
  (19, (2, .goto 4, 3, 23, 0, .null, [], none)),
  (22, (0, .lconst 0, 1, 0, 0, (.long 0), [], some [])),
  (23, (5, .lreturn, 1, 0, 0, .null, [], some []))]]
/- 39: FlagMachine$Core.save(JIJ)Z -/
noncomputable def tb_c39 : List (List (Nat × am_I)) := [[(0, (1, .aload_n 0, 1, 0, 0, .null, [], none)),
  (1, (3, .getfield 25, 3, 3, 2, .null, [], none)),
  (4, (1, .lload_n 1, 1, 0, 0, .null, [], none)),
  (5, (1, .iload_n 3, 1, 0, 0, .null, [], none)),
  (6, (0, .iconst 1, 1, 0, 0, (.int 1), [], none)),
  (7, (4, .invokevirtual 111, 3, 71, 4, .null, [], none)),
  (10, (1, .istore 6, 2, 0, 0, .null, [], none)),
  (12, (1, .iload 6, 2, 0, 0, .null, [], none)),
  (14, (0, .iconst (-1), 1, 0, 0, (.int (-1)), [], none)),
  (15, (2, .if_icmp .ne 11, 3, 26, 0, .null, [], none)),
  (18, (1, .aload_n 0, 1, 0, 0, .null, [], none)),
  (19, (0, .iconst 3, 1, 0, 0, (.int 3), [], none)),
  (20, (1, .lload_n 1, 1, 0, 0, .null, [], none)),
  (21, (4, .invokevirtual 115, 3, 41, 3, .null, [], none)),
  (24, (0, .iconst 0, 1, 0, 0, (.int 0), [], none)),
  (25, (5, .ireturn, 1, 0, 0, .null, [], none)),
  (26, (1, .aload_n 0, 1, 0, 0, .null, [], none)),
  (27, (3, .getfield 25, 3, 3, 2, .null, [], none)),
  (30, (3, .getfield 119, 3, 5, 0, .null, [], none))],
 [(33, (1, .iload 6, 2, 0, 0, .null, [], none)),
  (35, (1, .iload_n 3, 1, 0, 0, .null, [], none)),
  (36, (1, .lload 4, 2, 0, 0, .null, [], none)),
  (38, (4, .invokevirtual 136, 3, 117, 4, .null, [], none)),
  (41, (0, .iconst 1, 1, 0, 0, (.int 1), [], none)),
  (42, (5, .ireturn, 1, 0, 0, .null, [], none))]]
/- 40: FlagMachine$Core.startAnew()V -/
noncomputable def tb_c40 : List (List (Nat × am_I)) := [[(0, (1, .aload_n 0, 1, 0, 0, .null, [], none)),
  (1, (3, .getfield 9, 3, 3, 0, .null, [], none)),
  (4, (0, .lconst 0, 1, 0, 0, (.long 0), [], none)),
  (5, (4, .invokestatic 33, 3, 195, 2, .null, [], none)),
  (8, (1, .aload_n 0, 1, 0, 0, .null, [], none)),
  (9, (3, .getfield 9, 3, 3, 0, .null, [], none)),
  (12, (0, .iconst 4, 1, 0, 0, (.int 4), [], none)),
  (13, (0, .ldc2_w 39, 3, 0, 0, (.long 2147479552), [], none)),
  (16, (3, .lastore, 1, 0, 0, .null, [], none)),
  (17, (1, .aload_n 0, 1, 0, 0, .null, [], none)),
  (18, (3, .getfield 18, 3, 3, 1, .null, [], none)),
  (21, (4, .invokevirtual 41, 3, 45, 1, .null, [], none)),
  (24, (1, .aload_n 0, 1, 0, 0, .null, [], none)),
  (25, (0, .ldc2_w 44, 3, 0, 0, (.long 4194304), [], none)),
  (28, (3, .putfield 46, 3, 3, 4, .null, [], none)),
  (31, (1, .aload_n 0, 1, 0, 0, .null, [], none))],
 [(32, (0, .iconst 0, 1, 0, 0, (.int 0), [], none)),
  (33, (3, .putfield 50, 3, 3, 7, .null, [], none)),
  (36, (1, .aload_n 0, 1, 0, 0, .null, [], none)),
  (37, (0, .lconst 0, 1, 0, 0, (.long 0), [], none)),
  (38, (3, .putfield 54, 3, 3, 8, .null, [], none)),
  (41, (5, .return_, 1, 0, 0, .null, [], none))]]
/- 41: FlagMachine$Core.stopWith(IJ)V -/
noncomputable def tb_c41 : List (List (Nat × am_I)) := [[(0, (1, .aload_n 0, 1, 0, 0, .null, [], none)),
  (1, (1, .iload_n 1, 1, 0, 0, .null, [], none)),
  (2, (3, .putfield 50, 3, 3, 7, .null, [], none)),
  (5, (1, .aload_n 0, 1, 0, 0, .null, [], none)),
  (6, (1, .lload_n 2, 1, 0, 0, .null, [], none)),
  (7, (3, .putfield 54, 3, 3, 8, .null, [], none)),
  (10, (5, .return_, 1, 0, 0, .null, [], none))]]
/- 42: FlagMachine$Core.store(IIJ)Z -/
noncomputable def tb_c42 : List (List (Nat × am_I)) := [[(0, (1, .aload_n 0, 1, 0, 0, .null, [], none)),
  (1, (3, .getfield 29, 3, 3, 3, .null, [], none)),
  (4, (3, .getfield 94, 3, 1, 3, .null, [], none)),
  (7, (1, .iload_n 1, 1, 0, 0, .null, [], none)),
  (8, (3, .iaload, 1, 0, 0, .null, [], none)),
  (9, (0, .iconst 2, 1, 0, 0, (.int 2), [], none)),
  (10, (2, .if_icmp .eq 20, 3, 30, 0, .null, [], none)),
  (13, (1, .aload_n 0, 1, 0, 0, .null, [], none)),
  (14, (1, .aload_n 0, 1, 0, 0, .null, [], none)),
  (15, (3, .getfield 29, 3, 3, 3, .null, [], none)),
  (18, (3, .getfield 98, 3, 1, 4, .null, [], none)),
  (21, (1, .iload_n 1, 1, 0, 0, .null, [], none)),
  (22, (3, .iaload, 1, 0, 0, .null, [], none)),
  (23, (1, .iload_n 2, 1, 0, 0, .null, [], none)),
  (24, (1, .lload_n 3, 1, 0, 0, .null, [], none)),
  (25, (4, .invokevirtual 128, 3, 37, 4, .null, [], none)),
  (28, (0, .iconst 1, 1, 0, 0, (.int 1), [], none)),
  (29, (5, .ireturn, 1, 0, 0, .null, [], none)),
  (30, (1, .aload_n 0, 1, 0, 0, .null, [], none)),
  (31, (1, .aload_n 0, 1, 0, 0, .null, [], none))],
 [(32, (3, .getfield 70, 3, 3, 6, .null, [], none)),
  (35, (1, .iload_n 2, 1, 0, 0, .null, [], none)),
  (36, (1, .lload_n 3, 1, 0, 0, .null, [], none)),
  (37, (4, .invokevirtual 132, 3, 39, 4, .null, [], none)),
  (40, (5, .ireturn, 1, 0, 0, .null, [], none))]]
/- 43: FlagMachine$Flags.<init>()V -/
noncomputable def tb_c43 : List (List (Nat × am_I)) := [[(0, (1, .aload_n 0, 1, 0, 0, .null, [], none)),
  (1, (3, .invokespecial 1, 3, 0, 0, .null, [], none)),
  (4, (5, .return_, 1, 0, 0, .null, [], none))]]
/- 44: FlagMachine$Flags.asWord()J -/
noncomputable def tb_c44 : List (List (Nat × am_I)) := [[(0, (0, .iconst 2, 1, 0, 0, (.int 2), [], none)),
  (1, (1, .aload_n 0, 1, 0, 0, .null, [], none)),
  (2, (3, .getfield 7, 3, 4, 0, .null, [], none)),
  (5, (2, .ifCond .eq 7, 3, 12, 0, .null, [], none)),
  (8, (0, .iconst 1, 1, 0, 0, (.int 1), [], none)),
  (9, (2, .goto 4, 3, 13, 0, .null, [], none)),
  (12, (0, .iconst 0, 1, 0, 0, (.int 0), [], none)),
  (13, (0, .iadd, 1, 0, 0, .null, [], some [0])),
  (14, (1, .aload_n 0, 1, 0, 0, .null, [], none)),
  (15, (3, .getfield 13, 3, 4, 1, .null, [], none)),
  (18, (2, .ifCond .eq 7, 3, 25, 0, .null, [], none)),
  (21, (0, .iconst 4, 1, 0, 0, (.int 4), [], none)),
  (22, (2, .goto 4, 3, 26, 0, .null, [], none)),
  (25, (0, .iconst 0, 1, 0, 0, (.int 0), [], none)),
  (26, (0, .iadd, 1, 0, 0, .null, [], some [0])),
  (27, (1, .aload_n 0, 1, 0, 0, .null, [], none)),
  (28, (3, .getfield 16, 3, 4, 2, .null, [], none)),
  (31, (2, .ifCond .eq 8, 3, 39, 0, .null, [], none))],
 [(34, (0, .bipush 64, 2, 0, 0, (.int 64), [], none)),
  (36, (2, .goto 4, 3, 40, 0, .null, [], none)),
  (39, (0, .iconst 0, 1, 0, 0, (.int 0), [], none)),
  (40, (0, .iadd, 1, 0, 0, .null, [], some [0])),
  (41, (1, .aload_n 0, 1, 0, 0, .null, [], none)),
  (42, (3, .getfield 19, 3, 4, 3, .null, [], none)),
  (45, (2, .ifCond .eq 9, 3, 54, 0, .null, [], none)),
  (48, (0, .sipush 128, 3, 0, 0, (.int 128), [], none)),
  (51, (2, .goto 4, 3, 55, 0, .null, [], none)),
  (54, (0, .iconst 0, 1, 0, 0, (.int 0), [], none)),
  (55, (0, .iadd, 1, 0, 0, .null, [], some [0])),
  (56, (1, .aload_n 0, 1, 0, 0, .null, [], none)),
  (57, (3, .getfield 22, 3, 4, 4, .null, [], none)),
  (60, (2, .ifCond .eq 9, 3, 69, 0, .null, [], none)),
  (63, (0, .sipush 2048, 3, 0, 0, (.int 2048), [], none))],
 [(66, (2, .goto 4, 3, 70, 0, .null, [], none)),
  (69, (0, .iconst 0, 1, 0, 0, (.int 0), [], none)),
  (70, (0, .iadd, 1, 0, 0, .null, [], some [])),
  (71, (0, .i2l, 1, 0, 0, .null, [], none)),
  (72, (5, .lreturn, 1, 0, 0, .null, [], none))]]
/- 45: FlagMachine$Flags.clear()V -/
noncomputable def tb_c45 : List (List (Nat × am_I)) := [[(0, (1, .aload_n 0, 1, 0, 0, .null, [], none)),
  (1, (0, .iconst 0, 1, 0, 0, (.int 0), [], none)),
  (2, (3, .putfield 7, 3, 4, 0, .null, [], none)),
  (5, (1, .aload_n 0, 1, 0, 0, .null, [], none)),
  (6, (0, .iconst 0, 1, 0, 0, (.int 0), [], none)),
  (7, (3, .putfield 13, 3, 4, 1, .null, [], none)),
  (10, (1, .aload_n 0, 1, 0, 0, .null, [], none)),
  (11, (0, .iconst 0, 1, 0, 0, (.int 0), [], none)),
  (12, (3, .putfield 16, 3, 4, 2, .null, [], none)),
  (15, (1, .aload_n 0, 1, 0, 0, .null, [], none)),
  (16, (0, .iconst 0, 1, 0, 0, (.int 0), [], none)),
  (17, (3, .putfield 19, 3, 4, 3, .null, [], none)),
  (20, (1, .aload_n 0, 1, 0, 0, .null, [], none)),
  (21, (0, .iconst 0, 1, 0, 0, (.int 0), [], none)),
  (22, (3, .putfield 22, 3, 4, 4, .null, [], none)),
  (25, (5, .return_, 1, 0, 0, .null, [], none))]]
/- 46: FlagMachine$Flags.holds(I)Z -/
noncomputable def tb_c46 : List (List (Nat × am_I)) := [[(0, (1, .iload_n 1, 1, 0, 0, .null, [], none)),
  (1, (0, .iconst 1, 1, 0, 0, (.int 1), [], none)),
  (2, (0, .iand, 1, 0, 0, .null, [], none)),
  (3, (2, .ifCond .eq 7, 3, 10, 0, .null, [], none)),
  (6, (0, .iconst 1, 1, 0, 0, (.int 1), [], none)),
  (7, (2, .goto 4, 3, 11, 0, .null, [], none)),
  (10, (0, .iconst 0, 1, 0, 0, (.int 0), [], none)),
  (11, (1, .istore_n 2, 1, 0, 0, .null, [], some [0, 1])),
  (12, (1, .aload_n 0, 1, 0, 0, .null, [], none)),
  (13, (1, .iload_n 1, 1, 0, 0, .null, [], none)),
  (14, (0, .iconst 1, 1, 0, 0, (.int 1), [], none)),
  (15, (0, .ishr, 1, 0, 0, .null, [], none)),
  (16, (4, .invokevirtual 25, 3, 47, 2, .null, [], none)),
  (19, (1, .iload_n 2, 1, 0, 0, .null, [], none)),
  (20, (2, .if_icmp .eq 7, 3, 27, 0, .null, [], none)),
  (23, (0, .iconst 1, 1, 0, 0, (.int 1), [], none)),
  (24, (2, .goto 4, 3, 28, 0, .null, [], none)),
  (27, (0, .iconst 0, 1, 0, 0, (.int 0), [], none)),
  (28, (5, .ireturn, 1, 0, 0, .null, [], some []))]]
/- 47: FlagMachine$Flags.pairHolds(I)Z -/
noncomputable def tb_c47 : List (List (Nat × am_I)) := [[(0, (1, .iload_n 1, 1, 0, 0, .null, [], none)),
  (1, (2, .tableswitch 105 0 6 #[43, 48, 53, 58, 78, 83, 88], 43, 106, 0, .null, [(0, 44), (1, 49), (2, 54), (3, 59), (4, 79), (5, 84), (6, 89)], none))],
 [(44, (1, .aload_n 0, 1, 0, 0, .null, [], none)),
  (45, (3, .getfield 22, 3, 4, 4, .null, [], none)),
  (48, (5, .ireturn, 1, 0, 0, .null, [], none)),
  (49, (1, .aload_n 0, 1, 0, 0, .null, [], none)),
  (50, (3, .getfield 7, 3, 4, 0, .null, [], none)),
  (53, (5, .ireturn, 1, 0, 0, .null, [], none)),
  (54, (1, .aload_n 0, 1, 0, 0, .null, [], none)),
  (55, (3, .getfield 16, 3, 4, 2, .null, [], none)),
  (58, (5, .ireturn, 1, 0, 0, .null, [], none)),
  (59, (1, .aload_n 0, 1, 0, 0, .null, [], none)),
  (60, (3, .getfield 7, 3, 4, 0, .null, [], none)),
  (63, (2, .ifCond .ne 10, 3, 73, 0, .null, [], none))],
 [(66, (1, .aload_n 0, 1, 0, 0, .null, [], none)),
  (67, (3, .getfield 16, 3, 4, 2, .null, [], none)),
  (70, (2, .ifCond .eq 7, 3, 77, 0, .null, [], none)),
  (73, (0, .iconst 1, 1, 0, 0, (.int 1), [], some [])),
  (74, (2, .goto 4, 3, 78, 0, .null, [], none)),
  (77, (0, .iconst 0, 1, 0, 0, (.int 0), [], none)),
  (78, (5, .ireturn, 1, 0, 0, .null, [], some [])),
  (79, (1, .aload_n 0, 1, 0, 0, .null, [], none)),
  (80, (3, .getfield 19, 3, 4, 3, .null, [], none)),
  (83, (5, .ireturn, 1, 0, 0, .null, [], none)),
  (84, (1, .aload_n 0, 1, 0, 0, .null, [], none)),
  (85, (3, .getfield 13, 3, 4, 1, .null, [], none)),
  (88, (5, .ireturn, 1, 0, 0, .null, [], none)),
  (89, (1, .aload_n 0, 1, 0, 0, .null, [], none)),
  (90, (3, .getfield 19, 3, 4, 3, .null, [], none)),
  (93, (1, .aload_n 0, 1, 0, 0, .null, [], none)),
  (94, (3, .getfield 22, 3, 4, 4, .null, [], none))],
 [(97, (2, .if_icmp .eq 7, 3, 104, 0, .null, [], none)),
  (100, (0, .iconst 1, 1, 0, 0, (.int 1), [], none)),
  (101, (2, .goto 4, 3, 105, 0, .null, [], none)),
  (104, (0, .iconst 0, 1, 0, 0, (.int 0), [], none)),
  (105, (5, .ireturn, 1, 0, 0, .null, [], some [])),
  (106, (1, .aload_n 0, 1, 0, 0, .null, [], none)),
  (107, (3, .getfield 16, 3, 4, 2, .null, [], none)),
  (110, (2, .ifCond .ne 14, 3, 124, 0, .null, [], none)),
  (113, (1, .aload_n 0, 1, 0, 0, .null, [], none)),
  (114, (3, .getfield 19, 3, 4, 3, .null, [], none)),
  (117, (1, .aload_n 0, 1, 0, 0, .null, [], none)),
  (118, (3, .getfield 22, 3, 4, 4, .null, [], none)),
  (121, (2, .if_icmp .eq 7, 3, 128, 0, .null, [], none)),
  (124, (0, .iconst 1, 1, 0, 0, (.int 1), [], some [])),
  (125, (2, .goto 4, 3, 129, 0, .null, [], none))],
 [(128, (0, .iconst 0, 1, 0, 0, (.int 0), [], none)),
  (129, (5, .ireturn, 1, 0, 0, .null, [], some []))]]
/- 48: FlagMachine$Flags.tellBits(JI)V -/
noncomputable def tb_c48 : List (List (Nat × am_I)) := [[(0, (1, .aload_n 0, 1, 0, 0, .null, [], none)),
  (1, (0, .iconst 0, 1, 0, 0, (.int 0), [], none)),
  (2, (3, .putfield 7, 3, 4, 0, .null, [], none)),
  (5, (1, .aload_n 0, 1, 0, 0, .null, [], none)),
  (6, (0, .iconst 0, 1, 0, 0, (.int 0), [], none)),
  (7, (3, .putfield 22, 3, 4, 4, .null, [], none)),
  (10, (1, .aload_n 0, 1, 0, 0, .null, [], none)),
  (11, (1, .lload_n 1, 1, 0, 0, .null, [], none)),
  (12, (1, .iload_n 3, 1, 0, 0, .null, [], none)),
  (13, (4, .invokevirtual 45, 3, 51, 3, .null, [], none)),
  (16, (5, .return_, 1, 0, 0, .null, [], none))]]
/- 49: FlagMachine$Flags.tellDifference(JJJI)V -/
noncomputable def tb_c49 : List (List (Nat × am_I)) := [[(0, (1, .iload 7, 2, 0, 0, .null, [], none)),
  (2, (4, .invokestatic 29, 3, 19, 1, .null, [], none)),
  (5, (1, .lstore 8, 2, 0, 0, .null, [], none)),
  (7, (1, .aload_n 0, 1, 0, 0, .null, [], none)),
  (8, (1, .lload_n 1, 1, 0, 0, .null, [], none)),
  (9, (0, .ldc2_w 43, 3, 0, 0, (.long (-1)), [], none)),
  (12, (0, .lxor, 1, 0, 0, .null, [], none)),
  (13, (1, .lload_n 3, 1, 0, 0, .null, [], none)),
  (14, (0, .land, 1, 0, 0, .null, [], none)),
  (15, (1, .lload_n 1, 1, 0, 0, .null, [], none)),
  (16, (0, .ldc2_w 43, 3, 0, 0, (.long (-1)), [], none)),
  (19, (0, .lxor, 1, 0, 0, .null, [], none)),
  (20, (1, .lload_n 3, 1, 0, 0, .null, [], none)),
  (21, (0, .lor, 1, 0, 0, .null, [], none)),
  (22, (1, .lload 5, 2, 0, 0, .null, [], none)),
  (24, (0, .land, 1, 0, 0, .null, [], none)),
  (25, (0, .lor, 1, 0, 0, .null, [], none)),
  (26, (1, .lload 8, 2, 0, 0, .null, [], none)),
  (28, (0, .land, 1, 0, 0, .null, [], none)),
  (29, (0, .lconst 0, 1, 0, 0, (.long 0), [], none)),
  (30, (0, .lcmp, 1, 0, 0, .null, [], none)),
  (31, (2, .ifCond .eq 7, 3, 38, 0, .null, [], none))],
 [(34, (0, .iconst 1, 1, 0, 0, (.int 1), [], none)),
  (35, (2, .goto 4, 3, 39, 0, .null, [], none)),
  (38, (0, .iconst 0, 1, 0, 0, (.int 0), [], none)),
  (39, (3, .putfield 7, 3, 4, 0, .null, [], some [0, 1, 3, 5, 7, 8])),
  (42, (1, .aload_n 0, 1, 0, 0, .null, [], none)),
  (43, (1, .lload_n 1, 1, 0, 0, .null, [], none)),
  (44, (1, .lload_n 3, 1, 0, 0, .null, [], none)),
  (45, (0, .lxor, 1, 0, 0, .null, [], none)),
  (46, (1, .lload_n 1, 1, 0, 0, .null, [], none)),
  (47, (1, .lload 5, 2, 0, 0, .null, [], none)),
  (49, (0, .lxor, 1, 0, 0, .null, [], none)),
  (50, (0, .land, 1, 0, 0, .null, [], none)),
  (51, (1, .lload 8, 2, 0, 0, .null, [], none)),
  (53, (0, .land, 1, 0, 0, .null, [], none)),
  (54, (0, .lconst 0, 1, 0, 0, (.long 0), [], none)),
  (55, (0, .lcmp, 1, 0, 0, .null, [], none)),
  (56, (2, .ifCond .eq 7, 3, 63, 0, .null, [], none)),
  (59, (0, .iconst 1, 1, 0, 0, (.int 1), [], none)),
  (60, (2, .goto 4, 3, 64, 0, .null, [], none)),
  (63, (0, .iconst 0, 1, 0, 0, (.int 0), [], none))],
 [(64, (3, .putfield 22, 3, 4, 4, .null, [], some [0, 5, 7])),
  (67, (1, .aload_n 0, 1, 0, 0, .null, [], none)),
  (68, (1, .lload 5, 2, 0, 0, .null, [], none)),
  (70, (1, .iload 7, 2, 0, 0, .null, [], none)),
  (72, (4, .invokevirtual 45, 3, 51, 3, .null, [], none)),
  (75, (5, .return_, 1, 0, 0, .null, [], none))]]
/- 50: FlagMachine$Flags.tellOversize(Z)V -/
noncomputable def tb_c50 : List (List (Nat × am_I)) := [[(0, (1, .aload_n 0, 1, 0, 0, .null, [], none)),
  (1, (1, .iload_n 1, 1, 0, 0, .null, [], none)),
  (2, (3, .putfield 7, 3, 4, 0, .null, [], none)),
  (5, (1, .aload_n 0, 1, 0, 0, .null, [], none)),
  (6, (1, .iload_n 1, 1, 0, 0, .null, [], none)),
  (7, (3, .putfield 22, 3, 4, 4, .null, [], none)),
  (10, (5, .return_, 1, 0, 0, .null, [], none))]]
/- 51: FlagMachine$Flags.tellResult(JI)V -/
noncomputable def tb_c51 : List (List (Nat × am_I)) := [[(0, (1, .aload_n 0, 1, 0, 0, .null, [], none)),
  (1, (1, .lload_n 1, 1, 0, 0, .null, [], none)),
  (2, (0, .lconst 0, 1, 0, 0, (.long 0), [], none)),
  (3, (0, .lcmp, 1, 0, 0, .null, [], none)),
  (4, (2, .ifCond .ne 7, 3, 11, 0, .null, [], none)),
  (7, (0, .iconst 1, 1, 0, 0, (.int 1), [], none)),
  (8, (2, .goto 4, 3, 12, 0, .null, [], none)),
  (11, (0, .iconst 0, 1, 0, 0, (.int 0), [], none)),
  (12, (3, .putfield 16, 3, 4, 2, .null, [], some [0, 1, 3])),
  (15, (1, .aload_n 0, 1, 0, 0, .null, [], none)),
  (16, (1, .lload_n 1, 1, 0, 0, .null, [], none)),
  (17, (1, .iload_n 3, 1, 0, 0, .null, [], none)),
  (18, (4, .invokestatic 29, 3, 19, 1, .null, [], none)),
  (21, (0, .land, 1, 0, 0, .null, [], none)),
  (22, (0, .lconst 0, 1, 0, 0, (.long 0), [], none)),
  (23, (0, .lcmp, 1, 0, 0, .null, [], none)),
  (24, (2, .ifCond .eq 7, 3, 31, 0, .null, [], none)),
  (27, (0, .iconst 1, 1, 0, 0, (.int 1), [], none)),
  (28, (2, .goto 4, 3, 32, 0, .null, [], none)),
  (31, (0, .iconst 0, 1, 0, 0, (.int 0), [], none))],
 [(32, (3, .putfield 19, 3, 4, 3, .null, [], some [0, 1])),
  (35, (1, .aload_n 0, 1, 0, 0, .null, [], none)),
  (36, (1, .lload_n 1, 1, 0, 0, .null, [], none)),
  (37, (0, .ldc2_w 35, 3, 0, 0, (.long 255), [], none)),
  (40, (0, .land, 1, 0, 0, .null, [], none)),
  (41, (4, .invokestatic 37, 3, 192, 1, .null, [], none)),
  (44, (0, .iconst 1, 1, 0, 0, (.int 1), [], none)),
  (45, (0, .iand, 1, 0, 0, .null, [], none)),
  (46, (2, .ifCond .ne 7, 3, 53, 0, .null, [], none)),
  (49, (0, .iconst 1, 1, 0, 0, (.int 1), [], none)),
  (50, (2, .goto 4, 3, 54, 0, .null, [], none)),
  (53, (0, .iconst 0, 1, 0, 0, (.int 0), [], none)),
  (54, (3, .putfield 13, 3, 4, 1, .null, [], some [])),
  (57, (5, .return_, 1, 0, 0, .null, [], none))]]
/- 52: FlagMachine$Flags.tellSum(JJJI)V -/
noncomputable def tb_c52 : List (List (Nat × am_I)) := [[(0, (1, .iload 7, 2, 0, 0, .null, [], none)),
  (2, (4, .invokestatic 29, 3, 19, 1, .null, [], none)),
  (5, (1, .lstore 8, 2, 0, 0, .null, [], none)),
  (7, (1, .aload_n 0, 1, 0, 0, .null, [], none)),
  (8, (1, .lload_n 1, 1, 0, 0, .null, [], none)),
  (9, (1, .lload_n 3, 1, 0, 0, .null, [], none)),
  (10, (0, .land, 1, 0, 0, .null, [], none)),
  (11, (1, .lload_n 1, 1, 0, 0, .null, [], none)),
  (12, (1, .lload_n 3, 1, 0, 0, .null, [], none)),
  (13, (0, .lor, 1, 0, 0, .null, [], none)),
  (14, (1, .lload 5, 2, 0, 0, .null, [], none)),
  (16, (0, .ldc2_w 43, 3, 0, 0, (.long (-1)), [], none)),
  (19, (0, .lxor, 1, 0, 0, .null, [], none)),
  (20, (0, .land, 1, 0, 0, .null, [], none)),
  (21, (0, .lor, 1, 0, 0, .null, [], none)),
  (22, (1, .lload 8, 2, 0, 0, .null, [], none)),
  (24, (0, .land, 1, 0, 0, .null, [], none)),
  (25, (0, .lconst 0, 1, 0, 0, (.long 0), [], none)),
  (26, (0, .lcmp, 1, 0, 0, .null, [], none)),
  (27, (2, .ifCond .eq 7, 3, 34, 0, .null, [], none)),
  (30, (0, .iconst 1, 1, 0, 0, (.int 1), [], none)),
  (31, (2, .goto 4, 3, 35, 0, .null, [], none))],
 [(34, (0, .iconst 0, 1, 0, 0, (.int 0), [], none)),
  (35, (3, .putfield 7, 3, 4, 0, .null, [], some [0, 1, 3, 5, 7, 8])),
  (38, (1, .aload_n 0, 1, 0, 0, .null, [], none)),
  (39, (1, .lload_n 1, 1, 0, 0, .null, [], none)),
  (40, (1, .lload 5, 2, 0, 0, .null, [], none)),
  (42, (0, .lxor, 1, 0, 0, .null, [], none)),
  (43, (1, .lload_n 3, 1, 0, 0, .null, [], none)),
  (44, (1, .lload 5, 2, 0, 0, .null, [], none)),
  (46, (0, .lxor, 1, 0, 0, .null, [], none)),
  (47, (0, .land, 1, 0, 0, .null, [], none)),
  (48, (1, .lload 8, 2, 0, 0, .null, [], none)),
  (50, (0, .land, 1, 0, 0, .null, [], none)),
  (51, (0, .lconst 0, 1, 0, 0, (.long 0), [], none)),
  (52, (0, .lcmp, 1, 0, 0, .null, [], none)),
  (53, (2, .ifCond .eq 7, 3, 60, 0, .null, [], none)),
  (56, (0, .iconst 1, 1, 0, 0, (.int 1), [], none)),
  (57, (2, .goto 4, 3, 61, 0, .null, [], none)),
  (60, (0, .iconst 0, 1, 0, 0, (.int 0), [], none)),
  (61, (3, .putfield 22, 3, 4, 4, .null, [], some [0, 5, 7]))],
 [(64, (1, .aload_n 0, 1, 0, 0, .null, [], none)),
  (65, (1, .lload 5, 2, 0, 0, .null, [], none)),
  (67, (1, .iload 7, 2, 0, 0, .null, [], none)),
  (69, (4, .invokevirtual 45, 3, 51, 3, .null, [], none)),
  (72, (5, .return_, 1, 0, 0, .null, [], none))]]
/- 53: FlagMachine$Instruction.<init>()V -/
noncomputable def tb_c53 : List (List (Nat × am_I)) := [[(0, (1, .aload_n 0, 1, 0, 0, .null, [], none)),
  (1, (3, .invokespecial 3, 3, 0, 0, .null, [], none)),
  (4, (1, .aload_n 0, 1, 0, 0, .null, [], none)),
  (5, (0, .bipush 39, 2, 0, 0, (.int 39), [], none)),
  (7, (3, .putfield 9, 3, 1, 0, .null, [], none)),
  (10, (1, .aload_n 0, 1, 0, 0, .null, [], none)),
  (11, (0, .iconst 3, 1, 0, 0, (.int 3), [], none)),
  (12, (3, .newarray .int, 2, 0, 0, .null, [], none)),
  (14, (3, .putfield 15, 3, 1, 3, .null, [], none)),
  (17, (1, .aload_n 0, 1, 0, 0, .null, [], none)),
  (18, (0, .iconst 3, 1, 0, 0, (.int 3), [], none)),
  (19, (3, .newarray .int, 2, 0, 0, .null, [], none)),
  (21, (3, .putfield 19, 3, 1, 4, .null, [], none)),
  (24, (5, .return_, 1, 0, 0, .null, [], none))]]
/- 54: FlagMachine$Instruction.conditionFits()Z -/
noncomputable def tb_c54 : List (List (Nat × am_I)) := [[(0, (1, .aload_n 0, 1, 0, 0, .null, [], none)),
  (1, (3, .getfield 9, 3, 1, 0, .null, [], none)),
  (4, (0, .bipush 34, 2, 0, 0, (.int 34), [], none)),
  (6, (2, .if_icmp .lt 16, 3, 22, 0, .null, [], none)),
  (9, (1, .aload_n 0, 1, 0, 0, .null, [], none)),
  (10, (3, .getfield 9, 3, 1, 0, .null, [], none)),
  (13, (0, .bipush 36, 2, 0, 0, (.int 36), [], none)),
  (15, (2, .if_icmp .gt 7, 3, 22, 0, .null, [], none)),
  (18, (0, .iconst 1, 1, 0, 0, (.int 1), [], none)),
  (19, (2, .goto 4, 3, 23, 0, .null, [], none)),
  (22, (0, .iconst 0, 1, 0, 0, (.int 0), [], some [0])),
  (23, (1, .istore_n 1, 1, 0, 0, .null, [], some [0])),
  (24, (1, .aload_n 0, 1, 0, 0, .null, [], none)),
  (25, (3, .getfield 48, 3, 1, 2, .null, [], none)),
  (28, (2, .ifCond .lt 24, 3, 52, 0, .null, [], none)),
  (31, (1, .aload_n 0, 1, 0, 0, .null, [], none))],
 [(32, (3, .getfield 48, 3, 1, 2, .null, [], none)),
  (35, (1, .iload_n 1, 1, 0, 0, .null, [], none)),
  (36, (2, .ifCond .eq 8, 3, 44, 0, .null, [], none)),
  (39, (0, .bipush 15, 2, 0, 0, (.int 15), [], none)),
  (41, (2, .goto 4, 3, 45, 0, .null, [], none)),
  (44, (0, .iconst 0, 1, 0, 0, (.int 0), [], none)),
  (45, (2, .if_icmp .gt 7, 3, 52, 0, .null, [], some [])),
  (48, (0, .iconst 1, 1, 0, 0, (.int 1), [], none)),
  (49, (2, .goto 4, 3, 53, 0, .null, [], none)),
  (52, (0, .iconst 0, 1, 0, 0, (.int 0), [], some [])),
  (53, (5, .ireturn, 1, 0, 0, .null, [], some []))]]
/- 55: FlagMachine$Instruction.has(I)Z -/
noncomputable def tb_c55 : List (List (Nat × am_I)) := [[(0, (1, .aload_n 0, 1, 0, 0, .null, [], none)),
  (1, (3, .getfield 15, 3, 1, 3, .null, [], none)),
  (4, (0, .iconst 0, 1, 0, 0, (.int 0), [], none)),
  (5, (3, .iaload, 1, 0, 0, .null, [], none)),
  (6, (1, .iload_n 1, 1, 0, 0, .null, [], none)),
  (7, (2, .if_icmp .eq 23, 3, 30, 0, .null, [], none)),
  (10, (1, .aload_n 0, 1, 0, 0, .null, [], none)),
  (11, (3, .getfield 15, 3, 1, 3, .null, [], none)),
  (14, (0, .iconst 1, 1, 0, 0, (.int 1), [], none)),
  (15, (3, .iaload, 1, 0, 0, .null, [], none)),
  (16, (1, .iload_n 1, 1, 0, 0, .null, [], none)),
  (17, (2, .if_icmp .eq 13, 3, 30, 0, .null, [], none)),
  (20, (1, .aload_n 0, 1, 0, 0, .null, [], none)),
  (21, (3, .getfield 15, 3, 1, 3, .null, [], none)),
  (24, (0, .iconst 2, 1, 0, 0, (.int 2), [], none)),
  (25, (3, .iaload, 1, 0, 0, .null, [], none)),
  (26, (1, .iload_n 1, 1, 0, 0, .null, [], none)),
  (27, (2, .if_icmp .ne 7, 3, 34, 0, .null, [], none)),
  (30, (0, .iconst 1, 1, 0, 0, (.int 1), [], some [])),
  (31, (2, .goto 4, 3, 35, 0, .null, [], none))],
 [(34, (0, .iconst 0, 1, 0, 0, (.int 0), [], none)),
  (35, (5, .ireturn, 1, 0, 0, .null, [], some []))]]
/- 56: FlagMachine$Instruction.isPlace(I)Z -/
noncomputable def tb_c56 : List (List (Nat × am_I)) := [[(0, (1, .iload_n 0, 1, 0, 0, .null, [], none)),
  (1, (0, .iconst 1, 1, 0, 0, (.int 1), [], none)),
  (2, (2, .if_icmp .eq 8, 3, 10, 0, .null, [], none)),
  (5, (1, .iload_n 0, 1, 0, 0, .null, [], none)),
  (6, (0, .iconst 2, 1, 0, 0, (.int 2), [], none)),
  (7, (2, .if_icmp .ne 7, 3, 14, 0, .null, [], none)),
  (10, (0, .iconst 1, 1, 0, 0, (.int 1), [], some [])),
  (11, (2, .goto 4, 3, 15, 0, .null, [], none)),
  (14, (0, .iconst 0, 1, 0, 0, (.int 0), [], none)),
  (15, (5, .ireturn, 1, 0, 0, .null, [], some []))]]
/- 57: FlagMachine$Instruction.isSound()Z -/
noncomputable def tb_c57 : List (List (Nat × am_I)) := [[(0, (1, .aload_n 0, 1, 0, 0, .null, [], none)),
  (1, (3, .getfield 9, 3, 1, 0, .null, [], none)),
  (4, (2, .ifCond .lt 74, 3, 78, 0, .null, [], none)),
  (7, (1, .aload_n 0, 1, 0, 0, .null, [], none)),
  (8, (3, .getfield 9, 3, 1, 0, .null, [], none)),
  (11, (0, .bipush 53, 2, 0, 0, (.int 53), [], none)),
  (13, (2, .if_icmp .gt 65, 3, 78, 0, .null, [], none)),
  (16, (1, .aload_n 0, 1, 0, 0, .null, [], none)),
  (17, (4, .invokevirtual 22, 3, 63, 1, .null, [], none)),
  (20, (2, .ifCond .eq 58, 3, 78, 0, .null, [], none)),
  (23, (1, .aload_n 0, 1, 0, 0, .null, [], none)),
  (24, (4, .invokevirtual 26, 3, 54, 1, .null, [], none)),
  (27, (2, .ifCond .eq 51, 3, 78, 0, .null, [], none)),
  (30, (1, .aload_n 0, 1, 0, 0, .null, [], none)),
  (31, (4, .invokevirtual 29, 3, 64, 1, .null, [], none))],
 [(34, (2, .ifCond .eq 44, 3, 78, 0, .null, [], none)),
  (37, (1, .aload_n 0, 1, 0, 0, .null, [], none)),
  (38, (4, .invokevirtual 32, 3, 61, 1, .null, [], none)),
  (41, (2, .ifCond .eq 37, 3, 78, 0, .null, [], none)),
  (44, (1, .aload_n 0, 1, 0, 0, .null, [], none)),
  (45, (0, .iconst 2, 1, 0, 0, (.int 2), [], none)),
  (46, (4, .invokevirtual 35, 3, 55, 2, .null, [], none)),
  (49, (2, .ifCond .eq 10, 3, 59, 0, .null, [], none)),
  (52, (1, .aload_n 0, 1, 0, 0, .null, [], none)),
  (53, (4, .invokevirtual 39, 3, 58, 1, .null, [], none)),
  (56, (2, .ifCond .eq 22, 3, 78, 0, .null, [], none)),
  (59, (1, .aload_n 0, 1, 0, 0, .null, [], some [0])),
  (60, (0, .iconst 3, 1, 0, 0, (.int 3), [], none)),
  (61, (4, .invokevirtual 35, 3, 55, 2, .null, [], none))],
 [(64, (2, .ifCond .eq 10, 3, 74, 0, .null, [], none)),
  (67, (1, .aload_n 0, 1, 0, 0, .null, [], none)),
  (68, (4, .invokevirtual 42, 3, 59, 1, .null, [], none)),
  (71, (2, .ifCond .eq 7, 3, 78, 0, .null, [], none)),
  (74, (0, .iconst 1, 1, 0, 0, (.int 1), [], some [])),
  (75, (2, .goto 4, 3, 79, 0, .null, [], none)),
  (78, (0, .iconst 0, 1, 0, 0, (.int 0), [], some [])),
  (79, (5, .ireturn, 1, 0, 0, .null, [], some []))]]
/- 58: FlagMachine$Instruction.memoryFits()Z -/
noncomputable def tb_c58 : List (List (Nat × am_I)) := [[(0, (1, .aload_n 0, 1, 0, 0, .null, [], none)),
  (1, (3, .getfield 57, 3, 1, 5, .null, [], none)),
  (4, (0, .iconst (-1), 1, 0, 0, (.int (-1)), [], none)),
  (5, (2, .if_icmp .lt 37, 3, 42, 0, .null, [], none)),
  (8, (1, .aload_n 0, 1, 0, 0, .null, [], none)),
  (9, (3, .getfield 57, 3, 1, 5, .null, [], none)),
  (12, (0, .bipush 16, 2, 0, 0, (.int 16), [], none)),
  (14, (2, .if_icmp .gt 28, 3, 42, 0, .null, [], none)),
  (17, (1, .aload_n 0, 1, 0, 0, .null, [], none)),
  (18, (3, .getfield 60, 3, 1, 6, .null, [], none)),
  (21, (0, .iconst (-1), 1, 0, 0, (.int (-1)), [], none)),
  (22, (2, .if_icmp .lt 20, 3, 42, 0, .null, [], none)),
  (25, (1, .aload_n 0, 1, 0, 0, .null, [], none)),
  (26, (3, .getfield 60, 3, 1, 6, .null, [], none)),
  (29, (0, .bipush 15, 2, 0, 0, (.int 15), [], none)),
  (31, (2, .if_icmp .gt 11, 3, 42, 0, .null, [], none))],
 [(34, (1, .aload_n 0, 1, 0, 0, .null, [], none)),
  (35, (3, .getfield 60, 3, 1, 6, .null, [], none)),
  (38, (0, .iconst 4, 1, 0, 0, (.int 4), [], none)),
  (39, (2, .if_icmp .ne 5, 3, 44, 0, .null, [], none)),
  (42, (0, .iconst 0, 1, 0, 0, (.int 0), [], some [])),
  (43, (5, .ireturn, 1, 0, 0, .null, [], none)),
  (44, (1, .aload_n 0, 1, 0, 0, .null, [], none)),
  (45, (3, .getfield 60, 3, 1, 6, .null, [], none)),
  (48, (0, .iconst (-1), 1, 0, 0, (.int (-1)), [], none)),
  (49, (2, .if_icmp .ne 17, 3, 66, 0, .null, [], none)),
  (52, (1, .aload_n 0, 1, 0, 0, .null, [], none)),
  (53, (3, .getfield 63, 3, 1, 7, .null, [], none)),
  (56, (0, .iconst 1, 1, 0, 0, (.int 1), [], none)),
  (57, (2, .if_icmp .ne 7, 3, 64, 0, .null, [], none)),
  (60, (0, .iconst 1, 1, 0, 0, (.int 1), [], none)),
  (61, (2, .goto 4, 3, 65, 0, .null, [], none))],
 [(64, (0, .iconst 0, 1, 0, 0, (.int 0), [], none)),
  (65, (5, .ireturn, 1, 0, 0, .null, [], some [])),
  (66, (1, .aload_n 0, 1, 0, 0, .null, [], none)),
  (67, (3, .getfield 57, 3, 1, 5, .null, [], none)),
  (70, (0, .bipush 16, 2, 0, 0, (.int 16), [], none)),
  (72, (2, .if_icmp .eq 40, 3, 112, 0, .null, [], none)),
  (75, (1, .aload_n 0, 1, 0, 0, .null, [], none)),
  (76, (3, .getfield 63, 3, 1, 7, .null, [], none)),
  (79, (0, .iconst 1, 1, 0, 0, (.int 1), [], none)),
  (80, (2, .if_icmp .eq 28, 3, 108, 0, .null, [], none)),
  (83, (1, .aload_n 0, 1, 0, 0, .null, [], none)),
  (84, (3, .getfield 63, 3, 1, 7, .null, [], none)),
  (87, (0, .iconst 2, 1, 0, 0, (.int 2), [], none)),
  (88, (2, .if_icmp .eq 20, 3, 108, 0, .null, [], none)),
  (91, (1, .aload_n 0, 1, 0, 0, .null, [], none)),
  (92, (3, .getfield 63, 3, 1, 7, .null, [], none)),
  (95, (0, .iconst 4, 1, 0, 0, (.int 4), [], none))],
 [(96, (2, .if_icmp .eq 12, 3, 108, 0, .null, [], none)),
  (99, (1, .aload_n 0, 1, 0, 0, .null, [], none)),
  (100, (3, .getfield 63, 3, 1, 7, .null, [], none)),
  (103, (0, .bipush 8, 2, 0, 0, (.int 8), [], none)),
  (105, (2, .if_icmp .ne 7, 3, 112, 0, .null, [], none)),
  (108, (0, .iconst 1, 1, 0, 0, (.int 1), [], some [])),
  (109, (2, .goto 4, 3, 113, 0, .null, [], none)),
  (112, (0, .iconst 0, 1, 0, 0, (.int 0), [], some [])),
  (113, (5, .ireturn, 1, 0, 0, .null, [], some []))]]
/- 59: FlagMachine$Instruction.numberFits()Z -/
noncomputable def tb_c59 : List (List (Nat × am_I)) := [[(0, (1, .aload_n 0, 1, 0, 0, .null, [], none)),
  (1, (3, .getfield 9, 3, 1, 0, .null, [], none)),
  (4, (2, .tableswitch 164 24 47 #[112, 112, 112, 112, 112, 164, 164, 164, 164, 138, 164, 164, 164, 164, 164, 164, 164, 164, 164, 164, 164, 164, 164, 112], 112, 168, 0, .null, [(24, 116), (25, 116), (26, 116), (27, 116), (28, 116), (29, 168), (30, 168), (31, 168), (32, 168), (33, 142), (34, 168), (35, 168), (36, 168), (37, 168), (38, 168), (39, 168), (40, 168), (41, 168), (42, 168), (43, 168), (44, 168), (45, 168), (46, 168), (47, 116)], none))],
 [],
 [],
 [(116, (1, .aload_n 0, 1, 0, 0, .null, [], some [0])),
  (117, (3, .getfield 66, 3, 1, 9, .null, [], none)),
  (120, (0, .lconst 0, 1, 0, 0, (.long 0), [], none)),
  (121, (0, .lcmp, 1, 0, 0, .null, [], none)),
  (122, (2, .ifCond .lt 18, 3, 140, 0, .null, [], none)),
  (125, (1, .aload_n 0, 1, 0, 0, .null, [], none)),
  (126, (3, .getfield 66, 3, 1, 9, .null, [], none))],
 [(129, (0, .ldc2_w 70, 3, 0, 0, (.long 255), [], none)),
  (132, (0, .lcmp, 1, 0, 0, .null, [], none)),
  (133, (2, .ifCond .gt 7, 3, 140, 0, .null, [], none)),
  (136, (0, .iconst 1, 1, 0, 0, (.int 1), [], none)),
  (137, (2, .goto 4, 3, 141, 0, .null, [], none)),
  (140, (0, .iconst 0, 1, 0, 0, (.int 0), [], some [])),
  (141, (5, .ireturn, 1, 0, 0, .null, [], some [])),
  (142, (1, .aload_n 0, 1, 0, 0, .null, [], none)),
  (143, (3, .getfield 66, 3, 1, 9, .null, [], none)),
  (146, (0, .lconst 0, 1, 0, 0, (.long 0), [], none)),
  (147, (0, .lcmp, 1, 0, 0, .null, [], none)),
  (148, (2, .ifCond .lt 18, 3, 166, 0, .null, [], none)),
  (151, (1, .aload_n 0, 1, 0, 0, .null, [], none)),
  (152, (3, .getfield 66, 3, 1, 9, .null, [], none)),
  (155, (0, .ldc2_w 72, 3, 0, 0, (.long 65535), [], none)),
  (158, (0, .lcmp, 1, 0, 0, .null, [], none)),
  (159, (2, .ifCond .gt 7, 3, 166, 0, .null, [], none))],
 [(162, (0, .iconst 1, 1, 0, 0, (.int 1), [], none)),
  (163, (2, .goto 4, 3, 167, 0, .null, [], none)),
  (166, (0, .iconst 0, 1, 0, 0, (.int 0), [], some [])),
  (167, (5, .ireturn, 1, 0, 0, .null, [], some [])),
  (168, (1, .aload_n 0, 1, 0, 0, .null, [], some [0])),
  (169, (3, .getfield 9, 3, 1, 0, .null, [], none)),
  (172, (0, .bipush 8, 2, 0, 0, (.int 8), [], none)),
  (174, (2, .if_icmp .ne 12, 3, 186, 0, .null, [], none)),
  (177, (1, .aload_n 0, 1, 0, 0, .null, [], none)),
  (178, (3, .getfield 45, 3, 1, 1, .null, [], none)),
  (181, (0, .bipush 8, 2, 0, 0, (.int 8), [], none)),
  (183, (2, .if_icmp .eq 31, 3, 214, 0, .null, [], none)),
  (186, (1, .aload_n 0, 1, 0, 0, .null, [], some [0])),
  (187, (3, .getfield 66, 3, 1, 9, .null, [], none)),
  (190, (1, .aload_n 0, 1, 0, 0, .null, [], none)),
  (191, (3, .getfield 66, 3, 1, 9, .null, [], none))],
 [(194, (1, .aload_n 0, 1, 0, 0, .null, [], none)),
  (195, (3, .getfield 45, 3, 1, 1, .null, [], none)),
  (198, (0, .iconst 1, 1, 0, 0, (.int 1), [], none)),
  (199, (2, .if_icmp .ne 7, 3, 206, 0, .null, [], none)),
  (202, (0, .iconst 1, 1, 0, 0, (.int 1), [], none)),
  (203, (2, .goto 4, 3, 207, 0, .null, [], none)),
  (206, (0, .iconst 4, 1, 0, 0, (.int 4), [], none)),
  (207, (4, .invokestatic 74, 3, 17, 2, .null, [], some [])),
  (210, (0, .lcmp, 1, 0, 0, .null, [], none)),
  (211, (2, .ifCond .ne 7, 3, 218, 0, .null, [], none)),
  (214, (0, .iconst 1, 1, 0, 0, (.int 1), [], some [])),
  (215, (2, .goto 4, 3, 219, 0, .null, [], none)),
  (218, (0, .iconst 0, 1, 0, 0, (.int 0), [], none)),
  (219, (5, .ireturn, 1, 0, 0, .null, [], some []))]]
/- 60: FlagMachine$Instruction.onlyOperandFits(I)Z -/
noncomputable def tb_c60 : List (List (Nat × am_I)) := [[(0, (1, .aload_n 0, 1, 0, 0, .null, [], none)),
  (1, (3, .getfield 9, 3, 1, 0, .null, [], none)),
  (4, (2, .tableswitch 196 15 46 #[144, 144, 144, 144, 144, 144, 144, 144, 196, 196, 196, 196, 196, 196, 149, 144, 149, 149, 159, 174, 144, 196, 196, 196, 196, 196, 196, 196, 196, 196, 196, 185], 144, 200, 0, .null, [(15, 148), (16, 148), (17, 148), (18, 148), (19, 148), (20, 148), (21, 148), (22, 148), (23, 200), (24, 200), (25, 200), (26, 200), (27, 200), (28, 200), (29, 153), (30, 148), (31, 153), (32, 153), (33, 163), (34, 178), (35, 148), (36, 200), (37, 200), (38, 200), (39, 200), (40, 200), (41, 200), (42, 200), (43, 200), (44, 200), (45, 200), (46, 189)], none))],
 [],
 [],
 [],
 [(148, (1, .iload_n 1, 1, 0, 0, .null, [], some [1])),
  (149, (4, .invokestatic 51, 3, 56, 1, .null, [], none)),
  (152, (5, .ireturn, 1, 0, 0, .null, [], none)),
  (153, (1, .iload_n 1, 1, 0, 0, .null, [], some [1])),
  (154, (2, .ifCond .eq 7, 3, 161, 0, .null, [], none)),
  (157, (0, .iconst 1, 1, 0, 0, (.int 1), [], none)),
  (158, (2, .goto 4, 3, 162, 0, .null, [], none))],
 [(161, (0, .iconst 0, 1, 0, 0, (.int 0), [], none)),
  (162, (5, .ireturn, 1, 0, 0, .null, [], some [])),
  (163, (1, .iload_n 1, 1, 0, 0, .null, [], none)),
  (164, (2, .ifCond .eq 8, 3, 172, 0, .null, [], none)),
  (167, (1, .iload_n 1, 1, 0, 0, .null, [], none)),
  (168, (0, .iconst 3, 1, 0, 0, (.int 3), [], none)),
  (169, (2, .if_icmp .ne 7, 3, 176, 0, .null, [], none)),
  (172, (0, .iconst 1, 1, 0, 0, (.int 1), [], some [])),
  (173, (2, .goto 4, 3, 177, 0, .null, [], none)),
  (176, (0, .iconst 0, 1, 0, 0, (.int 0), [], none)),
  (177, (5, .ireturn, 1, 0, 0, .null, [], some [])),
  (178, (1, .iload_n 1, 1, 0, 0, .null, [], none)),
  (179, (0, .iconst 3, 1, 0, 0, (.int 3), [], none)),
  (180, (2, .if_icmp .ne 7, 3, 187, 0, .null, [], none)),
  (183, (0, .iconst 1, 1, 0, 0, (.int 1), [], none)),
  (184, (2, .goto 4, 3, 188, 0, .null, [], none)),
  (187, (0, .iconst 0, 1, 0, 0, (.int 0), [], none)),
  (188, (5, .ireturn, 1, 0, 0, .null, [], some [])),
  (189, (1, .iload_n 1, 1, 0, 0, .null, [], none)),
  (190, (0, .iconst 1, 1, 0, 0, (.int 1), [], none)),
  (191, (2, .if_icmp .ne 7, 3, 198, 0, .null, [], none))],
 [(194, (0, .iconst 1, 1, 0, 0, (.int 1), [], none)),
  (195, (2, .goto 4, 3, 199, 0, .null, [], none)),
  (198, (0, .iconst 0, 1, 0, 0, (.int 0), [], none)),
  (199, (5, .ireturn, 1, 0, 0, .null, [], some [])),
  (200, (1, .iload_n 1, 1, 0, 0, .null, [], some [1])),
  (201, (2, .ifCond .ne 7, 3, 208, 0, .null, [], none)),
  (204, (0, .iconst 1, 1, 0, 0, (.int 1), [], none)),
  (205, (2, .goto 4, 3, 209, 0, .null, [], none)),
  (208, (0, .iconst 0, 1, 0, 0, (.int 0), [], none)),
  (209, (5, .ireturn, 1, 0, 0, .null, [], some []))]]
/- 61: FlagMachine$Instruction.operandsFit()Z -/
noncomputable def tb_c61 : List (List (Nat × am_I)) := [[(0, (1, .aload_n 0, 1, 0, 0, .null, [], none)),
  (1, (3, .getfield 15, 3, 1, 3, .null, [], none)),
  (4, (0, .iconst 0, 1, 0, 0, (.int 0), [], none)),
  (5, (3, .iaload, 1, 0, 0, .null, [], none)),
  (6, (1, .istore_n 1, 1, 0, 0, .null, [], none)),
  (7, (1, .aload_n 0, 1, 0, 0, .null, [], none)),
  (8, (3, .getfield 15, 3, 1, 3, .null, [], none)),
  (11, (0, .iconst 1, 1, 0, 0, (.int 1), [], none)),
  (12, (3, .iaload, 1, 0, 0, .null, [], none)),
  (13, (1, .istore_n 2, 1, 0, 0, .null, [], none)),
  (14, (1, .aload_n 0, 1, 0, 0, .null, [], none)),
  (15, (3, .getfield 9, 3, 1, 0, .null, [], none)),
  (18, (2, .tableswitch 355 0 49 #[214, 214, 214, 214, 214, 214, 214, 214, 214, 247, 270, 288, 304, 304, 304, 355, 355, 355, 355, 355, 355, 355, 355, 304, 322, 322, 322, 322, 322, 355, 355, 355, 355, 355, 355, 355, 304, 355, 355, 355, 355, 355, 355, 355, 304, 304, 355, 247, 270, 270], 214, 373, 0, .null, [(0, 232), (1, 232), (2, 232), (3, 232), (4, 232), (5, 232), (6, 232), (7, 232), (8, 232), (9, 265), (10, 288), (11, 306), (12, 322), (13, 322), (14, 322), (15, 373), (16, 373), (17, 373), (18, 373), (19, 373), (20, 373), (21, 373), (22, 373), (23, 322), (24, 340), (25, 340), (26, 340), (27, 340), (28, 340), (29, 373), (30, 373), (31, 373), (32, 373), (33, 373), (34, 373), (35, 373), (36, 322), (37, 373), (38, 373), (39, 373), (40, 373), (41, 373), (42, 373), (43, 373), (44, 322), (45, 322), (46, 373), (47, 265), (48, 288), (49, 288)], none))],
 [],
 [],
 [],
 [],
 [],
 [],
 [(232, (1, .iload_n 1, 1, 0, 0, .null, [], some [1, 2])),
  (233, (4, .invokestatic 51, 3, 56, 1, .null, [], none)),
  (236, (2, .ifCond .eq 13, 3, 249, 0, .null, [], none)),
  (239, (1, .iload_n 2, 1, 0, 0, .null, [], none)),
  (240, (0, .iconst 1, 1, 0, 0, (.int 1), [], none)),
  (241, (2, .if_icmp .eq 18, 3, 259, 0, .null, [], none)),
  (244, (1, .iload_n 2, 1, 0, 0, .null, [], none)),
  (245, (0, .iconst 3, 1, 0, 0, (.int 3), [], none)),
  (246, (2, .if_icmp .eq 13, 3, 259, 0, .null, [], none)),
  (249, (1, .iload_n 1, 1, 0, 0, .null, [], some [1, 2])),
  (250, (0, .iconst 1, 1, 0, 0, (.int 1), [], none)),
  (251, (2, .if_icmp .ne 12, 3, 263, 0, .null, [], none)),
  (254, (1, .iload_n 2, 1, 0, 0, .null, [], none)),
  (255, (0, .iconst 2, 1, 0, 0, (.int 2), [], none))],
 [(256, (2, .if_icmp .ne 7, 3, 263, 0, .null, [], none)),
  (259, (0, .iconst 1, 1, 0, 0, (.int 1), [], some [])),
  (260, (2, .goto 4, 3, 264, 0, .null, [], none)),
  (263, (0, .iconst 0, 1, 0, 0, (.int 0), [], some [])),
  (264, (5, .ireturn, 1, 0, 0, .null, [], some [])),
  (265, (1, .iload_n 1, 1, 0, 0, .null, [], some [1, 2])),
  (266, (4, .invokestatic 51, 3, 56, 1, .null, [], none)),
  (269, (2, .ifCond .eq 17, 3, 286, 0, .null, [], none)),
  (272, (1, .iload_n 2, 1, 0, 0, .null, [], none)),
  (273, (0, .iconst 1, 1, 0, 0, (.int 1), [], none)),
  (274, (2, .if_icmp .eq 8, 3, 282, 0, .null, [], none)),
  (277, (1, .iload_n 2, 1, 0, 0, .null, [], none)),
  (278, (0, .iconst 3, 1, 0, 0, (.int 3), [], none)),
  (279, (2, .if_icmp .ne 7, 3, 286, 0, .null, [], none)),
  (282, (0, .iconst 1, 1, 0, 0, (.int 1), [], some [])),
  (283, (2, .goto 4, 3, 287, 0, .null, [], none)),
  (286, (0, .iconst 0, 1, 0, 0, (.int 0), [], some [])),
  (287, (5, .ireturn, 1, 0, 0, .null, [], some []))],
 [(288, (1, .iload_n 1, 1, 0, 0, .null, [], some [1, 2])),
  (289, (4, .invokestatic 51, 3, 56, 1, .null, [], none)),
  (292, (2, .ifCond .eq 12, 3, 304, 0, .null, [], none)),
  (295, (1, .iload_n 2, 1, 0, 0, .null, [], none)),
  (296, (0, .iconst 1, 1, 0, 0, (.int 1), [], none)),
  (297, (2, .if_icmp .ne 7, 3, 304, 0, .null, [], none)),
  (300, (0, .iconst 1, 1, 0, 0, (.int 1), [], none)),
  (301, (2, .goto 4, 3, 305, 0, .null, [], none)),
  (304, (0, .iconst 0, 1, 0, 0, (.int 0), [], some [])),
  (305, (5, .ireturn, 1, 0, 0, .null, [], some [])),
  (306, (1, .iload_n 1, 1, 0, 0, .null, [], none)),
  (307, (0, .iconst 1, 1, 0, 0, (.int 1), [], none)),
  (308, (2, .if_icmp .ne 12, 3, 320, 0, .null, [], none)),
  (311, (1, .iload_n 2, 1, 0, 0, .null, [], none)),
  (312, (0, .iconst 2, 1, 0, 0, (.int 2), [], none)),
  (313, (2, .if_icmp .ne 7, 3, 320, 0, .null, [], none)),
  (316, (0, .iconst 1, 1, 0, 0, (.int 1), [], none)),
  (317, (2, .goto 4, 3, 321, 0, .null, [], none))],
 [(320, (0, .iconst 0, 1, 0, 0, (.int 0), [], some [])),
  (321, (5, .ireturn, 1, 0, 0, .null, [], some [])),
  (322, (1, .iload_n 1, 1, 0, 0, .null, [], some [1, 2])),
  (323, (0, .iconst 1, 1, 0, 0, (.int 1), [], none)),
  (324, (2, .if_icmp .ne 14, 3, 338, 0, .null, [], none)),
  (327, (1, .iload_n 2, 1, 0, 0, .null, [], none)),
  (328, (4, .invokestatic 51, 3, 56, 1, .null, [], none)),
  (331, (2, .ifCond .eq 7, 3, 338, 0, .null, [], none)),
  (334, (0, .iconst 1, 1, 0, 0, (.int 1), [], none)),
  (335, (2, .goto 4, 3, 339, 0, .null, [], none)),
  (338, (0, .iconst 0, 1, 0, 0, (.int 0), [], some [])),
  (339, (5, .ireturn, 1, 0, 0, .null, [], some [])),
  (340, (1, .iload_n 1, 1, 0, 0, .null, [], some [0, 1, 2])),
  (341, (4, .invokestatic 51, 3, 56, 1, .null, [], none)),
  (344, (2, .ifCond .eq 27, 3, 371, 0, .null, [], none)),
  (347, (1, .iload_n 2, 1, 0, 0, .null, [], none)),
  (348, (0, .iconst 3, 1, 0, 0, (.int 3), [], none)),
  (349, (2, .if_icmp .eq 18, 3, 367, 0, .null, [], none))],
 [(352, (1, .iload_n 2, 1, 0, 0, .null, [], none)),
  (353, (0, .iconst 1, 1, 0, 0, (.int 1), [], none)),
  (354, (2, .if_icmp .ne 17, 3, 371, 0, .null, [], none)),
  (357, (1, .aload_n 0, 1, 0, 0, .null, [], none)),
  (358, (3, .getfield 19, 3, 1, 4, .null, [], none)),
  (361, (0, .iconst 1, 1, 0, 0, (.int 1), [], none)),
  (362, (3, .iaload, 1, 0, 0, .null, [], none)),
  (363, (0, .iconst 1, 1, 0, 0, (.int 1), [], none)),
  (364, (2, .if_icmp .ne 7, 3, 371, 0, .null, [], none)),
  (367, (0, .iconst 1, 1, 0, 0, (.int 1), [], some [])),
  (368, (2, .goto 4, 3, 372, 0, .null, [], none)),
  (371, (0, .iconst 0, 1, 0, 0, (.int 0), [], some [])),
  (372, (5, .ireturn, 1, 0, 0, .null, [], some [])),
  (373, (1, .iload_n 2, 1, 0, 0, .null, [], some [0, 1, 2])),
  (374, (2, .ifCond .ne 15, 3, 389, 0, .null, [], none)),
  (377, (1, .aload_n 0, 1, 0, 0, .null, [], none)),
  (378, (1, .iload_n 1, 1, 0, 0, .null, [], none)),
  (379, (4, .invokevirtual 54, 3, 60, 2, .null, [], none)),
  (382, (2, .ifCond .eq 7, 3, 389, 0, .null, [], none))],
 [(385, (0, .iconst 1, 1, 0, 0, (.int 1), [], none)),
  (386, (2, .goto 4, 3, 390, 0, .null, [], none)),
  (389, (0, .iconst 0, 1, 0, 0, (.int 0), [], some [])),
  (390, (5, .ireturn, 1, 0, 0, .null, [], some []))]]
/- 62: FlagMachine$Instruction.registersDiffer()Z -/
noncomputable def tb_c62 : List (List (Nat × am_I)) := [[(0, (1, .aload_n 0, 1, 0, 0, .null, [], none)),
  (1, (3, .getfield 15, 3, 1, 3, .null, [], none)),
  (4, (0, .iconst 0, 1, 0, 0, (.int 0), [], none)),
  (5, (3, .iaload, 1, 0, 0, .null, [], none)),
  (6, (0, .iconst 1, 1, 0, 0, (.int 1), [], none)),
  (7, (2, .if_icmp .ne 28, 3, 35, 0, .null, [], none)),
  (10, (1, .aload_n 0, 1, 0, 0, .null, [], none)),
  (11, (3, .getfield 15, 3, 1, 3, .null, [], none)),
  (14, (0, .iconst 1, 1, 0, 0, (.int 1), [], none)),
  (15, (3, .iaload, 1, 0, 0, .null, [], none)),
  (16, (0, .iconst 1, 1, 0, 0, (.int 1), [], none)),
  (17, (2, .if_icmp .ne 18, 3, 35, 0, .null, [], none)),
  (20, (1, .aload_n 0, 1, 0, 0, .null, [], none)),
  (21, (3, .getfield 19, 3, 1, 4, .null, [], none)),
  (24, (0, .iconst 0, 1, 0, 0, (.int 0), [], none)),
  (25, (3, .iaload, 1, 0, 0, .null, [], none)),
  (26, (1, .aload_n 0, 1, 0, 0, .null, [], none)),
  (27, (3, .getfield 19, 3, 1, 4, .null, [], none)),
  (30, (0, .iconst 1, 1, 0, 0, (.int 1), [], none)),
  (31, (3, .iaload, 1, 0, 0, .null, [], none))],
 [(32, (2, .if_icmp .eq 7, 3, 39, 0, .null, [], none)),
  (35, (0, .iconst 1, 1, 0, 0, (.int 1), [], some [])),
  (36, (2, .goto 4, 3, 40, 0, .null, [], none)),
  (39, (0, .iconst 0, 1, 0, 0, (.int 0), [], none)),
  (40, (5, .ireturn, 1, 0, 0, .null, [], some []))]]
/- 63: FlagMachine$Instruction.sizeFits()Z -/
noncomputable def tb_c63 : List (List (Nat × am_I)) := [[(0, (1, .aload_n 0, 1, 0, 0, .null, [], none)),
  (1, (3, .getfield 9, 3, 1, 0, .null, [], none)),
  (4, (2, .tableswitch 229 11 47 #[179, 179, 179, 164, 229, 229, 229, 229, 229, 229, 229, 229, 179, 229, 229, 229, 229, 229, 164, 164, 202, 202, 202, 202, 215, 179, 179, 179, 202, 202, 202, 202, 202, 179, 179, 179, 179], 164, 233, 0, .null, [(11, 183), (12, 183), (13, 183), (14, 168), (15, 233), (16, 233), (17, 233), (18, 233), (19, 233), (20, 233), (21, 233), (22, 233), (23, 183), (24, 233), (25, 233), (26, 233), (27, 233), (28, 233), (29, 168), (30, 168), (31, 206), (32, 206), (33, 206), (34, 206), (35, 219), (36, 183), (37, 183), (38, 183), (39, 206), (40, 206), (41, 206), (42, 206), (43, 206), (44, 183), (45, 183), (46, 183), (47, 183)], none))],
 [],
 [],
 [],
 [],
 [(168, (1, .aload_n 0, 1, 0, 0, .null, [], some [0])),
  (169, (3, .getfield 45, 3, 1, 1, .null, [], none)),
  (172, (0, .bipush 8, 2, 0, 0, (.int 8), [], none)),
  (174, (2, .if_icmp .ne 7, 3, 181, 0, .null, [], none)),
  (177, (0, .iconst 1, 1, 0, 0, (.int 1), [], none)),
  (178, (2, .goto 4, 3, 182, 0, .null, [], none)),
  (181, (0, .iconst 0, 1, 0, 0, (.int 0), [], none)),
  (182, (5, .ireturn, 1, 0, 0, .null, [], some [])),
  (183, (1, .aload_n 0, 1, 0, 0, .null, [], some [0])),
  (184, (3, .getfield 45, 3, 1, 1, .null, [], none)),
  (187, (0, .iconst 4, 1, 0, 0, (.int 4), [], none)),
  (188, (2, .if_icmp .eq 12, 3, 200, 0, .null, [], none)),
  (191, (1, .aload_n 0, 1, 0, 0, .null, [], none))],
 [(192, (3, .getfield 45, 3, 1, 1, .null, [], none)),
  (195, (0, .bipush 8, 2, 0, 0, (.int 8), [], none)),
  (197, (2, .if_icmp .ne 7, 3, 204, 0, .null, [], none)),
  (200, (0, .iconst 1, 1, 0, 0, (.int 1), [], some [])),
  (201, (2, .goto 4, 3, 205, 0, .null, [], none)),
  (204, (0, .iconst 0, 1, 0, 0, (.int 0), [], none)),
  (205, (5, .ireturn, 1, 0, 0, .null, [], some [])),
  (206, (1, .aload_n 0, 1, 0, 0, .null, [], some [0])),
  (207, (3, .getfield 45, 3, 1, 1, .null, [], none)),
  (210, (2, .ifCond .ne 7, 3, 217, 0, .null, [], none)),
  (213, (0, .iconst 1, 1, 0, 0, (.int 1), [], none)),
  (214, (2, .goto 4, 3, 218, 0, .null, [], none)),
  (217, (0, .iconst 0, 1, 0, 0, (.int 0), [], none)),
  (218, (5, .ireturn, 1, 0, 0, .null, [], some [])),
  (219, (1, .aload_n 0, 1, 0, 0, .null, [], none)),
  (220, (3, .getfield 45, 3, 1, 1, .null, [], none)),
  (223, (0, .iconst 1, 1, 0, 0, (.int 1), [], none))],
 [(224, (2, .if_icmp .ne 7, 3, 231, 0, .null, [], none)),
  (227, (0, .iconst 1, 1, 0, 0, (.int 1), [], none)),
  (228, (2, .goto 4, 3, 232, 0, .null, [], none)),
  (231, (0, .iconst 0, 1, 0, 0, (.int 0), [], none)),
  (232, (5, .ireturn, 1, 0, 0, .null, [], some [])),
  (233, (1, .aload_n 0, 1, 0, 0, .null, [], some [0])),
  (234, (3, .getfield 45, 3, 1, 1, .null, [], none)),
  (237, (0, .iconst 1, 1, 0, 0, (.int 1), [], none)),
  (238, (2, .if_icmp .eq 20, 3, 258, 0, .null, [], none)),
  (241, (1, .aload_n 0, 1, 0, 0, .null, [], none)),
  (242, (3, .getfield 45, 3, 1, 1, .null, [], none)),
  (245, (0, .iconst 4, 1, 0, 0, (.int 4), [], none)),
  (246, (2, .if_icmp .eq 12, 3, 258, 0, .null, [], none)),
  (249, (1, .aload_n 0, 1, 0, 0, .null, [], none)),
  (250, (3, .getfield 45, 3, 1, 1, .null, [], none)),
  (253, (0, .bipush 8, 2, 0, 0, (.int 8), [], none)),
  (255, (2, .if_icmp .ne 7, 3, 262, 0, .null, [], none))],
 [(258, (0, .iconst 1, 1, 0, 0, (.int 1), [], some [])),
  (259, (2, .goto 4, 3, 263, 0, .null, [], none)),
  (262, (0, .iconst 0, 1, 0, 0, (.int 0), [], none)),
  (263, (5, .ireturn, 1, 0, 0, .null, [], some []))]]
/- 64: FlagMachine$Instruction.thirdFits()Z -/
noncomputable def tb_c64 : List (List (Nat × am_I)) := [[(0, (1, .aload_n 0, 1, 0, 0, .null, [], none)),
  (1, (3, .getfield 15, 3, 1, 3, .null, [], none)),
  (4, (0, .iconst 2, 1, 0, 0, (.int 2), [], none)),
  (5, (3, .iaload, 1, 0, 0, .null, [], none)),
  (6, (2, .ifCond .eq 22, 3, 28, 0, .null, [], none)),
  (9, (1, .aload_n 0, 1, 0, 0, .null, [], none)),
  (10, (3, .getfield 9, 3, 1, 0, .null, [], none)),
  (13, (0, .bipush 23, 2, 0, 0, (.int 23), [], none)),
  (15, (2, .if_icmp .ne 17, 3, 32, 0, .null, [], none)),
  (18, (1, .aload_n 0, 1, 0, 0, .null, [], none)),
  (19, (3, .getfield 15, 3, 1, 3, .null, [], none)),
  (22, (0, .iconst 2, 1, 0, 0, (.int 2), [], none)),
  (23, (3, .iaload, 1, 0, 0, .null, [], none)),
  (24, (0, .iconst 3, 1, 0, 0, (.int 3), [], none)),
  (25, (2, .if_icmp .ne 7, 3, 32, 0, .null, [], none)),
  (28, (0, .iconst 1, 1, 0, 0, (.int 1), [], some [])),
  (29, (2, .goto 4, 3, 33, 0, .null, [], none))],
 [(32, (0, .iconst 0, 1, 0, 0, (.int 0), [], some [])),
  (33, (5, .ireturn, 1, 0, 0, .null, [], some []))]]
/- 65: FlagMachine$Memory.<init>()V -/
noncomputable def tb_c65 : List (List (Nat × am_I)) := [[(0, (1, .aload_n 0, 1, 0, 0, .null, [], none)),
  (1, (3, .invokespecial 5, 3, 0, 0, .null, [], none)),
  (4, (1, .aload_n 0, 1, 0, 0, .null, [], none)),
  (5, (3, .new 11, 3, 2, 0, .null, [], none)),
  (8, (0, .dup, 1, 0, 0, .null, [], none)),
  (9, (0, .ldc 13, 2, 0, 0, (.int 393472), [], none)),
  (11, (4, .invokespecial 14, 3, 106, 2, .null, [], none)),
  (14, (3, .putfield 17, 3, 5, 0, .null, [], none)),
  (17, (1, .aload_n 0, 1, 0, 0, .null, [], none)),
  (18, (0, .iconst 5, 1, 0, 0, (.int 5), [], none)),
  (19, (3, .newarray .int, 2, 0, 0, .null, [], none)),
  (21, (3, .putfield 21, 3, 5, 1, .null, [], none)),
  (24, (1, .aload_n 0, 1, 0, 0, .null, [], none)),
  (25, (0, .iconst 5, 1, 0, 0, (.int 5), [], none)),
  (26, (3, .newarray .int, 2, 0, 0, .null, [], none)),
  (28, (3, .putfield 25, 3, 5, 2, .null, [], none)),
  (31, (5, .return_, 1, 0, 0, .null, [], none))]]
/- 66: FlagMachine$Memory.breakAddress()J -/
noncomputable def tb_c66 : List (List (Nat × am_I)) := [[(0, (0, .ldc2_w 37, 3, 0, 0, (.long 4194304), [], none)),
  (3, (1, .aload_n 0, 1, 0, 0, .null, [], none)),
  (4, (3, .getfield 25, 3, 5, 2, .null, [], none)),
  (7, (0, .iconst 3, 1, 0, 0, (.int 3), [], none)),
  (8, (3, .iaload, 1, 0, 0, .null, [], none)),
  (9, (0, .i2l, 1, 0, 0, .null, [], none)),
  (10, (0, .ladd, 1, 0, 0, .null, [], none)),
  (11, (5, .lreturn, 1, 0, 0, .null, [], none))]]
/- 67: FlagMachine$Memory.layRow(III)V -/
noncomputable def tb_c67 : List (List (Nat × am_I)) := [[(0, (1, .aload_n 0, 1, 0, 0, .null, [], none)),
  (1, (3, .getfield 21, 3, 5, 1, .null, [], none)),
  (4, (1, .iload_n 1, 1, 0, 0, .null, [], none)),
  (5, (1, .iload_n 2, 1, 0, 0, .null, [], none)),
  (6, (3, .iastore, 1, 0, 0, .null, [], none)),
  (7, (1, .aload_n 0, 1, 0, 0, .null, [], none)),
  (8, (3, .getfield 25, 3, 5, 2, .null, [], none)),
  (11, (1, .iload_n 1, 1, 0, 0, .null, [], none)),
  (12, (1, .iload_n 3, 1, 0, 0, .null, [], none)),
  (13, (3, .iastore, 1, 0, 0, .null, [], none)),
  (14, (5, .return_, 1, 0, 0, .null, [], none))]]
/- 68: FlagMachine$Memory.layRows(IIIIII)V -/
noncomputable def tb_c68 : List (List (Nat × am_I)) := [[(0, (1, .iload_n 1, 1, 0, 0, .null, [], none)),
  (1, (0, .sipush 4095, 3, 0, 0, (.int 4095), [], none)),
  (4, (0, .iadd, 1, 0, 0, .null, [], none)),
  (5, (0, .sipush 4096, 3, 0, 0, (.int 4096), [], none)),
  (8, (0, .idiv, 1, 0, 0, .null, [], none)),
  (9, (0, .sipush 4096, 3, 0, 0, (.int 4096), [], none)),
  (12, (0, .imul, 1, 0, 0, .null, [], none)),
  (13, (1, .istore 7, 2, 0, 0, .null, [], none)),
  (15, (1, .aload_n 0, 1, 0, 0, .null, [], none)),
  (16, (0, .iconst 0, 1, 0, 0, (.int 0), [], none)),
  (17, (0, .iconst 0, 1, 0, 0, (.int 0), [], none)),
  (18, (1, .iload_n 2, 1, 0, 0, .null, [], none)),
  (19, (4, .invokevirtual 28, 3, 67, 4, .null, [], none)),
  (22, (1, .aload_n 0, 1, 0, 0, .null, [], none)),
  (23, (0, .iconst 1, 1, 0, 0, (.int 1), [], none)),
  (24, (1, .iload_n 3, 1, 0, 0, .null, [], none)),
  (25, (1, .iload 4, 2, 0, 0, .null, [], none)),
  (27, (4, .invokevirtual 28, 3, 67, 4, .null, [], none)),
  (30, (1, .aload_n 0, 1, 0, 0, .null, [], none)),
  (31, (0, .iconst 2, 1, 0, 0, (.int 2), [], none))],
 [(32, (1, .iload 5, 2, 0, 0, .null, [], none)),
  (34, (1, .iload 6, 2, 0, 0, .null, [], none)),
  (36, (4, .invokevirtual 28, 3, 67, 4, .null, [], none)),
  (39, (1, .aload_n 0, 1, 0, 0, .null, [], none)),
  (40, (0, .iconst 3, 1, 0, 0, (.int 3), [], none)),
  (41, (1, .iload 7, 2, 0, 0, .null, [], none)),
  (43, (1, .iload 7, 2, 0, 0, .null, [], none)),
  (45, (4, .invokevirtual 28, 3, 67, 4, .null, [], none)),
  (48, (1, .aload_n 0, 1, 0, 0, .null, [], none)),
  (49, (0, .iconst 4, 1, 0, 0, (.int 4), [], none)),
  (50, (0, .ldc 32, 2, 0, 0, (.int 327936), [], none)),
  (52, (0, .ldc 13, 2, 0, 0, (.int 393472), [], none)),
  (54, (4, .invokevirtual 28, 3, 67, 4, .null, [], none)),
  (57, (5, .return_, 1, 0, 0, .null, [], none))]]
/- 69: FlagMachine$Memory.loadImage(LFlagMachine$Stretch;I)V -/
noncomputable def tb_c69 : List (List (Nat × am_I)) := [[(0, (1, .aload_n 0, 1, 0, 0, .null, [], none)),
  (1, (3, .getfield 17, 3, 5, 0, .null, [], none)),
  (4, (1, .aload_n 1, 1, 0, 0, .null, [], none)),
  (5, (1, .iload_n 2, 1, 0, 0, .null, [], none)),
  (6, (4, .invokevirtual 33, 3, 107, 3, .null, [], none)),
  (9, (5, .return_, 1, 0, 0, .null, [], none))]]
/- 70: FlagMachine$Memory.moveBreak(J)V -/
noncomputable def tb_c70 : List (List (Nat × am_I)) := [[(0, (0, .ldc2_w 37, 3, 0, 0, (.long 4194304), [], none)),
  (3, (1, .aload_n 0, 1, 0, 0, .null, [], none)),
  (4, (3, .getfield 21, 3, 5, 1, .null, [], none)),
  (7, (0, .iconst 3, 1, 0, 0, (.int 3), [], none)),
  (8, (3, .iaload, 1, 0, 0, .null, [], none)),
  (9, (0, .i2l, 1, 0, 0, .null, [], none)),
  (10, (0, .ladd, 1, 0, 0, .null, [], none)),
  (11, (1, .lstore_n 3, 1, 0, 0, .null, [], none)),
  (12, (1, .lload_n 1, 1, 0, 0, .null, [], none)),
  (13, (1, .lload_n 3, 1, 0, 0, .null, [], none)),
  (14, (0, .lcmp, 1, 0, 0, .null, [], none)),
  (15, (2, .ifCond .lt 13, 3, 28, 0, .null, [], none)),
  (18, (1, .lload_n 1, 1, 0, 0, .null, [], none)),
  (19, (1, .lload_n 3, 1, 0, 0, .null, [], none)),
  (20, (0, .ldc2_w 39, 3, 0, 0, (.long 65536), [], none)),
  (23, (0, .ladd, 1, 0, 0, .null, [], none)),
  (24, (0, .lcmp, 1, 0, 0, .null, [], none)),
  (25, (2, .ifCond .le 4, 3, 29, 0, .null, [], none)),
  (28, (5, .return_, 1, 0, 0, .null, [], some [])),
  (29, (1, .lload_n 1, 1, 0, 0, .null, [], none)),
  (30, (0, .ldc2_w 37, 3, 0, 0, (.long 4194304), [], none))],
 [(33, (0, .lsub, 1, 0, 0, .null, [], none)),
  (34, (0, .l2i, 1, 0, 0, .null, [], none)),
  (35, (1, .istore 5, 2, 0, 0, .null, [], none)),
  (37, (1, .aload_n 0, 1, 0, 0, .null, [], none)),
  (38, (3, .getfield 17, 3, 5, 0, .null, [], none)),
  (41, (1, .iload 5, 2, 0, 0, .null, [], none)),
  (43, (1, .aload_n 0, 1, 0, 0, .null, [], none)),
  (44, (3, .getfield 25, 3, 5, 2, .null, [], none)),
  (47, (0, .iconst 3, 1, 0, 0, (.int 3), [], none)),
  (48, (3, .iaload, 1, 0, 0, .null, [], none)),
  (49, (1, .iload 5, 2, 0, 0, .null, [], none)),
  (51, (0, .isub, 1, 0, 0, .null, [], none)),
  (52, (4, .invokevirtual 41, 3, 110, 3, .null, [], none)),
  (55, (1, .aload_n 0, 1, 0, 0, .null, [], none)),
  (56, (3, .getfield 25, 3, 5, 2, .null, [], none)),
  (59, (0, .iconst 3, 1, 0, 0, (.int 3), [], none)),
  (60, (1, .iload 5, 2, 0, 0, .null, [], none)),
  (62, (3, .iastore, 1, 0, 0, .null, [], none)),
  (63, (5, .return_, 1, 0, 0, .null, [], none))]]
/- 71: FlagMachine$Memory.placeFor(JII)I -/
noncomputable def tb_c71 : List (List (Nat × am_I)) := [[(0, (1, .lload_n 1, 1, 0, 0, .null, [], none)),
  (1, (4, .invokestatic 45, 3, 72, 1, .null, [], none)),
  (4, (1, .istore 5, 2, 0, 0, .null, [], none)),
  (6, (1, .iload 5, 2, 0, 0, .null, [], none)),
  (8, (1, .istore 6, 2, 0, 0, .null, [], none)),
  (10, (1, .iload 4, 2, 0, 0, .null, [], none)),
  (12, (0, .iconst 1, 1, 0, 0, (.int 1), [], none)),
  (13, (2, .if_icmp .ne 7, 3, 20, 0, .null, [], none)),
  (16, (0, .iconst 2, 1, 0, 0, (.int 2), [], none)),
  (17, (2, .goto 4, 3, 21, 0, .null, [], none)),
  (20, (0, .iconst 0, 1, 0, 0, (.int 0), [], none)),
  (21, (1, .istore 7, 2, 0, 0, .null, [], some [0, 3, 5, 6])),
  (23, (1, .iload 7, 2, 0, 0, .null, [], some [0, 3, 5, 6, 7])),
  (25, (0, .iconst 5, 1, 0, 0, (.int 5), [], none)),
  (26, (2, .if_icmp .ge 42, 3, 68, 0, .null, [], none)),
  (29, (1, .iload 6, 2, 0, 0, .null, [], none)),
  (31, (1, .aload_n 0, 1, 0, 0, .null, [], none))],
 [(32, (3, .getfield 21, 3, 5, 1, .null, [], none)),
  (35, (1, .iload 7, 2, 0, 0, .null, [], none)),
  (37, (3, .iaload, 1, 0, 0, .null, [], none)),
  (38, (2, .if_icmp .lt 24, 3, 62, 0, .null, [], none)),
  (41, (1, .iload 6, 2, 0, 0, .null, [], none)),
  (43, (1, .aload_n 0, 1, 0, 0, .null, [], none)),
  (44, (3, .getfield 25, 3, 5, 2, .null, [], none)),
  (47, (1, .iload 7, 2, 0, 0, .null, [], none)),
  (49, (3, .iaload, 1, 0, 0, .null, [], none)),
  (50, (2, .if_icmp .ge 12, 3, 62, 0, .null, [], none)),
  (53, (1, .aload_n 0, 1, 0, 0, .null, [], none)),
  (54, (3, .getfield 25, 3, 5, 2, .null, [], none)),
  (57, (1, .iload 7, 2, 0, 0, .null, [], none)),
  (59, (3, .iaload, 1, 0, 0, .null, [], none)),
  (60, (1, .istore 6, 2, 0, 0, .null, [], none)),
  (62, (1, .iinc 7 1, 3, 0, 0, (.int 1), [], some [0, 3, 5, 6, 7]))],
 [(65, (2, .goto (-42), 3, 23, 0, .null, [], none)),
  (68, (1, .iload 6, 2, 0, 0, .null, [], none)),
  (70, (1, .iload 5, 2, 0, 0, .null, [], none)),
  (72, (0, .isub, 1, 0, 0, .null, [], none)),
  (73, (1, .iload_n 3, 1, 0, 0, .null, [], none)),
  (74, (2, .if_icmp .ge 7, 3, 81, 0, .null, [], none)),
  (77, (0, .iconst (-1), 1, 0, 0, (.int (-1)), [], none)),
  (78, (2, .goto 5, 3, 83, 0, .null, [], none)),
  (81, (1, .iload 5, 2, 0, 0, .null, [], none)),
  (83, (5, .ireturn, 1, 0, 0, .null, [], some []))]]
/- 72: FlagMachine$Memory.placeOf(J)I -/
noncomputable def tb_c72 : List (List (Nat × am_I)) := [[(0, (1, .lload_n 0, 1, 0, 0, .null, [], none)),
  (1, (0, .ldc2_w 37, 3, 0, 0, (.long 4194304), [], none)),
  (4, (0, .lcmp, 1, 0, 0, .null, [], none)),
  (5, (2, .ifCond .lt 18, 3, 23, 0, .null, [], none)),
  (8, (1, .lload_n 0, 1, 0, 0, .null, [], none)),
  (9, (0, .ldc2_w 49, 3, 0, 0, (.long 4521984), [], none)),
  (12, (0, .lcmp, 1, 0, 0, .null, [], none)),
  (13, (2, .ifCond .ge 10, 3, 23, 0, .null, [], none)),
  (16, (1, .lload_n 0, 1, 0, 0, .null, [], none)),
  (17, (0, .ldc2_w 37, 3, 0, 0, (.long 4194304), [], none)),
  (20, (0, .lsub, 1, 0, 0, .null, [], none)),
  (21, (0, .l2i, 1, 0, 0, .null, [], none)),
  (22, (5, .ireturn, 1, 0, 0, .null, [], none)),
  (23, (1, .lload_n 0, 1, 0, 0, .null, [], some [0])),
  (24, (0, .ldc2_w 51, 3, 0, 0, (.long 2147414016), [], none)),
  (27, (0, .lcmp, 1, 0, 0, .null, [], none)),
  (28, (2, .ifCond .lt 21, 3, 49, 0, .null, [], none)),
  (31, (1, .lload_n 0, 1, 0, 0, .null, [], none))],
 [(32, (0, .ldc2_w 53, 3, 0, 0, (.long 2147479552), [], none)),
  (35, (0, .lcmp, 1, 0, 0, .null, [], none)),
  (36, (2, .ifCond .ge 13, 3, 49, 0, .null, [], none)),
  (39, (0, .ldc 32, 2, 0, 0, (.int 327936), [], none)),
  (41, (1, .lload_n 0, 1, 0, 0, .null, [], none)),
  (42, (0, .ldc2_w 51, 3, 0, 0, (.long 2147414016), [], none)),
  (45, (0, .lsub, 1, 0, 0, .null, [], none)),
  (46, (0, .l2i, 1, 0, 0, .null, [], none)),
  (47, (0, .iadd, 1, 0, 0, .null, [], none)),
  (48, (5, .ireturn, 1, 0, 0, .null, [], none)),
  (49, (0, .iconst (-1), 1, 0, 0, (.int (-1)), [], some [])),
  (50, (5, .ireturn, 1, 0, 0, .null, [], none))]]
/- 73: FlagMachine$Moves.<init>(LFlagMachine$Core;)V -/
noncomputable def tb_c73 : List (List (Nat × am_I)) := [[(0, (1, .aload_n 0, 1, 0, 0, .null, [], none)),
  (1, (3, .invokespecial 3, 3, 0, 0, .null, [], none)),
  (4, (1, .aload_n 0, 1, 0, 0, .null, [], none)),
  (5, (1, .aload_n 1, 1, 0, 0, .null, [], none)),
  (6, (3, .putfield 9, 3, 9, 0, .null, [], none)),
  (9, (1, .aload_n 0, 1, 0, 0, .null, [], none)),
  (10, (1, .aload_n 1, 1, 0, 0, .null, [], none)),
  (11, (3, .getfield 15, 3, 3, 3, .null, [], none)),
  (14, (3, .putfield 21, 3, 9, 1, .null, [], none)),
  (17, (5, .return_, 1, 0, 0, .null, [], none))]]
/- 74: FlagMachine$Moves.call(J)V -/
noncomputable def tb_c74 : List (List (Nat × am_I)) := [[(0, (1, .aload_n 0, 1, 0, 0, .null, [], none)),
  (1, (3, .getfield 9, 3, 9, 0, .null, [], none)),
  (4, (3, .getfield 100, 3, 3, 0, .null, [], none)),
  (7, (0, .iconst 4, 1, 0, 0, (.int 4), [], none)),
  (8, (3, .laload, 1, 0, 0, .null, [], none)),
  (9, (0, .ldc2_w 104, 3, 0, 0, (.long 8), [], none)),
  (12, (0, .lsub, 1, 0, 0, .null, [], none)),
  (13, (1, .lstore_n 3, 1, 0, 0, .null, [], none)),
  (14, (1, .aload_n 0, 1, 0, 0, .null, [], none)),
  (15, (3, .getfield 9, 3, 9, 0, .null, [], none)),
  (18, (3, .getfield 82, 3, 3, 7, .null, [], none)),
  (21, (2, .ifCond .ne 41, 3, 62, 0, .null, [], none)),
  (24, (1, .aload_n 0, 1, 0, 0, .null, [], none)),
  (25, (3, .getfield 9, 3, 9, 0, .null, [], none)),
  (28, (1, .lload_n 3, 1, 0, 0, .null, [], none)),
  (29, (0, .bipush 8, 2, 0, 0, (.int 8), [], none)),
  (31, (1, .aload_n 0, 1, 0, 0, .null, [], none))],
 [(32, (3, .getfield 9, 3, 9, 0, .null, [], none)),
  (35, (3, .getfield 119, 3, 3, 5, .null, [], none)),
  (38, (4, .invokevirtual 106, 3, 39, 4, .null, [], none)),
  (41, (2, .ifCond .eq 21, 3, 62, 0, .null, [], none)),
  (44, (1, .aload_n 0, 1, 0, 0, .null, [], none)),
  (45, (3, .getfield 9, 3, 9, 0, .null, [], none)),
  (48, (3, .getfield 100, 3, 3, 0, .null, [], none)),
  (51, (0, .iconst 4, 1, 0, 0, (.int 4), [], none)),
  (52, (1, .lload_n 3, 1, 0, 0, .null, [], none)),
  (53, (3, .lastore, 1, 0, 0, .null, [], none)),
  (54, (1, .aload_n 0, 1, 0, 0, .null, [], none)),
  (55, (3, .getfield 9, 3, 9, 0, .null, [], none)),
  (58, (1, .lload_n 1, 1, 0, 0, .null, [], none)),
  (59, (3, .putfield 119, 3, 3, 5, .null, [], none)),
  (62, (5, .return_, 1, 0, 0, .null, [], some []))]]
/- 75: FlagMachine$Moves.comeBack()V -/
noncomputable def tb_c75 : List (List (Nat × am_I)) := [[(0, (1, .aload_n 0, 1, 0, 0, .null, [], none)),
  (1, (3, .getfield 9, 3, 9, 0, .null, [], none)),
  (4, (1, .aload_n 0, 1, 0, 0, .null, [], none)),
  (5, (3, .getfield 9, 3, 9, 0, .null, [], none)),
  (8, (3, .getfield 100, 3, 3, 0, .null, [], none)),
  (11, (0, .iconst 4, 1, 0, 0, (.int 4), [], none)),
  (12, (3, .laload, 1, 0, 0, .null, [], none)),
  (13, (0, .bipush 8, 2, 0, 0, (.int 8), [], none)),
  (15, (4, .invokevirtual 110, 3, 33, 3, .null, [], none)),
  (18, (1, .lstore_n 1, 1, 0, 0, .null, [], none)),
  (19, (1, .aload_n 0, 1, 0, 0, .null, [], none)),
  (20, (3, .getfield 9, 3, 9, 0, .null, [], none)),
  (23, (3, .getfield 82, 3, 3, 7, .null, [], none)),
  (26, (2, .ifCond .ne 37, 3, 63, 0, .null, [], none)),
  (29, (1, .aload_n 0, 1, 0, 0, .null, [], none)),
  (30, (3, .getfield 9, 3, 9, 0, .null, [], none))],
 [(33, (3, .getfield 100, 3, 3, 0, .null, [], none)),
  (36, (0, .iconst 4, 1, 0, 0, (.int 4), [], none)),
  (37, (0, .dup2, 1, 0, 0, .null, [], none)),
  (38, (3, .laload, 1, 0, 0, .null, [], none)),
  (39, (0, .ldc2_w 104, 3, 0, 0, (.long 8), [], none)),
  (42, (1, .aload_n 0, 1, 0, 0, .null, [], none)),
  (43, (3, .getfield 9, 3, 9, 0, .null, [], none)),
  (46, (0, .iconst 0, 1, 0, 0, (.int 0), [], none)),
  (47, (0, .bipush 8, 2, 0, 0, (.int 8), [], none)),
  (49, (4, .invokevirtual 92, 3, 32, 3, .null, [], none)),
  (52, (0, .ladd, 1, 0, 0, .null, [], none)),
  (53, (0, .ladd, 1, 0, 0, .null, [], none)),
  (54, (3, .lastore, 1, 0, 0, .null, [], none)),
  (55, (1, .aload_n 0, 1, 0, 0, .null, [], none)),
  (56, (3, .getfield 9, 3, 9, 0, .null, [], none)),
  (59, (1, .lload_n 1, 1, 0, 0, .null, [], none)),
  (60, (3, .putfield 119, 3, 3, 5, .null, [], none)),
  (63, (5, .return_, 1, 0, 0, .null, [], some []))]]
/- 76: FlagMachine$Moves.exchange()V -/
noncomputable def tb_c76 : List (List (Nat × am_I)) := [[(0, (1, .aload_n 0, 1, 0, 0, .null, [], none)),
  (1, (3, .getfield 9, 3, 9, 0, .null, [], none)),
  (4, (0, .iconst 0, 1, 0, 0, (.int 0), [], none)),
  (5, (1, .aload_n 0, 1, 0, 0, .null, [], none)),
  (6, (3, .getfield 21, 3, 9, 1, .null, [], none)),
  (9, (3, .getfield 85, 3, 1, 1, .null, [], none)),
  (12, (4, .invokevirtual 92, 3, 32, 3, .null, [], none)),
  (15, (1, .lstore_n 1, 1, 0, 0, .null, [], none)),
  (16, (1, .aload_n 0, 1, 0, 0, .null, [], none)),
  (17, (3, .getfield 9, 3, 9, 0, .null, [], none)),
  (20, (0, .iconst 1, 1, 0, 0, (.int 1), [], none)),
  (21, (1, .aload_n 0, 1, 0, 0, .null, [], none)),
  (22, (3, .getfield 21, 3, 9, 1, .null, [], none)),
  (25, (3, .getfield 85, 3, 1, 1, .null, [], none)),
  (28, (4, .invokevirtual 92, 3, 32, 3, .null, [], none)),
  (31, (1, .lstore_n 3, 1, 0, 0, .null, [], none))],
 [(32, (1, .aload_n 0, 1, 0, 0, .null, [], none)),
  (33, (3, .getfield 9, 3, 9, 0, .null, [], none)),
  (36, (3, .getfield 82, 3, 3, 7, .null, [], none)),
  (39, (2, .ifCond .ne 39, 3, 78, 0, .null, [], none)),
  (42, (1, .aload_n 0, 1, 0, 0, .null, [], none)),
  (43, (3, .getfield 9, 3, 9, 0, .null, [], none)),
  (46, (0, .iconst 0, 1, 0, 0, (.int 0), [], none)),
  (47, (1, .aload_n 0, 1, 0, 0, .null, [], none)),
  (48, (3, .getfield 21, 3, 9, 1, .null, [], none)),
  (51, (3, .getfield 85, 3, 1, 1, .null, [], none)),
  (54, (1, .lload_n 3, 1, 0, 0, .null, [], none)),
  (55, (4, .invokevirtual 61, 3, 42, 4, .null, [], none)),
  (58, (2, .ifCond .eq 20, 3, 78, 0, .null, [], none)),
  (61, (1, .aload_n 0, 1, 0, 0, .null, [], none)),
  (62, (3, .getfield 9, 3, 9, 0, .null, [], none))],
 [(65, (0, .iconst 1, 1, 0, 0, (.int 1), [], none)),
  (66, (1, .aload_n 0, 1, 0, 0, .null, [], none)),
  (67, (3, .getfield 21, 3, 9, 1, .null, [], none)),
  (70, (3, .getfield 85, 3, 1, 1, .null, [], none)),
  (73, (1, .lload_n 1, 1, 0, 0, .null, [], none)),
  (74, (4, .invokevirtual 61, 3, 42, 4, .null, [], none)),
  (77, (0, .pop, 1, 0, 0, .null, [], none)),
  (78, (5, .return_, 1, 0, 0, .null, [], some []))]]
/- 77: FlagMachine$Moves.jump(J)V -/
noncomputable def tb_c77 : List (List (Nat × am_I)) := [[(0, (1, .aload_n 0, 1, 0, 0, .null, [], none)),
  (1, (3, .getfield 9, 3, 9, 0, .null, [], none)),
  (4, (3, .getfield 82, 3, 3, 7, .null, [], none)),
  (7, (2, .ifCond .ne 11, 3, 18, 0, .null, [], none)),
  (10, (1, .aload_n 0, 1, 0, 0, .null, [], none)),
  (11, (3, .getfield 9, 3, 9, 0, .null, [], none)),
  (14, (1, .lload_n 1, 1, 0, 0, .null, [], none)),
  (15, (3, .putfield 119, 3, 3, 5, .null, [], none)),
  (18, (5, .return_, 1, 0, 0, .null, [], some []))]]
/- 78: FlagMachine$Moves.leaveFrame()V -/
noncomputable def tb_c78 : List (List (Nat × am_I)) := [[(0, (1, .aload_n 0, 1, 0, 0, .null, [], none)),
  (1, (3, .getfield 9, 3, 9, 0, .null, [], none)),
  (4, (3, .getfield 100, 3, 3, 0, .null, [], none)),
  (7, (0, .iconst 5, 1, 0, 0, (.int 5), [], none)),
  (8, (3, .laload, 1, 0, 0, .null, [], none)),
  (9, (1, .lstore_n 1, 1, 0, 0, .null, [], none)),
  (10, (1, .aload_n 0, 1, 0, 0, .null, [], none)),
  (11, (3, .getfield 9, 3, 9, 0, .null, [], none)),
  (14, (1, .lload_n 1, 1, 0, 0, .null, [], none)),
  (15, (0, .bipush 8, 2, 0, 0, (.int 8), [], none)),
  (17, (4, .invokevirtual 110, 3, 33, 3, .null, [], none)),
  (20, (1, .lstore_n 3, 1, 0, 0, .null, [], none)),
  (21, (1, .aload_n 0, 1, 0, 0, .null, [], none)),
  (22, (3, .getfield 9, 3, 9, 0, .null, [], none)),
  (25, (3, .getfield 82, 3, 3, 7, .null, [], none)),
  (28, (2, .ifCond .ne 27, 3, 55, 0, .null, [], none)),
  (31, (1, .aload_n 0, 1, 0, 0, .null, [], none))],
 [(32, (3, .getfield 9, 3, 9, 0, .null, [], none)),
  (35, (3, .getfield 100, 3, 3, 0, .null, [], none)),
  (38, (0, .iconst 4, 1, 0, 0, (.int 4), [], none)),
  (39, (1, .lload_n 1, 1, 0, 0, .null, [], none)),
  (40, (0, .ldc2_w 104, 3, 0, 0, (.long 8), [], none)),
  (43, (0, .ladd, 1, 0, 0, .null, [], none)),
  (44, (3, .lastore, 1, 0, 0, .null, [], none)),
  (45, (1, .aload_n 0, 1, 0, 0, .null, [], none)),
  (46, (3, .getfield 9, 3, 9, 0, .null, [], none)),
  (49, (3, .getfield 100, 3, 3, 0, .null, [], none)),
  (52, (0, .iconst 5, 1, 0, 0, (.int 5), [], none)),
  (53, (1, .lload_n 3, 1, 0, 0, .null, [], none)),
  (54, (3, .lastore, 1, 0, 0, .null, [], none)),
  (55, (5, .return_, 1, 0, 0, .null, [], some []))]]
/- 79: FlagMachine$Moves.move(J)V -/
noncomputable def tb_c79 : List (List (Nat × am_I)) := [[(0, (1, .aload_n 0, 1, 0, 0, .null, [], none)),
  (1, (3, .getfield 9, 3, 9, 0, .null, [], none)),
  (4, (3, .getfield 82, 3, 3, 7, .null, [], none)),
  (7, (2, .ifCond .ne 20, 3, 27, 0, .null, [], none)),
  (10, (1, .aload_n 0, 1, 0, 0, .null, [], none)),
  (11, (3, .getfield 9, 3, 9, 0, .null, [], none)),
  (14, (0, .iconst 0, 1, 0, 0, (.int 0), [], none)),
  (15, (1, .aload_n 0, 1, 0, 0, .null, [], none)),
  (16, (3, .getfield 21, 3, 9, 1, .null, [], none)),
  (19, (3, .getfield 85, 3, 1, 1, .null, [], none)),
  (22, (1, .lload_n 1, 1, 0, 0, .null, [], none)),
  (23, (4, .invokevirtual 61, 3, 42, 4, .null, [], none)),
  (26, (0, .pop, 1, 0, 0, .null, [], none)),
  (27, (5, .return_, 1, 0, 0, .null, [], some []))]]
/- 80: FlagMachine$Moves.moveString(ZZ)V -/
noncomputable def tb_c80 : List (List (Nat × am_I)) := [[(0, (1, .aload_n 0, 1, 0, 0, .null, [], none)),
  (1, (3, .getfield 21, 3, 9, 1, .null, [], none)),
  (4, (3, .getfield 85, 3, 1, 1, .null, [], none)),
  (7, (1, .istore_n 3, 1, 0, 0, .null, [], none)),
  (8, (1, .aload_n 0, 1, 0, 0, .null, [], none)),
  (9, (3, .getfield 9, 3, 9, 0, .null, [], none)),
  (12, (3, .getfield 100, 3, 3, 0, .null, [], none)),
  (15, (1, .astore 4, 2, 0, 0, .null, [], none)),
  (17, (1, .iload_n 2, 1, 0, 0, .null, [], none)),
  (18, (2, .ifCond .eq 13, 3, 31, 0, .null, [], none)),
  (21, (1, .aload 4, 2, 0, 0, .null, [], none)),
  (23, (0, .iconst 1, 1, 0, 0, (.int 1), [], none)),
  (24, (3, .laload, 1, 0, 0, .null, [], none)),
  (25, (0, .lconst 0, 1, 0, 0, (.long 0), [], none)),
  (26, (0, .lcmp, 1, 0, 0, .null, [], none)),
  (27, (2, .ifCond .ne 4, 3, 31, 0, .null, [], none)),
  (30, (5, .return_, 1, 0, 0, .null, [], none)),
  (31, (1, .iload_n 1, 1, 0, 0, .null, [], some [0, 1, 2, 3, 4]))],
 [(32, (2, .ifCond .eq 19, 3, 51, 0, .null, [], none)),
  (35, (1, .aload_n 0, 1, 0, 0, .null, [], none)),
  (36, (3, .getfield 9, 3, 9, 0, .null, [], none)),
  (39, (1, .aload 4, 2, 0, 0, .null, [], none)),
  (41, (0, .bipush 6, 2, 0, 0, (.int 6), [], none)),
  (43, (3, .laload, 1, 0, 0, .null, [], none)),
  (44, (1, .iload_n 3, 1, 0, 0, .null, [], none)),
  (45, (4, .invokevirtual 110, 3, 33, 3, .null, [], none)),
  (48, (2, .goto 12, 3, 60, 0, .null, [], none)),
  (51, (1, .aload_n 0, 1, 0, 0, .null, [], none)),
  (52, (3, .getfield 9, 3, 9, 0, .null, [], none)),
  (55, (0, .iconst 0, 1, 0, 0, (.int 0), [], none)),
  (56, (1, .iload_n 3, 1, 0, 0, .null, [], none)),
  (57, (4, .invokevirtual 126, 3, 35, 3, .null, [], none)),
  (60, (1, .lstore 5, 2, 0, 0, .null, [], some [0, 1, 2, 3, 4])),
  (62, (1, .aload_n 0, 1, 0, 0, .null, [], none)),
  (63, (3, .getfield 9, 3, 9, 0, .null, [], none))],
 [(66, (3, .getfield 82, 3, 3, 7, .null, [], none)),
  (69, (2, .ifCond .ne 21, 3, 90, 0, .null, [], none)),
  (72, (1, .aload_n 0, 1, 0, 0, .null, [], none)),
  (73, (3, .getfield 9, 3, 9, 0, .null, [], none)),
  (76, (1, .aload 4, 2, 0, 0, .null, [], none)),
  (78, (0, .bipush 7, 2, 0, 0, (.int 7), [], none)),
  (80, (3, .laload, 1, 0, 0, .null, [], none)),
  (81, (1, .iload_n 3, 1, 0, 0, .null, [], none)),
  (82, (1, .lload 5, 2, 0, 0, .null, [], none)),
  (84, (4, .invokevirtual 106, 3, 39, 4, .null, [], none)),
  (87, (2, .ifCond .ne 4, 3, 91, 0, .null, [], none)),
  (90, (5, .return_, 1, 0, 0, .null, [], some [])),
  (91, (1, .aload 4, 2, 0, 0, .null, [], none)),
  (93, (0, .bipush 7, 2, 0, 0, (.int 7), [], none)),
  (95, (0, .dup2, 1, 0, 0, .null, [], none))],
 [(96, (3, .laload, 1, 0, 0, .null, [], none)),
  (97, (1, .iload_n 3, 1, 0, 0, .null, [], none)),
  (98, (0, .i2l, 1, 0, 0, .null, [], none)),
  (99, (0, .ladd, 1, 0, 0, .null, [], none)),
  (100, (3, .lastore, 1, 0, 0, .null, [], none)),
  (101, (1, .aload 4, 2, 0, 0, .null, [], none)),
  (103, (0, .bipush 6, 2, 0, 0, (.int 6), [], none)),
  (105, (0, .dup2, 1, 0, 0, .null, [], none)),
  (106, (3, .laload, 1, 0, 0, .null, [], none)),
  (107, (1, .iload_n 1, 1, 0, 0, .null, [], none)),
  (108, (2, .ifCond .eq 8, 3, 116, 0, .null, [], none)),
  (111, (1, .iload_n 3, 1, 0, 0, .null, [], none)),
  (112, (0, .i2l, 1, 0, 0, .null, [], none)),
  (113, (2, .goto 4, 3, 117, 0, .null, [], none)),
  (116, (0, .lconst 0, 1, 0, 0, (.long 0), [], none)),
  (117, (0, .ladd, 1, 0, 0, .null, [], some [0, 2, 4])),
  (118, (3, .lastore, 1, 0, 0, .null, [], none)),
  (119, (1, .iload_n 2, 1, 0, 0, .null, [], none)),
  (120, (2, .ifCond .eq 44, 3, 164, 0, .null, [], none)),
  (123, (1, .aload 4, 2, 0, 0, .null, [], none)),
  (125, (0, .iconst 1, 1, 0, 0, (.int 1), [], none)),
  (126, (0, .dup2, 1, 0, 0, .null, [], none)),
  (127, (3, .laload, 1, 0, 0, .null, [], none))],
 [(128, (0, .lconst 1, 1, 0, 0, (.long 1), [], none)),
  (129, (0, .lsub, 1, 0, 0, .null, [], none)),
  (130, (3, .lastore, 1, 0, 0, .null, [], none)),
  (131, (1, .aload_n 0, 1, 0, 0, .null, [], none)),
  (132, (3, .getfield 9, 3, 9, 0, .null, [], none)),
  (135, (1, .aload 4, 2, 0, 0, .null, [], none)),
  (137, (0, .iconst 1, 1, 0, 0, (.int 1), [], none)),
  (138, (3, .laload, 1, 0, 0, .null, [], none)),
  (139, (0, .lconst 0, 1, 0, 0, (.long 0), [], none)),
  (140, (0, .lcmp, 1, 0, 0, .null, [], none)),
  (141, (2, .ifCond .eq 13, 3, 154, 0, .null, [], none)),
  (144, (1, .aload_n 0, 1, 0, 0, .null, [], none)),
  (145, (3, .getfield 9, 3, 9, 0, .null, [], none)),
  (148, (3, .getfield 129, 3, 3, 4, .null, [], none)),
  (151, (2, .goto 10, 3, 161, 0, .null, [], none)),
  (154, (1, .aload_n 0, 1, 0, 0, .null, [], none)),
  (155, (3, .getfield 9, 3, 9, 0, .null, [], none)),
  (158, (3, .getfield 119, 3, 3, 5, .null, [], none))],
 [(161, (3, .putfield 119, 3, 3, 5, .null, [], some [])),
  (164, (5, .return_, 1, 0, 0, .null, [], some []))]]
/- 81: FlagMachine$Moves.perform(I)V -/
noncomputable def tb_c81 : List (List (Nat × am_I)) := [[(0, (1, .iload_n 1, 1, 0, 0, .null, [], none)),
  (1, (2, .tableswitch 363 10 53 #[191, 363, 363, 363, 363, 363, 363, 363, 363, 363, 363, 363, 363, 363, 363, 363, 363, 363, 363, 198, 205, 212, 223, 234, 241, 272, 310, 363, 363, 363, 363, 363, 363, 321, 363, 363, 363, 363, 363, 363, 328, 328, 328, 328], 191, 364, 0, .null, [(10, 192), (11, 364), (12, 364), (13, 364), (14, 364), (15, 364), (16, 364), (17, 364), (18, 364), (19, 364), (20, 364), (21, 364), (22, 364), (23, 364), (24, 364), (25, 364), (26, 364), (27, 364), (28, 364), (29, 199), (30, 206), (31, 213), (32, 224), (33, 235), (34, 242), (35, 273), (36, 311), (37, 364), (38, 364), (39, 364), (40, 364), (41, 364), (42, 364), (43, 322), (44, 364), (45, 364), (46, 364), (47, 364), (48, 364), (49, 364), (50, 329), (51, 329), (52, 329), (53, 329)], none))],
 [],
 [],
 [],
 [],
 [],
 [(192, (1, .aload_n 0, 1, 0, 0, .null, [], none)),
  (193, (4, .invokevirtual 22, 3, 76, 1, .null, [], none)),
  (196, (2, .goto 177, 3, 373, 0, .null, [], none)),
  (199, (1, .aload_n 0, 1, 0, 0, .null, [], none)),
  (200, (4, .invokevirtual 25, 3, 83, 1, .null, [], none)),
  (203, (2, .goto 170, 3, 373, 0, .null, [], none)),
  (206, (1, .aload_n 0, 1, 0, 0, .null, [], none)),
  (207, (4, .invokevirtual 28, 3, 82, 1, .null, [], none)),
  (210, (2, .goto 163, 3, 373, 0, .null, [], none)),
  (213, (1, .aload_n 0, 1, 0, 0, .null, [], none)),
  (214, (1, .aload_n 0, 1, 0, 0, .null, [], none)),
  (215, (4, .invokevirtual 31, 3, 84, 1, .null, [], none)),
  (218, (4, .invokevirtual 35, 3, 77, 2, .null, [], none)),
  (221, (2, .goto 152, 3, 373, 0, .null, [], none))],
 [(224, (1, .aload_n 0, 1, 0, 0, .null, [], none)),
  (225, (1, .aload_n 0, 1, 0, 0, .null, [], none)),
  (226, (4, .invokevirtual 31, 3, 84, 1, .null, [], none)),
  (229, (4, .invokevirtual 39, 3, 74, 2, .null, [], none)),
  (232, (2, .goto 141, 3, 373, 0, .null, [], none)),
  (235, (1, .aload_n 0, 1, 0, 0, .null, [], none)),
  (236, (4, .invokevirtual 42, 3, 75, 1, .null, [], none)),
  (239, (2, .goto 134, 3, 373, 0, .null, [], none)),
  (242, (1, .aload_n 0, 1, 0, 0, .null, [], none)),
  (243, (3, .getfield 9, 3, 9, 0, .null, [], none)),
  (246, (3, .getfield 45, 3, 3, 1, .null, [], none)),
  (249, (1, .aload_n 0, 1, 0, 0, .null, [], none)),
  (250, (3, .getfield 21, 3, 9, 1, .null, [], none)),
  (253, (3, .getfield 49, 3, 1, 2, .null, [], none))],
 [(256, (4, .invokevirtual 55, 3, 46, 2, .null, [], none)),
  (259, (2, .ifCond .eq 114, 3, 373, 0, .null, [], none)),
  (262, (1, .aload_n 0, 1, 0, 0, .null, [], none)),
  (263, (1, .aload_n 0, 1, 0, 0, .null, [], none)),
  (264, (4, .invokevirtual 31, 3, 84, 1, .null, [], none)),
  (267, (4, .invokevirtual 35, 3, 77, 2, .null, [], none)),
  (270, (2, .goto 103, 3, 373, 0, .null, [], none)),
  (273, (1, .aload_n 0, 1, 0, 0, .null, [], none)),
  (274, (3, .getfield 9, 3, 9, 0, .null, [], none)),
  (277, (0, .iconst 0, 1, 0, 0, (.int 0), [], none)),
  (278, (0, .iconst 1, 1, 0, 0, (.int 1), [], none)),
  (279, (1, .aload_n 0, 1, 0, 0, .null, [], none)),
  (280, (3, .getfield 9, 3, 9, 0, .null, [], none)),
  (283, (3, .getfield 45, 3, 3, 1, .null, [], none)),
  (286, (1, .aload_n 0, 1, 0, 0, .null, [], none)),
  (287, (3, .getfield 21, 3, 9, 1, .null, [], none))],
 [(290, (3, .getfield 49, 3, 1, 2, .null, [], none)),
  (293, (4, .invokevirtual 55, 3, 46, 2, .null, [], none)),
  (296, (2, .ifCond .eq 7, 3, 303, 0, .null, [], none)),
  (299, (0, .lconst 1, 1, 0, 0, (.long 1), [], none)),
  (300, (2, .goto 4, 3, 304, 0, .null, [], none)),
  (303, (0, .lconst 0, 1, 0, 0, (.long 0), [], none)),
  (304, (4, .invokevirtual 61, 3, 42, 4, .null, [], some [])),
  (307, (0, .pop, 1, 0, 0, .null, [], none)),
  (308, (2, .goto 65, 3, 373, 0, .null, [], none)),
  (311, (1, .aload_n 0, 1, 0, 0, .null, [], none)),
  (312, (1, .aload_n 0, 1, 0, 0, .null, [], none)),
  (313, (4, .invokevirtual 65, 3, 85, 1, .null, [], none)),
  (316, (4, .invokevirtual 68, 3, 79, 2, .null, [], none)),
  (319, (2, .goto 54, 3, 373, 0, .null, [], none))],
 [(322, (1, .aload_n 0, 1, 0, 0, .null, [], none)),
  (323, (4, .invokevirtual 71, 3, 78, 1, .null, [], none)),
  (326, (2, .goto 47, 3, 373, 0, .null, [], none)),
  (329, (1, .aload_n 0, 1, 0, 0, .null, [], some [0, 1])),
  (330, (1, .iload_n 1, 1, 0, 0, .null, [], none)),
  (331, (0, .bipush 50, 2, 0, 0, (.int 50), [], none)),
  (333, (2, .if_icmp .eq 9, 3, 342, 0, .null, [], none)),
  (336, (1, .iload_n 1, 1, 0, 0, .null, [], none)),
  (337, (0, .bipush 52, 2, 0, 0, (.int 52), [], none)),
  (339, (2, .if_icmp .ne 7, 3, 346, 0, .null, [], none)),
  (342, (0, .iconst 1, 1, 0, 0, (.int 1), [], some [1])),
  (343, (2, .goto 4, 3, 347, 0, .null, [], none)),
  (346, (0, .iconst 0, 1, 0, 0, (.int 0), [], none)),
  (347, (1, .iload_n 1, 1, 0, 0, .null, [], some [1])),
  (348, (0, .bipush 52, 2, 0, 0, (.int 52), [], none)),
  (350, (2, .if_icmp .lt 7, 3, 357, 0, .null, [], none))],
 [(353, (0, .iconst 1, 1, 0, 0, (.int 1), [], none)),
  (354, (2, .goto 4, 3, 358, 0, .null, [], none)),
  (357, (0, .iconst 0, 1, 0, 0, (.int 0), [], none)),
  (358, (4, .invokevirtual 74, 3, 80, 3, .null, [], some [])),
  (361, (2, .goto 12, 3, 373, 0, .null, [], none)),
  (364, (1, .aload_n 0, 1, 0, 0, .null, [], some [0, 1])),
  (365, (1, .aload_n 0, 1, 0, 0, .null, [], none)),
  (366, (1, .iload_n 1, 1, 0, 0, .null, [], none)),
  (367, (4, .invokevirtual 78, 3, 86, 2, .null, [], none)),
  (370, (4, .invokevirtual 68, 3, 79, 2, .null, [], none)),
  (373, (5, .return_, 1, 0, 0, .null, [], some []))]]
/- 82: FlagMachine$Moves.popOperand()V -/
noncomputable def tb_c82 : List (List (Nat × am_I)) := [[(0, (1, .aload_n 0, 1, 0, 0, .null, [], none)),
  (1, (3, .getfield 9, 3, 9, 0, .null, [], none)),
  (4, (3, .getfield 100, 3, 3, 0, .null, [], none)),
  (7, (0, .iconst 4, 1, 0, 0, (.int 4), [], none)),
  (8, (3, .laload, 1, 0, 0, .null, [], none)),
  (9, (1, .lstore_n 1, 1, 0, 0, .null, [], none)),
  (10, (1, .aload_n 0, 1, 0, 0, .null, [], none)),
  (11, (3, .getfield 9, 3, 9, 0, .null, [], none)),
  (14, (1, .lload_n 1, 1, 0, 0, .null, [], none)),
  (15, (0, .bipush 8, 2, 0, 0, (.int 8), [], none)),
  (17, (4, .invokevirtual 110, 3, 33, 3, .null, [], none)),
  (20, (1, .lstore_n 3, 1, 0, 0, .null, [], none)),
  (21, (1, .aload_n 0, 1, 0, 0, .null, [], none)),
  (22, (3, .getfield 9, 3, 9, 0, .null, [], none)),
  (25, (3, .getfield 82, 3, 3, 7, .null, [], none)),
  (28, (2, .ifCond .eq 4, 3, 32, 0, .null, [], none)),
  (31, (5, .return_, 1, 0, 0, .null, [], none))],
 [(32, (1, .aload_n 0, 1, 0, 0, .null, [], none)),
  (33, (3, .getfield 9, 3, 9, 0, .null, [], none)),
  (36, (3, .getfield 100, 3, 3, 0, .null, [], none)),
  (39, (0, .iconst 4, 1, 0, 0, (.int 4), [], none)),
  (40, (1, .lload_n 1, 1, 0, 0, .null, [], none)),
  (41, (0, .ldc2_w 104, 3, 0, 0, (.long 8), [], none)),
  (44, (0, .ladd, 1, 0, 0, .null, [], none)),
  (45, (3, .lastore, 1, 0, 0, .null, [], none)),
  (46, (1, .aload_n 0, 1, 0, 0, .null, [], none)),
  (47, (3, .getfield 21, 3, 9, 1, .null, [], none)),
  (50, (0, .iconst 2, 1, 0, 0, (.int 2), [], none)),
  (51, (4, .invokevirtual 113, 3, 55, 2, .null, [], none)),
  (54, (2, .ifCond .eq 17, 3, 71, 0, .null, [], none)),
  (57, (1, .aload_n 0, 1, 0, 0, .null, [], none)),
  (58, (3, .getfield 9, 3, 9, 0, .null, [], none)),
  (61, (1, .aload_n 0, 1, 0, 0, .null, [], none)),
  (62, (3, .getfield 9, 3, 9, 0, .null, [], none))],
 [(65, (4, .invokevirtual 116, 3, 34, 1, .null, [], none)),
  (68, (3, .putfield 88, 3, 3, 6, .null, [], none)),
  (71, (1, .aload_n 0, 1, 0, 0, .null, [], some [0, 1, 3])),
  (72, (3, .getfield 9, 3, 9, 0, .null, [], none)),
  (75, (0, .iconst 0, 1, 0, 0, (.int 0), [], none)),
  (76, (0, .bipush 8, 2, 0, 0, (.int 8), [], none)),
  (78, (1, .lload_n 3, 1, 0, 0, .null, [], none)),
  (79, (4, .invokevirtual 61, 3, 42, 4, .null, [], none)),
  (82, (2, .ifCond .ne 13, 3, 95, 0, .null, [], none)),
  (85, (1, .aload_n 0, 1, 0, 0, .null, [], none)),
  (86, (3, .getfield 9, 3, 9, 0, .null, [], none)),
  (89, (3, .getfield 100, 3, 3, 0, .null, [], none)),
  (92, (0, .iconst 4, 1, 0, 0, (.int 4), [], none)),
  (93, (1, .lload_n 1, 1, 0, 0, .null, [], none)),
  (94, (3, .lastore, 1, 0, 0, .null, [], none)),
  (95, (5, .return_, 1, 0, 0, .null, [], some []))]]
/- 83: FlagMachine$Moves.pushOperand()V -/
noncomputable def tb_c83 : List (List (Nat × am_I)) := [[(0, (1, .aload_n 0, 1, 0, 0, .null, [], none)),
  (1, (3, .getfield 9, 3, 9, 0, .null, [], none)),
  (4, (0, .iconst 0, 1, 0, 0, (.int 0), [], none)),
  (5, (0, .bipush 8, 2, 0, 0, (.int 8), [], none)),
  (7, (4, .invokevirtual 92, 3, 32, 3, .null, [], none)),
  (10, (1, .lstore_n 1, 1, 0, 0, .null, [], none)),
  (11, (1, .aload_n 0, 1, 0, 0, .null, [], none)),
  (12, (3, .getfield 9, 3, 9, 0, .null, [], none)),
  (15, (3, .getfield 100, 3, 3, 0, .null, [], none)),
  (18, (0, .iconst 4, 1, 0, 0, (.int 4), [], none)),
  (19, (3, .laload, 1, 0, 0, .null, [], none)),
  (20, (0, .ldc2_w 104, 3, 0, 0, (.long 8), [], none)),
  (23, (0, .lsub, 1, 0, 0, .null, [], none)),
  (24, (1, .lstore_n 3, 1, 0, 0, .null, [], none)),
  (25, (1, .aload_n 0, 1, 0, 0, .null, [], none)),
  (26, (3, .getfield 9, 3, 9, 0, .null, [], none)),
  (29, (3, .getfield 82, 3, 3, 7, .null, [], none))],
 [(32, (2, .ifCond .ne 27, 3, 59, 0, .null, [], none)),
  (35, (1, .aload_n 0, 1, 0, 0, .null, [], none)),
  (36, (3, .getfield 9, 3, 9, 0, .null, [], none)),
  (39, (1, .lload_n 3, 1, 0, 0, .null, [], none)),
  (40, (0, .bipush 8, 2, 0, 0, (.int 8), [], none)),
  (42, (1, .lload_n 1, 1, 0, 0, .null, [], none)),
  (43, (4, .invokevirtual 106, 3, 39, 4, .null, [], none)),
  (46, (2, .ifCond .eq 13, 3, 59, 0, .null, [], none)),
  (49, (1, .aload_n 0, 1, 0, 0, .null, [], none)),
  (50, (3, .getfield 9, 3, 9, 0, .null, [], none)),
  (53, (3, .getfield 100, 3, 3, 0, .null, [], none)),
  (56, (0, .iconst 4, 1, 0, 0, (.int 4), [], none)),
  (57, (1, .lload_n 3, 1, 0, 0, .null, [], none)),
  (58, (3, .lastore, 1, 0, 0, .null, [], none)),
  (59, (5, .return_, 1, 0, 0, .null, [], some []))]]
/- 84: FlagMachine$Moves.target()J -/
noncomputable def tb_c84 : List (List (Nat × am_I)) := [[(0, (1, .aload_n 0, 1, 0, 0, .null, [], none)),
  (1, (3, .getfield 9, 3, 9, 0, .null, [], none)),
  (4, (0, .iconst 0, 1, 0, 0, (.int 0), [], none)),
  (5, (0, .bipush 8, 2, 0, 0, (.int 8), [], none)),
  (7, (4, .invokevirtual 92, 3, 32, 3, .null, [], none)),
  (10, (1, .lstore_n 1, 1, 0, 0, .null, [], none)),
  (11, (1, .aload_n 0, 1, 0, 0, .null, [], none)),
  (12, (3, .getfield 21, 3, 9, 1, .null, [], none)),
  (15, (3, .getfield 122, 3, 1, 3, .null, [], none)),
  (18, (0, .iconst 0, 1, 0, 0, (.int 0), [], none)),
  (19, (3, .iaload, 1, 0, 0, .null, [], none)),
  (20, (0, .iconst 3, 1, 0, 0, (.int 3), [], none)),
  (21, (2, .if_icmp .ne 15, 3, 36, 0, .null, [], none)),
  (24, (1, .aload_n 0, 1, 0, 0, .null, [], none)),
  (25, (3, .getfield 9, 3, 9, 0, .null, [], none)),
  (28, (3, .getfield 119, 3, 3, 5, .null, [], none)),
  (31, (1, .lload_n 1, 1, 0, 0, .null, [], none))],
 [(32, (0, .ladd, 1, 0, 0, .null, [], none)),
  (33, (2, .goto 4, 3, 37, 0, .null, [], none)),
  (36, (1, .lload_n 1, 1, 0, 0, .null, [], none)),
  (37, (5, .lreturn, 1, 0, 0, .null, [], some []))]]
/- 85: FlagMachine$Moves.valueIfCondition()J -/
noncomputable def tb_c85 : List (List (Nat × am_I)) := [[(0, (1, .aload_n 0, 1, 0, 0, .null, [], none)),
  (1, (3, .getfield 9, 3, 9, 0, .null, [], none)),
  (4, (0, .iconst 1, 1, 0, 0, (.int 1), [], none)),
  (5, (1, .aload_n 0, 1, 0, 0, .null, [], none)),
  (6, (3, .getfield 21, 3, 9, 1, .null, [], none)),
  (9, (3, .getfield 85, 3, 1, 1, .null, [], none)),
  (12, (4, .invokevirtual 92, 3, 32, 3, .null, [], none)),
  (15, (1, .lstore_n 1, 1, 0, 0, .null, [], none)),
  (16, (1, .aload_n 0, 1, 0, 0, .null, [], none)),
  (17, (3, .getfield 9, 3, 9, 0, .null, [], none)),
  (20, (3, .getfield 45, 3, 3, 1, .null, [], none)),
  (23, (1, .aload_n 0, 1, 0, 0, .null, [], none)),
  (24, (3, .getfield 21, 3, 9, 1, .null, [], none)),
  (27, (3, .getfield 49, 3, 1, 2, .null, [], none)),
  (30, (4, .invokevirtual 55, 3, 46, 2, .null, [], none))],
 [(33, (2, .ifCond .eq 7, 3, 40, 0, .null, [], none)),
  (36, (1, .lload_n 1, 1, 0, 0, .null, [], none)),
  (37, (2, .goto 18, 3, 55, 0, .null, [], none)),
  (40, (1, .aload_n 0, 1, 0, 0, .null, [], none)),
  (41, (3, .getfield 9, 3, 9, 0, .null, [], none)),
  (44, (0, .iconst 0, 1, 0, 0, (.int 0), [], none)),
  (45, (1, .aload_n 0, 1, 0, 0, .null, [], none)),
  (46, (3, .getfield 21, 3, 9, 1, .null, [], none)),
  (49, (3, .getfield 85, 3, 1, 1, .null, [], none)),
  (52, (4, .invokevirtual 92, 3, 32, 3, .null, [], none)),
  (55, (5, .lreturn, 1, 0, 0, .null, [], some []))]]
/- 86: FlagMachine$Moves.valueOfMove(I)J -/
noncomputable def tb_c86 : List (List (Nat × am_I)) := [[(0, (1, .iload_n 1, 1, 0, 0, .null, [], none)),
  (1, (2, .tableswitch 77 11 14 #[31, 39, 49, 63], 31, 78, 0, .null, [(11, 32), (12, 40), (13, 50), (14, 64)], none))],
 [(32, (1, .aload_n 0, 1, 0, 0, .null, [], none)),
  (33, (3, .getfield 9, 3, 9, 0, .null, [], none)),
  (36, (3, .getfield 88, 3, 3, 6, .null, [], none)),
  (39, (5, .lreturn, 1, 0, 0, .null, [], none)),
  (40, (1, .aload_n 0, 1, 0, 0, .null, [], none)),
  (41, (3, .getfield 9, 3, 9, 0, .null, [], none)),
  (44, (0, .iconst 1, 1, 0, 0, (.int 1), [], none)),
  (45, (0, .iconst 1, 1, 0, 0, (.int 1), [], none)),
  (46, (4, .invokevirtual 92, 3, 32, 3, .null, [], none)),
  (49, (5, .lreturn, 1, 0, 0, .null, [], none)),
  (50, (1, .aload_n 0, 1, 0, 0, .null, [], none)),
  (51, (3, .getfield 9, 3, 9, 0, .null, [], none)),
  (54, (0, .iconst 1, 1, 0, 0, (.int 1), [], none)),
  (55, (0, .iconst 1, 1, 0, 0, (.int 1), [], none)),
  (56, (4, .invokevirtual 92, 3, 32, 3, .null, [], none)),
  (59, (0, .iconst 1, 1, 0, 0, (.int 1), [], none)),
  (60, (4, .invokestatic 96, 3, 17, 2, .null, [], none)),
  (63, (5, .lreturn, 1, 0, 0, .null, [], none))],
 [(64, (1, .aload_n 0, 1, 0, 0, .null, [], none)),
  (65, (3, .getfield 9, 3, 9, 0, .null, [], none)),
  (68, (0, .iconst 1, 1, 0, 0, (.int 1), [], none)),
  (69, (0, .iconst 4, 1, 0, 0, (.int 4), [], none)),
  (70, (4, .invokevirtual 92, 3, 32, 3, .null, [], none)),
  (73, (0, .iconst 4, 1, 0, 0, (.int 4), [], none)),
  (74, (4, .invokestatic 96, 3, 17, 2, .null, [], none)),
  (77, (5, .lreturn, 1, 0, 0, .null, [], none)),
  (78, (1, .aload_n 0, 1, 0, 0, .null, [], none)),
  (79, (3, .getfield 9, 3, 9, 0, .null, [], none)),
  (82, (0, .iconst 1, 1, 0, 0, (.int 1), [], none)),
  (83, (1, .aload_n 0, 1, 0, 0, .null, [], none)),
  (84, (3, .getfield 21, 3, 9, 1, .null, [], none)),
  (87, (3, .getfield 85, 3, 1, 1, .null, [], none)),
  (90, (4, .invokevirtual 92, 3, 32, 3, .null, [], none)),
  (93, (5, .lreturn, 1, 0, 0, .null, [], none))]]
/- 87: FlagMachine$Page.<init>(ILFlagMachine$Page;)V -/
noncomputable def tb_c87 : List (List (Nat × am_I)) := [[(0, (1, .aload_n 0, 1, 0, 0, .null, [], none)),
  (1, (3, .invokespecial 3, 3, 0, 0, .null, [], none)),
  (4, (1, .aload_n 0, 1, 0, 0, .null, [], none)),
  (5, (0, .sipush 256, 3, 0, 0, (.int 256), [], none)),
  (8, (3, .newarray .byte, 2, 0, 0, .null, [], none)),
  (10, (3, .putfield 9, 3, 11, 2, .null, [], none)),
  (13, (1, .aload_n 0, 1, 0, 0, .null, [], none)),
  (14, (1, .iload_n 1, 1, 0, 0, .null, [], none)),
  (15, (3, .putfield 15, 3, 11, 0, .null, [], none)),
  (18, (1, .aload_n 0, 1, 0, 0, .null, [], none)),
  (19, (1, .aload_n 2, 1, 0, 0, .null, [], none)),
  (20, (3, .putfield 19, 3, 11, 1, .null, [], none)),
  (23, (5, .return_, 1, 0, 0, .null, [], none))]]
/- 88: FlagMachine$Products.<init>(LFlagMachine$Core;)V -/
noncomputable def tb_c88 : List (List (Nat × am_I)) := [[(0, (1, .aload_n 0, 1, 0, 0, .null, [], none)),
  (1, (3, .invokespecial 3, 3, 0, 0, .null, [], none)),
  (4, (1, .aload_n 0, 1, 0, 0, .null, [], none)),
  (5, (1, .aload_n 1, 1, 0, 0, .null, [], none)),
  (6, (3, .putfield 9, 3, 7, 0, .null, [], none)),
  (9, (1, .aload_n 0, 1, 0, 0, .null, [], none)),
  (10, (1, .aload_n 1, 1, 0, 0, .null, [], none)),
  (11, (3, .getfield 15, 3, 3, 3, .null, [], none)),
  (14, (3, .putfield 21, 3, 7, 1, .null, [], none)),
  (17, (5, .return_, 1, 0, 0, .null, [], none))]]
/- 89: FlagMachine$Products.divide(Z)V -/
noncomputable def tb_c89 : List (List (Nat × am_I)) := [[(0, (1, .aload_n 0, 1, 0, 0, .null, [], none)),
  (1, (3, .getfield 21, 3, 7, 1, .null, [], none)),
  (4, (3, .getfield 32, 3, 1, 1, .null, [], none)),
  (7, (1, .istore_n 2, 1, 0, 0, .null, [], none)),
  (8, (1, .aload_n 0, 1, 0, 0, .null, [], none)),
  (9, (3, .getfield 9, 3, 7, 0, .null, [], none)),
  (12, (0, .iconst 0, 1, 0, 0, (.int 0), [], none)),
  (13, (1, .iload_n 2, 1, 0, 0, .null, [], none)),
  (14, (4, .invokevirtual 52, 3, 32, 3, .null, [], none)),
  (17, (1, .lstore_n 3, 1, 0, 0, .null, [], none)),
  (18, (1, .aload_n 0, 1, 0, 0, .null, [], none)),
  (19, (3, .getfield 9, 3, 7, 0, .null, [], none)),
  (22, (3, .getfield 56, 3, 3, 7, .null, [], none)),
  (25, (2, .ifCond .eq 4, 3, 29, 0, .null, [], none)),
  (28, (5, .return_, 1, 0, 0, .null, [], none)),
  (29, (1, .aload_n 0, 1, 0, 0, .null, [], none)),
  (30, (1, .aload_n 0, 1, 0, 0, .null, [], none)),
  (31, (3, .getfield 9, 3, 7, 0, .null, [], none))],
 [(34, (0, .iconst 0, 1, 0, 0, (.int 0), [], none)),
  (35, (1, .iload_n 2, 1, 0, 0, .null, [], none)),
  (36, (4, .invokevirtual 59, 3, 35, 3, .null, [], none)),
  (39, (3, .putfield 66, 3, 7, 2, .null, [], none)),
  (42, (1, .aload_n 0, 1, 0, 0, .null, [], none)),
  (43, (1, .iload_n 2, 1, 0, 0, .null, [], none)),
  (44, (0, .iconst 1, 1, 0, 0, (.int 1), [], none)),
  (45, (2, .if_icmp .ne 22, 3, 67, 0, .null, [], none)),
  (48, (1, .aload_n 0, 1, 0, 0, .null, [], none)),
  (49, (3, .getfield 9, 3, 7, 0, .null, [], none)),
  (52, (3, .getfield 38, 3, 3, 0, .null, [], none)),
  (55, (0, .iconst 0, 1, 0, 0, (.int 0), [], none)),
  (56, (3, .laload, 1, 0, 0, .null, [], none)),
  (57, (0, .bipush 8, 2, 0, 0, (.int 8), [], none)),
  (59, (0, .lushr, 1, 0, 0, .null, [], none)),
  (60, (0, .ldc2_w 97, 3, 0, 0, (.long 255), [], none)),
  (63, (0, .land, 1, 0, 0, .null, [], none))],
 [(64, (2, .goto 12, 3, 76, 0, .null, [], none)),
  (67, (1, .aload_n 0, 1, 0, 0, .null, [], none)),
  (68, (3, .getfield 9, 3, 7, 0, .null, [], none)),
  (71, (0, .iconst 2, 1, 0, 0, (.int 2), [], none)),
  (72, (1, .iload_n 2, 1, 0, 0, .null, [], none)),
  (73, (4, .invokevirtual 59, 3, 35, 3, .null, [], none)),
  (76, (3, .putfield 70, 3, 7, 3, .null, [], some [0, 1, 2, 3])),
  (79, (1, .iload_n 1, 1, 0, 0, .null, [], none)),
  (80, (2, .ifCond .eq 12, 3, 92, 0, .null, [], none)),
  (83, (1, .aload_n 0, 1, 0, 0, .null, [], none)),
  (84, (1, .lload_n 3, 1, 0, 0, .null, [], none)),
  (85, (1, .iload_n 2, 1, 0, 0, .null, [], none)),
  (86, (4, .invokevirtual 99, 3, 90, 3, .null, [], none)),
  (89, (2, .goto 9, 3, 98, 0, .null, [], none)),
  (92, (1, .aload_n 0, 1, 0, 0, .null, [], none)),
  (93, (1, .lload_n 3, 1, 0, 0, .null, [], none)),
  (94, (1, .iload_n 2, 1, 0, 0, .null, [], none)),
  (95, (4, .invokevirtual 103, 3, 91, 3, .null, [], none))],
 [(98, (1, .istore 5, 2, 0, 0, .null, [], some [0])),
  (100, (1, .iload 5, 2, 0, 0, .null, [], none)),
  (102, (2, .ifCond .ne 13, 3, 115, 0, .null, [], none)),
  (105, (1, .aload_n 0, 1, 0, 0, .null, [], none)),
  (106, (3, .getfield 9, 3, 7, 0, .null, [], none)),
  (109, (0, .iconst 5, 1, 0, 0, (.int 5), [], none)),
  (110, (0, .lconst 0, 1, 0, 0, (.long 0), [], none)),
  (111, (4, .invokevirtual 106, 3, 41, 3, .null, [], none)),
  (114, (5, .return_, 1, 0, 0, .null, [], none)),
  (115, (1, .aload_n 0, 1, 0, 0, .null, [], none)),
  (116, (1, .aload_n 0, 1, 0, 0, .null, [], none)),
  (117, (3, .getfield 110, 3, 7, 4, .null, [], none)),
  (120, (1, .aload_n 0, 1, 0, 0, .null, [], none)),
  (121, (3, .getfield 113, 3, 7, 5, .null, [], none)),
  (124, (4, .invokevirtual 73, 3, 97, 3, .null, [], none)),
  (127, (5, .return_, 1, 0, 0, .null, [], none))]]
/- 90: FlagMachine$Products.divideSigned(JI)Z -/
noncomputable def tb_c90 : List (List (Nat × am_I)) := [[(0, (1, .iload_n 3, 1, 0, 0, .null, [], none)),
  (1, (4, .invokestatic 120, 3, 7, 1, .null, [], none)),
  (4, (1, .lstore 4, 2, 0, 0, .null, [], none)),
  (6, (1, .aload_n 0, 1, 0, 0, .null, [], none)),
  (7, (3, .getfield 70, 3, 7, 3, .null, [], none)),
  (10, (1, .iload_n 3, 1, 0, 0, .null, [], none)),
  (11, (4, .invokestatic 116, 3, 19, 1, .null, [], none)),
  (14, (0, .land, 1, 0, 0, .null, [], none)),
  (15, (0, .lconst 0, 1, 0, 0, (.long 0), [], none)),
  (16, (0, .lcmp, 1, 0, 0, .null, [], none)),
  (17, (2, .ifCond .eq 7, 3, 24, 0, .null, [], none)),
  (20, (0, .iconst 1, 1, 0, 0, (.int 1), [], none)),
  (21, (2, .goto 4, 3, 25, 0, .null, [], none)),
  (24, (0, .iconst 0, 1, 0, 0, (.int 0), [], none)),
  (25, (1, .istore 6, 2, 0, 0, .null, [], some [0, 1, 3, 4])),
  (27, (1, .iload 6, 2, 0, 0, .null, [], none)),
  (29, (1, .lload_n 1, 1, 0, 0, .null, [], none)),
  (30, (1, .iload_n 3, 1, 0, 0, .null, [], none)),
  (31, (4, .invokestatic 116, 3, 19, 1, .null, [], none))],
 [(34, (0, .land, 1, 0, 0, .null, [], none)),
  (35, (0, .lconst 0, 1, 0, 0, (.long 0), [], none)),
  (36, (0, .lcmp, 1, 0, 0, .null, [], none)),
  (37, (2, .ifCond .eq 7, 3, 44, 0, .null, [], none)),
  (40, (0, .iconst 1, 1, 0, 0, (.int 1), [], none)),
  (41, (2, .goto 4, 3, 45, 0, .null, [], none)),
  (44, (0, .iconst 0, 1, 0, 0, (.int 0), [], none)),
  (45, (2, .if_icmp .eq 7, 3, 52, 0, .null, [], some [0, 1, 3, 4, 6])),
  (48, (0, .iconst 1, 1, 0, 0, (.int 1), [], none)),
  (49, (2, .goto 4, 3, 53, 0, .null, [], none)),
  (52, (0, .iconst 0, 1, 0, 0, (.int 0), [], none)),
  (53, (1, .istore 7, 2, 0, 0, .null, [], some [0, 1, 3, 4, 6])),
  (55, (1, .iload 6, 2, 0, 0, .null, [], none)),
  (57, (2, .ifCond .eq 47, 3, 104, 0, .null, [], none)),
  (60, (1, .aload_n 0, 1, 0, 0, .null, [], none)),
  (61, (1, .aload_n 0, 1, 0, 0, .null, [], none)),
  (62, (3, .getfield 66, 3, 7, 2, .null, [], none))],
 [(65, (0, .lneg, 1, 0, 0, .null, [], none)),
  (66, (1, .lload 4, 2, 0, 0, .null, [], none)),
  (68, (0, .land, 1, 0, 0, .null, [], none)),
  (69, (3, .putfield 66, 3, 7, 2, .null, [], none)),
  (72, (1, .aload_n 0, 1, 0, 0, .null, [], none)),
  (73, (1, .aload_n 0, 1, 0, 0, .null, [], none)),
  (74, (3, .getfield 66, 3, 7, 2, .null, [], none)),
  (77, (0, .lconst 0, 1, 0, 0, (.long 0), [], none)),
  (78, (0, .lcmp, 1, 0, 0, .null, [], none)),
  (79, (2, .ifCond .ne 11, 3, 90, 0, .null, [], none)),
  (82, (1, .aload_n 0, 1, 0, 0, .null, [], none)),
  (83, (3, .getfield 70, 3, 7, 3, .null, [], none)),
  (86, (0, .lneg, 1, 0, 0, .null, [], none)),
  (87, (2, .goto 11, 3, 98, 0, .null, [], none)),
  (90, (1, .aload_n 0, 1, 0, 0, .null, [], none)),
  (91, (3, .getfield 70, 3, 7, 3, .null, [], none)),
  (94, (0, .ldc2_w 46, 3, 0, 0, (.long (-1)), [], none))],
 [(97, (0, .lxor, 1, 0, 0, .null, [], none)),
  (98, (1, .lload 4, 2, 0, 0, .null, [], some [0, 1, 3, 4, 6, 7])),
  (100, (0, .land, 1, 0, 0, .null, [], none)),
  (101, (3, .putfield 70, 3, 7, 3, .null, [], none)),
  (104, (1, .lload_n 1, 1, 0, 0, .null, [], some [0, 1, 3, 4, 6, 7])),
  (105, (1, .iload_n 3, 1, 0, 0, .null, [], none)),
  (106, (4, .invokestatic 116, 3, 19, 1, .null, [], none)),
  (109, (0, .land, 1, 0, 0, .null, [], none)),
  (110, (0, .lconst 0, 1, 0, 0, (.long 0), [], none)),
  (111, (0, .lcmp, 1, 0, 0, .null, [], none)),
  (112, (2, .ifCond .eq 11, 3, 123, 0, .null, [], none)),
  (115, (1, .lload_n 1, 1, 0, 0, .null, [], none)),
  (116, (0, .lneg, 1, 0, 0, .null, [], none)),
  (117, (1, .lload 4, 2, 0, 0, .null, [], none)),
  (119, (0, .land, 1, 0, 0, .null, [], none)),
  (120, (2, .goto 4, 3, 124, 0, .null, [], none)),
  (123, (1, .lload_n 1, 1, 0, 0, .null, [], none)),
  (124, (1, .lstore 8, 2, 0, 0, .null, [], some [0, 3, 4, 6, 7])),
  (126, (1, .aload_n 0, 1, 0, 0, .null, [], none)),
  (127, (1, .lload 8, 2, 0, 0, .null, [], none))],
 [(129, (1, .iload_n 3, 1, 0, 0, .null, [], none)),
  (130, (4, .invokevirtual 103, 3, 91, 3, .null, [], none)),
  (133, (2, .ifCond .ne 5, 3, 138, 0, .null, [], none)),
  (136, (0, .iconst 0, 1, 0, 0, (.int 0), [], none)),
  (137, (5, .ireturn, 1, 0, 0, .null, [], none)),
  (138, (1, .iload 7, 2, 0, 0, .null, [], none)),
  (140, (2, .ifCond .eq 10, 3, 150, 0, .null, [], none)),
  (143, (1, .iload_n 3, 1, 0, 0, .null, [], none)),
  (144, (4, .invokestatic 116, 3, 19, 1, .null, [], none)),
  (147, (2, .goto 9, 3, 156, 0, .null, [], none)),
  (150, (1, .iload_n 3, 1, 0, 0, .null, [], none)),
  (151, (4, .invokestatic 116, 3, 19, 1, .null, [], none)),
  (154, (0, .lconst 1, 1, 0, 0, (.long 1), [], none)),
  (155, (0, .lsub, 1, 0, 0, .null, [], none)),
  (156, (1, .lstore 10, 2, 0, 0, .null, [], some [0, 4, 6, 7])),
  (158, (1, .lload 10, 2, 0, 0, .null, [], none))],
 [(160, (1, .aload_n 0, 1, 0, 0, .null, [], none)),
  (161, (3, .getfield 110, 3, 7, 4, .null, [], none)),
  (164, (4, .invokestatic 127, 3, 3, 2, .null, [], none)),
  (167, (2, .ifCond .eq 5, 3, 172, 0, .null, [], none)),
  (170, (0, .iconst 0, 1, 0, 0, (.int 0), [], none)),
  (171, (5, .ireturn, 1, 0, 0, .null, [], none)),
  (172, (1, .aload_n 0, 1, 0, 0, .null, [], none)),
  (173, (1, .iload 7, 2, 0, 0, .null, [], none)),
  (175, (2, .ifCond .eq 14, 3, 189, 0, .null, [], none)),
  (178, (1, .aload_n 0, 1, 0, 0, .null, [], none)),
  (179, (3, .getfield 110, 3, 7, 4, .null, [], none)),
  (182, (0, .lneg, 1, 0, 0, .null, [], none)),
  (183, (1, .lload 4, 2, 0, 0, .null, [], none)),
  (185, (0, .land, 1, 0, 0, .null, [], none)),
  (186, (2, .goto 7, 3, 193, 0, .null, [], none)),
  (189, (1, .aload_n 0, 1, 0, 0, .null, [], none)),
  (190, (3, .getfield 110, 3, 7, 4, .null, [], none))],
 [(193, (3, .putfield 110, 3, 7, 4, .null, [], some [0, 4, 6])),
  (196, (1, .aload_n 0, 1, 0, 0, .null, [], none)),
  (197, (1, .iload 6, 2, 0, 0, .null, [], none)),
  (199, (2, .ifCond .eq 14, 3, 213, 0, .null, [], none)),
  (202, (1, .aload_n 0, 1, 0, 0, .null, [], none)),
  (203, (3, .getfield 113, 3, 7, 5, .null, [], none)),
  (206, (0, .lneg, 1, 0, 0, .null, [], none)),
  (207, (1, .lload 4, 2, 0, 0, .null, [], none)),
  (209, (0, .land, 1, 0, 0, .null, [], none)),
  (210, (2, .goto 7, 3, 217, 0, .null, [], none)),
  (213, (1, .aload_n 0, 1, 0, 0, .null, [], none)),
  (214, (3, .getfield 113, 3, 7, 5, .null, [], none)),
  (217, (3, .putfield 113, 3, 7, 5, .null, [], some [])),
  (220, (0, .iconst 1, 1, 0, 0, (.int 1), [], none)),
  (221, (5, .ireturn, 1, 0, 0, .null, [], none))]]
/- 91: FlagMachine$Products.divideUnsigned(JI)Z -/
noncomputable def tb_c91 : List (List (Nat × am_I)) := [[(0, (1, .aload_n 0, 1, 0, 0, .null, [], none)),
  (1, (3, .getfield 70, 3, 7, 3, .null, [], none)),
  (4, (1, .lload_n 1, 1, 0, 0, .null, [], none)),
  (5, (4, .invokestatic 127, 3, 3, 2, .null, [], none)),
  (8, (2, .ifCond .ne 5, 3, 13, 0, .null, [], none)),
  (11, (0, .iconst 0, 1, 0, 0, (.int 0), [], none)),
  (12, (5, .ireturn, 1, 0, 0, .null, [], none)),
  (13, (1, .aload_n 0, 1, 0, 0, .null, [], none)),
  (14, (3, .getfield 70, 3, 7, 3, .null, [], none)),
  (17, (1, .lstore 4, 2, 0, 0, .null, [], none)),
  (19, (0, .lconst 0, 1, 0, 0, (.long 0), [], none)),
  (20, (1, .lstore 6, 2, 0, 0, .null, [], none)),
  (22, (0, .bipush 8, 2, 0, 0, (.int 8), [], none)),
  (24, (1, .iload_n 3, 1, 0, 0, .null, [], none)),
  (25, (0, .imul, 1, 0, 0, .null, [], none)),
  (26, (0, .iconst 1, 1, 0, 0, (.int 1), [], none)),
  (27, (0, .isub, 1, 0, 0, .null, [], none)),
  (28, (1, .istore 8, 2, 0, 0, .null, [], none)),
  (30, (1, .iload 8, 2, 0, 0, .null, [], some [0, 1, 4, 6, 8]))],
 [(32, (2, .ifCond .lt 71, 3, 103, 0, .null, [], none)),
  (35, (1, .lload 4, 2, 0, 0, .null, [], none)),
  (37, (0, .lconst 0, 1, 0, 0, (.long 0), [], none)),
  (38, (0, .lcmp, 1, 0, 0, .null, [], none)),
  (39, (2, .ifCond .ge 7, 3, 46, 0, .null, [], none)),
  (42, (0, .iconst 1, 1, 0, 0, (.int 1), [], none)),
  (43, (2, .goto 4, 3, 47, 0, .null, [], none)),
  (46, (0, .iconst 0, 1, 0, 0, (.int 0), [], none)),
  (47, (1, .istore 9, 2, 0, 0, .null, [], some [0, 1, 4, 6, 8])),
  (49, (1, .lload 4, 2, 0, 0, .null, [], none)),
  (51, (0, .iconst 1, 1, 0, 0, (.int 1), [], none)),
  (52, (0, .lshl, 1, 0, 0, .null, [], none)),
  (53, (1, .aload_n 0, 1, 0, 0, .null, [], none)),
  (54, (3, .getfield 66, 3, 7, 2, .null, [], none)),
  (57, (1, .iload 8, 2, 0, 0, .null, [], none)),
  (59, (0, .lushr, 1, 0, 0, .null, [], none)),
  (60, (0, .lconst 1, 1, 0, 0, (.long 1), [], none)),
  (61, (0, .land, 1, 0, 0, .null, [], none)),
  (62, (0, .lor, 1, 0, 0, .null, [], none)),
  (63, (1, .lstore 4, 2, 0, 0, .null, [], none))],
 [(65, (1, .lload 6, 2, 0, 0, .null, [], none)),
  (67, (0, .iconst 1, 1, 0, 0, (.int 1), [], none)),
  (68, (0, .lshl, 1, 0, 0, .null, [], none)),
  (69, (1, .lstore 6, 2, 0, 0, .null, [], none)),
  (71, (1, .iload 9, 2, 0, 0, .null, [], none)),
  (73, (2, .ifCond .ne 12, 3, 85, 0, .null, [], none)),
  (76, (1, .lload 4, 2, 0, 0, .null, [], none)),
  (78, (1, .lload_n 1, 1, 0, 0, .null, [], none)),
  (79, (4, .invokestatic 127, 3, 3, 2, .null, [], none)),
  (82, (2, .ifCond .ne 15, 3, 97, 0, .null, [], none)),
  (85, (1, .lload 4, 2, 0, 0, .null, [], some [0, 1, 4, 6, 8])),
  (87, (1, .lload_n 1, 1, 0, 0, .null, [], none)),
  (88, (0, .lsub, 1, 0, 0, .null, [], none)),
  (89, (1, .lstore 4, 2, 0, 0, .null, [], none)),
  (91, (1, .lload 6, 2, 0, 0, .null, [], none)),
  (93, (0, .lconst 1, 1, 0, 0, (.long 1), [], none)),
  (94, (0, .lor, 1, 0, 0, .null, [], none)),
  (95, (1, .lstore 6, 2, 0, 0, .null, [], none))],
 [(97, (1, .iinc 8 (-1), 3, 0, 0, (.int (-1)), [], some [0, 1, 4, 6, 8])),
  (100, (2, .goto (-70), 3, 30, 0, .null, [], none)),
  (103, (1, .aload_n 0, 1, 0, 0, .null, [], none)),
  (104, (1, .lload 6, 2, 0, 0, .null, [], none)),
  (106, (3, .putfield 110, 3, 7, 4, .null, [], none)),
  (109, (1, .aload_n 0, 1, 0, 0, .null, [], none)),
  (110, (1, .lload 4, 2, 0, 0, .null, [], none)),
  (112, (3, .putfield 113, 3, 7, 5, .null, [], none)),
  (115, (0, .iconst 1, 1, 0, 0, (.int 1), [], none)),
  (116, (5, .ireturn, 1, 0, 0, .null, [], none))]]
/- 92: FlagMachine$Products.highOf(JJ)J -/
noncomputable def tb_c92 : List (List (Nat × am_I)) := [[(0, (0, .iconst 4, 1, 0, 0, (.int 4), [], none)),
  (1, (4, .invokestatic 120, 3, 7, 1, .null, [], none)),
  (4, (1, .lstore 4, 2, 0, 0, .null, [], none)),
  (6, (1, .lload_n 0, 1, 0, 0, .null, [], none)),
  (7, (1, .lload 4, 2, 0, 0, .null, [], none)),
  (9, (0, .land, 1, 0, 0, .null, [], none)),
  (10, (1, .lstore 6, 2, 0, 0, .null, [], none)),
  (12, (1, .lload_n 0, 1, 0, 0, .null, [], none)),
  (13, (0, .bipush 32, 2, 0, 0, (.int 32), [], none)),
  (15, (0, .lushr, 1, 0, 0, .null, [], none)),
  (16, (1, .lstore 8, 2, 0, 0, .null, [], none)),
  (18, (1, .lload_n 2, 1, 0, 0, .null, [], none)),
  (19, (1, .lload 4, 2, 0, 0, .null, [], none)),
  (21, (0, .land, 1, 0, 0, .null, [], none)),
  (22, (1, .lstore 10, 2, 0, 0, .null, [], none)),
  (24, (1, .lload_n 2, 1, 0, 0, .null, [], none)),
  (25, (0, .bipush 32, 2, 0, 0, (.int 32), [], none)),
  (27, (0, .lushr, 1, 0, 0, .null, [], none)),
  (28, (1, .lstore 12, 2, 0, 0, .null, [], none)),
  (30, (1, .lload 8, 2, 0, 0, .null, [], none))],
 [(32, (1, .lload 10, 2, 0, 0, .null, [], none)),
  (34, (0, .lmul, 1, 0, 0, .null, [], none)),
  (35, (1, .lload 6, 2, 0, 0, .null, [], none)),
  (37, (1, .lload 10, 2, 0, 0, .null, [], none)),
  (39, (0, .lmul, 1, 0, 0, .null, [], none)),
  (40, (0, .bipush 32, 2, 0, 0, (.int 32), [], none)),
  (42, (0, .lushr, 1, 0, 0, .null, [], none)),
  (43, (0, .ladd, 1, 0, 0, .null, [], none)),
  (44, (1, .lstore 14, 2, 0, 0, .null, [], none)),
  (46, (1, .lload 6, 2, 0, 0, .null, [], none)),
  (48, (1, .lload 12, 2, 0, 0, .null, [], none)),
  (50, (0, .lmul, 1, 0, 0, .null, [], none)),
  (51, (1, .lload 14, 2, 0, 0, .null, [], none)),
  (53, (1, .lload 4, 2, 0, 0, .null, [], none)),
  (55, (0, .land, 1, 0, 0, .null, [], none)),
  (56, (0, .ladd, 1, 0, 0, .null, [], none)),
  (57, (1, .lstore 16, 2, 0, 0, .null, [], none)),
  (59, (1, .lload 8, 2, 0, 0, .null, [], none)),
  (61, (1, .lload 12, 2, 0, 0, .null, [], none)),
  (63, (0, .lmul, 1, 0, 0, .null, [], none))],
 [(64, (1, .lload 14, 2, 0, 0, .null, [], none)),
  (66, (0, .bipush 32, 2, 0, 0, (.int 32), [], none)),
  (68, (0, .lushr, 1, 0, 0, .null, [], none)),
  (69, (0, .ladd, 1, 0, 0, .null, [], none)),
  (70, (1, .lload 16, 2, 0, 0, .null, [], none)),
  (72, (0, .bipush 32, 2, 0, 0, (.int 32), [], none)),
  (74, (0, .lushr, 1, 0, 0, .null, [], none)),
  (75, (0, .ladd, 1, 0, 0, .null, [], none)),
  (76, (5, .lreturn, 1, 0, 0, .null, [], none))]]
/- 93: FlagMachine$Products.multiply(JJIZ)V -/
noncomputable def tb_c93 : List (List (Nat × am_I)) := [[(0, (1, .iload 6, 2, 0, 0, .null, [], none)),
  (2, (2, .ifCond .eq 12, 3, 14, 0, .null, [], none)),
  (5, (1, .lload_n 1, 1, 0, 0, .null, [], none)),
  (6, (1, .iload 5, 2, 0, 0, .null, [], none)),
  (8, (4, .invokestatic 42, 3, 17, 2, .null, [], none)),
  (11, (2, .goto 4, 3, 15, 0, .null, [], none)),
  (14, (1, .lload_n 1, 1, 0, 0, .null, [], none)),
  (15, (1, .lstore 7, 2, 0, 0, .null, [], some [0, 3, 5, 6])),
  (17, (1, .iload 6, 2, 0, 0, .null, [], none)),
  (19, (2, .ifCond .eq 12, 3, 31, 0, .null, [], none)),
  (22, (1, .lload_n 3, 1, 0, 0, .null, [], none)),
  (23, (1, .iload 5, 2, 0, 0, .null, [], none)),
  (25, (4, .invokestatic 42, 3, 17, 2, .null, [], none)),
  (28, (2, .goto 4, 3, 32, 0, .null, [], none)),
  (31, (1, .lload_n 3, 1, 0, 0, .null, [], none))],
 [(32, (1, .lstore 9, 2, 0, 0, .null, [], some [0, 5, 6, 7])),
  (34, (1, .lload 7, 2, 0, 0, .null, [], none)),
  (36, (1, .lload 9, 2, 0, 0, .null, [], none)),
  (38, (0, .lmul, 1, 0, 0, .null, [], none)),
  (39, (1, .lstore 11, 2, 0, 0, .null, [], none)),
  (41, (1, .iload 5, 2, 0, 0, .null, [], none)),
  (43, (0, .bipush 8, 2, 0, 0, (.int 8), [], none)),
  (45, (2, .if_icmp .ne 64, 3, 109, 0, .null, [], none)),
  (48, (1, .aload_n 0, 1, 0, 0, .null, [], none)),
  (49, (1, .lload 11, 2, 0, 0, .null, [], none)),
  (51, (3, .putfield 66, 3, 7, 2, .null, [], none)),
  (54, (1, .aload_n 0, 1, 0, 0, .null, [], none)),
  (55, (1, .lload 7, 2, 0, 0, .null, [], none)),
  (57, (1, .lload 9, 2, 0, 0, .null, [], none)),
  (59, (4, .invokestatic 123, 3, 92, 2, .null, [], none)),
  (62, (3, .putfield 70, 3, 7, 3, .null, [], none))],
 [(65, (1, .iload 6, 2, 0, 0, .null, [], none)),
  (67, (2, .ifCond .eq 72, 3, 139, 0, .null, [], none)),
  (70, (1, .aload_n 0, 1, 0, 0, .null, [], none)),
  (71, (0, .dup, 1, 0, 0, .null, [], none)),
  (72, (3, .getfield 70, 3, 7, 3, .null, [], none)),
  (75, (1, .lload 7, 2, 0, 0, .null, [], none)),
  (77, (0, .lconst 0, 1, 0, 0, (.long 0), [], none)),
  (78, (0, .lcmp, 1, 0, 0, .null, [], none)),
  (79, (2, .ifCond .ge 8, 3, 87, 0, .null, [], none)),
  (82, (1, .lload 9, 2, 0, 0, .null, [], none)),
  (84, (2, .goto 4, 3, 88, 0, .null, [], none)),
  (87, (0, .lconst 0, 1, 0, 0, (.long 0), [], none)),
  (88, (1, .lload 9, 2, 0, 0, .null, [], some [7, 9])),
  (90, (0, .lconst 0, 1, 0, 0, (.long 0), [], none)),
  (91, (0, .lcmp, 1, 0, 0, .null, [], none)),
  (92, (2, .ifCond .ge 8, 3, 100, 0, .null, [], none)),
  (95, (1, .lload 7, 2, 0, 0, .null, [], none))],
 [(97, (2, .goto 4, 3, 101, 0, .null, [], none)),
  (100, (0, .lconst 0, 1, 0, 0, (.long 0), [], none)),
  (101, (0, .ladd, 1, 0, 0, .null, [], some [])),
  (102, (0, .lsub, 1, 0, 0, .null, [], none)),
  (103, (3, .putfield 70, 3, 7, 3, .null, [], none)),
  (106, (2, .goto 33, 3, 139, 0, .null, [], none)),
  (109, (1, .aload_n 0, 1, 0, 0, .null, [], none)),
  (110, (1, .lload 11, 2, 0, 0, .null, [], none)),
  (112, (1, .iload 5, 2, 0, 0, .null, [], none)),
  (114, (4, .invokestatic 120, 3, 7, 1, .null, [], none)),
  (117, (0, .land, 1, 0, 0, .null, [], none)),
  (118, (3, .putfield 66, 3, 7, 2, .null, [], none)),
  (121, (1, .aload_n 0, 1, 0, 0, .null, [], none)),
  (122, (1, .lload 11, 2, 0, 0, .null, [], none)),
  (124, (0, .bipush 8, 2, 0, 0, (.int 8), [], none)),
  (126, (1, .iload 5, 2, 0, 0, .null, [], none))],
 [(128, (0, .imul, 1, 0, 0, .null, [], none)),
  (129, (0, .lushr, 1, 0, 0, .null, [], none)),
  (130, (1, .iload 5, 2, 0, 0, .null, [], none)),
  (132, (4, .invokestatic 120, 3, 7, 1, .null, [], none)),
  (135, (0, .land, 1, 0, 0, .null, [], none)),
  (136, (3, .putfield 70, 3, 7, 3, .null, [], none)),
  (139, (5, .return_, 1, 0, 0, .null, [], some []))]]
/- 94: FlagMachine$Products.multiplyNarrow()V -/
noncomputable def tb_c94 : List (List (Nat × am_I)) := [[(0, (1, .aload_n 0, 1, 0, 0, .null, [], none)),
  (1, (3, .getfield 21, 3, 7, 1, .null, [], none)),
  (4, (3, .getfield 32, 3, 1, 1, .null, [], none)),
  (7, (1, .istore_n 1, 1, 0, 0, .null, [], none)),
  (8, (1, .aload_n 0, 1, 0, 0, .null, [], none)),
  (9, (3, .getfield 21, 3, 7, 1, .null, [], none)),
  (12, (3, .getfield 89, 3, 1, 3, .null, [], none)),
  (15, (0, .iconst 2, 1, 0, 0, (.int 2), [], none)),
  (16, (3, .iaload, 1, 0, 0, .null, [], none)),
  (17, (0, .iconst 3, 1, 0, 0, (.int 3), [], none)),
  (18, (2, .if_icmp .ne 7, 3, 25, 0, .null, [], none)),
  (21, (0, .iconst 1, 1, 0, 0, (.int 1), [], none)),
  (22, (2, .goto 4, 3, 26, 0, .null, [], none)),
  (25, (0, .iconst 0, 1, 0, 0, (.int 0), [], none)),
  (26, (1, .istore_n 2, 1, 0, 0, .null, [], some [0, 1])),
  (27, (1, .aload_n 0, 1, 0, 0, .null, [], none)),
  (28, (3, .getfield 9, 3, 7, 0, .null, [], none)),
  (31, (0, .iconst 1, 1, 0, 0, (.int 1), [], none))],
 [(32, (1, .iload_n 1, 1, 0, 0, .null, [], none)),
  (33, (4, .invokevirtual 52, 3, 32, 3, .null, [], none)),
  (36, (1, .lstore_n 3, 1, 0, 0, .null, [], none)),
  (37, (1, .aload_n 0, 1, 0, 0, .null, [], none)),
  (38, (3, .getfield 9, 3, 7, 0, .null, [], none)),
  (41, (1, .iload_n 2, 1, 0, 0, .null, [], none)),
  (42, (2, .ifCond .eq 7, 3, 49, 0, .null, [], none)),
  (45, (0, .iconst 2, 1, 0, 0, (.int 2), [], none)),
  (46, (2, .goto 4, 3, 50, 0, .null, [], none)),
  (49, (0, .iconst 0, 1, 0, 0, (.int 0), [], none)),
  (50, (1, .iload_n 1, 1, 0, 0, .null, [], some [0, 1, 3])),
  (51, (4, .invokevirtual 52, 3, 32, 3, .null, [], none)),
  (54, (1, .lstore 5, 2, 0, 0, .null, [], none)),
  (56, (1, .aload_n 0, 1, 0, 0, .null, [], none)),
  (57, (3, .getfield 9, 3, 7, 0, .null, [], none)),
  (60, (3, .getfield 56, 3, 3, 7, .null, [], none)),
  (63, (2, .ifCond .eq 4, 3, 67, 0, .null, [], none))],
 [(66, (5, .return_, 1, 0, 0, .null, [], none)),
  (67, (1, .aload_n 0, 1, 0, 0, .null, [], none)),
  (68, (1, .lload 5, 2, 0, 0, .null, [], none)),
  (70, (1, .lload_n 3, 1, 0, 0, .null, [], none)),
  (71, (1, .iload_n 1, 1, 0, 0, .null, [], none)),
  (72, (0, .iconst 1, 1, 0, 0, (.int 1), [], none)),
  (73, (4, .invokevirtual 62, 3, 93, 5, .null, [], none)),
  (76, (1, .aload_n 0, 1, 0, 0, .null, [], none)),
  (77, (3, .getfield 9, 3, 7, 0, .null, [], none)),
  (80, (0, .iconst 0, 1, 0, 0, (.int 0), [], none)),
  (81, (1, .iload_n 1, 1, 0, 0, .null, [], none)),
  (82, (1, .aload_n 0, 1, 0, 0, .null, [], none)),
  (83, (3, .getfield 66, 3, 7, 2, .null, [], none)),
  (86, (4, .invokevirtual 93, 3, 42, 4, .null, [], none)),
  (89, (0, .pop, 1, 0, 0, .null, [], none)),
  (90, (1, .aload_n 0, 1, 0, 0, .null, [], none)),
  (91, (3, .getfield 9, 3, 7, 0, .null, [], none)),
  (94, (3, .getfield 77, 3, 3, 1, .null, [], none))],
 [(97, (1, .aload_n 0, 1, 0, 0, .null, [], none)),
  (98, (3, .getfield 70, 3, 7, 3, .null, [], none)),
  (101, (1, .aload_n 0, 1, 0, 0, .null, [], none)),
  (102, (3, .getfield 66, 3, 7, 2, .null, [], none)),
  (105, (1, .iload_n 1, 1, 0, 0, .null, [], none)),
  (106, (4, .invokestatic 81, 3, 98, 2, .null, [], none)),
  (109, (0, .lcmp, 1, 0, 0, .null, [], none)),
  (110, (2, .ifCond .eq 7, 3, 117, 0, .null, [], none)),
  (113, (0, .iconst 1, 1, 0, 0, (.int 1), [], none)),
  (114, (2, .goto 4, 3, 118, 0, .null, [], none)),
  (117, (0, .iconst 0, 1, 0, 0, (.int 0), [], none)),
  (118, (4, .invokevirtual 84, 3, 50, 2, .null, [], some [])),
  (121, (5, .return_, 1, 0, 0, .null, [], none))]]
/- 95: FlagMachine$Products.multiplyWide(Z)V -/
noncomputable def tb_c95 : List (List (Nat × am_I)) := [[(0, (1, .aload_n 0, 1, 0, 0, .null, [], none)),
  (1, (3, .getfield 21, 3, 7, 1, .null, [], none)),
  (4, (3, .getfield 32, 3, 1, 1, .null, [], none)),
  (7, (1, .istore_n 2, 1, 0, 0, .null, [], none)),
  (8, (1, .aload_n 0, 1, 0, 0, .null, [], none)),
  (9, (3, .getfield 9, 3, 7, 0, .null, [], none)),
  (12, (0, .iconst 0, 1, 0, 0, (.int 0), [], none)),
  (13, (1, .iload_n 2, 1, 0, 0, .null, [], none)),
  (14, (4, .invokevirtual 52, 3, 32, 3, .null, [], none)),
  (17, (1, .lstore_n 3, 1, 0, 0, .null, [], none)),
  (18, (1, .aload_n 0, 1, 0, 0, .null, [], none)),
  (19, (3, .getfield 9, 3, 7, 0, .null, [], none)),
  (22, (3, .getfield 56, 3, 3, 7, .null, [], none)),
  (25, (2, .ifCond .eq 4, 3, 29, 0, .null, [], none)),
  (28, (5, .return_, 1, 0, 0, .null, [], none)),
  (29, (1, .aload_n 0, 1, 0, 0, .null, [], none)),
  (30, (1, .aload_n 0, 1, 0, 0, .null, [], none)),
  (31, (3, .getfield 9, 3, 7, 0, .null, [], none))],
 [(34, (0, .iconst 0, 1, 0, 0, (.int 0), [], none)),
  (35, (1, .iload_n 2, 1, 0, 0, .null, [], none)),
  (36, (4, .invokevirtual 59, 3, 35, 3, .null, [], none)),
  (39, (1, .lload_n 3, 1, 0, 0, .null, [], none)),
  (40, (1, .iload_n 2, 1, 0, 0, .null, [], none)),
  (41, (1, .iload_n 1, 1, 0, 0, .null, [], none)),
  (42, (4, .invokevirtual 62, 3, 93, 5, .null, [], none)),
  (45, (1, .aload_n 0, 1, 0, 0, .null, [], none)),
  (46, (1, .aload_n 0, 1, 0, 0, .null, [], none)),
  (47, (3, .getfield 66, 3, 7, 2, .null, [], none)),
  (50, (1, .aload_n 0, 1, 0, 0, .null, [], none)),
  (51, (3, .getfield 70, 3, 7, 3, .null, [], none)),
  (54, (4, .invokevirtual 73, 3, 97, 3, .null, [], none)),
  (57, (1, .aload_n 0, 1, 0, 0, .null, [], none)),
  (58, (3, .getfield 9, 3, 7, 0, .null, [], none)),
  (61, (3, .getfield 77, 3, 3, 1, .null, [], none))],
 [(64, (1, .aload_n 0, 1, 0, 0, .null, [], none)),
  (65, (3, .getfield 70, 3, 7, 3, .null, [], none)),
  (68, (1, .iload_n 1, 1, 0, 0, .null, [], none)),
  (69, (2, .ifCond .eq 14, 3, 83, 0, .null, [], none)),
  (72, (1, .aload_n 0, 1, 0, 0, .null, [], none)),
  (73, (3, .getfield 66, 3, 7, 2, .null, [], none)),
  (76, (1, .iload_n 2, 1, 0, 0, .null, [], none)),
  (77, (4, .invokestatic 81, 3, 98, 2, .null, [], none)),
  (80, (2, .goto 4, 3, 84, 0, .null, [], none)),
  (83, (0, .lconst 0, 1, 0, 0, (.long 0), [], none)),
  (84, (0, .lcmp, 1, 0, 0, .null, [], some [])),
  (85, (2, .ifCond .eq 7, 3, 92, 0, .null, [], none)),
  (88, (0, .iconst 1, 1, 0, 0, (.int 1), [], none)),
  (89, (2, .goto 4, 3, 93, 0, .null, [], none)),
  (92, (0, .iconst 0, 1, 0, 0, (.int 0), [], none)),
  (93, (4, .invokevirtual 84, 3, 50, 2, .null, [], some []))],
 [(96, (5, .return_, 1, 0, 0, .null, [], none))]]
/- 96: FlagMachine$Products.perform(I)V -/
noncomputable def tb_c96 : List (List (Nat × am_I)) := [[(0, (1, .iload_n 1, 1, 0, 0, .null, [], none)),
  (1, (2, .lookupswitch 151 #[(17, 59), (18, 59), (19, 77), (20, 77), (23, 95), (37, 102)], 59, 152, 0, .null, [(17, 60), (18, 60), (19, 78), (20, 78), (23, 96), (37, 103)], none))],
 [(60, (1, .aload_n 0, 1, 0, 0, .null, [], some [0, 1])),
  (61, (1, .iload_n 1, 1, 0, 0, .null, [], none)),
  (62, (0, .bipush 18, 2, 0, 0, (.int 18), [], none))],
 [(64, (2, .if_icmp .ne 7, 3, 71, 0, .null, [], none)),
  (67, (0, .iconst 1, 1, 0, 0, (.int 1), [], none)),
  (68, (2, .goto 4, 3, 72, 0, .null, [], none)),
  (71, (0, .iconst 0, 1, 0, 0, (.int 0), [], none)),
  (72, (4, .invokevirtual 22, 3, 95, 2, .null, [], some [])),
  (75, (2, .goto 113, 3, 188, 0, .null, [], none)),
  (78, (1, .aload_n 0, 1, 0, 0, .null, [], some [0, 1])),
  (79, (1, .iload_n 1, 1, 0, 0, .null, [], none)),
  (80, (0, .bipush 20, 2, 0, 0, (.int 20), [], none)),
  (82, (2, .if_icmp .ne 7, 3, 89, 0, .null, [], none)),
  (85, (0, .iconst 1, 1, 0, 0, (.int 1), [], none)),
  (86, (2, .goto 4, 3, 90, 0, .null, [], none)),
  (89, (0, .iconst 0, 1, 0, 0, (.int 0), [], none)),
  (90, (4, .invokevirtual 26, 3, 89, 2, .null, [], some [])),
  (93, (2, .goto 95, 3, 188, 0, .null, [], none))],
 [(96, (1, .aload_n 0, 1, 0, 0, .null, [], none)),
  (97, (4, .invokevirtual 29, 3, 94, 1, .null, [], none)),
  (100, (2, .goto 88, 3, 188, 0, .null, [], none)),
  (103, (1, .aload_n 0, 1, 0, 0, .null, [], none)),
  (104, (3, .getfield 9, 3, 7, 0, .null, [], none)),
  (107, (0, .iconst 2, 1, 0, 0, (.int 2), [], none)),
  (108, (1, .aload_n 0, 1, 0, 0, .null, [], none)),
  (109, (3, .getfield 21, 3, 7, 1, .null, [], none)),
  (112, (3, .getfield 32, 3, 1, 1, .null, [], none)),
  (115, (1, .aload_n 0, 1, 0, 0, .null, [], none)),
  (116, (3, .getfield 9, 3, 7, 0, .null, [], none)),
  (119, (3, .getfield 38, 3, 3, 0, .null, [], none)),
  (122, (0, .iconst 0, 1, 0, 0, (.int 0), [], none)),
  (123, (3, .laload, 1, 0, 0, .null, [], none)),
  (124, (1, .aload_n 0, 1, 0, 0, .null, [], none)),
  (125, (3, .getfield 21, 3, 7, 1, .null, [], none))],
 [(128, (3, .getfield 32, 3, 1, 1, .null, [], none)),
  (131, (4, .invokestatic 42, 3, 17, 2, .null, [], none)),
  (134, (0, .lconst 0, 1, 0, 0, (.long 0), [], none)),
  (135, (0, .lcmp, 1, 0, 0, .null, [], none)),
  (136, (2, .ifCond .ge 9, 3, 145, 0, .null, [], none)),
  (139, (0, .ldc2_w 46, 3, 0, 0, (.long (-1)), [], none)),
  (142, (2, .goto 4, 3, 146, 0, .null, [], none)),
  (145, (0, .lconst 0, 1, 0, 0, (.long 0), [], none)),
  (146, (4, .invokevirtual 48, 3, 37, 4, .null, [], some [])),
  (149, (2, .goto 39, 3, 188, 0, .null, [], none)),
  (152, (1, .aload_n 0, 1, 0, 0, .null, [], none)),
  (153, (3, .getfield 9, 3, 7, 0, .null, [], none)),
  (156, (0, .iconst 0, 1, 0, 0, (.int 0), [], none)),
  (157, (1, .aload_n 0, 1, 0, 0, .null, [], none)),
  (158, (3, .getfield 21, 3, 7, 1, .null, [], none))],
 [(161, (3, .getfield 32, 3, 1, 1, .null, [], none)),
  (164, (1, .aload_n 0, 1, 0, 0, .null, [], none)),
  (165, (3, .getfield 9, 3, 7, 0, .null, [], none)),
  (168, (3, .getfield 38, 3, 3, 0, .null, [], none)),
  (171, (0, .iconst 0, 1, 0, 0, (.int 0), [], none)),
  (172, (3, .laload, 1, 0, 0, .null, [], none)),
  (173, (1, .aload_n 0, 1, 0, 0, .null, [], none)),
  (174, (3, .getfield 21, 3, 7, 1, .null, [], none)),
  (177, (3, .getfield 32, 3, 1, 1, .null, [], none)),
  (180, (0, .iconst 2, 1, 0, 0, (.int 2), [], none)),
  (181, (0, .idiv, 1, 0, 0, .null, [], none)),
  (182, (4, .invokestatic 42, 3, 17, 2, .null, [], none)),
  (185, (4, .invokevirtual 48, 3, 37, 4, .null, [], none)),
  (188, (5, .return_, 1, 0, 0, .null, [], some []))]]
/- 97: FlagMachine$Products.putPair(JJ)V -/
noncomputable def tb_c97 : List (List (Nat × am_I)) := [[(0, (1, .aload_n 0, 1, 0, 0, .null, [], none)),
  (1, (3, .getfield 21, 3, 7, 1, .null, [], none)),
  (4, (3, .getfield 32, 3, 1, 1, .null, [], none)),
  (7, (1, .istore 5, 2, 0, 0, .null, [], none)),
  (9, (1, .aload_n 0, 1, 0, 0, .null, [], none)),
  (10, (3, .getfield 9, 3, 7, 0, .null, [], none)),
  (13, (0, .iconst 0, 1, 0, 0, (.int 0), [], none)),
  (14, (1, .iload 5, 2, 0, 0, .null, [], none)),
  (16, (1, .lload_n 1, 1, 0, 0, .null, [], none)),
  (17, (4, .invokevirtual 48, 3, 37, 4, .null, [], none)),
  (20, (1, .iload 5, 2, 0, 0, .null, [], none)),
  (22, (0, .iconst 1, 1, 0, 0, (.int 1), [], none)),
  (23, (2, .if_icmp .ne 21, 3, 44, 0, .null, [], none)),
  (26, (1, .aload_n 0, 1, 0, 0, .null, [], none)),
  (27, (3, .getfield 9, 3, 7, 0, .null, [], none)),
  (30, (0, .iconst 0, 1, 0, 0, (.int 0), [], none)),
  (31, (0, .iconst 2, 1, 0, 0, (.int 2), [], none))],
 [(32, (1, .lload_n 3, 1, 0, 0, .null, [], none)),
  (33, (0, .bipush 8, 2, 0, 0, (.int 8), [], none)),
  (35, (0, .lshl, 1, 0, 0, .null, [], none)),
  (36, (1, .lload_n 1, 1, 0, 0, .null, [], none)),
  (37, (0, .lor, 1, 0, 0, .null, [], none)),
  (38, (4, .invokevirtual 48, 3, 37, 4, .null, [], none)),
  (41, (2, .goto 14, 3, 55, 0, .null, [], none)),
  (44, (1, .aload_n 0, 1, 0, 0, .null, [], none)),
  (45, (3, .getfield 9, 3, 7, 0, .null, [], none)),
  (48, (0, .iconst 2, 1, 0, 0, (.int 2), [], none)),
  (49, (1, .iload 5, 2, 0, 0, .null, [], none)),
  (51, (1, .lload_n 3, 1, 0, 0, .null, [], none)),
  (52, (4, .invokevirtual 48, 3, 37, 4, .null, [], none)),
  (55, (5, .return_, 1, 0, 0, .null, [], some []))]]
/- 98: FlagMachine$Products.signFill(JI)J -/
noncomputable def tb_c98 : List (List (Nat × am_I)) := [[(0, (1, .lload_n 0, 1, 0, 0, .null, [], none)),
  (1, (1, .iload_n 2, 1, 0, 0, .null, [], none)),
  (2, (4, .invokestatic 116, 3, 19, 1, .null, [], none)),
  (5, (0, .land, 1, 0, 0, .null, [], none)),
  (6, (0, .lconst 0, 1, 0, 0, (.long 0), [], none)),
  (7, (0, .lcmp, 1, 0, 0, .null, [], none)),
  (8, (2, .ifCond .eq 10, 3, 18, 0, .null, [], none)),
  (11, (1, .iload_n 2, 1, 0, 0, .null, [], none)),
  (12, (4, .invokestatic 120, 3, 7, 1, .null, [], none)),
  (15, (2, .goto 4, 3, 19, 0, .null, [], none)),
  (18, (0, .lconst 0, 1, 0, 0, (.long 0), [], none)),
  (19, (5, .lreturn, 1, 0, 0, .null, [], some []))]]
/- 99: FlagMachine$Services.<init>(LFlagMachine$Core;)V -/
noncomputable def tb_c99 : List (List (Nat × am_I)) := [[(0, (1, .aload_n 0, 1, 0, 0, .null, [], none)),
  (1, (3, .invokespecial 3, 3, 0, 0, .null, [], none)),
  (4, (1, .aload_n 0, 1, 0, 0, .null, [], none)),
  (5, (3, .new 9, 3, 2, 0, .null, [], none)),
  (8, (0, .dup, 1, 0, 0, .null, [], none)),
  (9, (0, .ldc 11, 2, 0, 0, (.int 65536), [], none)),
  (11, (4, .invokespecial 12, 3, 106, 2, .null, [], none)),
  (14, (3, .putfield 15, 3, 10, 1, .null, [], none)),
  (17, (1, .aload_n 0, 1, 0, 0, .null, [], none)),
  (18, (3, .new 9, 3, 2, 0, .null, [], none)),
  (21, (0, .dup, 1, 0, 0, .null, [], none)),
  (22, (0, .ldc 11, 2, 0, 0, (.int 65536), [], none)),
  (24, (4, .invokespecial 12, 3, 106, 2, .null, [], none)),
  (27, (3, .putfield 21, 3, 10, 2, .null, [], none)),
  (30, (1, .aload_n 0, 1, 0, 0, .null, [], none)),
  (31, (1, .aload_n 1, 1, 0, 0, .null, [], none))],
 [(32, (3, .putfield 24, 3, 10, 0, .null, [], none)),
  (35, (5, .return_, 1, 0, 0, .null, [], none))]]
/- 100: FlagMachine$Services.appendInput(JI)Z -/
noncomputable def tb_c100 : List (List (Nat × am_I)) := [[(0, (1, .iload_n 3, 1, 0, 0, .null, [], none)),
  (1, (0, .iconst 1, 1, 0, 0, (.int 1), [], none)),
  (2, (2, .if_icmp .lt 20, 3, 22, 0, .null, [], none)),
  (5, (1, .iload_n 3, 1, 0, 0, .null, [], none)),
  (6, (0, .bipush 8, 2, 0, 0, (.int 8), [], none)),
  (8, (2, .if_icmp .gt 14, 3, 22, 0, .null, [], none)),
  (11, (1, .aload_n 0, 1, 0, 0, .null, [], none)),
  (12, (3, .getfield 32, 3, 10, 4, .null, [], none)),
  (15, (1, .iload_n 3, 1, 0, 0, .null, [], none)),
  (16, (0, .iadd, 1, 0, 0, .null, [], none)),
  (17, (0, .ldc 11, 2, 0, 0, (.int 65536), [], none)),
  (19, (2, .if_icmp .le 5, 3, 24, 0, .null, [], none)),
  (22, (0, .iconst 0, 1, 0, 0, (.int 0), [], some [])),
  (23, (5, .ireturn, 1, 0, 0, .null, [], none)),
  (24, (1, .iload_n 3, 1, 0, 0, .null, [], none)),
  (25, (0, .iconst 1, 1, 0, 0, (.int 1), [], none)),
  (26, (0, .isub, 1, 0, 0, .null, [], none)),
  (27, (1, .istore 4, 2, 0, 0, .null, [], none)),
  (29, (1, .iload 4, 2, 0, 0, .null, [], some [0, 1, 4])),
  (31, (2, .ifCond .lt 50, 3, 81, 0, .null, [], none))],
 [(34, (1, .aload_n 0, 1, 0, 0, .null, [], none)),
  (35, (3, .getfield 15, 3, 10, 1, .null, [], none)),
  (38, (1, .aload_n 0, 1, 0, 0, .null, [], none)),
  (39, (3, .getfield 28, 3, 10, 3, .null, [], none)),
  (42, (1, .aload_n 0, 1, 0, 0, .null, [], none)),
  (43, (3, .getfield 32, 3, 10, 4, .null, [], none)),
  (46, (0, .iadd, 1, 0, 0, .null, [], none)),
  (47, (0, .ldc 11, 2, 0, 0, (.int 65536), [], none)),
  (49, (0, .irem, 1, 0, 0, .null, [], none)),
  (50, (1, .lload_n 1, 1, 0, 0, .null, [], none)),
  (51, (0, .bipush 8, 2, 0, 0, (.int 8), [], none)),
  (53, (1, .iload 4, 2, 0, 0, .null, [], none)),
  (55, (0, .imul, 1, 0, 0, .null, [], none)),
  (56, (0, .lushr, 1, 0, 0, .null, [], none)),
  (57, (0, .l2i, 1, 0, 0, .null, [], none)),
  (58, (0, .sipush 255, 3, 0, 0, (.int 255), [], none)),
  (61, (0, .iand, 1, 0, 0, .null, [], none)),
  (62, (4, .invokevirtual 38, 3, 116, 3, .null, [], none))],
 [(65, (1, .aload_n 0, 1, 0, 0, .null, [], none)),
  (66, (0, .dup, 1, 0, 0, .null, [], none)),
  (67, (3, .getfield 32, 3, 10, 4, .null, [], none)),
  (70, (0, .iconst 1, 1, 0, 0, (.int 1), [], none)),
  (71, (0, .iadd, 1, 0, 0, .null, [], none)),
  (72, (3, .putfield 32, 3, 10, 4, .null, [], none)),
  (75, (1, .iinc 4 (-1), 3, 0, 0, (.int (-1)), [], none)),
  (78, (2, .goto (-49), 3, 29, 0, .null, [], none)),
  (81, (0, .iconst 1, 1, 0, 0, (.int 1), [], none)),
  (82, (5, .ireturn, 1, 0, 0, .null, [], none))]]
/- 101: FlagMachine$Services.giveOutput(JJ)J -/
noncomputable def tb_c101 : List (List (Nat × am_I)) := [[(0, (0, .ldc 11, 2, 0, 0, (.int 65536), [], none)),
  (2, (1, .aload_n 0, 1, 0, 0, .null, [], none)),
  (3, (3, .getfield 35, 3, 10, 5, .null, [], none)),
  (6, (0, .isub, 1, 0, 0, .null, [], none)),
  (7, (0, .i2l, 1, 0, 0, .null, [], none)),
  (8, (1, .lload_n 3, 1, 0, 0, .null, [], none)),
  (9, (4, .invokestatic 96, 3, 3, 2, .null, [], none)),
  (12, (2, .ifCond .eq 7, 3, 19, 0, .null, [], none)),
  (15, (0, .ldc2_w 109, 3, 0, 0, (.long (-28)), [], none)),
  (18, (5, .lreturn, 1, 0, 0, .null, [], none)),
  (19, (1, .lload_n 3, 1, 0, 0, .null, [], none)),
  (20, (0, .l2i, 1, 0, 0, .null, [], none)),
  (21, (1, .istore 5, 2, 0, 0, .null, [], none)),
  (23, (1, .aload_n 0, 1, 0, 0, .null, [], none)),
  (24, (3, .getfield 24, 3, 10, 0, .null, [], none)),
  (27, (3, .getfield 75, 3, 3, 2, .null, [], none)),
  (30, (1, .lload_n 1, 1, 0, 0, .null, [], none)),
  (31, (1, .iload 5, 2, 0, 0, .null, [], none))],
 [(33, (0, .iconst 0, 1, 0, 0, (.int 0), [], none)),
  (34, (4, .invokevirtual 100, 3, 71, 4, .null, [], none)),
  (37, (1, .istore 6, 2, 0, 0, .null, [], none)),
  (39, (1, .iload 5, 2, 0, 0, .null, [], none)),
  (41, (2, .ifCond .le 13, 3, 54, 0, .null, [], none)),
  (44, (1, .iload 6, 2, 0, 0, .null, [], none)),
  (46, (0, .iconst (-1), 1, 0, 0, (.int (-1)), [], none)),
  (47, (2, .if_icmp .ne 7, 3, 54, 0, .null, [], none)),
  (50, (0, .ldc2_w 104, 3, 0, 0, (.long (-14)), [], none)),
  (53, (5, .lreturn, 1, 0, 0, .null, [], none)),
  (54, (1, .aload_n 0, 1, 0, 0, .null, [], some [0, 5, 6])),
  (55, (3, .getfield 21, 3, 10, 2, .null, [], none)),
  (58, (1, .aload_n 0, 1, 0, 0, .null, [], none)),
  (59, (3, .getfield 24, 3, 10, 0, .null, [], none)),
  (62, (3, .getfield 75, 3, 3, 2, .null, [], none))],
 [(65, (3, .getfield 106, 3, 5, 0, .null, [], none)),
  (68, (1, .iload 6, 2, 0, 0, .null, [], none)),
  (70, (1, .aload_n 0, 1, 0, 0, .null, [], none)),
  (71, (3, .getfield 35, 3, 10, 5, .null, [], none)),
  (74, (1, .iload 5, 2, 0, 0, .null, [], none)),
  (76, (4, .invokevirtual 111, 3, 112, 5, .null, [], none)),
  (79, (1, .aload_n 0, 1, 0, 0, .null, [], none)),
  (80, (0, .dup, 1, 0, 0, .null, [], none)),
  (81, (3, .getfield 35, 3, 10, 5, .null, [], none)),
  (84, (1, .iload 5, 2, 0, 0, .null, [], none)),
  (86, (0, .iadd, 1, 0, 0, .null, [], none)),
  (87, (3, .putfield 35, 3, 10, 5, .null, [], none)),
  (90, (1, .iload 5, 2, 0, 0, .null, [], none)),
  (92, (0, .i2l, 1, 0, 0, .null, [], none)),
  (93, (5, .lreturn, 1, 0, 0, .null, [], none))]]
/- 102: FlagMachine$Services.outputAt(I)I -/
noncomputable def tb_c102 : List (List (Nat × am_I)) := [[(0, (1, .iload_n 1, 1, 0, 0, .null, [], none)),
  (1, (0, .iconst (-1), 1, 0, 0, (.int (-1)), [], none)),
  (2, (2, .if_icmp .ne 8, 3, 10, 0, .null, [], none)),
  (5, (1, .aload_n 0, 1, 0, 0, .null, [], none)),
  (6, (3, .getfield 35, 3, 10, 5, .null, [], none)),
  (9, (5, .ireturn, 1, 0, 0, .null, [], none)),
  (10, (1, .iload_n 1, 1, 0, 0, .null, [], none)),
  (11, (2, .ifCond .lt 22, 3, 33, 0, .null, [], none)),
  (14, (1, .iload_n 1, 1, 0, 0, .null, [], none)),
  (15, (1, .aload_n 0, 1, 0, 0, .null, [], none)),
  (16, (3, .getfield 35, 3, 10, 5, .null, [], none)),
  (19, (2, .if_icmp .ge 14, 3, 33, 0, .null, [], none)),
  (22, (1, .aload_n 0, 1, 0, 0, .null, [], none)),
  (23, (3, .getfield 21, 3, 10, 2, .null, [], none)),
  (26, (1, .iload_n 1, 1, 0, 0, .null, [], none)),
  (27, (4, .invokevirtual 42, 3, 108, 2, .null, [], none)),
  (30, (2, .goto 4, 3, 34, 0, .null, [], none))],
 [(33, (0, .iconst (-1), 1, 0, 0, (.int (-1)), [], some [])),
  (34, (5, .ireturn, 1, 0, 0, .null, [], some []))]]
/- 103: FlagMachine$Services.serve()V -/
noncomputable def tb_c103 : List (List (Nat × am_I)) := [[(0, (1, .aload_n 0, 1, 0, 0, .null, [], none)),
  (1, (3, .getfield 24, 3, 10, 0, .null, [], none)),
  (4, (3, .getfield 46, 3, 3, 0, .null, [], none)),
  (7, (1, .astore_n 1, 1, 0, 0, .null, [], none)),
  (8, (1, .aload_n 1, 1, 0, 0, .null, [], none)),
  (9, (0, .iconst 0, 1, 0, 0, (.int 0), [], none)),
  (10, (3, .laload, 1, 0, 0, .null, [], none)),
  (11, (1, .lstore_n 2, 1, 0, 0, .null, [], none)),
  (12, (1, .aload_n 1, 1, 0, 0, .null, [], none)),
  (13, (0, .iconst 1, 1, 0, 0, (.int 1), [], none)),
  (14, (1, .aload_n 0, 1, 0, 0, .null, [], none)),
  (15, (3, .getfield 24, 3, 10, 0, .null, [], none)),
  (18, (3, .getfield 52, 3, 3, 5, .null, [], none)),
  (21, (3, .lastore, 1, 0, 0, .null, [], none)),
  (22, (1, .aload_n 1, 1, 0, 0, .null, [], none)),
  (23, (0, .bipush 11, 2, 0, 0, (.int 11), [], none)),
  (25, (1, .aload_n 0, 1, 0, 0, .null, [], none)),
  (26, (3, .getfield 24, 3, 10, 0, .null, [], none)),
  (29, (3, .getfield 56, 3, 3, 1, .null, [], none))],
 [(32, (4, .invokevirtual 60, 3, 44, 1, .null, [], none)),
  (35, (3, .lastore, 1, 0, 0, .null, [], none)),
  (36, (1, .lload_n 2, 1, 0, 0, .null, [], none)),
  (37, (0, .lconst 0, 1, 0, 0, (.long 0), [], none)),
  (38, (0, .lcmp, 1, 0, 0, .null, [], none)),
  (39, (2, .ifCond .ne 20, 3, 59, 0, .null, [], none)),
  (42, (1, .aload_n 1, 1, 0, 0, .null, [], none)),
  (43, (0, .iconst 0, 1, 0, 0, (.int 0), [], none)),
  (44, (1, .aload_n 0, 1, 0, 0, .null, [], none)),
  (45, (1, .aload_n 1, 1, 0, 0, .null, [], none)),
  (46, (0, .bipush 6, 2, 0, 0, (.int 6), [], none)),
  (48, (3, .laload, 1, 0, 0, .null, [], none)),
  (49, (1, .aload_n 1, 1, 0, 0, .null, [], none)),
  (50, (0, .iconst 2, 1, 0, 0, (.int 2), [], none)),
  (51, (3, .laload, 1, 0, 0, .null, [], none)),
  (52, (4, .invokevirtual 66, 3, 105, 3, .null, [], none)),
  (55, (3, .lastore, 1, 0, 0, .null, [], none)),
  (56, (2, .goto 93, 3, 149, 0, .null, [], none)),
  (59, (1, .lload_n 2, 1, 0, 0, .null, [], none)),
  (60, (0, .lconst 1, 1, 0, 0, (.long 1), [], none)),
  (61, (0, .lcmp, 1, 0, 0, .null, [], none)),
  (62, (2, .ifCond .ne 20, 3, 82, 0, .null, [], none))],
 [(65, (1, .aload_n 1, 1, 0, 0, .null, [], none)),
  (66, (0, .iconst 0, 1, 0, 0, (.int 0), [], none)),
  (67, (1, .aload_n 0, 1, 0, 0, .null, [], none)),
  (68, (1, .aload_n 1, 1, 0, 0, .null, [], none)),
  (69, (0, .bipush 6, 2, 0, 0, (.int 6), [], none)),
  (71, (3, .laload, 1, 0, 0, .null, [], none)),
  (72, (1, .aload_n 1, 1, 0, 0, .null, [], none)),
  (73, (0, .iconst 2, 1, 0, 0, (.int 2), [], none)),
  (74, (3, .laload, 1, 0, 0, .null, [], none)),
  (75, (4, .invokevirtual 70, 3, 101, 3, .null, [], none)),
  (78, (3, .lastore, 1, 0, 0, .null, [], none)),
  (79, (2, .goto 70, 3, 149, 0, .null, [], none)),
  (82, (1, .lload_n 2, 1, 0, 0, .null, [], none)),
  (83, (0, .ldc2_w 73, 3, 0, 0, (.long 12), [], none)),
  (86, (0, .lcmp, 1, 0, 0, .null, [], none)),
  (87, (2, .ifCond .ne 33, 3, 120, 0, .null, [], none)),
  (90, (1, .aload_n 0, 1, 0, 0, .null, [], none)),
  (91, (3, .getfield 24, 3, 10, 0, .null, [], none)),
  (94, (3, .getfield 75, 3, 3, 2, .null, [], none))],
 [(97, (1, .aload_n 1, 1, 0, 0, .null, [], none)),
  (98, (0, .bipush 7, 2, 0, 0, (.int 7), [], none)),
  (100, (3, .laload, 1, 0, 0, .null, [], none)),
  (101, (4, .invokevirtual 79, 3, 70, 2, .null, [], none)),
  (104, (1, .aload_n 1, 1, 0, 0, .null, [], none)),
  (105, (0, .iconst 0, 1, 0, 0, (.int 0), [], none)),
  (106, (1, .aload_n 0, 1, 0, 0, .null, [], none)),
  (107, (3, .getfield 24, 3, 10, 0, .null, [], none)),
  (110, (3, .getfield 75, 3, 3, 2, .null, [], none)),
  (113, (4, .invokevirtual 85, 3, 66, 1, .null, [], none)),
  (116, (3, .lastore, 1, 0, 0, .null, [], none)),
  (117, (2, .goto 32, 3, 149, 0, .null, [], none)),
  (120, (1, .lload_n 2, 1, 0, 0, .null, [], none)),
  (121, (0, .ldc2_w 88, 3, 0, 0, (.long 60), [], none)),
  (124, (0, .lcmp, 1, 0, 0, .null, [], none)),
  (125, (2, .ifCond .ne 18, 3, 143, 0, .null, [], none))],
 [(128, (1, .aload_n 0, 1, 0, 0, .null, [], none)),
  (129, (3, .getfield 24, 3, 10, 0, .null, [], none)),
  (132, (0, .iconst 1, 1, 0, 0, (.int 1), [], none)),
  (133, (1, .aload_n 1, 1, 0, 0, .null, [], none)),
  (134, (0, .bipush 7, 2, 0, 0, (.int 7), [], none)),
  (136, (3, .laload, 1, 0, 0, .null, [], none)),
  (137, (4, .invokevirtual 90, 3, 41, 3, .null, [], none)),
  (140, (2, .goto 9, 3, 149, 0, .null, [], none)),
  (143, (1, .aload_n 1, 1, 0, 0, .null, [], none)),
  (144, (0, .iconst 0, 1, 0, 0, (.int 0), [], none)),
  (145, (0, .ldc2_w 94, 3, 0, 0, (.long (-38)), [], none)),
  (148, (3, .lastore, 1, 0, 0, .null, [], none)),
  (149, (5, .return_, 1, 0, 0, .null, [], some []))]]
/- 104: FlagMachine$Services.startAnew()V -/
noncomputable def tb_c104 : List (List (Nat × am_I)) := [[(0, (1, .aload_n 0, 1, 0, 0, .null, [], none)),
  (1, (0, .iconst 0, 1, 0, 0, (.int 0), [], none)),
  (2, (3, .putfield 28, 3, 10, 3, .null, [], none)),
  (5, (1, .aload_n 0, 1, 0, 0, .null, [], none)),
  (6, (0, .iconst 0, 1, 0, 0, (.int 0), [], none)),
  (7, (3, .putfield 32, 3, 10, 4, .null, [], none)),
  (10, (1, .aload_n 0, 1, 0, 0, .null, [], none)),
  (11, (0, .iconst 0, 1, 0, 0, (.int 0), [], none)),
  (12, (3, .putfield 35, 3, 10, 5, .null, [], none)),
  (15, (5, .return_, 1, 0, 0, .null, [], none))]]
/- 105: FlagMachine$Services.takeInput(JJ)J -/
noncomputable def tb_c105 : List (List (Nat × am_I)) := [[(0, (1, .lload_n 3, 1, 0, 0, .null, [], none)),
  (1, (1, .aload_n 0, 1, 0, 0, .null, [], none)),
  (2, (3, .getfield 32, 3, 10, 4, .null, [], none)),
  (5, (0, .i2l, 1, 0, 0, .null, [], none)),
  (6, (4, .invokestatic 96, 3, 3, 2, .null, [], none)),
  (9, (2, .ifCond .eq 8, 3, 17, 0, .null, [], none)),
  (12, (1, .lload_n 3, 1, 0, 0, .null, [], none)),
  (13, (0, .l2i, 1, 0, 0, .null, [], none)),
  (14, (2, .goto 7, 3, 21, 0, .null, [], none)),
  (17, (1, .aload_n 0, 1, 0, 0, .null, [], none)),
  (18, (3, .getfield 32, 3, 10, 4, .null, [], none)),
  (21, (1, .istore 5, 2, 0, 0, .null, [], some [0, 1])),
  (23, (1, .aload_n 0, 1, 0, 0, .null, [], none)),
  (24, (3, .getfield 24, 3, 10, 0, .null, [], none)),
  (27, (3, .getfield 75, 3, 3, 2, .null, [], none)),
  (30, (1, .lload_n 1, 1, 0, 0, .null, [], none)),
  (31, (1, .iload 5, 2, 0, 0, .null, [], none))],
 [(33, (0, .iconst 1, 1, 0, 0, (.int 1), [], none)),
  (34, (4, .invokevirtual 100, 3, 71, 4, .null, [], none)),
  (37, (1, .istore 6, 2, 0, 0, .null, [], none)),
  (39, (1, .iload 5, 2, 0, 0, .null, [], none)),
  (41, (2, .ifCond .le 13, 3, 54, 0, .null, [], none)),
  (44, (1, .iload 6, 2, 0, 0, .null, [], none)),
  (46, (0, .iconst (-1), 1, 0, 0, (.int (-1)), [], none)),
  (47, (2, .if_icmp .ne 7, 3, 54, 0, .null, [], none)),
  (50, (0, .ldc2_w 104, 3, 0, 0, (.long (-14)), [], none)),
  (53, (5, .lreturn, 1, 0, 0, .null, [], none)),
  (54, (0, .iconst 0, 1, 0, 0, (.int 0), [], some [0, 5, 6])),
  (55, (1, .istore 7, 2, 0, 0, .null, [], none)),
  (57, (1, .iload 7, 2, 0, 0, .null, [], some [0, 5, 6, 7])),
  (59, (1, .iload 5, 2, 0, 0, .null, [], none)),
  (61, (2, .if_icmp .ge 44, 3, 105, 0, .null, [], none))],
 [(64, (1, .aload_n 0, 1, 0, 0, .null, [], none)),
  (65, (3, .getfield 24, 3, 10, 0, .null, [], none)),
  (68, (3, .getfield 75, 3, 3, 2, .null, [], none)),
  (71, (3, .getfield 106, 3, 5, 0, .null, [], none)),
  (74, (1, .iload 6, 2, 0, 0, .null, [], none)),
  (76, (1, .iload 7, 2, 0, 0, .null, [], none)),
  (78, (0, .iadd, 1, 0, 0, .null, [], none)),
  (79, (1, .aload_n 0, 1, 0, 0, .null, [], none)),
  (80, (3, .getfield 15, 3, 10, 1, .null, [], none)),
  (83, (1, .aload_n 0, 1, 0, 0, .null, [], none)),
  (84, (3, .getfield 28, 3, 10, 3, .null, [], none)),
  (87, (1, .iload 7, 2, 0, 0, .null, [], none)),
  (89, (0, .iadd, 1, 0, 0, .null, [], none)),
  (90, (0, .ldc 11, 2, 0, 0, (.int 65536), [], none)),
  (92, (0, .irem, 1, 0, 0, .null, [], none)),
  (93, (4, .invokevirtual 42, 3, 108, 2, .null, [], none))],
 [(96, (4, .invokevirtual 38, 3, 116, 3, .null, [], none)),
  (99, (1, .iinc 7 1, 3, 0, 0, (.int 1), [], none)),
  (102, (2, .goto (-45), 3, 57, 0, .null, [], none)),
  (105, (1, .aload_n 0, 1, 0, 0, .null, [], none)),
  (106, (1, .aload_n 0, 1, 0, 0, .null, [], none)),
  (107, (3, .getfield 28, 3, 10, 3, .null, [], none)),
  (110, (1, .iload 5, 2, 0, 0, .null, [], none)),
  (112, (0, .iadd, 1, 0, 0, .null, [], none)),
  (113, (0, .ldc 11, 2, 0, 0, (.int 65536), [], none)),
  (115, (0, .irem, 1, 0, 0, .null, [], none)),
  (116, (3, .putfield 28, 3, 10, 3, .null, [], none)),
  (119, (1, .aload_n 0, 1, 0, 0, .null, [], none)),
  (120, (0, .dup, 1, 0, 0, .null, [], none)),
  (121, (3, .getfield 32, 3, 10, 4, .null, [], none)),
  (124, (1, .iload 5, 2, 0, 0, .null, [], none)),
  (126, (0, .isub, 1, 0, 0, .null, [], none)),
  (127, (3, .putfield 32, 3, 10, 4, .null, [], none))],
 [(130, (1, .iload 5, 2, 0, 0, .null, [], none)),
  (132, (0, .i2l, 1, 0, 0, .null, [], none)),
  (133, (5, .lreturn, 1, 0, 0, .null, [], none))]]
/- 106: FlagMachine$Stretch.<init>(I)V -/
noncomputable def tb_c106 : List (List (Nat × am_I)) := [[(0, (1, .aload_n 0, 1, 0, 0, .null, [], none)),
  (1, (3, .invokespecial 3, 3, 0, 0, .null, [], none)),
  (4, (1, .aload_n 0, 1, 0, 0, .null, [], none)),
  (5, (0, .iconst 0, 1, 0, 0, (.int 0), [], none)),
  (6, (1, .iload_n 1, 1, 0, 0, .null, [], none)),
  (7, (3, .invokestatic 9, 3, 1, 0, .null, [], none)),
  (10, (0, .sipush 256, 3, 0, 0, (.int 256), [], none)),
  (13, (0, .idiv, 1, 0, 0, .null, [], none)),
  (14, (3, .anewarray 15, 3, 11, 0, .null, [], none)),
  (17, (3, .putfield 17, 3, 2, 0, .null, [], none)),
  (20, (5, .return_, 1, 0, 0, .null, [], none))]]
/- 107: FlagMachine$Stretch.becomeStartOf(LFlagMachine$Stretch;I)V -/
noncomputable def tb_c107 : List (List (Nat × am_I)) := [[(0, (1, .aload_n 0, 1, 0, 0, .null, [], none)),
  (1, (4, .invokevirtual 58, 3, 109, 1, .null, [], none)),
  (4, (1, .aload_n 1, 1, 0, 0, .null, [], none)),
  (5, (3, .getfield 34, 3, 2, 1, .null, [], none)),
  (8, (1, .astore_n 3, 1, 0, 0, .null, [], none)),
  (9, (1, .aload_n 3, 1, 0, 0, .null, [], some [0, 1, 2, 3])),
  (10, (2, .ifnull 46, 3, 56, 0, .null, [], none)),
  (13, (1, .aload_n 3, 1, 0, 0, .null, [], none)),
  (14, (3, .getfield 61, 3, 11, 0, .null, [], none)),
  (17, (0, .sipush 256, 3, 0, 0, (.int 256), [], none)),
  (20, (0, .imul, 1, 0, 0, .null, [], none)),
  (21, (1, .istore 4, 2, 0, 0, .null, [], none)),
  (23, (1, .iload 4, 2, 0, 0, .null, [], none)),
  (25, (1, .iload_n 2, 1, 0, 0, .null, [], none)),
  (26, (2, .if_icmp .ge 22, 3, 48, 0, .null, [], none)),
  (29, (1, .aload_n 0, 1, 0, 0, .null, [], none)),
  (30, (1, .aload_n 1, 1, 0, 0, .null, [], none)),
  (31, (1, .iload 4, 2, 0, 0, .null, [], none))],
 [(33, (1, .iload 4, 2, 0, 0, .null, [], none)),
  (35, (0, .sipush 256, 3, 0, 0, (.int 256), [], none)),
  (38, (1, .iload_n 2, 1, 0, 0, .null, [], none)),
  (39, (1, .iload 4, 2, 0, 0, .null, [], none)),
  (41, (0, .isub, 1, 0, 0, .null, [], none)),
  (42, (3, .invokestatic 51, 3, 2, 0, .null, [], none)),
  (45, (4, .invokevirtual 65, 3, 113, 5, .null, [], none)),
  (48, (1, .aload_n 3, 1, 0, 0, .null, [], some [0, 1, 2, 3])),
  (49, (3, .getfield 44, 3, 11, 1, .null, [], none)),
  (52, (1, .astore_n 3, 1, 0, 0, .null, [], none)),
  (53, (2, .goto (-44), 3, 9, 0, .null, [], none)),
  (56, (5, .return_, 1, 0, 0, .null, [], none))]]
/- 108: FlagMachine$Stretch.byteAt(I)I -/
noncomputable def tb_c108 : List (List (Nat × am_I)) := [[(0, (1, .aload_n 0, 1, 0, 0, .null, [], none)),
  (1, (1, .iload_n 1, 1, 0, 0, .null, [], none)),
  (2, (4, .invokevirtual 23, 3, 114, 2, .null, [], none)),
  (5, (1, .astore_n 2, 1, 0, 0, .null, [], none)),
  (6, (1, .aload_n 2, 1, 0, 0, .null, [], none)),
  (7, (2, .ifnonnull 7, 3, 14, 0, .null, [], none)),
  (10, (0, .iconst 0, 1, 0, 0, (.int 0), [], none)),
  (11, (2, .goto 17, 3, 28, 0, .null, [], none)),
  (14, (1, .aload_n 2, 1, 0, 0, .null, [], none)),
  (15, (3, .getfield 27, 3, 11, 2, .null, [], none)),
  (18, (1, .iload_n 1, 1, 0, 0, .null, [], none)),
  (19, (0, .sipush 255, 3, 0, 0, (.int 255), [], none)),
  (22, (0, .iand, 1, 0, 0, .null, [], none)),
  (23, (3, .baload, 1, 1, 0, .null, [], none)),
  (24, (0, .sipush 255, 3, 0, 0, (.int 255), [], none)),
  (27, (0, .iand, 1, 0, 0, .null, [], none)),
  (28, (5, .ireturn, 1, 0, 0, .null, [], some []))]]
/- 109: FlagMachine$Stretch.clear()V -/
noncomputable def tb_c109 : List (List (Nat × am_I)) := [[(0, (1, .aload_n 0, 1, 0, 0, .null, [], none)),
  (1, (3, .getfield 34, 3, 2, 1, .null, [], none)),
  (4, (1, .astore_n 1, 1, 0, 0, .null, [], none)),
  (5, (1, .aload_n 1, 1, 0, 0, .null, [], some [1])),
  (6, (2, .ifnull 19, 3, 25, 0, .null, [], none)),
  (9, (1, .aload_n 1, 1, 0, 0, .null, [], none)),
  (10, (3, .getfield 27, 3, 11, 2, .null, [], none)),
  (13, (0, .iconst 0, 1, 0, 0, (.int 0), [], none)),
  (14, (4, .invokestatic 38, 3, 193, 2, .null, [], none)),
  (17, (1, .aload_n 1, 1, 0, 0, .null, [], none)),
  (18, (3, .getfield 44, 3, 11, 1, .null, [], none)),
  (21, (1, .astore_n 1, 1, 0, 0, .null, [], none)),
  (22, (2, .goto (-17), 3, 5, 0, .null, [], none)),
  (25, (5, .return_, 1, 0, 0, .null, [], none))]]
/- 110: FlagMachine$Stretch.clearFrom(II)V -/
noncomputable def tb_c110 : List (List (Nat × am_I)) := [[(0, (0, .iconst 0, 1, 0, 0, (.int 0), [], none)),
  (1, (1, .istore_n 3, 1, 0, 0, .null, [], none)),
  (2, (1, .iload_n 3, 1, 0, 0, .null, [], some [0, 1, 2, 3])),
  (3, (1, .iload_n 2, 1, 0, 0, .null, [], none)),
  (4, (2, .if_icmp .ge 34, 3, 38, 0, .null, [], none)),
  (7, (1, .iload_n 2, 1, 0, 0, .null, [], none)),
  (8, (1, .iload_n 3, 1, 0, 0, .null, [], none)),
  (9, (0, .isub, 1, 0, 0, .null, [], none)),
  (10, (1, .iload_n 1, 1, 0, 0, .null, [], none)),
  (11, (1, .iload_n 3, 1, 0, 0, .null, [], none)),
  (12, (0, .iadd, 1, 0, 0, .null, [], none)),
  (13, (4, .invokestatic 47, 3, 118, 1, .null, [], none)),
  (16, (3, .invokestatic 51, 3, 2, 0, .null, [], none)),
  (19, (1, .istore 4, 2, 0, 0, .null, [], none)),
  (21, (1, .aload_n 0, 1, 0, 0, .null, [], none)),
  (22, (1, .iload_n 1, 1, 0, 0, .null, [], none)),
  (23, (1, .iload_n 3, 1, 0, 0, .null, [], none)),
  (24, (0, .iadd, 1, 0, 0, .null, [], none)),
  (25, (1, .iload 4, 2, 0, 0, .null, [], none)),
  (27, (4, .invokevirtual 54, 3, 111, 3, .null, [], none)),
  (30, (1, .iload_n 3, 1, 0, 0, .null, [], none)),
  (31, (1, .iload 4, 2, 0, 0, .null, [], none))],
 [(33, (0, .iadd, 1, 0, 0, .null, [], none)),
  (34, (1, .istore_n 3, 1, 0, 0, .null, [], none)),
  (35, (2, .goto (-33), 3, 2, 0, .null, [], none)),
  (38, (5, .return_, 1, 0, 0, .null, [], none))]]
/- 111: FlagMachine$Stretch.clearPiece(II)V -/
noncomputable def tb_c111 : List (List (Nat × am_I)) := [[(0, (1, .aload_n 0, 1, 0, 0, .null, [], none)),
  (1, (1, .iload_n 1, 1, 0, 0, .null, [], none)),
  (2, (4, .invokevirtual 23, 3, 114, 2, .null, [], none)),
  (5, (1, .astore_n 3, 1, 0, 0, .null, [], none)),
  (6, (1, .aload_n 3, 1, 0, 0, .null, [], none)),
  (7, (2, .ifnull 24, 3, 31, 0, .null, [], none)),
  (10, (1, .iload_n 1, 1, 0, 0, .null, [], none)),
  (11, (0, .sipush 255, 3, 0, 0, (.int 255), [], none)),
  (14, (0, .iand, 1, 0, 0, .null, [], none)),
  (15, (1, .istore 4, 2, 0, 0, .null, [], none)),
  (17, (1, .aload_n 3, 1, 0, 0, .null, [], none)),
  (18, (3, .getfield 27, 3, 11, 2, .null, [], none)),
  (21, (1, .iload 4, 2, 0, 0, .null, [], none)),
  (23, (1, .iload 4, 2, 0, 0, .null, [], none)),
  (25, (1, .iload_n 2, 1, 0, 0, .null, [], none)),
  (26, (0, .iadd, 1, 0, 0, .null, [], none)),
  (27, (0, .iconst 0, 1, 0, 0, (.int 0), [], none)),
  (28, (4, .invokestatic 75, 3, 194, 4, .null, [], none)),
  (31, (5, .return_, 1, 0, 0, .null, [], some []))]]
/- 112: FlagMachine$Stretch.copyFrom(LFlagMachine$Stretch;III)V -/
noncomputable def tb_c112 : List (List (Nat × am_I)) := [[(0, (0, .iconst 0, 1, 0, 0, (.int 0), [], none)),
  (1, (1, .istore 5, 2, 0, 0, .null, [], none)),
  (3, (1, .iload 5, 2, 0, 0, .null, [], some [0, 1, 2, 3, 4, 5])),
  (5, (1, .iload 4, 2, 0, 0, .null, [], none)),
  (7, (2, .if_icmp .ge 59, 3, 66, 0, .null, [], none)),
  (10, (1, .iload_n 2, 1, 0, 0, .null, [], none)),
  (11, (1, .iload 5, 2, 0, 0, .null, [], none)),
  (13, (0, .iadd, 1, 0, 0, .null, [], none)),
  (14, (4, .invokestatic 47, 3, 118, 1, .null, [], none)),
  (17, (1, .iload_n 3, 1, 0, 0, .null, [], none)),
  (18, (1, .iload 5, 2, 0, 0, .null, [], none)),
  (20, (0, .iadd, 1, 0, 0, .null, [], none)),
  (21, (4, .invokestatic 47, 3, 118, 1, .null, [], none)),
  (24, (3, .invokestatic 51, 3, 2, 0, .null, [], none)),
  (27, (1, .istore 6, 2, 0, 0, .null, [], none)),
  (29, (1, .iload 4, 2, 0, 0, .null, [], none)),
  (31, (1, .iload 5, 2, 0, 0, .null, [], none))],
 [(33, (0, .isub, 1, 0, 0, .null, [], none)),
  (34, (1, .iload 6, 2, 0, 0, .null, [], none)),
  (36, (3, .invokestatic 51, 3, 2, 0, .null, [], none)),
  (39, (1, .istore 7, 2, 0, 0, .null, [], none)),
  (41, (1, .aload_n 0, 1, 0, 0, .null, [], none)),
  (42, (1, .aload_n 1, 1, 0, 0, .null, [], none)),
  (43, (1, .iload_n 2, 1, 0, 0, .null, [], none)),
  (44, (1, .iload 5, 2, 0, 0, .null, [], none)),
  (46, (0, .iadd, 1, 0, 0, .null, [], none)),
  (47, (1, .iload_n 3, 1, 0, 0, .null, [], none)),
  (48, (1, .iload 5, 2, 0, 0, .null, [], none)),
  (50, (0, .iadd, 1, 0, 0, .null, [], none)),
  (51, (1, .iload 7, 2, 0, 0, .null, [], none)),
  (53, (4, .invokevirtual 65, 3, 113, 5, .null, [], none)),
  (56, (1, .iload 5, 2, 0, 0, .null, [], none)),
  (58, (1, .iload 7, 2, 0, 0, .null, [], none)),
  (60, (0, .iadd, 1, 0, 0, .null, [], none)),
  (61, (1, .istore 5, 2, 0, 0, .null, [], none)),
  (63, (2, .goto (-60), 3, 3, 0, .null, [], none))],
 [(66, (5, .return_, 1, 0, 0, .null, [], none))]]
/- 113: FlagMachine$Stretch.copyPiece(LFlagMachine$Stretch;III)V -/
noncomputable def tb_c113 : List (List (Nat × am_I)) := [[(0, (1, .aload_n 1, 1, 0, 0, .null, [], none)),
  (1, (1, .iload_n 2, 1, 0, 0, .null, [], none)),
  (2, (4, .invokevirtual 23, 3, 114, 2, .null, [], none)),
  (5, (1, .astore 5, 2, 0, 0, .null, [], none)),
  (7, (1, .aload 5, 2, 0, 0, .null, [], none)),
  (9, (2, .ifnonnull 7, 3, 16, 0, .null, [], none)),
  (12, (0, .aconst_null, 1, 0, 0, .null, [], none)),
  (13, (2, .goto 8, 3, 21, 0, .null, [], none)),
  (16, (1, .aload_n 0, 1, 0, 0, .null, [], none)),
  (17, (1, .iload_n 3, 1, 0, 0, .null, [], none)),
  (18, (4, .invokevirtual 31, 3, 115, 2, .null, [], none)),
  (21, (1, .astore 6, 2, 0, 0, .null, [], some [0, 2, 3, 4, 5])),
  (23, (1, .aload 5, 2, 0, 0, .null, [], none)),
  (25, (2, .ifnull 8, 3, 33, 0, .null, [], none)),
  (28, (1, .aload 6, 2, 0, 0, .null, [], none)),
  (30, (2, .ifnonnull 11, 3, 41, 0, .null, [], none))],
 [(33, (1, .aload_n 0, 1, 0, 0, .null, [], some [0, 3, 4])),
  (34, (1, .iload_n 3, 1, 0, 0, .null, [], none)),
  (35, (1, .iload 4, 2, 0, 0, .null, [], none)),
  (37, (4, .invokevirtual 54, 3, 111, 3, .null, [], none)),
  (40, (5, .return_, 1, 0, 0, .null, [], none)),
  (41, (0, .sipush 255, 3, 0, 0, (.int 255), [], none)),
  (44, (1, .istore 7, 2, 0, 0, .null, [], none)),
  (46, (1, .aload 5, 2, 0, 0, .null, [], none)),
  (48, (3, .getfield 27, 3, 11, 2, .null, [], none)),
  (51, (1, .iload_n 2, 1, 0, 0, .null, [], none)),
  (52, (1, .iload 7, 2, 0, 0, .null, [], none)),
  (54, (0, .iand, 1, 0, 0, .null, [], none)),
  (55, (1, .aload 6, 2, 0, 0, .null, [], none)),
  (57, (3, .getfield 27, 3, 11, 2, .null, [], none)),
  (60, (1, .iload_n 3, 1, 0, 0, .null, [], none)),
  (61, (1, .iload 7, 2, 0, 0, .null, [], none)),
  (63, (0, .iand, 1, 0, 0, .null, [], none))],
 [(64, (1, .iload 4, 2, 0, 0, .null, [], none)),
  (66, (3, .invokestatic 69, 3, 0, 0, .null, [], none)),
  (69, (5, .return_, 1, 0, 0, .null, [], none))]]
/- 114: FlagMachine$Stretch.pageAt(I)LFlagMachine$Page; -/
noncomputable def tb_c114 : List (List (Nat × am_I)) := [[(0, (1, .iload_n 1, 1, 0, 0, .null, [], none)),
  (1, (0, .sipush 256, 3, 0, 0, (.int 256), [], none)),
  (4, (0, .idiv, 1, 0, 0, .null, [], none)),
  (5, (1, .istore_n 2, 1, 0, 0, .null, [], none)),
  (6, (1, .iload_n 1, 1, 0, 0, .null, [], none)),
  (7, (2, .ifCond .lt 12, 3, 19, 0, .null, [], none)),
  (10, (1, .iload_n 2, 1, 0, 0, .null, [], none)),
  (11, (1, .aload_n 0, 1, 0, 0, .null, [], none)),
  (12, (3, .getfield 17, 3, 2, 0, .null, [], none)),
  (15, (3, .arraylength, 1, 15, 0, .null, [], none)),
  (16, (2, .if_icmp .lt 7, 3, 23, 0, .null, [], none)),
  (19, (0, .aconst_null, 1, 0, 0, .null, [], some [])),
  (20, (2, .goto 9, 3, 29, 0, .null, [], none)),
  (23, (1, .aload_n 0, 1, 0, 0, .null, [], none)),
  (24, (3, .getfield 17, 3, 2, 0, .null, [], none)),
  (27, (1, .iload_n 2, 1, 0, 0, .null, [], none)),
  (28, (3, .aaload, 1, 11, 0, .null, [], none)),
  (29, (5, .areturn, 1, 0, 0, .null, [], some []))]]
/- 115: FlagMachine$Stretch.pageFor(I)LFlagMachine$Page; -/
noncomputable def tb_c115 : List (List (Nat × am_I)) := [[(0, (1, .iload_n 1, 1, 0, 0, .null, [], none)),
  (1, (0, .sipush 256, 3, 0, 0, (.int 256), [], none)),
  (4, (0, .idiv, 1, 0, 0, .null, [], none)),
  (5, (1, .istore_n 2, 1, 0, 0, .null, [], none)),
  (6, (1, .iload_n 1, 1, 0, 0, .null, [], none)),
  (7, (2, .ifCond .lt 12, 3, 19, 0, .null, [], none)),
  (10, (1, .iload_n 2, 1, 0, 0, .null, [], none)),
  (11, (1, .aload_n 0, 1, 0, 0, .null, [], none)),
  (12, (3, .getfield 17, 3, 2, 0, .null, [], none)),
  (15, (3, .arraylength, 1, 15, 0, .null, [], none)),
  (16, (2, .if_icmp .lt 5, 3, 21, 0, .null, [], none)),
  (19, (0, .aconst_null, 1, 0, 0, .null, [], some [])),
  (20, (5, .areturn, 1, 0, 0, .null, [], none)),
  (21, (1, .aload_n 0, 1, 0, 0, .null, [], none)),
  (22, (3, .getfield 17, 3, 2, 0, .null, [], none)),
  (25, (1, .iload_n 2, 1, 0, 0, .null, [], none)),
  (26, (3, .aaload, 1, 11, 0, .null, [], none)),
  (27, (2, .ifnonnull 29, 3, 56, 0, .null, [], none)),
  (30, (1, .aload_n 0, 1, 0, 0, .null, [], none)),
  (31, (3, .new 15, 3, 11, 0, .null, [], none))],
 [(34, (0, .dup, 1, 0, 0, .null, [], none)),
  (35, (1, .iload_n 2, 1, 0, 0, .null, [], none)),
  (36, (1, .aload_n 0, 1, 0, 0, .null, [], none)),
  (37, (3, .getfield 34, 3, 2, 1, .null, [], none)),
  (40, (4, .invokespecial 78, 3, 87, 3, .null, [], none)),
  (43, (3, .putfield 34, 3, 2, 1, .null, [], none)),
  (46, (1, .aload_n 0, 1, 0, 0, .null, [], none)),
  (47, (3, .getfield 17, 3, 2, 0, .null, [], none)),
  (50, (1, .iload_n 2, 1, 0, 0, .null, [], none)),
  (51, (1, .aload_n 0, 1, 0, 0, .null, [], none)),
  (52, (3, .getfield 34, 3, 2, 1, .null, [], none)),
  (55, (3, .aastore, 1, 11, 0, .null, [], none)),
  (56, (1, .aload_n 0, 1, 0, 0, .null, [], some [0, 2])),
  (57, (3, .getfield 17, 3, 2, 0, .null, [], none)),
  (60, (1, .iload_n 2, 1, 0, 0, .null, [], none)),
  (61, (3, .aaload, 1, 11, 0, .null, [], none)),
  (62, (5, .areturn, 1, 0, 0, .null, [], none))]]
/- 116: FlagMachine$Stretch.putByte(II)V -/
noncomputable def tb_c116 : List (List (Nat × am_I)) := [[(0, (1, .iload_n 2, 1, 0, 0, .null, [], none)),
  (1, (2, .ifCond .ne 11, 3, 12, 0, .null, [], none)),
  (4, (1, .aload_n 0, 1, 0, 0, .null, [], none)),
  (5, (1, .iload_n 1, 1, 0, 0, .null, [], none)),
  (6, (4, .invokevirtual 23, 3, 114, 2, .null, [], none)),
  (9, (2, .goto 8, 3, 17, 0, .null, [], none)),
  (12, (1, .aload_n 0, 1, 0, 0, .null, [], none)),
  (13, (1, .iload_n 1, 1, 0, 0, .null, [], none)),
  (14, (4, .invokevirtual 31, 3, 115, 2, .null, [], none)),
  (17, (1, .astore_n 3, 1, 0, 0, .null, [], some [1, 2])),
  (18, (1, .aload_n 3, 1, 0, 0, .null, [], none)),
  (19, (2, .ifnull 15, 3, 34, 0, .null, [], none)),
  (22, (1, .aload_n 3, 1, 0, 0, .null, [], none)),
  (23, (3, .getfield 27, 3, 11, 2, .null, [], none)),
  (26, (1, .iload_n 1, 1, 0, 0, .null, [], none)),
  (27, (0, .sipush 255, 3, 0, 0, (.int 255), [], none)),
  (30, (0, .iand, 1, 0, 0, .null, [], none)),
  (31, (1, .iload_n 2, 1, 0, 0, .null, [], none))],
 [(32, (0, .i2b, 1, 0, 0, .null, [], none)),
  (33, (3, .bastore, 1, 1, 0, .null, [], none)),
  (34, (5, .return_, 1, 0, 0, .null, [], some []))]]
/- 117: FlagMachine$Stretch.putWord(IIJ)V -/
noncomputable def tb_c117 : List (List (Nat × am_I)) := [[(0, (0, .iconst 0, 1, 0, 0, (.int 0), [], none)),
  (1, (1, .istore 5, 2, 0, 0, .null, [], none)),
  (3, (1, .iload 5, 2, 0, 0, .null, [], some [0, 1, 2, 3, 5])),
  (5, (1, .iload_n 2, 1, 0, 0, .null, [], none)),
  (6, (2, .if_icmp .ge 47, 3, 53, 0, .null, [], none)),
  (9, (1, .aload_n 0, 1, 0, 0, .null, [], none)),
  (10, (1, .iload_n 1, 1, 0, 0, .null, [], none)),
  (11, (1, .iload 5, 2, 0, 0, .null, [], none)),
  (13, (0, .iadd, 1, 0, 0, .null, [], none)),
  (14, (4, .invokevirtual 31, 3, 115, 2, .null, [], none)),
  (17, (1, .astore 6, 2, 0, 0, .null, [], none)),
  (19, (1, .aload 6, 2, 0, 0, .null, [], none)),
  (21, (2, .ifnull 26, 3, 47, 0, .null, [], none)),
  (24, (1, .aload 6, 2, 0, 0, .null, [], none)),
  (26, (3, .getfield 27, 3, 11, 2, .null, [], none)),
  (29, (1, .iload_n 1, 1, 0, 0, .null, [], none)),
  (30, (1, .iload 5, 2, 0, 0, .null, [], none))],
 [(32, (0, .iadd, 1, 0, 0, .null, [], none)),
  (33, (0, .sipush 255, 3, 0, 0, (.int 255), [], none)),
  (36, (0, .iand, 1, 0, 0, .null, [], none)),
  (37, (1, .lload_n 3, 1, 0, 0, .null, [], none)),
  (38, (0, .bipush 8, 2, 0, 0, (.int 8), [], none)),
  (40, (1, .iload 5, 2, 0, 0, .null, [], none)),
  (42, (0, .imul, 1, 0, 0, .null, [], none)),
  (43, (0, .lushr, 1, 0, 0, .null, [], none)),
  (44, (0, .l2i, 1, 0, 0, .null, [], none)),
  (45, (0, .i2b, 1, 0, 0, .null, [], none)),
  (46, (3, .bastore, 1, 1, 0, .null, [], none)),
  (47, (1, .iinc 5 1, 3, 0, 0, (.int 1), [], some [0, 1, 2, 3, 5])),
  (50, (2, .goto (-47), 3, 3, 0, .null, [], none)),
  (53, (5, .return_, 1, 0, 0, .null, [], none))]]
/- 118: FlagMachine$Stretch.restOfPage(I)I -/
noncomputable def tb_c118 : List (List (Nat × am_I)) := [[(0, (0, .sipush 256, 3, 0, 0, (.int 256), [], none)),
  (3, (1, .iload_n 0, 1, 0, 0, .null, [], none)),
  (4, (0, .sipush 255, 3, 0, 0, (.int 255), [], none)),
  (7, (0, .iand, 1, 0, 0, .null, [], none)),
  (8, (0, .isub, 1, 0, 0, .null, [], none)),
  (9, (5, .ireturn, 1, 0, 0, .null, [], none))]]
/- 119: FlagMachine$Stretch.wordAt(II)J -/
noncomputable def tb_c119 : List (List (Nat × am_I)) := [[(0, (0, .lconst 0, 1, 0, 0, (.long 0), [], none)),
  (1, (1, .lstore_n 3, 1, 0, 0, .null, [], none)),
  (2, (1, .iload_n 2, 1, 0, 0, .null, [], none)),
  (3, (0, .iconst 1, 1, 0, 0, (.int 1), [], none)),
  (4, (0, .isub, 1, 0, 0, .null, [], none)),
  (5, (1, .istore 5, 2, 0, 0, .null, [], none)),
  (7, (1, .iload 5, 2, 0, 0, .null, [], some [0, 1, 3, 5])),
  (9, (2, .ifCond .lt 53, 3, 62, 0, .null, [], none)),
  (12, (1, .aload_n 0, 1, 0, 0, .null, [], none)),
  (13, (1, .iload_n 1, 1, 0, 0, .null, [], none)),
  (14, (1, .iload 5, 2, 0, 0, .null, [], none)),
  (16, (0, .iadd, 1, 0, 0, .null, [], none)),
  (17, (4, .invokevirtual 23, 3, 114, 2, .null, [], none)),
  (20, (1, .astore 6, 2, 0, 0, .null, [], none)),
  (22, (1, .lload_n 3, 1, 0, 0, .null, [], none)),
  (23, (0, .bipush 8, 2, 0, 0, (.int 8), [], none)),
  (25, (0, .lshl, 1, 0, 0, .null, [], none)),
  (26, (1, .aload 6, 2, 0, 0, .null, [], none)),
  (28, (2, .ifnonnull 7, 3, 35, 0, .null, [], none)),
  (31, (0, .iconst 0, 1, 0, 0, (.int 0), [], none))],
 [(32, (2, .goto 21, 3, 53, 0, .null, [], none)),
  (35, (1, .aload 6, 2, 0, 0, .null, [], none)),
  (37, (3, .getfield 27, 3, 11, 2, .null, [], none)),
  (40, (1, .iload_n 1, 1, 0, 0, .null, [], none)),
  (41, (1, .iload 5, 2, 0, 0, .null, [], none)),
  (43, (0, .iadd, 1, 0, 0, .null, [], none)),
  (44, (0, .sipush 255, 3, 0, 0, (.int 255), [], none)),
  (47, (0, .iand, 1, 0, 0, .null, [], none)),
  (48, (3, .baload, 1, 1, 0, .null, [], none)),
  (49, (0, .sipush 255, 3, 0, 0, (.int 255), [], none)),
  (52, (0, .iand, 1, 0, 0, .null, [], none)),
  (53, (0, .i2l, 1, 0, 0, .null, [], some [0, 1, 5])),
  (54, (0, .lor, 1, 0, 0, .null, [], none)),
  (55, (1, .lstore_n 3, 1, 0, 0, .null, [], none)),
  (56, (1, .iinc 5 (-1), 3, 0, 0, (.int (-1)), [], none)),
  (59, (2, .goto (-52), 3, 7, 0, .null, [], none)),
  (62, (1, .lload_n 3, 1, 0, 0, .null, [], none)),
  (63, (5, .lreturn, 1, 0, 0, .null, [], none))]]
/- 120: FlagMachine$Sums.<init>(LFlagMachine$Core;)V -/
noncomputable def tb_c120 : List (List (Nat × am_I)) := [[(0, (1, .aload_n 0, 1, 0, 0, .null, [], none)),
  (1, (3, .invokespecial 3, 3, 0, 0, .null, [], none)),
  (4, (1, .aload_n 0, 1, 0, 0, .null, [], none)),
  (5, (1, .aload_n 1, 1, 0, 0, .null, [], none)),
  (6, (3, .putfield 9, 3, 6, 0, .null, [], none)),
  (9, (1, .aload_n 0, 1, 0, 0, .null, [], none)),
  (10, (1, .aload_n 1, 1, 0, 0, .null, [], none)),
  (11, (3, .getfield 15, 3, 3, 1, .null, [], none)),
  (14, (3, .putfield 21, 3, 6, 1, .null, [], none)),
  (17, (1, .aload_n 0, 1, 0, 0, .null, [], none)),
  (18, (1, .aload_n 1, 1, 0, 0, .null, [], none)),
  (19, (3, .getfield 22, 3, 3, 3, .null, [], none)),
  (22, (3, .putfield 26, 3, 6, 2, .null, [], none)),
  (25, (5, .return_, 1, 0, 0, .null, [], none))]]
/- 121: FlagMachine$Sums.compareAndExchange()V -/
noncomputable def tb_c121 : List (List (Nat × am_I)) := [[(0, (1, .aload_n 0, 1, 0, 0, .null, [], none)),
  (1, (3, .getfield 26, 3, 6, 2, .null, [], none)),
  (4, (3, .getfield 27, 3, 1, 1, .null, [], none)),
  (7, (1, .istore_n 1, 1, 0, 0, .null, [], none)),
  (8, (1, .aload_n 0, 1, 0, 0, .null, [], none)),
  (9, (3, .getfield 9, 3, 6, 0, .null, [], none)),
  (12, (0, .iconst 0, 1, 0, 0, (.int 0), [], none)),
  (13, (1, .iload_n 1, 1, 0, 0, .null, [], none)),
  (14, (4, .invokevirtual 79, 3, 35, 3, .null, [], none)),
  (17, (1, .lstore_n 2, 1, 0, 0, .null, [], none)),
  (18, (1, .aload_n 0, 1, 0, 0, .null, [], none)),
  (19, (3, .getfield 9, 3, 6, 0, .null, [], none)),
  (22, (0, .iconst 0, 1, 0, 0, (.int 0), [], none)),
  (23, (1, .iload_n 1, 1, 0, 0, .null, [], none)),
  (24, (4, .invokevirtual 33, 3, 32, 3, .null, [], none)),
  (27, (1, .lstore 4, 2, 0, 0, .null, [], none)),
  (29, (1, .aload_n 0, 1, 0, 0, .null, [], none)),
  (30, (3, .getfield 9, 3, 6, 0, .null, [], none))],
 [(33, (3, .getfield 37, 3, 3, 7, .null, [], none)),
  (36, (2, .ifCond .eq 4, 3, 40, 0, .null, [], none)),
  (39, (5, .return_, 1, 0, 0, .null, [], none)),
  (40, (1, .lload_n 2, 1, 0, 0, .null, [], none)),
  (41, (1, .lload 4, 2, 0, 0, .null, [], none)),
  (43, (0, .lcmp, 1, 0, 0, .null, [], none)),
  (44, (2, .ifCond .eq 17, 3, 61, 0, .null, [], none)),
  (47, (1, .aload_n 0, 1, 0, 0, .null, [], none)),
  (48, (3, .getfield 9, 3, 6, 0, .null, [], none)),
  (51, (0, .iconst 0, 1, 0, 0, (.int 0), [], none)),
  (52, (1, .iload_n 1, 1, 0, 0, .null, [], none)),
  (53, (1, .lload 4, 2, 0, 0, .null, [], none)),
  (55, (4, .invokevirtual 82, 3, 37, 4, .null, [], none)),
  (58, (2, .goto 25, 3, 83, 0, .null, [], none)),
  (61, (1, .aload_n 0, 1, 0, 0, .null, [], none)),
  (62, (3, .getfield 9, 3, 6, 0, .null, [], none))],
 [(65, (0, .iconst 0, 1, 0, 0, (.int 0), [], none)),
  (66, (1, .iload_n 1, 1, 0, 0, .null, [], none)),
  (67, (1, .aload_n 0, 1, 0, 0, .null, [], none)),
  (68, (3, .getfield 9, 3, 6, 0, .null, [], none)),
  (71, (0, .iconst 1, 1, 0, 0, (.int 1), [], none)),
  (72, (1, .iload_n 1, 1, 0, 0, .null, [], none)),
  (73, (4, .invokevirtual 33, 3, 32, 3, .null, [], none)),
  (76, (4, .invokevirtual 48, 3, 42, 4, .null, [], none)),
  (79, (2, .ifCond .ne 4, 3, 83, 0, .null, [], none)),
  (82, (5, .return_, 1, 0, 0, .null, [], none)),
  (83, (1, .aload_n 0, 1, 0, 0, .null, [], some [0, 1, 2, 4])),
  (84, (3, .getfield 21, 3, 6, 1, .null, [], none)),
  (87, (1, .lload_n 2, 1, 0, 0, .null, [], none)),
  (88, (1, .lload 4, 2, 0, 0, .null, [], none)),
  (90, (1, .lload_n 2, 1, 0, 0, .null, [], none)),
  (91, (1, .lload 4, 2, 0, 0, .null, [], none)),
  (93, (0, .lsub, 1, 0, 0, .null, [], none)),
  (94, (1, .iload_n 1, 1, 0, 0, .null, [], none)),
  (95, (4, .invokestatic 44, 3, 7, 1, .null, [], none))],
 [(98, (0, .land, 1, 0, 0, .null, [], none)),
  (99, (1, .iload_n 1, 1, 0, 0, .null, [], none)),
  (100, (4, .invokevirtual 72, 3, 49, 5, .null, [], none)),
  (103, (5, .return_, 1, 0, 0, .null, [], none))]]
/- 122: FlagMachine$Sums.perform(I)V -/
noncomputable def tb_c122 : List (List (Nat × am_I)) := [[(0, (1, .aload_n 0, 1, 0, 0, .null, [], none)),
  (1, (3, .getfield 26, 3, 6, 2, .null, [], none)),
  (4, (3, .getfield 27, 3, 1, 1, .null, [], none)),
  (7, (1, .istore_n 2, 1, 0, 0, .null, [], none)),
  (8, (1, .aload_n 0, 1, 0, 0, .null, [], none)),
  (9, (3, .getfield 9, 3, 6, 0, .null, [], none)),
  (12, (0, .iconst 0, 1, 0, 0, (.int 0), [], none)),
  (13, (1, .iload_n 2, 1, 0, 0, .null, [], none)),
  (14, (4, .invokevirtual 33, 3, 32, 3, .null, [], none)),
  (17, (1, .lstore_n 3, 1, 0, 0, .null, [], none)),
  (18, (1, .aload_n 0, 1, 0, 0, .null, [], none)),
  (19, (3, .getfield 9, 3, 6, 0, .null, [], none)),
  (22, (0, .iconst 1, 1, 0, 0, (.int 1), [], none)),
  (23, (1, .iload_n 2, 1, 0, 0, .null, [], none)),
  (24, (4, .invokevirtual 33, 3, 32, 3, .null, [], none)),
  (27, (1, .lstore 5, 2, 0, 0, .null, [], none)),
  (29, (1, .aload_n 0, 1, 0, 0, .null, [], none)),
  (30, (3, .getfield 9, 3, 6, 0, .null, [], none))],
 [(33, (3, .getfield 37, 3, 3, 7, .null, [], none)),
  (36, (2, .ifCond .eq 4, 3, 40, 0, .null, [], none)),
  (39, (5, .return_, 1, 0, 0, .null, [], none)),
  (40, (1, .aload_n 0, 1, 0, 0, .null, [], none)),
  (41, (1, .iload_n 1, 1, 0, 0, .null, [], none)),
  (42, (1, .lload_n 3, 1, 0, 0, .null, [], none)),
  (43, (1, .lload 5, 2, 0, 0, .null, [], none)),
  (45, (4, .invokevirtual 40, 3, 123, 4, .null, [], none)),
  (48, (1, .iload_n 2, 1, 0, 0, .null, [], none)),
  (49, (4, .invokestatic 44, 3, 7, 1, .null, [], none)),
  (52, (0, .land, 1, 0, 0, .null, [], none)),
  (53, (1, .lstore 7, 2, 0, 0, .null, [], none)),
  (55, (1, .iload_n 1, 1, 0, 0, .null, [], none)),
  (56, (0, .bipush 7, 2, 0, 0, (.int 7), [], none)),
  (58, (2, .if_icmp .eq 13, 3, 71, 0, .null, [], none)),
  (61, (1, .iload_n 1, 1, 0, 0, .null, [], none)),
  (62, (0, .bipush 9, 2, 0, 0, (.int 9), [], none))],
 [(64, (2, .if_icmp .eq 7, 3, 71, 0, .null, [], none)),
  (67, (0, .iconst 1, 1, 0, 0, (.int 1), [], none)),
  (68, (2, .goto 4, 3, 72, 0, .null, [], none)),
  (71, (0, .iconst 0, 1, 0, 0, (.int 0), [], some [0, 1, 2, 3, 5, 7])),
  (72, (1, .istore 9, 2, 0, 0, .null, [], some [0, 1, 2, 3, 5, 7])),
  (74, (1, .iload 9, 2, 0, 0, .null, [], none)),
  (76, (2, .ifCond .eq 18, 3, 94, 0, .null, [], none)),
  (79, (1, .aload_n 0, 1, 0, 0, .null, [], none)),
  (80, (3, .getfield 9, 3, 6, 0, .null, [], none)),
  (83, (0, .iconst 0, 1, 0, 0, (.int 0), [], none)),
  (84, (1, .iload_n 2, 1, 0, 0, .null, [], none)),
  (85, (1, .lload 7, 2, 0, 0, .null, [], none)),
  (87, (4, .invokevirtual 48, 3, 42, 4, .null, [], none)),
  (90, (2, .ifCond .ne 4, 3, 94, 0, .null, [], none)),
  (93, (5, .return_, 1, 0, 0, .null, [], none)),
  (94, (1, .iload_n 1, 1, 0, 0, .null, [], some [0, 1, 2, 3, 5, 7])),
  (95, (0, .bipush 48, 2, 0, 0, (.int 48), [], none))],
 [(97, (2, .if_icmp .ne 24, 3, 121, 0, .null, [], none)),
  (100, (1, .aload_n 0, 1, 0, 0, .null, [], none)),
  (101, (3, .getfield 26, 3, 6, 2, .null, [], none)),
  (104, (4, .invokevirtual 52, 3, 62, 1, .null, [], none)),
  (107, (2, .ifCond .eq 14, 3, 121, 0, .null, [], none)),
  (110, (1, .aload_n 0, 1, 0, 0, .null, [], none)),
  (111, (3, .getfield 9, 3, 6, 0, .null, [], none)),
  (114, (0, .iconst 1, 1, 0, 0, (.int 1), [], none)),
  (115, (1, .iload_n 2, 1, 0, 0, .null, [], none)),
  (116, (1, .lload_n 3, 1, 0, 0, .null, [], none)),
  (117, (4, .invokevirtual 48, 3, 42, 4, .null, [], none)),
  (120, (0, .pop, 1, 0, 0, .null, [], none)),
  (121, (1, .aload_n 0, 1, 0, 0, .null, [], some [0, 1, 3, 5, 7])),
  (122, (1, .iload_n 1, 1, 0, 0, .null, [], none)),
  (123, (1, .lload_n 3, 1, 0, 0, .null, [], none)),
  (124, (1, .lload 5, 2, 0, 0, .null, [], none)),
  (126, (1, .lload 7, 2, 0, 0, .null, [], none))],
 [(128, (4, .invokevirtual 56, 3, 124, 5, .null, [], none)),
  (131, (5, .return_, 1, 0, 0, .null, [], none))]]
/- 123: FlagMachine$Sums.resultOf(IJJ)J -/
noncomputable def tb_c123 : List (List (Nat × am_I)) := [[(0, (1, .aload_n 0, 1, 0, 0, .null, [], none)),
  (1, (3, .getfield 21, 3, 6, 1, .null, [], none)),
  (4, (3, .getfield 60, 3, 4, 0, .null, [], none)),
  (7, (2, .ifCond .eq 7, 3, 14, 0, .null, [], none)),
  (10, (0, .lconst 1, 1, 0, 0, (.long 1), [], none)),
  (11, (2, .goto 4, 3, 15, 0, .null, [], none)),
  (14, (0, .lconst 0, 1, 0, 0, (.long 0), [], none)),
  (15, (1, .lstore 6, 2, 0, 0, .null, [], some [1, 2, 4])),
  (17, (1, .iload_n 1, 1, 0, 0, .null, [], none)),
  (18, (2, .tableswitch 263 0 48 #[210, 215, 220, 228, 236, 263, 241, 263, 263, 236, 263, 263, 263, 263, 263, 246, 252, 263, 263, 263, 263, 255, 259, 263, 263, 263, 263, 263, 263, 263, 263, 263, 263, 263, 263, 263, 263, 263, 263, 263, 263, 263, 263, 263, 263, 263, 263, 263, 210], 210, 281, 0, .null, [(0, 228), (1, 233), (2, 238), (3, 246), (4, 254), (5, 281), (6, 259), (7, 281), (8, 281), (9, 254), (10, 281), (11, 281), (12, 281), (13, 281), (14, 281), (15, 264), (16, 270), (17, 281), (18, 281), (19, 281), (20, 281), (21, 273), (22, 277), (23, 281), (24, 281), (25, 281), (26, 281), (27, 281), (28, 281), (29, 281), (30, 281), (31, 281), (32, 281), (33, 281), (34, 281), (35, 281), (36, 281), (37, 281), (38, 281), (39, 281), (40, 281), (41, 281), (42, 281), (43, 281), (44, 281), (45, 281), (46, 281), (47, 281), (48, 228)], none))],
 [],
 [],
 [],
 [],
 [],
 [],
 [(228, (1, .lload_n 2, 1, 0, 0, .null, [], some [2, 4])),
  (229, (1, .lload 4, 2, 0, 0, .null, [], none)),
  (231, (0, .ladd, 1, 0, 0, .null, [], none)),
  (232, (5, .lreturn, 1, 0, 0, .null, [], none)),
  (233, (1, .lload_n 2, 1, 0, 0, .null, [], none)),
  (234, (1, .lload 4, 2, 0, 0, .null, [], none)),
  (236, (0, .lor, 1, 0, 0, .null, [], none)),
  (237, (5, .lreturn, 1, 0, 0, .null, [], none)),
  (238, (1, .lload_n 2, 1, 0, 0, .null, [], none)),
  (239, (1, .lload 4, 2, 0, 0, .null, [], none)),
  (241, (0, .ladd, 1, 0, 0, .null, [], none)),
  (242, (1, .lload 6, 2, 0, 0, .null, [], none)),
  (244, (0, .ladd, 1, 0, 0, .null, [], none)),
  (245, (5, .lreturn, 1, 0, 0, .null, [], none)),
  (246, (1, .lload_n 2, 1, 0, 0, .null, [], none)),
  (247, (1, .lload 4, 2, 0, 0, .null, [], none)),
  (249, (0, .lsub, 1, 0, 0, .null, [], none)),
  (250, (1, .lload 6, 2, 0, 0, .null, [], none)),
  (252, (0, .lsub, 1, 0, 0, .null, [], none)),
  (253, (5, .lreturn, 1, 0, 0, .null, [], none)),
  (254, (1, .lload_n 2, 1, 0, 0, .null, [], some [2, 4])),
  (255, (1, .lload 4, 2, 0, 0, .null, [], none))],
 [(257, (0, .land, 1, 0, 0, .null, [], none)),
  (258, (5, .lreturn, 1, 0, 0, .null, [], none)),
  (259, (1, .lload_n 2, 1, 0, 0, .null, [], none)),
  (260, (1, .lload 4, 2, 0, 0, .null, [], none)),
  (262, (0, .lxor, 1, 0, 0, .null, [], none)),
  (263, (5, .lreturn, 1, 0, 0, .null, [], none)),
  (264, (1, .lload_n 2, 1, 0, 0, .null, [], none)),
  (265, (0, .ldc2_w 66, 3, 0, 0, (.long (-1)), [], none)),
  (268, (0, .lxor, 1, 0, 0, .null, [], none)),
  (269, (5, .lreturn, 1, 0, 0, .null, [], none)),
  (270, (1, .lload_n 2, 1, 0, 0, .null, [], none)),
  (271, (0, .lneg, 1, 0, 0, .null, [], none)),
  (272, (5, .lreturn, 1, 0, 0, .null, [], none)),
  (273, (1, .lload_n 2, 1, 0, 0, .null, [], none)),
  (274, (0, .lconst 1, 1, 0, 0, (.long 1), [], none)),
  (275, (0, .ladd, 1, 0, 0, .null, [], none)),
  (276, (5, .lreturn, 1, 0, 0, .null, [], none)),
  (277, (1, .lload_n 2, 1, 0, 0, .null, [], none)),
  (278, (0, .lconst 1, 1, 0, 0, (.long 1), [], none)),
  (279, (0, .lsub, 1, 0, 0, .null, [], none)),
  (280, (5, .lreturn, 1, 0, 0, .null, [], none)),
  (281, (1, .lload_n 2, 1, 0, 0, .null, [], some [2, 4])),
  (282, (1, .lload 4, 2, 0, 0, .null, [], none)),
  (284, (0, .lsub, 1, 0, 0, .null, [], none)),
  (285, (5, .lreturn, 1, 0, 0, .null, [], none))]]
/- 124: FlagMachine$Sums.tellFlags(IJJJ)V -/
noncomputable def tb_c124 : List (List (Nat × am_I)) := [[(0, (1, .aload_n 0, 1, 0, 0, .null, [], none)),
  (1, (3, .getfield 26, 3, 6, 2, .null, [], none)),
  (4, (3, .getfield 27, 3, 1, 1, .null, [], none)),
  (7, (1, .istore 8, 2, 0, 0, .null, [], none)),
  (9, (1, .aload_n 0, 1, 0, 0, .null, [], none)),
  (10, (3, .getfield 21, 3, 6, 1, .null, [], none)),
  (13, (3, .getfield 60, 3, 4, 0, .null, [], none)),
  (16, (1, .istore 9, 2, 0, 0, .null, [], none)),
  (18, (1, .iload_n 1, 1, 0, 0, .null, [], none)),
  (19, (2, .lookupswitch 192 #[(0, 89), (2, 89), (3, 106), (5, 106), (7, 106), (15, 123), (16, 126), (21, 142), (22, 167), (48, 89)], 89, 211, 0, .null, [(0, 108), (2, 108), (3, 125), (5, 125), (7, 125), (15, 142), (16, 145), (21, 161), (22, 186), (48, 108)], none))],
 [],
 [],
 [(108, (1, .aload_n 0, 1, 0, 0, .null, [], some [0, 2, 4, 6, 8])),
  (109, (3, .getfield 21, 3, 6, 1, .null, [], none)),
  (112, (1, .lload_n 2, 1, 0, 0, .null, [], none)),
  (113, (1, .lload 4, 2, 0, 0, .null, [], none)),
  (115, (1, .lload 6, 2, 0, 0, .null, [], none)),
  (117, (1, .iload 8, 2, 0, 0, .null, [], none)),
  (119, (4, .invokevirtual 68, 3, 52, 5, .null, [], none)),
  (122, (2, .goto 100, 3, 222, 0, .null, [], none)),
  (125, (1, .aload_n 0, 1, 0, 0, .null, [], some [0, 2, 4, 6, 8])),
  (126, (3, .getfield 21, 3, 6, 1, .null, [], none))],
 [(129, (1, .lload_n 2, 1, 0, 0, .null, [], none)),
  (130, (1, .lload 4, 2, 0, 0, .null, [], none)),
  (132, (1, .lload 6, 2, 0, 0, .null, [], none)),
  (134, (1, .iload 8, 2, 0, 0, .null, [], none)),
  (136, (4, .invokevirtual 72, 3, 49, 5, .null, [], none)),
  (139, (2, .goto 83, 3, 222, 0, .null, [], none)),
  (142, (2, .goto 80, 3, 222, 0, .null, [], none)),
  (145, (1, .aload_n 0, 1, 0, 0, .null, [], none)),
  (146, (3, .getfield 21, 3, 6, 1, .null, [], none)),
  (149, (0, .lconst 0, 1, 0, 0, (.long 0), [], none)),
  (150, (1, .lload_n 2, 1, 0, 0, .null, [], none)),
  (151, (1, .lload 6, 2, 0, 0, .null, [], none)),
  (153, (1, .iload 8, 2, 0, 0, .null, [], none)),
  (155, (4, .invokevirtual 72, 3, 49, 5, .null, [], none)),
  (158, (2, .goto 64, 3, 222, 0, .null, [], none))],
 [(161, (1, .aload_n 0, 1, 0, 0, .null, [], none)),
  (162, (3, .getfield 21, 3, 6, 1, .null, [], none)),
  (165, (1, .lload_n 2, 1, 0, 0, .null, [], none)),
  (166, (0, .lconst 1, 1, 0, 0, (.long 1), [], none)),
  (167, (1, .lload 6, 2, 0, 0, .null, [], none)),
  (169, (1, .iload 8, 2, 0, 0, .null, [], none)),
  (171, (4, .invokevirtual 68, 3, 52, 5, .null, [], none)),
  (174, (1, .aload_n 0, 1, 0, 0, .null, [], none)),
  (175, (3, .getfield 21, 3, 6, 1, .null, [], none)),
  (178, (1, .iload 9, 2, 0, 0, .null, [], none)),
  (180, (3, .putfield 60, 3, 4, 0, .null, [], none)),
  (183, (2, .goto 39, 3, 222, 0, .null, [], none)),
  (186, (1, .aload_n 0, 1, 0, 0, .null, [], none)),
  (187, (3, .getfield 21, 3, 6, 1, .null, [], none)),
  (190, (1, .lload_n 2, 1, 0, 0, .null, [], none)),
  (191, (0, .lconst 1, 1, 0, 0, (.long 1), [], none))],
 [(192, (1, .lload 6, 2, 0, 0, .null, [], none)),
  (194, (1, .iload 8, 2, 0, 0, .null, [], none)),
  (196, (4, .invokevirtual 72, 3, 49, 5, .null, [], none)),
  (199, (1, .aload_n 0, 1, 0, 0, .null, [], none)),
  (200, (3, .getfield 21, 3, 6, 1, .null, [], none)),
  (203, (1, .iload 9, 2, 0, 0, .null, [], none)),
  (205, (3, .putfield 60, 3, 4, 0, .null, [], none)),
  (208, (2, .goto 14, 3, 222, 0, .null, [], none)),
  (211, (1, .aload_n 0, 1, 0, 0, .null, [], none)),
  (212, (3, .getfield 21, 3, 6, 1, .null, [], none)),
  (215, (1, .lload 6, 2, 0, 0, .null, [], none)),
  (217, (1, .iload 8, 2, 0, 0, .null, [], none)),
  (219, (4, .invokevirtual 75, 3, 48, 3, .null, [], none)),
  (222, (5, .return_, 1, 0, 0, .null, [], some []))]]
/- 125: FlagMachineModel.<init>()V -/
noncomputable def tb_c125 : List (List (Nat × am_I)) := [[(0, (1, .aload_n 0, 1, 0, 0, .null, [], none)),
  (1, (3, .invokespecial 1, 3, 0, 0, .null, [], none)),
  (4, (1, .aload_n 0, 1, 0, 0, .null, [], none)),
  (5, (0, .ldc 9, 2, 0, 0, (.int 262144), [], none)),
  (7, (3, .newarray .byte, 2, 0, 0, .null, [], none)),
  (9, (3, .putfield 10, 3, 12, 1, .null, [], none)),
  (12, (1, .aload_n 0, 1, 0, 0, .null, [], none)),
  (13, (0, .ldc 9, 2, 0, 0, (.int 262144), [], none)),
  (15, (3, .newarray .byte, 2, 0, 0, .null, [], none)),
  (17, (3, .putfield 14, 3, 12, 2, .null, [], none)),
  (20, (1, .aload_n 0, 1, 0, 0, .null, [], none)),
  (21, (0, .ldc 17, 2, 0, 0, (.int 65536), [], none)),
  (23, (3, .newarray .byte, 2, 0, 0, .null, [], none)),
  (25, (3, .putfield 18, 3, 12, 3, .null, [], none)),
  (28, (1, .aload_n 0, 1, 0, 0, .null, [], none)),
  (29, (0, .ldc 17, 2, 0, 0, (.int 65536), [], none)),
  (31, (3, .newarray .byte, 2, 0, 0, .null, [], none))],
 [(33, (3, .putfield 21, 3, 12, 4, .null, [], none)),
  (36, (1, .aload_n 0, 1, 0, 0, .null, [], none)),
  (37, (0, .ldc 17, 2, 0, 0, (.int 65536), [], none)),
  (39, (3, .newarray .byte, 2, 0, 0, .null, [], none)),
  (41, (3, .putfield 24, 3, 12, 5, .null, [], none)),
  (44, (1, .aload_n 0, 1, 0, 0, .null, [], none)),
  (45, (0, .ldc 17, 2, 0, 0, (.int 65536), [], none)),
  (47, (3, .newarray .byte, 2, 0, 0, .null, [], none)),
  (49, (3, .putfield 27, 3, 12, 6, .null, [], none)),
  (52, (1, .aload_n 0, 1, 0, 0, .null, [], none)),
  (53, (0, .bipush 16, 2, 0, 0, (.int 16), [], none)),
  (55, (3, .newarray .long, 2, 0, 0, .null, [], none)),
  (57, (3, .putfield 30, 3, 12, 16, .null, [], none)),
  (60, (1, .aload_n 0, 1, 0, 0, .null, [], none)),
  (61, (0, .bipush 16, 2, 0, 0, (.int 16), [], none)),
  (63, (3, .newarray .long, 2, 0, 0, .null, [], none))],
 [(65, (3, .putfield 34, 3, 12, 17, .null, [], none)),
  (68, (1, .aload_n 0, 1, 0, 0, .null, [], none)),
  (69, (0, .bipush 39, 2, 0, 0, (.int 39), [], none)),
  (71, (3, .putfield 37, 3, 12, 30, .null, [], none)),
  (74, (1, .aload_n 0, 1, 0, 0, .null, [], none)),
  (75, (0, .iconst (-1), 1, 0, 0, (.int (-1)), [], none)),
  (76, (3, .putfield 41, 3, 12, 33, .null, [], none)),
  (79, (1, .aload_n 0, 1, 0, 0, .null, [], none)),
  (80, (0, .iconst (-1), 1, 0, 0, (.int (-1)), [], none)),
  (81, (3, .putfield 44, 3, 12, 34, .null, [], none)),
  (84, (1, .aload_n 0, 1, 0, 0, .null, [], none)),
  (85, (0, .iconst 1, 1, 0, 0, (.int 1), [], none)),
  (86, (3, .putfield 47, 3, 12, 35, .null, [], none)),
  (89, (1, .aload_n 0, 1, 0, 0, .null, [], none)),
  (90, (0, .iconst 3, 1, 0, 0, (.int 3), [], none)),
  (91, (3, .newarray .int, 2, 0, 0, .null, [], none)),
  (93, (3, .putfield 50, 3, 12, 39, .null, [], none))],
 [(96, (1, .aload_n 0, 1, 0, 0, .null, [], none)),
  (97, (0, .iconst 3, 1, 0, 0, (.int 3), [], none)),
  (98, (3, .newarray .int, 2, 0, 0, .null, [], none)),
  (100, (3, .putfield 54, 3, 12, 40, .null, [], none)),
  (103, (1, .aload_n 0, 1, 0, 0, .null, [], none)),
  (104, (0, .iconst 0, 1, 0, 0, (.int 0), [], none)),
  (105, (0, .iconst 0, 1, 0, 0, (.int 0), [], none)),
  (106, (0, .iconst 0, 1, 0, 0, (.int 0), [], none)),
  (107, (0, .iconst 0, 1, 0, 0, (.int 0), [], none)),
  (108, (0, .iconst 0, 1, 0, 0, (.int 0), [], none)),
  (109, (0, .iconst 0, 1, 0, 0, (.int 0), [], none)),
  (110, (4, .invokevirtual 57, 3, 128, 7, .null, [], none)),
  (113, (5, .return_, 1, 0, 0, .null, [], none))]]
/- 126: FlagMachineModel.add(JJZI)J -/
noncomputable def tb_c126 : List (List (Nat × am_I)) := [[(0, (1, .lload_n 1, 1, 0, 0, .null, [], none)),
  (1, (1, .lload_n 3, 1, 0, 0, .null, [], none)),
  (2, (0, .ladd, 1, 0, 0, .null, [], none)),
  (3, (1, .iload 5, 2, 0, 0, .null, [], none)),
  (5, (2, .ifCond .eq 7, 3, 12, 0, .null, [], none)),
  (8, (0, .lconst 1, 1, 0, 0, (.long 1), [], none)),
  (9, (2, .goto 4, 3, 13, 0, .null, [], none)),
  (12, (0, .lconst 0, 1, 0, 0, (.long 0), [], none)),
  (13, (0, .ladd, 1, 0, 0, .null, [], some [0, 1, 3, 5, 6])),
  (14, (1, .iload 6, 2, 0, 0, .null, [], none)),
  (16, (4, .invokestatic 200, 3, 135, 2, .null, [], none)),
  (19, (1, .lstore 7, 2, 0, 0, .null, [], none)),
  (21, (1, .aload_n 0, 1, 0, 0, .null, [], none)),
  (22, (1, .lload 7, 2, 0, 0, .null, [], none)),
  (24, (1, .lload_n 1, 1, 0, 0, .null, [], none)),
  (25, (4, .invokestatic 233, 3, 131, 2, .null, [], none)),
  (28, (2, .ifCond .ne 15, 3, 43, 0, .null, [], none)),
  (31, (1, .iload 5, 2, 0, 0, .null, [], none))],
 [(33, (2, .ifCond .eq 14, 3, 47, 0, .null, [], none)),
  (36, (1, .lload 7, 2, 0, 0, .null, [], none)),
  (38, (1, .lload_n 1, 1, 0, 0, .null, [], none)),
  (39, (0, .lcmp, 1, 0, 0, .null, [], none)),
  (40, (2, .ifCond .ne 7, 3, 47, 0, .null, [], none)),
  (43, (0, .iconst 1, 1, 0, 0, (.int 1), [], some [0, 1, 3, 6, 7])),
  (44, (2, .goto 4, 3, 48, 0, .null, [], none)),
  (47, (0, .iconst 0, 1, 0, 0, (.int 0), [], some [0, 1, 3, 6, 7])),
  (48, (3, .putfield 237, 3, 12, 21, .null, [], some [0, 1, 3, 6, 7])),
  (51, (1, .aload_n 0, 1, 0, 0, .null, [], none)),
  (52, (1, .lload_n 1, 1, 0, 0, .null, [], none)),
  (53, (1, .lload 7, 2, 0, 0, .null, [], none)),
  (55, (0, .lxor, 1, 0, 0, .null, [], none)),
  (56, (1, .lload_n 3, 1, 0, 0, .null, [], none)),
  (57, (1, .lload 7, 2, 0, 0, .null, [], none)),
  (59, (0, .lxor, 1, 0, 0, .null, [], none)),
  (60, (0, .land, 1, 0, 0, .null, [], none)),
  (61, (1, .iload 6, 2, 0, 0, .null, [], none)),
  (63, (4, .invokestatic 224, 3, 189, 2, .null, [], none))],
 [(66, (0, .lconst 1, 1, 0, 0, (.long 1), [], none)),
  (67, (0, .lcmp, 1, 0, 0, .null, [], none)),
  (68, (2, .ifCond .ne 7, 3, 75, 0, .null, [], none)),
  (71, (0, .iconst 1, 1, 0, 0, (.int 1), [], none)),
  (72, (2, .goto 4, 3, 76, 0, .null, [], none)),
  (75, (0, .iconst 0, 1, 0, 0, (.int 0), [], none)),
  (76, (3, .putfield 240, 3, 12, 25, .null, [], some [0, 6, 7])),
  (79, (1, .aload_n 0, 1, 0, 0, .null, [], none)),
  (80, (1, .lload 7, 2, 0, 0, .null, [], none)),
  (82, (1, .iload 6, 2, 0, 0, .null, [], none)),
  (84, (4, .invokevirtual 243, 3, 191, 3, .null, [], none)),
  (87, (1, .lload 7, 2, 0, 0, .null, [], none)),
  (89, (5, .lreturn, 1, 0, 0, .null, [], none))]]
/- 127: FlagMachineModel.addressNow()J -/
noncomputable def tb_c127 : List (List (Nat × am_I)) := [[(0, (1, .aload_n 0, 1, 0, 0, .null, [], none)),
  (1, (3, .getfield 120, 3, 12, 36, .null, [], none)),
  (4, (0, .i2l, 1, 0, 0, .null, [], none)),
  (5, (1, .lstore_n 1, 1, 0, 0, .null, [], none)),
  (6, (1, .aload_n 0, 1, 0, 0, .null, [], none)),
  (7, (3, .getfield 41, 3, 12, 33, .null, [], none)),
  (10, (0, .bipush 16, 2, 0, 0, (.int 16), [], none)),
  (12, (2, .if_icmp .ne 10, 3, 22, 0, .null, [], none)),
  (15, (1, .lload_n 1, 1, 0, 0, .null, [], none)),
  (16, (1, .aload_n 0, 1, 0, 0, .null, [], none)),
  (17, (3, .getfield 90, 3, 12, 18, .null, [], none)),
  (20, (0, .ladd, 1, 0, 0, .null, [], none)),
  (21, (1, .lstore_n 1, 1, 0, 0, .null, [], none)),
  (22, (1, .aload_n 0, 1, 0, 0, .null, [], some [0, 1])),
  (23, (3, .getfield 41, 3, 12, 33, .null, [], none)),
  (26, (2, .ifCond .lt 24, 3, 50, 0, .null, [], none)),
  (29, (1, .aload_n 0, 1, 0, 0, .null, [], none)),
  (30, (3, .getfield 41, 3, 12, 33, .null, [], none))],
 [(33, (0, .bipush 16, 2, 0, 0, (.int 16), [], none)),
  (35, (2, .if_icmp .ge 15, 3, 50, 0, .null, [], none)),
  (38, (1, .lload_n 1, 1, 0, 0, .null, [], none)),
  (39, (1, .aload_n 0, 1, 0, 0, .null, [], none)),
  (40, (3, .getfield 30, 3, 12, 16, .null, [], none)),
  (43, (1, .aload_n 0, 1, 0, 0, .null, [], none)),
  (44, (3, .getfield 41, 3, 12, 33, .null, [], none)),
  (47, (3, .laload, 1, 0, 0, .null, [], none)),
  (48, (0, .ladd, 1, 0, 0, .null, [], none)),
  (49, (1, .lstore_n 1, 1, 0, 0, .null, [], none)),
  (50, (1, .aload_n 0, 1, 0, 0, .null, [], some [0, 1])),
  (51, (3, .getfield 44, 3, 12, 34, .null, [], none)),
  (54, (2, .ifCond .lt 21, 3, 75, 0, .null, [], none)),
  (57, (1, .lload_n 1, 1, 0, 0, .null, [], none)),
  (58, (1, .aload_n 0, 1, 0, 0, .null, [], none)),
  (59, (3, .getfield 30, 3, 12, 16, .null, [], none)),
  (62, (1, .aload_n 0, 1, 0, 0, .null, [], none)),
  (63, (3, .getfield 44, 3, 12, 34, .null, [], none))],
 [(66, (3, .laload, 1, 0, 0, .null, [], none)),
  (67, (1, .aload_n 0, 1, 0, 0, .null, [], none)),
  (68, (3, .getfield 47, 3, 12, 35, .null, [], none)),
  (71, (0, .i2l, 1, 0, 0, .null, [], none)),
  (72, (0, .lmul, 1, 0, 0, .null, [], none)),
  (73, (0, .ladd, 1, 0, 0, .null, [], none)),
  (74, (1, .lstore_n 1, 1, 0, 0, .null, [], none)),
  (75, (1, .lload_n 1, 1, 0, 0, .null, [], some [1])),
  (76, (5, .lreturn, 1, 0, 0, .null, [], none))]]
/- 128: FlagMachineModel.anew(IIIIII)V -/
noncomputable def tb_c128 : List (List (Nat × am_I)) := [[(0, (1, .aload_n 0, 1, 0, 0, .null, [], none)),
  (1, (1, .iload_n 1, 1, 0, 0, .null, [], none)),
  (2, (3, .putfield 64, 3, 12, 7, .null, [], none)),
  (5, (1, .aload_n 0, 1, 0, 0, .null, [], none)),
  (6, (1, .iload_n 2, 1, 0, 0, .null, [], none)),
  (7, (3, .putfield 67, 3, 12, 8, .null, [], none)),
  (10, (1, .aload_n 0, 1, 0, 0, .null, [], none)),
  (11, (1, .iload_n 3, 1, 0, 0, .null, [], none)),
  (12, (3, .putfield 70, 3, 12, 9, .null, [], none)),
  (15, (1, .aload_n 0, 1, 0, 0, .null, [], none)),
  (16, (1, .iload 4, 2, 0, 0, .null, [], none)),
  (18, (3, .putfield 73, 3, 12, 10, .null, [], none)),
  (21, (1, .aload_n 0, 1, 0, 0, .null, [], none)),
  (22, (1, .iload 5, 2, 0, 0, .null, [], none)),
  (24, (3, .putfield 76, 3, 12, 11, .null, [], none)),
  (27, (1, .aload_n 0, 1, 0, 0, .null, [], none)),
  (28, (1, .iload 6, 2, 0, 0, .null, [], none)),
  (30, (3, .putfield 79, 3, 12, 12, .null, [], none))],
 [(33, (0, .iconst 0, 1, 0, 0, (.int 0), [], none)),
  (34, (1, .istore 7, 2, 0, 0, .null, [], none)),
  (36, (1, .iload 7, 2, 0, 0, .null, [], some [0, 1, 7])),
  (38, (0, .ldc 9, 2, 0, 0, (.int 262144), [], none)),
  (40, (2, .if_icmp .ge 33, 3, 73, 0, .null, [], none)),
  (43, (1, .aload_n 0, 1, 0, 0, .null, [], none)),
  (44, (3, .getfield 14, 3, 12, 2, .null, [], none)),
  (47, (1, .iload 7, 2, 0, 0, .null, [], none)),
  (49, (1, .iload 7, 2, 0, 0, .null, [], none)),
  (51, (1, .iload_n 1, 1, 0, 0, .null, [], none)),
  (52, (2, .if_icmp .ge 13, 3, 65, 0, .null, [], none)),
  (55, (1, .aload_n 0, 1, 0, 0, .null, [], none)),
  (56, (3, .getfield 10, 3, 12, 1, .null, [], none)),
  (59, (1, .iload 7, 2, 0, 0, .null, [], none)),
  (61, (3, .baload, 1, 1, 0, .null, [], none)),
  (62, (2, .goto 4, 3, 66, 0, .null, [], none))],
 [(65, (0, .iconst 0, 1, 0, 0, (.int 0), [], none)),
  (66, (3, .bastore, 1, 1, 0, .null, [], some [0, 1, 7])),
  (67, (1, .iinc 7 1, 3, 0, 0, (.int 1), [], none)),
  (70, (2, .goto (-34), 3, 36, 0, .null, [], none)),
  (73, (0, .iconst 0, 1, 0, 0, (.int 0), [], none)),
  (74, (1, .istore 7, 2, 0, 0, .null, [], none)),
  (76, (1, .iload 7, 2, 0, 0, .null, [], some [0, 7])),
  (78, (0, .ldc 17, 2, 0, 0, (.int 65536), [], none)),
  (80, (2, .if_icmp .ge 25, 3, 105, 0, .null, [], none)),
  (83, (1, .aload_n 0, 1, 0, 0, .null, [], none)),
  (84, (3, .getfield 18, 3, 12, 3, .null, [], none)),
  (87, (1, .iload 7, 2, 0, 0, .null, [], none)),
  (89, (0, .iconst 0, 1, 0, 0, (.int 0), [], none)),
  (90, (3, .bastore, 1, 1, 0, .null, [], none)),
  (91, (1, .aload_n 0, 1, 0, 0, .null, [], none)),
  (92, (3, .getfield 21, 3, 12, 4, .null, [], none)),
  (95, (1, .iload 7, 2, 0, 0, .null, [], none))],
 [(97, (0, .iconst 0, 1, 0, 0, (.int 0), [], none)),
  (98, (3, .bastore, 1, 1, 0, .null, [], none)),
  (99, (1, .iinc 7 1, 3, 0, 0, (.int 1), [], none)),
  (102, (2, .goto (-26), 3, 76, 0, .null, [], none)),
  (105, (0, .iconst 0, 1, 0, 0, (.int 0), [], none)),
  (106, (1, .istore 7, 2, 0, 0, .null, [], none)),
  (108, (1, .iload 7, 2, 0, 0, .null, [], some [0, 7])),
  (110, (0, .bipush 16, 2, 0, 0, (.int 16), [], none)),
  (112, (2, .if_icmp .ge 17, 3, 129, 0, .null, [], none)),
  (115, (1, .aload_n 0, 1, 0, 0, .null, [], none)),
  (116, (3, .getfield 30, 3, 12, 16, .null, [], none)),
  (119, (1, .iload 7, 2, 0, 0, .null, [], none)),
  (121, (0, .lconst 0, 1, 0, 0, (.long 0), [], none)),
  (122, (3, .lastore, 1, 0, 0, .null, [], none)),
  (123, (1, .iinc 7 1, 3, 0, 0, (.int 1), [], none)),
  (126, (2, .goto (-18), 3, 108, 0, .null, [], none))],
 [(129, (1, .aload_n 0, 1, 0, 0, .null, [], none)),
  (130, (3, .getfield 30, 3, 12, 16, .null, [], none)),
  (133, (0, .iconst 4, 1, 0, 0, (.int 4), [], none)),
  (134, (0, .ldc2_w 82, 3, 0, 0, (.long 2147479552), [], none)),
  (137, (3, .lastore, 1, 0, 0, .null, [], none)),
  (138, (1, .aload_n 0, 1, 0, 0, .null, [], none)),
  (139, (0, .lconst 0, 1, 0, 0, (.long 0), [], none)),
  (140, (4, .invokevirtual 84, 3, 174, 2, .null, [], none)),
  (143, (1, .aload_n 0, 1, 0, 0, .null, [], none)),
  (144, (0, .ldc2_w 88, 3, 0, 0, (.long 4194304), [], none)),
  (147, (3, .putfield 90, 3, 12, 18, .null, [], none)),
  (150, (1, .aload_n 0, 1, 0, 0, .null, [], none)),
  (151, (0, .iconst 0, 1, 0, 0, (.int 0), [], none)),
  (152, (3, .putfield 94, 3, 12, 13, .null, [], none)),
  (155, (1, .aload_n 0, 1, 0, 0, .null, [], none)),
  (156, (0, .iconst 0, 1, 0, 0, (.int 0), [], none)),
  (157, (3, .putfield 97, 3, 12, 14, .null, [], none))],
 [(160, (1, .aload_n 0, 1, 0, 0, .null, [], none)),
  (161, (0, .iconst 0, 1, 0, 0, (.int 0), [], none)),
  (162, (3, .putfield 100, 3, 12, 15, .null, [], none)),
  (165, (1, .aload_n 0, 1, 0, 0, .null, [], none)),
  (166, (0, .iconst 0, 1, 0, 0, (.int 0), [], none)),
  (167, (3, .putfield 103, 3, 12, 26, .null, [], none)),
  (170, (1, .aload_n 0, 1, 0, 0, .null, [], none)),
  (171, (0, .lconst 0, 1, 0, 0, (.long 0), [], none)),
  (172, (3, .putfield 106, 3, 12, 19, .null, [], none)),
  (175, (1, .aload_n 0, 1, 0, 0, .null, [], none)),
  (176, (0, .lconst 0, 1, 0, 0, (.long 0), [], none)),
  (177, (3, .putfield 109, 3, 12, 20, .null, [], none)),
  (180, (5, .return_, 1, 0, 0, .null, [], none))]]
/- 129: FlagMachineModel.arithmetic(II)V -/
noncomputable def tb_c129 : List (List (Nat × am_I)) := [[(0, (1, .aload_n 0, 1, 0, 0, .null, [], none)),
  (1, (0, .iconst 0, 1, 0, 0, (.int 0), [], none)),
  (2, (1, .iload_n 2, 1, 0, 0, .null, [], none)),
  (3, (4, .invokevirtual 257, 3, 187, 3, .null, [], none)),
  (6, (1, .lstore_n 3, 1, 0, 0, .null, [], none)),
  (7, (1, .aload_n 0, 1, 0, 0, .null, [], none)),
  (8, (0, .iconst 1, 1, 0, 0, (.int 1), [], none)),
  (9, (1, .iload_n 2, 1, 0, 0, .null, [], none)),
  (10, (4, .invokevirtual 257, 3, 187, 3, .null, [], none)),
  (13, (1, .lstore 5, 2, 0, 0, .null, [], none)),
  (15, (0, .lconst 0, 1, 0, 0, (.long 0), [], none)),
  (16, (1, .lstore 7, 2, 0, 0, .null, [], none)),
  (18, (1, .iload_n 1, 1, 0, 0, .null, [], none)),
  (19, (2, .ifCond .eq 8, 3, 27, 0, .null, [], none)),
  (22, (1, .iload_n 1, 1, 0, 0, .null, [], none)),
  (23, (0, .iconst 2, 1, 0, 0, (.int 2), [], none)),
  (24, (2, .if_icmp .ne 33, 3, 57, 0, .null, [], none)),
  (27, (1, .aload_n 0, 1, 0, 0, .null, [], some [0, 1, 2, 3, 5])),
  (28, (1, .lload_n 3, 1, 0, 0, .null, [], none)),
  (29, (1, .lload 5, 2, 0, 0, .null, [], none)),
  (31, (1, .iload_n 1, 1, 0, 0, .null, [], none))],
 [(32, (0, .iconst 2, 1, 0, 0, (.int 2), [], none)),
  (33, (2, .if_icmp .ne 14, 3, 47, 0, .null, [], none)),
  (36, (1, .aload_n 0, 1, 0, 0, .null, [], none)),
  (37, (3, .getfield 237, 3, 12, 21, .null, [], none)),
  (40, (2, .ifCond .eq 7, 3, 47, 0, .null, [], none)),
  (43, (0, .iconst 1, 1, 0, 0, (.int 1), [], none)),
  (44, (2, .goto 4, 3, 48, 0, .null, [], none)),
  (47, (0, .iconst 0, 1, 0, 0, (.int 0), [], some [0, 1, 2])),
  (48, (1, .iload_n 2, 1, 0, 0, .null, [], some [0, 1, 2])),
  (49, (4, .invokevirtual 261, 3, 126, 5, .null, [], none)),
  (52, (1, .lstore 7, 2, 0, 0, .null, [], none)),
  (54, (2, .goto 97, 3, 151, 0, .null, [], none)),
  (57, (1, .iload_n 1, 1, 0, 0, .null, [], none)),
  (58, (0, .iconst 3, 1, 0, 0, (.int 3), [], none)),
  (59, (2, .if_icmp .eq 14, 3, 73, 0, .null, [], none)),
  (62, (1, .iload_n 1, 1, 0, 0, .null, [], none)),
  (63, (0, .iconst 5, 1, 0, 0, (.int 5), [], none))],
 [(64, (2, .if_icmp .eq 9, 3, 73, 0, .null, [], none)),
  (67, (1, .iload_n 1, 1, 0, 0, .null, [], none)),
  (68, (0, .bipush 7, 2, 0, 0, (.int 7), [], none)),
  (70, (2, .if_icmp .ne 33, 3, 103, 0, .null, [], none)),
  (73, (1, .aload_n 0, 1, 0, 0, .null, [], some [0, 1, 2, 3, 5])),
  (74, (1, .lload_n 3, 1, 0, 0, .null, [], none)),
  (75, (1, .lload 5, 2, 0, 0, .null, [], none)),
  (77, (1, .iload_n 1, 1, 0, 0, .null, [], none)),
  (78, (0, .iconst 3, 1, 0, 0, (.int 3), [], none)),
  (79, (2, .if_icmp .ne 14, 3, 93, 0, .null, [], none)),
  (82, (1, .aload_n 0, 1, 0, 0, .null, [], none)),
  (83, (3, .getfield 237, 3, 12, 21, .null, [], none)),
  (86, (2, .ifCond .eq 7, 3, 93, 0, .null, [], none)),
  (89, (0, .iconst 1, 1, 0, 0, (.int 1), [], none)),
  (90, (2, .goto 4, 3, 94, 0, .null, [], none)),
  (93, (0, .iconst 0, 1, 0, 0, (.int 0), [], some [0, 1, 2])),
  (94, (1, .iload_n 2, 1, 0, 0, .null, [], some [0, 1, 2])),
  (95, (4, .invokevirtual 265, 3, 186, 5, .null, [], none))],
 [(98, (1, .lstore 7, 2, 0, 0, .null, [], none)),
  (100, (2, .goto 51, 3, 151, 0, .null, [], none)),
  (103, (1, .iload_n 1, 1, 0, 0, .null, [], none)),
  (104, (0, .iconst 1, 1, 0, 0, (.int 1), [], none)),
  (105, (2, .if_icmp .ne 10, 3, 115, 0, .null, [], none)),
  (108, (1, .lload_n 3, 1, 0, 0, .null, [], none)),
  (109, (1, .lload 5, 2, 0, 0, .null, [], none)),
  (111, (0, .lor, 1, 0, 0, .null, [], none)),
  (112, (2, .goto 20, 3, 132, 0, .null, [], none)),
  (115, (1, .iload_n 1, 1, 0, 0, .null, [], none)),
  (116, (0, .bipush 6, 2, 0, 0, (.int 6), [], none)),
  (118, (2, .if_icmp .ne 10, 3, 128, 0, .null, [], none)),
  (121, (1, .lload_n 3, 1, 0, 0, .null, [], none)),
  (122, (1, .lload 5, 2, 0, 0, .null, [], none)),
  (124, (0, .lxor, 1, 0, 0, .null, [], none)),
  (125, (2, .goto 7, 3, 132, 0, .null, [], none))],
 [(128, (1, .lload_n 3, 1, 0, 0, .null, [], none)),
  (129, (1, .lload 5, 2, 0, 0, .null, [], none)),
  (131, (0, .land, 1, 0, 0, .null, [], none)),
  (132, (1, .lstore 7, 2, 0, 0, .null, [], some [0, 1, 2])),
  (134, (1, .aload_n 0, 1, 0, 0, .null, [], none)),
  (135, (0, .iconst 0, 1, 0, 0, (.int 0), [], none)),
  (136, (3, .putfield 237, 3, 12, 21, .null, [], none)),
  (139, (1, .aload_n 0, 1, 0, 0, .null, [], none)),
  (140, (0, .iconst 0, 1, 0, 0, (.int 0), [], none)),
  (141, (3, .putfield 240, 3, 12, 25, .null, [], none)),
  (144, (1, .aload_n 0, 1, 0, 0, .null, [], none)),
  (145, (1, .lload 7, 2, 0, 0, .null, [], none)),
  (147, (1, .iload_n 2, 1, 0, 0, .null, [], none)),
  (148, (4, .invokevirtual 243, 3, 191, 3, .null, [], none)),
  (151, (1, .iload_n 1, 1, 0, 0, .null, [], some [0, 1, 2, 7])),
  (152, (0, .bipush 7, 2, 0, 0, (.int 7), [], none)),
  (154, (2, .if_icmp .eq 17, 3, 171, 0, .null, [], none)),
  (157, (1, .iload_n 1, 1, 0, 0, .null, [], none)),
  (158, (0, .bipush 9, 2, 0, 0, (.int 9), [], none))],
 [(160, (2, .if_icmp .eq 11, 3, 171, 0, .null, [], none)),
  (163, (1, .aload_n 0, 1, 0, 0, .null, [], none)),
  (164, (0, .iconst 0, 1, 0, 0, (.int 0), [], none)),
  (165, (1, .iload_n 2, 1, 0, 0, .null, [], none)),
  (166, (1, .lload 7, 2, 0, 0, .null, [], none)),
  (168, (4, .invokevirtual 268, 3, 169, 4, .null, [], none)),
  (171, (5, .return_, 1, 0, 0, .null, [], some []))]]
/- 130: FlagMachineModel.begin(IIIIII)Z -/
noncomputable def tb_c130 : List (List (Nat × am_I)) := [[(0, (1, .aload_n 0, 1, 0, 0, .null, [], none)),
  (1, (0, .iconst 0, 1, 0, 0, (.int 0), [], none)),
  (2, (3, .putfield 61, 3, 12, 0, .null, [], none)),
  (5, (1, .iload_n 1, 1, 0, 0, .null, [], none)),
  (6, (2, .ifCond .lt 48, 3, 54, 0, .null, [], none)),
  (9, (1, .iload_n 1, 1, 0, 0, .null, [], none)),
  (10, (0, .ldc 9, 2, 0, 0, (.int 262144), [], none)),
  (12, (2, .if_icmp .gt 42, 3, 54, 0, .null, [], none)),
  (15, (1, .iload_n 2, 1, 0, 0, .null, [], none)),
  (16, (2, .ifCond .lt 38, 3, 54, 0, .null, [], none)),
  (19, (1, .iload_n 3, 1, 0, 0, .null, [], none)),
  (20, (1, .iload_n 2, 1, 0, 0, .null, [], none)),
  (21, (2, .if_icmp .lt 33, 3, 54, 0, .null, [], none)),
  (24, (1, .iload 4, 2, 0, 0, .null, [], none)),
  (26, (1, .iload_n 3, 1, 0, 0, .null, [], none)),
  (27, (2, .if_icmp .lt 27, 3, 54, 0, .null, [], none)),
  (30, (1, .iload 5, 2, 0, 0, .null, [], none))],
 [(32, (1, .iload 4, 2, 0, 0, .null, [], none)),
  (34, (2, .if_icmp .lt 20, 3, 54, 0, .null, [], none)),
  (37, (1, .iload 6, 2, 0, 0, .null, [], none)),
  (39, (1, .iload 5, 2, 0, 0, .null, [], none)),
  (41, (2, .if_icmp .lt 13, 3, 54, 0, .null, [], none)),
  (44, (1, .iload 6, 2, 0, 0, .null, [], none)),
  (46, (1, .iload_n 1, 1, 0, 0, .null, [], none)),
  (47, (2, .if_icmp .gt 7, 3, 54, 0, .null, [], none)),
  (50, (0, .iconst 1, 1, 0, 0, (.int 1), [], none)),
  (51, (2, .goto 4, 3, 55, 0, .null, [], none)),
  (54, (0, .iconst 0, 1, 0, 0, (.int 0), [], some [0, 1, 2, 3, 4, 5, 6])),
  (55, (1, .istore 7, 2, 0, 0, .null, [], some [0, 1, 2, 3, 4, 5, 6])),
  (57, (1, .iload 7, 2, 0, 0, .null, [], none)),
  (59, (2, .ifCond .eq 16, 3, 75, 0, .null, [], none)),
  (62, (1, .aload_n 0, 1, 0, 0, .null, [], none)),
  (63, (1, .iload_n 1, 1, 0, 0, .null, [], none))],
 [(64, (1, .iload_n 2, 1, 0, 0, .null, [], none)),
  (65, (1, .iload_n 3, 1, 0, 0, .null, [], none)),
  (66, (1, .iload 4, 2, 0, 0, .null, [], none)),
  (68, (1, .iload 5, 2, 0, 0, .null, [], none)),
  (70, (1, .iload 6, 2, 0, 0, .null, [], none)),
  (72, (4, .invokevirtual 57, 3, 128, 7, .null, [], none)),
  (75, (1, .iload 7, 2, 0, 0, .null, [], some [7])),
  (77, (5, .ireturn, 1, 0, 0, .null, [], none))]]
/- 131: FlagMachineModel.below(JJ)Z -/
noncomputable def tb_c131 : List (List (Nat × am_I)) := [[(0, (1, .lload_n 0, 1, 0, 0, .null, [], none)),
  (1, (0, .ldc2_w 279, 3, 0, 0, (.long (-9223372036854775808)), [], none)),
  (4, (0, .lxor, 1, 0, 0, .null, [], none)),
  (5, (1, .lload_n 2, 1, 0, 0, .null, [], none)),
  (6, (0, .ldc2_w 279, 3, 0, 0, (.long (-9223372036854775808)), [], none)),
  (9, (0, .lxor, 1, 0, 0, .null, [], none)),
  (10, (0, .lcmp, 1, 0, 0, .null, [], none)),
  (11, (2, .ifCond .ge 7, 3, 18, 0, .null, [], none)),
  (14, (0, .iconst 1, 1, 0, 0, (.int 1), [], none)),
  (15, (2, .goto 4, 3, 19, 0, .null, [], none)),
  (18, (0, .iconst 0, 1, 0, 0, (.int 0), [], none)),
  (19, (5, .ireturn, 1, 0, 0, .null, [], some []))]]
/- 132: FlagMachineModel.bits(II)V -/
noncomputable def tb_c132 : List (List (Nat × am_I)) := [[(0, (1, .iload_n 1, 1, 0, 0, .null, [], none)),
  (1, (0, .bipush 46, 2, 0, 0, (.int 46), [], none)),
  (3, (2, .if_icmp .ne 56, 3, 59, 0, .null, [], none)),
  (6, (1, .aload_n 0, 1, 0, 0, .null, [], none)),
  (7, (0, .iconst 0, 1, 0, 0, (.int 0), [], none)),
  (8, (1, .iload_n 2, 1, 0, 0, .null, [], none)),
  (9, (4, .invokevirtual 257, 3, 187, 3, .null, [], none)),
  (12, (1, .lstore_n 3, 1, 0, 0, .null, [], none)),
  (13, (0, .lconst 0, 1, 0, 0, (.long 0), [], none)),
  (14, (1, .lstore 5, 2, 0, 0, .null, [], none)),
  (16, (0, .iconst 0, 1, 0, 0, (.int 0), [], none)),
  (17, (1, .istore 7, 2, 0, 0, .null, [], none)),
  (19, (1, .iload 7, 2, 0, 0, .null, [], some [0, 2, 3, 5, 7])),
  (21, (1, .iload_n 2, 1, 0, 0, .null, [], none)),
  (22, (2, .if_icmp .ge 28, 3, 50, 0, .null, [], none)),
  (25, (1, .lload 5, 2, 0, 0, .null, [], none)),
  (27, (0, .bipush 8, 2, 0, 0, (.int 8), [], none)),
  (29, (0, .lshl, 1, 0, 0, .null, [], none)),
  (30, (1, .lload_n 3, 1, 0, 0, .null, [], none)),
  (31, (0, .bipush 8, 2, 0, 0, (.int 8), [], none))],
 [(33, (1, .iload 7, 2, 0, 0, .null, [], none)),
  (35, (0, .imul, 1, 0, 0, .null, [], none)),
  (36, (0, .lshr, 1, 0, 0, .null, [], none)),
  (37, (0, .ldc2_w 145, 3, 0, 0, (.long 255), [], none)),
  (40, (0, .land, 1, 0, 0, .null, [], none)),
  (41, (0, .lor, 1, 0, 0, .null, [], none)),
  (42, (1, .lstore 5, 2, 0, 0, .null, [], none)),
  (44, (1, .iinc 7 1, 3, 0, 0, (.int 1), [], none)),
  (47, (2, .goto (-28), 3, 19, 0, .null, [], none)),
  (50, (1, .aload_n 0, 1, 0, 0, .null, [], none)),
  (51, (0, .iconst 0, 1, 0, 0, (.int 0), [], none)),
  (52, (1, .iload_n 2, 1, 0, 0, .null, [], none)),
  (53, (1, .lload 5, 2, 0, 0, .null, [], none)),
  (55, (4, .invokevirtual 268, 3, 169, 4, .null, [], none)),
  (58, (5, .return_, 1, 0, 0, .null, [], none)),
  (59, (1, .aload_n 0, 1, 0, 0, .null, [], none)),
  (60, (0, .iconst 1, 1, 0, 0, (.int 1), [], none)),
  (61, (1, .iload_n 2, 1, 0, 0, .null, [], none)),
  (62, (4, .invokevirtual 257, 3, 187, 3, .null, [], none))],
 [(65, (1, .lstore_n 3, 1, 0, 0, .null, [], none)),
  (66, (1, .iload_n 1, 1, 0, 0, .null, [], none)),
  (67, (0, .bipush 47, 2, 0, 0, (.int 47), [], none)),
  (69, (2, .if_icmp .ne 41, 3, 110, 0, .null, [], none)),
  (72, (1, .aload_n 0, 1, 0, 0, .null, [], none)),
  (73, (0, .iconst 0, 1, 0, 0, (.int 0), [], none)),
  (74, (1, .iload_n 2, 1, 0, 0, .null, [], none)),
  (75, (4, .invokevirtual 257, 3, 187, 3, .null, [], none)),
  (78, (1, .lstore 5, 2, 0, 0, .null, [], none)),
  (80, (1, .aload_n 0, 1, 0, 0, .null, [], none)),
  (81, (1, .lload 5, 2, 0, 0, .null, [], none)),
  (83, (1, .lload_n 3, 1, 0, 0, .null, [], none)),
  (84, (0, .bipush 8, 2, 0, 0, (.int 8), [], none)),
  (86, (1, .iload_n 2, 1, 0, 0, .null, [], none)),
  (87, (0, .imul, 1, 0, 0, .null, [], none)),
  (88, (0, .iconst 1, 1, 0, 0, (.int 1), [], none)),
  (89, (0, .isub, 1, 0, 0, .null, [], none)),
  (90, (0, .i2l, 1, 0, 0, .null, [], none)),
  (91, (0, .land, 1, 0, 0, .null, [], none)),
  (92, (0, .l2i, 1, 0, 0, .null, [], none)),
  (93, (0, .lushr, 1, 0, 0, .null, [], none)),
  (94, (0, .lconst 1, 1, 0, 0, (.long 1), [], none)),
  (95, (0, .land, 1, 0, 0, .null, [], none))],
 [(96, (0, .lconst 1, 1, 0, 0, (.long 1), [], none)),
  (97, (0, .lcmp, 1, 0, 0, .null, [], none)),
  (98, (2, .ifCond .ne 7, 3, 105, 0, .null, [], none)),
  (101, (0, .iconst 1, 1, 0, 0, (.int 1), [], none)),
  (102, (2, .goto 4, 3, 106, 0, .null, [], none)),
  (105, (0, .iconst 0, 1, 0, 0, (.int 0), [], none)),
  (106, (3, .putfield 237, 3, 12, 21, .null, [], some [])),
  (109, (5, .return_, 1, 0, 0, .null, [], none)),
  (110, (1, .aload_n 0, 1, 0, 0, .null, [], none)),
  (111, (1, .lload_n 3, 1, 0, 0, .null, [], none)),
  (112, (0, .lconst 0, 1, 0, 0, (.long 0), [], none)),
  (113, (0, .lcmp, 1, 0, 0, .null, [], none)),
  (114, (2, .ifCond .ne 7, 3, 121, 0, .null, [], none)),
  (117, (0, .iconst 1, 1, 0, 0, (.int 1), [], none)),
  (118, (2, .goto 4, 3, 122, 0, .null, [], none)),
  (121, (0, .iconst 0, 1, 0, 0, (.int 0), [], none)),
  (122, (3, .putfield 220, 3, 12, 23, .null, [], some [0, 1, 2, 3])),
  (125, (1, .aload_n 0, 1, 0, 0, .null, [], none)),
  (126, (3, .getfield 220, 3, 12, 23, .null, [], none))],
 [(129, (2, .ifCond .eq 4, 3, 133, 0, .null, [], none)),
  (132, (5, .return_, 1, 0, 0, .null, [], none)),
  (133, (1, .iload_n 1, 1, 0, 0, .null, [], none)),
  (134, (0, .bipush 44, 2, 0, 0, (.int 44), [], none)),
  (136, (2, .if_icmp .ne 7, 3, 143, 0, .null, [], none)),
  (139, (0, .iconst 0, 1, 0, 0, (.int 0), [], none)),
  (140, (2, .goto 5, 3, 145, 0, .null, [], none)),
  (143, (0, .bipush 63, 2, 0, 0, (.int 63), [], none)),
  (145, (1, .istore 5, 2, 0, 0, .null, [], some [0, 1, 2, 3])),
  (147, (0, .iconst 0, 1, 0, 0, (.int 0), [], none)),
  (148, (1, .istore 6, 2, 0, 0, .null, [], none)),
  (150, (1, .iload 6, 2, 0, 0, .null, [], some [0, 1, 2, 3, 5, 6])),
  (152, (0, .bipush 64, 2, 0, 0, (.int 64), [], none)),
  (154, (2, .if_icmp .ge 36, 3, 190, 0, .null, [], none)),
  (157, (1, .lload_n 3, 1, 0, 0, .null, [], none)),
  (158, (1, .iload 5, 2, 0, 0, .null, [], none))],
 [(160, (0, .lushr, 1, 0, 0, .null, [], none)),
  (161, (0, .lconst 1, 1, 0, 0, (.long 1), [], none)),
  (162, (0, .land, 1, 0, 0, .null, [], none)),
  (163, (0, .lconst 0, 1, 0, 0, (.long 0), [], none)),
  (164, (0, .lcmp, 1, 0, 0, .null, [], none)),
  (165, (2, .ifCond .ne 25, 3, 190, 0, .null, [], none)),
  (168, (1, .iload 5, 2, 0, 0, .null, [], none)),
  (170, (1, .iload_n 1, 1, 0, 0, .null, [], none)),
  (171, (0, .bipush 44, 2, 0, 0, (.int 44), [], none)),
  (173, (2, .if_icmp .ne 7, 3, 180, 0, .null, [], none)),
  (176, (0, .iconst 1, 1, 0, 0, (.int 1), [], none)),
  (177, (2, .goto 4, 3, 181, 0, .null, [], none)),
  (180, (0, .iconst (-1), 1, 0, 0, (.int (-1)), [], none)),
  (181, (0, .iadd, 1, 0, 0, .null, [], some [0, 1, 2, 3, 6])),
  (182, (1, .istore 5, 2, 0, 0, .null, [], none)),
  (184, (1, .iinc 6 1, 3, 0, 0, (.int 1), [], none)),
  (187, (2, .goto (-37), 3, 150, 0, .null, [], none)),
  (190, (1, .aload_n 0, 1, 0, 0, .null, [], some [0, 2, 5])),
  (191, (0, .iconst 0, 1, 0, 0, (.int 0), [], none))],
 [(192, (1, .iload_n 2, 1, 0, 0, .null, [], none)),
  (193, (1, .iload 5, 2, 0, 0, .null, [], none)),
  (195, (0, .i2l, 1, 0, 0, .null, [], none)),
  (196, (4, .invokevirtual 268, 3, 169, 4, .null, [], none)),
  (199, (5, .return_, 1, 0, 0, .null, [], none))]]
/- 133: FlagMachineModel.byteAtPlace(I)I -/
noncomputable def tb_c133 : List (List (Nat × am_I)) := [[(0, (1, .iload_n 1, 1, 0, 0, .null, [], none)),
  (1, (0, .ldc 163, 2, 0, 0, (.int 1048576), [], none)),
  (3, (2, .if_icmp .ge 12, 3, 15, 0, .null, [], none)),
  (6, (1, .aload_n 0, 1, 0, 0, .null, [], none)),
  (7, (3, .getfield 14, 3, 12, 2, .null, [], none)),
  (10, (1, .iload_n 1, 1, 0, 0, .null, [], none)),
  (11, (3, .baload, 1, 1, 0, .null, [], none)),
  (12, (2, .goto 30, 3, 42, 0, .null, [], none)),
  (15, (1, .iload_n 1, 1, 0, 0, .null, [], none)),
  (16, (0, .ldc 168, 2, 0, 0, (.int 2097152), [], none)),
  (18, (2, .if_icmp .ge 15, 3, 33, 0, .null, [], none)),
  (21, (1, .aload_n 0, 1, 0, 0, .null, [], none)),
  (22, (3, .getfield 18, 3, 12, 3, .null, [], none)),
  (25, (1, .iload_n 1, 1, 0, 0, .null, [], none)),
  (26, (0, .ldc 169, 2, 0, 0, (.int 65535), [], none)),
  (28, (0, .iand, 1, 0, 0, .null, [], none)),
  (29, (3, .baload, 1, 1, 0, .null, [], none)),
  (30, (2, .goto 12, 3, 42, 0, .null, [], none))],
 [(33, (1, .aload_n 0, 1, 0, 0, .null, [], none)),
  (34, (3, .getfield 21, 3, 12, 4, .null, [], none)),
  (37, (1, .iload_n 1, 1, 0, 0, .null, [], none)),
  (38, (0, .ldc 169, 2, 0, 0, (.int 65535), [], none)),
  (40, (0, .iand, 1, 0, 0, .null, [], none)),
  (41, (3, .baload, 1, 1, 0, .null, [], none)),
  (42, (0, .sipush 255, 3, 0, 0, (.int 255), [], some [])),
  (45, (0, .iand, 1, 0, 0, .null, [], none)),
  (46, (5, .ireturn, 1, 0, 0, .null, [], none))]]
/- 134: FlagMachineModel.choose(I)V -/
noncomputable def tb_c134 : List (List (Nat × am_I)) := [[(0, (1, .aload_n 0, 1, 0, 0, .null, [], none)),
  (1, (0, .iconst 1, 1, 0, 0, (.int 1), [], none)),
  (2, (1, .iload_n 1, 1, 0, 0, .null, [], none)),
  (3, (4, .invokevirtual 257, 3, 187, 3, .null, [], none)),
  (6, (1, .lstore_n 2, 1, 0, 0, .null, [], none)),
  (7, (1, .aload_n 0, 1, 0, 0, .null, [], none)),
  (8, (0, .iconst 0, 1, 0, 0, (.int 0), [], none)),
  (9, (1, .iload_n 1, 1, 0, 0, .null, [], none)),
  (10, (4, .invokevirtual 257, 3, 187, 3, .null, [], none)),
  (13, (1, .lstore 4, 2, 0, 0, .null, [], none)),
  (15, (1, .aload_n 0, 1, 0, 0, .null, [], none)),
  (16, (0, .iconst 0, 1, 0, 0, (.int 0), [], none)),
  (17, (1, .iload_n 1, 1, 0, 0, .null, [], none)),
  (18, (1, .aload_n 0, 1, 0, 0, .null, [], none)),
  (19, (1, .aload_n 0, 1, 0, 0, .null, [], none)),
  (20, (3, .getfield 117, 3, 12, 32, .null, [], none)),
  (23, (4, .invokevirtual 302, 3, 147, 2, .null, [], none)),
  (26, (2, .ifCond .eq 7, 3, 33, 0, .null, [], none)),
  (29, (1, .lload_n 2, 1, 0, 0, .null, [], none)),
  (30, (2, .goto 5, 3, 35, 0, .null, [], none))],
 [(33, (1, .lload 4, 2, 0, 0, .null, [], none)),
  (35, (4, .invokevirtual 268, 3, 169, 4, .null, [], some [])),
  (38, (5, .return_, 1, 0, 0, .null, [], none))]]
/- 135: FlagMachineModel.cut(JI)J -/
noncomputable def tb_c135 : List (List (Nat × am_I)) := [[(0, (1, .iload_n 2, 1, 0, 0, .null, [], none)),
  (1, (0, .bipush 8, 2, 0, 0, (.int 8), [], none)),
  (3, (2, .if_icmp .ne 7, 3, 10, 0, .null, [], none)),
  (6, (1, .lload_n 0, 1, 0, 0, .null, [], none)),
  (7, (2, .goto 21, 3, 28, 0, .null, [], none)),
  (10, (1, .iload_n 2, 1, 0, 0, .null, [], none)),
  (11, (0, .iconst 4, 1, 0, 0, (.int 4), [], none)),
  (12, (2, .if_icmp .ne 11, 3, 23, 0, .null, [], none)),
  (15, (1, .lload_n 0, 1, 0, 0, .null, [], none)),
  (16, (0, .ldc2_w 192, 3, 0, 0, (.long 4294967295), [], none)),
  (19, (0, .land, 1, 0, 0, .null, [], none)),
  (20, (2, .goto 8, 3, 28, 0, .null, [], none)),
  (23, (1, .lload_n 0, 1, 0, 0, .null, [], none)),
  (24, (0, .ldc2_w 145, 3, 0, 0, (.long 255), [], none)),
  (27, (0, .land, 1, 0, 0, .null, [], none)),
  (28, (5, .lreturn, 1, 0, 0, .null, [], some []))]]
/- 136: FlagMachineModel.divide(ZI)V -/
noncomputable def tb_c136 : List (List (Nat × am_I)) := [[(0, (1, .aload_n 0, 1, 0, 0, .null, [], none)),
  (1, (0, .iconst 0, 1, 0, 0, (.int 0), [], none)),
  (2, (1, .iload_n 2, 1, 0, 0, .null, [], none)),
  (3, (4, .invokevirtual 257, 3, 187, 3, .null, [], none)),
  (6, (1, .lstore_n 3, 1, 0, 0, .null, [], none)),
  (7, (1, .aload_n 0, 1, 0, 0, .null, [], none)),
  (8, (3, .getfield 170, 3, 12, 27, .null, [], none)),
  (11, (2, .ifCond .ne 15, 3, 26, 0, .null, [], none)),
  (14, (1, .lload_n 3, 1, 0, 0, .null, [], none)),
  (15, (0, .lconst 0, 1, 0, 0, (.long 0), [], none)),
  (16, (0, .lcmp, 1, 0, 0, .null, [], none)),
  (17, (2, .ifCond .ne 9, 3, 26, 0, .null, [], none)),
  (20, (1, .aload_n 0, 1, 0, 0, .null, [], none)),
  (21, (0, .iconst 5, 1, 0, 0, (.int 5), [], none)),
  (22, (0, .lconst 0, 1, 0, 0, (.long 0), [], none)),
  (23, (4, .invokevirtual 180, 3, 183, 3, .null, [], none)),
  (26, (1, .aload_n 0, 1, 0, 0, .null, [], some [0, 1, 2, 3])),
  (27, (3, .getfield 170, 3, 12, 27, .null, [], none)),
  (30, (2, .ifCond .eq 4, 3, 34, 0, .null, [], none))],
 [(33, (5, .return_, 1, 0, 0, .null, [], none)),
  (34, (1, .iload_n 2, 1, 0, 0, .null, [], none)),
  (35, (0, .bipush 8, 2, 0, 0, (.int 8), [], none)),
  (37, (2, .if_icmp .ge 11, 3, 48, 0, .null, [], none)),
  (40, (1, .aload_n 0, 1, 0, 0, .null, [], none)),
  (41, (1, .iload_n 1, 1, 0, 0, .null, [], none)),
  (42, (1, .iload_n 2, 1, 0, 0, .null, [], none)),
  (43, (1, .lload_n 3, 1, 0, 0, .null, [], none)),
  (44, (4, .invokevirtual 290, 3, 137, 4, .null, [], none)),
  (47, (5, .return_, 1, 0, 0, .null, [], none)),
  (48, (1, .aload_n 0, 1, 0, 0, .null, [], none)),
  (49, (3, .getfield 30, 3, 12, 16, .null, [], none)),
  (52, (0, .iconst 2, 1, 0, 0, (.int 2), [], none)),
  (53, (3, .laload, 1, 0, 0, .null, [], none)),
  (54, (1, .lstore 5, 2, 0, 0, .null, [], none)),
  (56, (1, .aload_n 0, 1, 0, 0, .null, [], none)),
  (57, (3, .getfield 30, 3, 12, 16, .null, [], none)),
  (60, (0, .iconst 0, 1, 0, 0, (.int 0), [], none)),
  (61, (3, .laload, 1, 0, 0, .null, [], none)),
  (62, (1, .lstore 7, 2, 0, 0, .null, [], none))],
 [(64, (1, .iload_n 1, 1, 0, 0, .null, [], none)),
  (65, (2, .ifCond .eq 14, 3, 79, 0, .null, [], none)),
  (68, (1, .lload 5, 2, 0, 0, .null, [], none)),
  (70, (0, .lconst 0, 1, 0, 0, (.long 0), [], none)),
  (71, (0, .lcmp, 1, 0, 0, .null, [], none)),
  (72, (2, .ifCond .ge 7, 3, 79, 0, .null, [], none)),
  (75, (0, .iconst 1, 1, 0, 0, (.int 1), [], none)),
  (76, (2, .goto 4, 3, 80, 0, .null, [], none)),
  (79, (0, .iconst 0, 1, 0, 0, (.int 0), [], some [0, 1, 3, 5, 7])),
  (80, (1, .istore 9, 2, 0, 0, .null, [], some [0, 1, 3, 5, 7])),
  (82, (1, .iload_n 1, 1, 0, 0, .null, [], none)),
  (83, (2, .ifCond .eq 23, 3, 106, 0, .null, [], none)),
  (86, (1, .iload 9, 2, 0, 0, .null, [], none)),
  (88, (1, .lload_n 3, 1, 0, 0, .null, [], none)),
  (89, (0, .lconst 0, 1, 0, 0, (.long 0), [], none)),
  (90, (0, .lcmp, 1, 0, 0, .null, [], none)),
  (91, (2, .ifCond .ge 7, 3, 98, 0, .null, [], none)),
  (94, (0, .iconst 1, 1, 0, 0, (.int 1), [], none)),
  (95, (2, .goto 4, 3, 99, 0, .null, [], none))],
 [(98, (0, .iconst 0, 1, 0, 0, (.int 0), [], none)),
  (99, (2, .if_icmp .eq 7, 3, 106, 0, .null, [], some [0, 1, 3, 5, 7, 9])),
  (102, (0, .iconst 1, 1, 0, 0, (.int 1), [], none)),
  (103, (2, .goto 4, 3, 107, 0, .null, [], none)),
  (106, (0, .iconst 0, 1, 0, 0, (.int 0), [], some [0, 1, 3, 5, 7, 9])),
  (107, (1, .istore 10, 2, 0, 0, .null, [], some [0, 1, 3, 5, 7, 9])),
  (109, (1, .iload 9, 2, 0, 0, .null, [], none)),
  (111, (2, .ifCond .eq 29, 3, 140, 0, .null, [], none)),
  (114, (1, .lload 7, 2, 0, 0, .null, [], none)),
  (116, (0, .lneg, 1, 0, 0, .null, [], none)),
  (117, (1, .lstore 7, 2, 0, 0, .null, [], none)),
  (119, (1, .lload 5, 2, 0, 0, .null, [], none)),
  (121, (0, .ldc2_w 277, 3, 0, 0, (.long (-1)), [], none)),
  (124, (0, .lxor, 1, 0, 0, .null, [], none)),
  (125, (1, .lload 7, 2, 0, 0, .null, [], none)),
  (127, (0, .lconst 0, 1, 0, 0, (.long 0), [], none))],
 [(128, (0, .lcmp, 1, 0, 0, .null, [], none)),
  (129, (2, .ifCond .ne 7, 3, 136, 0, .null, [], none)),
  (132, (0, .lconst 1, 1, 0, 0, (.long 1), [], none)),
  (133, (2, .goto 4, 3, 137, 0, .null, [], none)),
  (136, (0, .lconst 0, 1, 0, 0, (.long 0), [], none)),
  (137, (0, .ladd, 1, 0, 0, .null, [], some [0, 1, 3, 7, 9, 10])),
  (138, (1, .lstore 5, 2, 0, 0, .null, [], none)),
  (140, (1, .iload_n 1, 1, 0, 0, .null, [], some [0, 1, 3, 5, 7, 9, 10])),
  (141, (2, .ifCond .eq 14, 3, 155, 0, .null, [], none)),
  (144, (1, .lload_n 3, 1, 0, 0, .null, [], none)),
  (145, (0, .lconst 0, 1, 0, 0, (.long 0), [], none)),
  (146, (0, .lcmp, 1, 0, 0, .null, [], none)),
  (147, (2, .ifCond .ge 8, 3, 155, 0, .null, [], none)),
  (150, (1, .lload_n 3, 1, 0, 0, .null, [], none)),
  (151, (0, .lneg, 1, 0, 0, .null, [], none)),
  (152, (2, .goto 4, 3, 156, 0, .null, [], none)),
  (155, (1, .lload_n 3, 1, 0, 0, .null, [], some [0, 1, 3, 5, 7, 9, 10])),
  (156, (1, .lstore 11, 2, 0, 0, .null, [], some [0, 1, 5, 7, 9, 10])),
  (158, (1, .lload 5, 2, 0, 0, .null, [], none))],
 [(160, (1, .lload 11, 2, 0, 0, .null, [], none)),
  (162, (4, .invokestatic 233, 3, 131, 2, .null, [], none)),
  (165, (2, .ifCond .ne 10, 3, 175, 0, .null, [], none)),
  (168, (1, .aload_n 0, 1, 0, 0, .null, [], none)),
  (169, (0, .iconst 5, 1, 0, 0, (.int 5), [], none)),
  (170, (0, .lconst 0, 1, 0, 0, (.long 0), [], none)),
  (171, (4, .invokevirtual 180, 3, 183, 3, .null, [], none)),
  (174, (5, .return_, 1, 0, 0, .null, [], none)),
  (175, (0, .lconst 0, 1, 0, 0, (.long 0), [], none)),
  (176, (1, .lstore 13, 2, 0, 0, .null, [], none)),
  (178, (1, .lload 5, 2, 0, 0, .null, [], none)),
  (180, (1, .lstore 15, 2, 0, 0, .null, [], none)),
  (182, (0, .bipush 63, 2, 0, 0, (.int 63), [], none)),
  (184, (1, .istore 17, 2, 0, 0, .null, [], none)),
  (186, (1, .iload 17, 2, 0, 0, .null, [], some [0, 1, 7, 9, 10, 11, 13, 15, 17])),
  (188, (2, .ifCond .lt 88, 3, 276, 0, .null, [], none)),
  (191, (1, .lload 15, 2, 0, 0, .null, [], none))],
 [(193, (0, .lconst 0, 1, 0, 0, (.long 0), [], none)),
  (194, (0, .lcmp, 1, 0, 0, .null, [], none)),
  (195, (2, .ifCond .ge 7, 3, 202, 0, .null, [], none)),
  (198, (0, .iconst 1, 1, 0, 0, (.int 1), [], none)),
  (199, (2, .goto 4, 3, 203, 0, .null, [], none)),
  (202, (0, .iconst 0, 1, 0, 0, (.int 0), [], none)),
  (203, (1, .istore 18, 2, 0, 0, .null, [], some [0, 1, 7, 9, 10, 11, 13, 15, 17])),
  (205, (1, .lload 15, 2, 0, 0, .null, [], none)),
  (207, (0, .iconst 1, 1, 0, 0, (.int 1), [], none)),
  (208, (0, .lshl, 1, 0, 0, .null, [], none)),
  (209, (1, .lload 7, 2, 0, 0, .null, [], none)),
  (211, (1, .iload 17, 2, 0, 0, .null, [], none)),
  (213, (0, .lushr, 1, 0, 0, .null, [], none)),
  (214, (0, .lconst 1, 1, 0, 0, (.long 1), [], none)),
  (215, (0, .land, 1, 0, 0, .null, [], none)),
  (216, (0, .lor, 1, 0, 0, .null, [], none)),
  (217, (1, .lstore 15, 2, 0, 0, .null, [], none)),
  (219, (1, .iload 18, 2, 0, 0, .null, [], none)),
  (221, (2, .ifCond .ne 13, 3, 234, 0, .null, [], none))],
 [(224, (1, .lload 15, 2, 0, 0, .null, [], none)),
  (226, (1, .lload 11, 2, 0, 0, .null, [], none)),
  (228, (4, .invokestatic 233, 3, 131, 2, .null, [], none)),
  (231, (2, .ifCond .ne 7, 3, 238, 0, .null, [], none)),
  (234, (0, .iconst 1, 1, 0, 0, (.int 1), [], some [0, 1, 7, 9, 10, 11, 13, 15, 17])),
  (235, (2, .goto 4, 3, 239, 0, .null, [], none)),
  (238, (0, .iconst 0, 1, 0, 0, (.int 0), [], none)),
  (239, (1, .istore 19, 2, 0, 0, .null, [], some [0, 1, 7, 9, 10, 11, 13, 15, 17])),
  (241, (1, .iload 19, 2, 0, 0, .null, [], none)),
  (243, (2, .ifCond .eq 10, 3, 253, 0, .null, [], none)),
  (246, (1, .lload 15, 2, 0, 0, .null, [], none)),
  (248, (1, .lload 11, 2, 0, 0, .null, [], none)),
  (250, (0, .lsub, 1, 0, 0, .null, [], none)),
  (251, (1, .lstore 15, 2, 0, 0, .null, [], none)),
  (253, (1, .lload 13, 2, 0, 0, .null, [], some [0, 1, 7, 9, 10, 11, 13, 15, 17, 19])),
  (255, (0, .iconst 1, 1, 0, 0, (.int 1), [], none))],
 [(256, (0, .lshl, 1, 0, 0, .null, [], none)),
  (257, (1, .iload 19, 2, 0, 0, .null, [], none)),
  (259, (2, .ifCond .eq 7, 3, 266, 0, .null, [], none)),
  (262, (0, .lconst 1, 1, 0, 0, (.long 1), [], none)),
  (263, (2, .goto 4, 3, 267, 0, .null, [], none)),
  (266, (0, .lconst 0, 1, 0, 0, (.long 0), [], none)),
  (267, (0, .lor, 1, 0, 0, .null, [], some [0, 1, 7, 9, 10, 11, 15, 17])),
  (268, (1, .lstore 13, 2, 0, 0, .null, [], none)),
  (270, (1, .iinc 17 (-1), 3, 0, 0, (.int (-1)), [], none)),
  (273, (2, .goto (-87), 3, 186, 0, .null, [], none)),
  (276, (1, .iload_n 1, 1, 0, 0, .null, [], none)),
  (277, (2, .ifCond .eq 36, 3, 313, 0, .null, [], none)),
  (280, (1, .iload 10, 2, 0, 0, .null, [], none)),
  (282, (2, .ifCond .eq 17, 3, 299, 0, .null, [], none)),
  (285, (0, .ldc2_w 279, 3, 0, 0, (.long (-9223372036854775808)), [], none))],
 [(288, (1, .lload 13, 2, 0, 0, .null, [], none)),
  (290, (4, .invokestatic 233, 3, 131, 2, .null, [], none)),
  (293, (2, .ifCond .eq 20, 3, 313, 0, .null, [], none)),
  (296, (2, .goto 10, 3, 306, 0, .null, [], none)),
  (299, (1, .lload 13, 2, 0, 0, .null, [], none)),
  (301, (0, .lconst 0, 1, 0, 0, (.long 0), [], none)),
  (302, (0, .lcmp, 1, 0, 0, .null, [], none)),
  (303, (2, .ifCond .ge 10, 3, 313, 0, .null, [], none)),
  (306, (1, .aload_n 0, 1, 0, 0, .null, [], some [0])),
  (307, (0, .iconst 5, 1, 0, 0, (.int 5), [], none)),
  (308, (0, .lconst 0, 1, 0, 0, (.long 0), [], none)),
  (309, (4, .invokevirtual 180, 3, 183, 3, .null, [], none)),
  (312, (5, .return_, 1, 0, 0, .null, [], none)),
  (313, (1, .aload_n 0, 1, 0, 0, .null, [], some [0, 9, 10, 13, 15])),
  (314, (3, .getfield 30, 3, 12, 16, .null, [], none)),
  (317, (0, .iconst 0, 1, 0, 0, (.int 0), [], none)),
  (318, (1, .iload 10, 2, 0, 0, .null, [], none))],
 [(320, (2, .ifCond .eq 9, 3, 329, 0, .null, [], none)),
  (323, (1, .lload 13, 2, 0, 0, .null, [], none)),
  (325, (0, .lneg, 1, 0, 0, .null, [], none)),
  (326, (2, .goto 5, 3, 331, 0, .null, [], none)),
  (329, (1, .lload 13, 2, 0, 0, .null, [], none)),
  (331, (3, .lastore, 1, 0, 0, .null, [], some [0, 9, 15])),
  (332, (1, .aload_n 0, 1, 0, 0, .null, [], none)),
  (333, (3, .getfield 30, 3, 12, 16, .null, [], none)),
  (336, (0, .iconst 2, 1, 0, 0, (.int 2), [], none)),
  (337, (1, .iload 9, 2, 0, 0, .null, [], none)),
  (339, (2, .ifCond .eq 9, 3, 348, 0, .null, [], none)),
  (342, (1, .lload 15, 2, 0, 0, .null, [], none)),
  (344, (0, .lneg, 1, 0, 0, .null, [], none)),
  (345, (2, .goto 5, 3, 350, 0, .null, [], none)),
  (348, (1, .lload 15, 2, 0, 0, .null, [], none)),
  (350, (3, .lastore, 1, 0, 0, .null, [], some [])),
  (351, (5, .return_, 1, 0, 0, .null, [], none))]]
/- 137: FlagMachineModel.divideSmall(ZIJ)V -/
noncomputable def tb_c137 : List (List (Nat × am_I)) := [[(0, (1, .iload_n 2, 1, 0, 0, .null, [], none)),
  (1, (0, .iconst 1, 1, 0, 0, (.int 1), [], none)),
  (2, (2, .if_icmp .ne 16, 3, 18, 0, .null, [], none)),
  (5, (1, .aload_n 0, 1, 0, 0, .null, [], none)),
  (6, (3, .getfield 30, 3, 12, 16, .null, [], none)),
  (9, (0, .iconst 0, 1, 0, 0, (.int 0), [], none)),
  (10, (3, .laload, 1, 0, 0, .null, [], none)),
  (11, (0, .ldc2_w 147, 3, 0, 0, (.long 65535), [], none)),
  (14, (0, .land, 1, 0, 0, .null, [], none)),
  (15, (2, .goto 23, 3, 38, 0, .null, [], none)),
  (18, (1, .aload_n 0, 1, 0, 0, .null, [], none)),
  (19, (3, .getfield 30, 3, 12, 16, .null, [], none)),
  (22, (0, .iconst 2, 1, 0, 0, (.int 2), [], none)),
  (23, (3, .laload, 1, 0, 0, .null, [], none)),
  (24, (0, .bipush 32, 2, 0, 0, (.int 32), [], none)),
  (26, (0, .lshl, 1, 0, 0, .null, [], none)),
  (27, (1, .aload_n 0, 1, 0, 0, .null, [], none)),
  (28, (3, .getfield 30, 3, 12, 16, .null, [], none)),
  (31, (0, .iconst 0, 1, 0, 0, (.int 0), [], none))],
 [(32, (3, .laload, 1, 0, 0, .null, [], none)),
  (33, (0, .ldc2_w 192, 3, 0, 0, (.long 4294967295), [], none)),
  (36, (0, .land, 1, 0, 0, .null, [], none)),
  (37, (0, .lor, 1, 0, 0, .null, [], none)),
  (38, (1, .lstore 5, 2, 0, 0, .null, [], some [0, 1, 2, 3])),
  (40, (1, .iload_n 2, 1, 0, 0, .null, [], none)),
  (41, (0, .iconst 1, 1, 0, 0, (.int 1), [], none)),
  (42, (2, .if_icmp .ne 14, 3, 56, 0, .null, [], none)),
  (45, (1, .iload_n 1, 1, 0, 0, .null, [], none)),
  (46, (2, .ifCond .eq 10, 3, 56, 0, .null, [], none)),
  (49, (1, .lload 5, 2, 0, 0, .null, [], none)),
  (51, (0, .l2i, 1, 0, 0, .null, [], none)),
  (52, (0, .i2s, 1, 0, 0, .null, [], none)),
  (53, (0, .i2l, 1, 0, 0, .null, [], none)),
  (54, (1, .lstore 5, 2, 0, 0, .null, [], none)),
  (56, (1, .iload_n 1, 1, 0, 0, .null, [], some [0, 1, 2, 3, 5])),
  (57, (2, .ifCond .eq 11, 3, 68, 0, .null, [], none)),
  (60, (1, .lload_n 3, 1, 0, 0, .null, [], none)),
  (61, (1, .iload_n 2, 1, 0, 0, .null, [], none)),
  (62, (4, .invokestatic 274, 3, 178, 2, .null, [], none))],
 [(65, (2, .goto 4, 3, 69, 0, .null, [], none)),
  (68, (1, .lload_n 3, 1, 0, 0, .null, [], none)),
  (69, (1, .lstore 7, 2, 0, 0, .null, [], some [0, 1, 2, 5])),
  (71, (1, .iload_n 1, 1, 0, 0, .null, [], none)),
  (72, (2, .ifCond .ne 10, 3, 82, 0, .null, [], none)),
  (75, (1, .lload 5, 2, 0, 0, .null, [], none)),
  (77, (0, .lconst 0, 1, 0, 0, (.long 0), [], none)),
  (78, (0, .lcmp, 1, 0, 0, .null, [], none)),
  (79, (2, .ifCond .lt 11, 3, 90, 0, .null, [], none)),
  (82, (1, .lload 5, 2, 0, 0, .null, [], some [0, 1, 2, 5, 7])),
  (84, (1, .lload 7, 2, 0, 0, .null, [], none)),
  (86, (0, .ldiv, 1, 0, 0, .null, [], none)),
  (87, (2, .goto 12, 3, 99, 0, .null, [], none)),
  (90, (1, .lload 5, 2, 0, 0, .null, [], none)),
  (92, (0, .iconst 1, 1, 0, 0, (.int 1), [], none)),
  (93, (0, .lushr, 1, 0, 0, .null, [], none)),
  (94, (1, .lload 7, 2, 0, 0, .null, [], none))],
 [(96, (0, .ldiv, 1, 0, 0, .null, [], none)),
  (97, (0, .iconst 1, 1, 0, 0, (.int 1), [], none)),
  (98, (0, .lshl, 1, 0, 0, .null, [], none)),
  (99, (1, .lstore 9, 2, 0, 0, .null, [], some [0, 1, 2, 5, 7])),
  (101, (1, .lload 5, 2, 0, 0, .null, [], none)),
  (103, (1, .lload 9, 2, 0, 0, .null, [], none)),
  (105, (1, .lload 7, 2, 0, 0, .null, [], none)),
  (107, (0, .lmul, 1, 0, 0, .null, [], none)),
  (108, (0, .lsub, 1, 0, 0, .null, [], none)),
  (109, (1, .lstore 11, 2, 0, 0, .null, [], none)),
  (111, (1, .iload_n 1, 1, 0, 0, .null, [], none)),
  (112, (2, .ifCond .ne 26, 3, 138, 0, .null, [], none)),
  (115, (1, .lload 11, 2, 0, 0, .null, [], none)),
  (117, (1, .lload 7, 2, 0, 0, .null, [], none)),
  (119, (4, .invokestatic 233, 3, 131, 2, .null, [], none)),
  (122, (2, .ifCond .ne 16, 3, 138, 0, .null, [], none)),
  (125, (1, .lload 9, 2, 0, 0, .null, [], none)),
  (127, (0, .lconst 1, 1, 0, 0, (.long 1), [], none))],
 [(128, (0, .ladd, 1, 0, 0, .null, [], none)),
  (129, (1, .lstore 9, 2, 0, 0, .null, [], none)),
  (131, (1, .lload 11, 2, 0, 0, .null, [], none)),
  (133, (1, .lload 7, 2, 0, 0, .null, [], none)),
  (135, (0, .lsub, 1, 0, 0, .null, [], none)),
  (136, (1, .lstore 11, 2, 0, 0, .null, [], none)),
  (138, (1, .iload_n 1, 1, 0, 0, .null, [], some [0, 1, 2, 5, 7, 9, 11])),
  (139, (2, .ifCond .eq 41, 3, 180, 0, .null, [], none)),
  (142, (1, .lload 9, 2, 0, 0, .null, [], none)),
  (144, (1, .lload 9, 2, 0, 0, .null, [], none)),
  (146, (1, .iload_n 2, 1, 0, 0, .null, [], none)),
  (147, (4, .invokestatic 274, 3, 178, 2, .null, [], none)),
  (150, (0, .lcmp, 1, 0, 0, .null, [], none)),
  (151, (2, .ifCond .ne 25, 3, 176, 0, .null, [], none)),
  (154, (1, .lload 5, 2, 0, 0, .null, [], none)),
  (156, (0, .ldc2_w 279, 3, 0, 0, (.long (-9223372036854775808)), [], none)),
  (159, (0, .lcmp, 1, 0, 0, .null, [], none))],
 [(160, (2, .ifCond .ne 12, 3, 172, 0, .null, [], none)),
  (163, (1, .lload 7, 2, 0, 0, .null, [], none)),
  (165, (0, .ldc2_w 277, 3, 0, 0, (.long (-1)), [], none)),
  (168, (0, .lcmp, 1, 0, 0, .null, [], none)),
  (169, (2, .ifCond .eq 7, 3, 176, 0, .null, [], none)),
  (172, (0, .iconst 1, 1, 0, 0, (.int 1), [], some [0, 2, 9, 11])),
  (173, (2, .goto 24, 3, 197, 0, .null, [], none)),
  (176, (0, .iconst 0, 1, 0, 0, (.int 0), [], some [0, 2, 9, 11])),
  (177, (2, .goto 20, 3, 197, 0, .null, [], none)),
  (180, (1, .lload 9, 2, 0, 0, .null, [], none)),
  (182, (1, .lload 9, 2, 0, 0, .null, [], none)),
  (184, (1, .iload_n 2, 1, 0, 0, .null, [], none)),
  (185, (4, .invokestatic 200, 3, 135, 2, .null, [], none)),
  (188, (0, .lcmp, 1, 0, 0, .null, [], none)),
  (189, (2, .ifCond .ne 7, 3, 196, 0, .null, [], none))],
 [(192, (0, .iconst 1, 1, 0, 0, (.int 1), [], none)),
  (193, (2, .goto 4, 3, 197, 0, .null, [], none)),
  (196, (0, .iconst 0, 1, 0, 0, (.int 0), [], none)),
  (197, (1, .istore 13, 2, 0, 0, .null, [], some [0, 2, 9, 11])),
  (199, (1, .iload 13, 2, 0, 0, .null, [], none)),
  (201, (2, .ifCond .ne 12, 3, 213, 0, .null, [], none)),
  (204, (1, .aload_n 0, 1, 0, 0, .null, [], none)),
  (205, (0, .iconst 5, 1, 0, 0, (.int 5), [], none)),
  (206, (0, .lconst 0, 1, 0, 0, (.long 0), [], none)),
  (207, (4, .invokevirtual 180, 3, 183, 3, .null, [], none)),
  (210, (2, .goto 60, 3, 270, 0, .null, [], none)),
  (213, (1, .iload_n 2, 1, 0, 0, .null, [], none)),
  (214, (0, .iconst 1, 1, 0, 0, (.int 1), [], none)),
  (215, (2, .if_icmp .ne 39, 3, 254, 0, .null, [], none)),
  (218, (1, .aload_n 0, 1, 0, 0, .null, [], none)),
  (219, (3, .getfield 30, 3, 12, 16, .null, [], none)),
  (222, (0, .iconst 0, 1, 0, 0, (.int 0), [], none)),
  (223, (1, .aload_n 0, 1, 0, 0, .null, [], none))],
 [(224, (3, .getfield 30, 3, 12, 16, .null, [], none)),
  (227, (0, .iconst 0, 1, 0, 0, (.int 0), [], none)),
  (228, (3, .laload, 1, 0, 0, .null, [], none)),
  (229, (0, .ldc2_w 285, 3, 0, 0, (.long (-65536)), [], none)),
  (232, (0, .land, 1, 0, 0, .null, [], none)),
  (233, (1, .lload 11, 2, 0, 0, .null, [], none)),
  (235, (0, .ldc2_w 145, 3, 0, 0, (.long 255), [], none)),
  (238, (0, .land, 1, 0, 0, .null, [], none)),
  (239, (0, .bipush 8, 2, 0, 0, (.int 8), [], none)),
  (241, (0, .lshl, 1, 0, 0, .null, [], none)),
  (242, (0, .lor, 1, 0, 0, .null, [], none)),
  (243, (1, .lload 9, 2, 0, 0, .null, [], none)),
  (245, (0, .ldc2_w 145, 3, 0, 0, (.long 255), [], none)),
  (248, (0, .land, 1, 0, 0, .null, [], none)),
  (249, (0, .lor, 1, 0, 0, .null, [], none)),
  (250, (3, .lastore, 1, 0, 0, .null, [], none)),
  (251, (2, .goto 19, 3, 270, 0, .null, [], none)),
  (254, (1, .aload_n 0, 1, 0, 0, .null, [], none)),
  (255, (0, .iconst 0, 1, 0, 0, (.int 0), [], none))],
 [(256, (0, .iconst 4, 1, 0, 0, (.int 4), [], none)),
  (257, (1, .lload 9, 2, 0, 0, .null, [], none)),
  (259, (4, .invokevirtual 212, 3, 176, 4, .null, [], none)),
  (262, (1, .aload_n 0, 1, 0, 0, .null, [], none)),
  (263, (0, .iconst 2, 1, 0, 0, (.int 2), [], none)),
  (264, (0, .iconst 4, 1, 0, 0, (.int 4), [], none)),
  (265, (1, .lload 11, 2, 0, 0, .null, [], none)),
  (267, (4, .invokevirtual 212, 3, 176, 4, .null, [], none)),
  (270, (5, .return_, 1, 0, 0, .null, [], some []))]]
/- 138: FlagMachineModel.fill(IJ)V -/
noncomputable def tb_c138 : List (List (Nat × am_I)) := [[(0, (1, .aload_n 0, 1, 0, 0, .null, [], none)),
  (1, (0, .iconst 0, 1, 0, 0, (.int 0), [], none)),
  (2, (3, .putfield 61, 3, 12, 0, .null, [], none)),
  (5, (0, .iconst 0, 1, 0, 0, (.int 0), [], none)),
  (6, (1, .istore 4, 2, 0, 0, .null, [], none)),
  (8, (1, .iload 4, 2, 0, 0, .null, [], some [0, 1, 2, 4])),
  (10, (0, .bipush 8, 2, 0, 0, (.int 8), [], none)),
  (12, (2, .if_icmp .ge 50, 3, 62, 0, .null, [], none)),
  (15, (1, .iload_n 1, 1, 0, 0, .null, [], none)),
  (16, (0, .i2l, 1, 0, 0, .null, [], none)),
  (17, (1, .iload 4, 2, 0, 0, .null, [], none)),
  (19, (0, .i2l, 1, 0, 0, .null, [], none)),
  (20, (0, .ladd, 1, 0, 0, .null, [], none)),
  (21, (1, .lstore 5, 2, 0, 0, .null, [], none)),
  (23, (1, .lload 5, 2, 0, 0, .null, [], none)),
  (25, (0, .lconst 0, 1, 0, 0, (.long 0), [], none)),
  (26, (0, .lcmp, 1, 0, 0, .null, [], none)),
  (27, (2, .ifCond .lt 29, 3, 56, 0, .null, [], none)),
  (30, (1, .lload 5, 2, 0, 0, .null, [], none))],
 [(32, (0, .ldc2_w 112, 3, 0, 0, (.long 262144), [], none)),
  (35, (0, .lcmp, 1, 0, 0, .null, [], none)),
  (36, (2, .ifCond .ge 20, 3, 56, 0, .null, [], none)),
  (39, (1, .aload_n 0, 1, 0, 0, .null, [], none)),
  (40, (3, .getfield 10, 3, 12, 1, .null, [], none)),
  (43, (1, .lload 5, 2, 0, 0, .null, [], none)),
  (45, (0, .l2i, 1, 0, 0, .null, [], none)),
  (46, (1, .lload_n 2, 1, 0, 0, .null, [], none)),
  (47, (0, .bipush 8, 2, 0, 0, (.int 8), [], none)),
  (49, (1, .iload 4, 2, 0, 0, .null, [], none)),
  (51, (0, .imul, 1, 0, 0, .null, [], none)),
  (52, (0, .lshr, 1, 0, 0, .null, [], none)),
  (53, (0, .l2i, 1, 0, 0, .null, [], none)),
  (54, (0, .i2b, 1, 0, 0, .null, [], none)),
  (55, (3, .bastore, 1, 1, 0, .null, [], none)),
  (56, (1, .iinc 4 1, 3, 0, 0, (.int 1), [], some [0, 1, 2, 4])),
  (59, (2, .goto (-51), 3, 8, 0, .null, [], none)),
  (62, (5, .return_, 1, 0, 0, .null, [], none))]]
/- 139: FlagMachineModel.find(JZ)I -/
noncomputable def tb_c139 : List (List (Nat × am_I)) := [[(0, (1, .lload_n 1, 1, 0, 0, .null, [], none)),
  (1, (0, .ldc2_w 88, 3, 0, 0, (.long 4194304), [], none)),
  (4, (0, .lsub, 1, 0, 0, .null, [], none)),
  (5, (1, .lstore 4, 2, 0, 0, .null, [], none)),
  (7, (1, .lload 4, 2, 0, 0, .null, [], none)),
  (9, (0, .lconst 0, 1, 0, 0, (.long 0), [], none)),
  (10, (0, .lcmp, 1, 0, 0, .null, [], none)),
  (11, (2, .ifCond .lt 93, 3, 104, 0, .null, [], none)),
  (14, (1, .lload 4, 2, 0, 0, .null, [], none)),
  (16, (1, .aload_n 0, 1, 0, 0, .null, [], none)),
  (17, (3, .getfield 64, 3, 12, 7, .null, [], none)),
  (20, (0, .i2l, 1, 0, 0, .null, [], none)),
  (21, (0, .lcmp, 1, 0, 0, .null, [], none)),
  (22, (2, .ifCond .ge 82, 3, 104, 0, .null, [], none)),
  (25, (1, .lload 4, 2, 0, 0, .null, [], none)),
  (27, (1, .aload_n 0, 1, 0, 0, .null, [], none)),
  (28, (3, .getfield 67, 3, 12, 8, .null, [], none)),
  (31, (0, .i2l, 1, 0, 0, .null, [], none))],
 [(32, (0, .lcmp, 1, 0, 0, .null, [], none)),
  (33, (2, .ifCond .lt 25, 3, 58, 0, .null, [], none)),
  (36, (1, .lload 4, 2, 0, 0, .null, [], none)),
  (38, (1, .aload_n 0, 1, 0, 0, .null, [], none)),
  (39, (3, .getfield 70, 3, 12, 9, .null, [], none)),
  (42, (0, .i2l, 1, 0, 0, .null, [], none)),
  (43, (0, .lcmp, 1, 0, 0, .null, [], none)),
  (44, (2, .ifCond .lt 18, 3, 62, 0, .null, [], none)),
  (47, (1, .lload 4, 2, 0, 0, .null, [], none)),
  (49, (1, .aload_n 0, 1, 0, 0, .null, [], none)),
  (50, (3, .getfield 73, 3, 12, 10, .null, [], none)),
  (53, (0, .i2l, 1, 0, 0, .null, [], none)),
  (54, (0, .lcmp, 1, 0, 0, .null, [], none)),
  (55, (2, .ifCond .ge 7, 3, 62, 0, .null, [], none)),
  (58, (0, .iconst 1, 1, 0, 0, (.int 1), [], some [0, 3, 4])),
  (59, (2, .goto 4, 3, 63, 0, .null, [], none)),
  (62, (0, .iconst 0, 1, 0, 0, (.int 0), [], some [0, 3, 4])),
  (63, (1, .istore 6, 2, 0, 0, .null, [], some [0, 3, 4]))],
 [(65, (1, .iload 6, 2, 0, 0, .null, [], none)),
  (67, (2, .ifCond .eq 7, 3, 74, 0, .null, [], none)),
  (70, (1, .iload_n 3, 1, 0, 0, .null, [], none)),
  (71, (2, .ifCond .eq 25, 3, 96, 0, .null, [], none)),
  (74, (1, .lload 4, 2, 0, 0, .null, [], some [0, 4])),
  (76, (1, .aload_n 0, 1, 0, 0, .null, [], none)),
  (77, (3, .getfield 76, 3, 12, 11, .null, [], none)),
  (80, (0, .i2l, 1, 0, 0, .null, [], none)),
  (81, (0, .lcmp, 1, 0, 0, .null, [], none)),
  (82, (2, .ifCond .lt 20, 3, 102, 0, .null, [], none)),
  (85, (1, .lload 4, 2, 0, 0, .null, [], none)),
  (87, (1, .aload_n 0, 1, 0, 0, .null, [], none)),
  (88, (3, .getfield 79, 3, 12, 12, .null, [], none)),
  (91, (0, .i2l, 1, 0, 0, .null, [], none)),
  (92, (0, .lcmp, 1, 0, 0, .null, [], none)),
  (93, (2, .ifCond .ge 9, 3, 102, 0, .null, [], none))],
 [(96, (1, .lload 4, 2, 0, 0, .null, [], some [4])),
  (98, (0, .l2i, 1, 0, 0, .null, [], none)),
  (99, (2, .goto 4, 3, 103, 0, .null, [], none)),
  (102, (0, .iconst (-1), 1, 0, 0, (.int (-1)), [], some [])),
  (103, (5, .ireturn, 1, 0, 0, .null, [], some [])),
  (104, (1, .lload_n 1, 1, 0, 0, .null, [], some [0, 1])),
  (105, (1, .aload_n 0, 1, 0, 0, .null, [], none)),
  (106, (4, .invokevirtual 159, 3, 142, 1, .null, [], none)),
  (109, (0, .lsub, 1, 0, 0, .null, [], none)),
  (110, (1, .lstore 6, 2, 0, 0, .null, [], none)),
  (112, (1, .lload 6, 2, 0, 0, .null, [], none)),
  (114, (0, .lconst 0, 1, 0, 0, (.long 0), [], none)),
  (115, (0, .lcmp, 1, 0, 0, .null, [], none)),
  (116, (2, .ifCond .lt 21, 3, 137, 0, .null, [], none)),
  (119, (1, .lload 6, 2, 0, 0, .null, [], none)),
  (121, (1, .aload_n 0, 1, 0, 0, .null, [], none)),
  (122, (3, .getfield 94, 3, 12, 13, .null, [], none)),
  (125, (0, .i2l, 1, 0, 0, .null, [], none)),
  (126, (0, .lcmp, 1, 0, 0, .null, [], none)),
  (127, (2, .ifCond .ge 10, 3, 137, 0, .null, [], none))],
 [(130, (0, .ldc 163, 2, 0, 0, (.int 1048576), [], none)),
  (132, (1, .lload 6, 2, 0, 0, .null, [], none)),
  (134, (0, .l2i, 1, 0, 0, .null, [], none)),
  (135, (0, .ior, 1, 0, 0, .null, [], none)),
  (136, (5, .ireturn, 1, 0, 0, .null, [], none)),
  (137, (1, .lload_n 1, 1, 0, 0, .null, [], some [1])),
  (138, (0, .ldc2_w 164, 3, 0, 0, (.long 2147414016), [], none)),
  (141, (0, .lsub, 1, 0, 0, .null, [], none)),
  (142, (1, .lstore 8, 2, 0, 0, .null, [], none)),
  (144, (1, .lload 8, 2, 0, 0, .null, [], none)),
  (146, (0, .lconst 0, 1, 0, 0, (.long 0), [], none)),
  (147, (0, .lcmp, 1, 0, 0, .null, [], none)),
  (148, (2, .ifCond .lt 21, 3, 169, 0, .null, [], none)),
  (151, (1, .lload 8, 2, 0, 0, .null, [], none)),
  (153, (0, .ldc2_w 166, 3, 0, 0, (.long 65536), [], none)),
  (156, (0, .lcmp, 1, 0, 0, .null, [], none)),
  (157, (2, .ifCond .ge 12, 3, 169, 0, .null, [], none))],
 [(160, (0, .ldc 168, 2, 0, 0, (.int 2097152), [], none)),
  (162, (1, .lload 8, 2, 0, 0, .null, [], none)),
  (164, (0, .l2i, 1, 0, 0, .null, [], none)),
  (165, (0, .ior, 1, 0, 0, .null, [], none)),
  (166, (2, .goto 4, 3, 170, 0, .null, [], none)),
  (169, (0, .iconst (-1), 1, 0, 0, (.int (-1)), [], some [])),
  (170, (5, .ireturn, 1, 0, 0, .null, [], some []))]]
/- 140: FlagMachineModel.flags()J -/
noncomputable def tb_c140 : List (List (Nat × am_I)) := [[(0, (0, .ldc2_w 247, 3, 0, 0, (.long 2), [], none)),
  (3, (1, .aload_n 0, 1, 0, 0, .null, [], none)),
  (4, (3, .getfield 237, 3, 12, 21, .null, [], none)),
  (7, (2, .ifCond .eq 7, 3, 14, 0, .null, [], none)),
  (10, (0, .lconst 1, 1, 0, 0, (.long 1), [], none)),
  (11, (2, .goto 4, 3, 15, 0, .null, [], none)),
  (14, (0, .lconst 0, 1, 0, 0, (.long 0), [], none)),
  (15, (0, .ladd, 1, 0, 0, .null, [], some [0])),
  (16, (1, .aload_n 0, 1, 0, 0, .null, [], none)),
  (17, (3, .getfield 230, 3, 12, 22, .null, [], none)),
  (20, (2, .ifCond .eq 9, 3, 29, 0, .null, [], none)),
  (23, (0, .ldc2_w 249, 3, 0, 0, (.long 4), [], none)),
  (26, (2, .goto 4, 3, 30, 0, .null, [], none)),
  (29, (0, .lconst 0, 1, 0, 0, (.long 0), [], none)),
  (30, (0, .ladd, 1, 0, 0, .null, [], some [0])),
  (31, (1, .aload_n 0, 1, 0, 0, .null, [], none))],
 [(32, (3, .getfield 220, 3, 12, 23, .null, [], none)),
  (35, (2, .ifCond .eq 9, 3, 44, 0, .null, [], none)),
  (38, (0, .ldc2_w 251, 3, 0, 0, (.long 64), [], none)),
  (41, (2, .goto 4, 3, 45, 0, .null, [], none)),
  (44, (0, .lconst 0, 1, 0, 0, (.long 0), [], none)),
  (45, (0, .ladd, 1, 0, 0, .null, [], some [0])),
  (46, (1, .aload_n 0, 1, 0, 0, .null, [], none)),
  (47, (3, .getfield 227, 3, 12, 24, .null, [], none)),
  (50, (2, .ifCond .eq 9, 3, 59, 0, .null, [], none)),
  (53, (0, .ldc2_w 253, 3, 0, 0, (.long 128), [], none)),
  (56, (2, .goto 4, 3, 60, 0, .null, [], none)),
  (59, (0, .lconst 0, 1, 0, 0, (.long 0), [], none)),
  (60, (0, .ladd, 1, 0, 0, .null, [], some [0])),
  (61, (1, .aload_n 0, 1, 0, 0, .null, [], none)),
  (62, (3, .getfield 240, 3, 12, 25, .null, [], none))],
 [(65, (2, .ifCond .eq 9, 3, 74, 0, .null, [], none)),
  (68, (0, .ldc2_w 255, 3, 0, 0, (.long 2048), [], none)),
  (71, (2, .goto 4, 3, 75, 0, .null, [], none)),
  (74, (0, .lconst 0, 1, 0, 0, (.long 0), [], none)),
  (75, (0, .ladd, 1, 0, 0, .null, [], some [])),
  (76, (5, .lreturn, 1, 0, 0, .null, [], none))]]
/- 141: FlagMachineModel.goes(I)V -/
noncomputable def tb_c141 : List (List (Nat × am_I)) := [[(0, (1, .iload_n 1, 1, 0, 0, .null, [], none)),
  (1, (0, .bipush 29, 2, 0, 0, (.int 29), [], none)),
  (3, (2, .if_icmp .ne 33, 3, 36, 0, .null, [], none)),
  (6, (1, .aload_n 0, 1, 0, 0, .null, [], none)),
  (7, (1, .aload_n 0, 1, 0, 0, .null, [], none)),
  (8, (0, .iconst 0, 1, 0, 0, (.int 0), [], none)),
  (9, (4, .invokevirtual 194, 3, 151, 2, .null, [], none)),
  (12, (0, .iconst 3, 1, 0, 0, (.int 3), [], none)),
  (13, (2, .if_icmp .ne 10, 3, 23, 0, .null, [], none)),
  (16, (1, .aload_n 0, 1, 0, 0, .null, [], none)),
  (17, (3, .getfield 123, 3, 12, 38, .null, [], none)),
  (20, (2, .goto 10, 3, 30, 0, .null, [], none)),
  (23, (1, .aload_n 0, 1, 0, 0, .null, [], none)),
  (24, (0, .iconst 0, 1, 0, 0, (.int 0), [], none)),
  (25, (0, .bipush 8, 2, 0, 0, (.int 8), [], none)),
  (27, (4, .invokevirtual 257, 3, 187, 3, .null, [], none)),
  (30, (4, .invokevirtual 296, 3, 168, 2, .null, [], some []))],
 [(33, (2, .goto 170, 3, 203, 0, .null, [], none)),
  (36, (1, .iload_n 1, 1, 0, 0, .null, [], none)),
  (37, (0, .bipush 30, 2, 0, 0, (.int 30), [], none)),
  (39, (2, .if_icmp .ne 36, 3, 75, 0, .null, [], none)),
  (42, (1, .aload_n 0, 1, 0, 0, .null, [], none)),
  (43, (4, .invokevirtual 299, 3, 166, 1, .null, [], none)),
  (46, (1, .lstore_n 2, 1, 0, 0, .null, [], none)),
  (47, (1, .aload_n 0, 1, 0, 0, .null, [], none)),
  (48, (0, .iconst 0, 1, 0, 0, (.int 0), [], none)),
  (49, (4, .invokevirtual 194, 3, 151, 2, .null, [], none)),
  (52, (0, .iconst 2, 1, 0, 0, (.int 2), [], none)),
  (53, (2, .if_icmp .ne 11, 3, 64, 0, .null, [], none)),
  (56, (1, .aload_n 0, 1, 0, 0, .null, [], none)),
  (57, (1, .aload_n 0, 1, 0, 0, .null, [], none)),
  (58, (4, .invokevirtual 271, 3, 127, 1, .null, [], none)),
  (61, (3, .putfield 204, 3, 12, 29, .null, [], none))],
 [(64, (1, .aload_n 0, 1, 0, 0, .null, [], some [0, 2])),
  (65, (0, .iconst 0, 1, 0, 0, (.int 0), [], none)),
  (66, (0, .bipush 8, 2, 0, 0, (.int 8), [], none)),
  (68, (1, .lload_n 2, 1, 0, 0, .null, [], none)),
  (69, (4, .invokevirtual 268, 3, 169, 4, .null, [], none)),
  (72, (2, .goto 131, 3, 203, 0, .null, [], none)),
  (75, (1, .iload_n 1, 1, 0, 0, .null, [], none)),
  (76, (0, .bipush 33, 2, 0, 0, (.int 33), [], none)),
  (78, (2, .if_icmp .ne 40, 3, 118, 0, .null, [], none)),
  (81, (1, .aload_n 0, 1, 0, 0, .null, [], none)),
  (82, (1, .aload_n 0, 1, 0, 0, .null, [], none)),
  (83, (4, .invokevirtual 299, 3, 166, 1, .null, [], none)),
  (86, (3, .putfield 90, 3, 12, 18, .null, [], none)),
  (89, (1, .aload_n 0, 1, 0, 0, .null, [], none)),
  (90, (3, .getfield 30, 3, 12, 16, .null, [], none)),
  (93, (0, .iconst 4, 1, 0, 0, (.int 4), [], none)),
  (94, (0, .dup2, 1, 0, 0, .null, [], none)),
  (95, (3, .laload, 1, 0, 0, .null, [], none))],
 [(96, (1, .aload_n 0, 1, 0, 0, .null, [], none)),
  (97, (0, .iconst 0, 1, 0, 0, (.int 0), [], none)),
  (98, (4, .invokevirtual 194, 3, 151, 2, .null, [], none)),
  (101, (0, .iconst 3, 1, 0, 0, (.int 3), [], none)),
  (102, (2, .if_icmp .ne 10, 3, 112, 0, .null, [], none)),
  (105, (1, .aload_n 0, 1, 0, 0, .null, [], none)),
  (106, (3, .getfield 123, 3, 12, 38, .null, [], none)),
  (109, (2, .goto 4, 3, 113, 0, .null, [], none)),
  (112, (0, .lconst 0, 1, 0, 0, (.long 0), [], none)),
  (113, (0, .ladd, 1, 0, 0, .null, [], some [])),
  (114, (3, .lastore, 1, 0, 0, .null, [], none)),
  (115, (2, .goto 88, 3, 203, 0, .null, [], none)),
  (118, (1, .iload_n 1, 1, 0, 0, .null, [], none)),
  (119, (0, .bipush 34, 2, 0, 0, (.int 34), [], none)),
  (121, (2, .if_icmp .ne 34, 3, 155, 0, .null, [], none)),
  (124, (1, .aload_n 0, 1, 0, 0, .null, [], none)),
  (125, (0, .dup, 1, 0, 0, .null, [], none)),
  (126, (3, .getfield 90, 3, 12, 18, .null, [], none))],
 [(129, (1, .aload_n 0, 1, 0, 0, .null, [], none)),
  (130, (1, .aload_n 0, 1, 0, 0, .null, [], none)),
  (131, (3, .getfield 117, 3, 12, 32, .null, [], none)),
  (134, (4, .invokevirtual 302, 3, 147, 2, .null, [], none)),
  (137, (2, .ifCond .eq 10, 3, 147, 0, .null, [], none)),
  (140, (1, .aload_n 0, 1, 0, 0, .null, [], none)),
  (141, (3, .getfield 123, 3, 12, 38, .null, [], none)),
  (144, (2, .goto 4, 3, 148, 0, .null, [], none)),
  (147, (0, .lconst 0, 1, 0, 0, (.long 0), [], none)),
  (148, (0, .ladd, 1, 0, 0, .null, [], some [])),
  (149, (3, .putfield 90, 3, 12, 18, .null, [], none)),
  (152, (2, .goto 51, 3, 203, 0, .null, [], none)),
  (155, (1, .aload_n 0, 1, 0, 0, .null, [], none)),
  (156, (0, .iconst 0, 1, 0, 0, (.int 0), [], none)),
  (157, (4, .invokevirtual 194, 3, 151, 2, .null, [], none))],
 [(160, (0, .iconst 3, 1, 0, 0, (.int 3), [], none)),
  (161, (2, .if_icmp .ne 15, 3, 176, 0, .null, [], none)),
  (164, (1, .aload_n 0, 1, 0, 0, .null, [], none)),
  (165, (3, .getfield 90, 3, 12, 18, .null, [], none)),
  (168, (1, .aload_n 0, 1, 0, 0, .null, [], none)),
  (169, (3, .getfield 123, 3, 12, 38, .null, [], none)),
  (172, (0, .ladd, 1, 0, 0, .null, [], none)),
  (173, (2, .goto 10, 3, 183, 0, .null, [], none)),
  (176, (1, .aload_n 0, 1, 0, 0, .null, [], none)),
  (177, (0, .iconst 0, 1, 0, 0, (.int 0), [], none)),
  (178, (0, .bipush 8, 2, 0, 0, (.int 8), [], none)),
  (180, (4, .invokevirtual 257, 3, 187, 3, .null, [], none)),
  (183, (1, .lstore_n 2, 1, 0, 0, .null, [], some [0, 1])),
  (184, (1, .iload_n 1, 1, 0, 0, .null, [], none)),
  (185, (0, .bipush 32, 2, 0, 0, (.int 32), [], none)),
  (187, (2, .if_icmp .ne 11, 3, 198, 0, .null, [], none)),
  (190, (1, .aload_n 0, 1, 0, 0, .null, [], none)),
  (191, (1, .aload_n 0, 1, 0, 0, .null, [], none))],
 [(192, (3, .getfield 90, 3, 12, 18, .null, [], none)),
  (195, (4, .invokevirtual 296, 3, 168, 2, .null, [], none)),
  (198, (1, .aload_n 0, 1, 0, 0, .null, [], some [0, 2])),
  (199, (1, .lload_n 2, 1, 0, 0, .null, [], none)),
  (200, (3, .putfield 90, 3, 12, 18, .null, [], none)),
  (203, (5, .return_, 1, 0, 0, .null, [], some []))]]
/- 142: FlagMachineModel.heapBegin()J -/
noncomputable def tb_c142 : List (List (Nat × am_I)) := [[(0, (0, .ldc2_w 88, 3, 0, 0, (.long 4194304), [], none)),
  (3, (1, .aload_n 0, 1, 0, 0, .null, [], none)),
  (4, (3, .getfield 64, 3, 12, 7, .null, [], none)),
  (7, (0, .sipush 4095, 3, 0, 0, (.int 4095), [], none)),
  (10, (0, .iadd, 1, 0, 0, .null, [], none)),
  (11, (0, .sipush (-4096), 3, 0, 0, (.int (-4096)), [], none)),
  (14, (0, .iand, 1, 0, 0, .null, [], none)),
  (15, (0, .i2l, 1, 0, 0, .null, [], none)),
  (16, (0, .ladd, 1, 0, 0, .null, [], none)),
  (17, (5, .lreturn, 1, 0, 0, .null, [], none))]]
/- 143: FlagMachineModel.highSigned(JJ)J -/
noncomputable def tb_c143 : List (List (Nat × am_I)) := [[(0, (1, .lload_n 0, 1, 0, 0, .null, [], none)),
  (1, (1, .lload_n 2, 1, 0, 0, .null, [], none)),
  (2, (4, .invokestatic 281, 3, 144, 2, .null, [], none)),
  (5, (1, .lload_n 0, 1, 0, 0, .null, [], none)),
  (6, (0, .lconst 0, 1, 0, 0, (.long 0), [], none)),
  (7, (0, .lcmp, 1, 0, 0, .null, [], none)),
  (8, (2, .ifCond .ge 7, 3, 15, 0, .null, [], none)),
  (11, (1, .lload_n 2, 1, 0, 0, .null, [], none)),
  (12, (2, .goto 4, 3, 16, 0, .null, [], none)),
  (15, (0, .lconst 0, 1, 0, 0, (.long 0), [], none)),
  (16, (0, .lsub, 1, 0, 0, .null, [], some [0, 2])),
  (17, (1, .lload_n 2, 1, 0, 0, .null, [], none)),
  (18, (0, .lconst 0, 1, 0, 0, (.long 0), [], none)),
  (19, (0, .lcmp, 1, 0, 0, .null, [], none)),
  (20, (2, .ifCond .ge 7, 3, 27, 0, .null, [], none)),
  (23, (1, .lload_n 0, 1, 0, 0, .null, [], none)),
  (24, (2, .goto 4, 3, 28, 0, .null, [], none)),
  (27, (0, .lconst 0, 1, 0, 0, (.long 0), [], none)),
  (28, (0, .lsub, 1, 0, 0, .null, [], some [])),
  (29, (5, .lreturn, 1, 0, 0, .null, [], none))]]
/- 144: FlagMachineModel.highUnsigned(JJ)J -/
noncomputable def tb_c144 : List (List (Nat × am_I)) := [[(0, (1, .lload_n 0, 1, 0, 0, .null, [], none)),
  (1, (0, .ldc2_w 192, 3, 0, 0, (.long 4294967295), [], none)),
  (4, (0, .land, 1, 0, 0, .null, [], none)),
  (5, (1, .lstore 4, 2, 0, 0, .null, [], none)),
  (7, (1, .lload_n 0, 1, 0, 0, .null, [], none)),
  (8, (0, .bipush 32, 2, 0, 0, (.int 32), [], none)),
  (10, (0, .lushr, 1, 0, 0, .null, [], none)),
  (11, (1, .lstore 6, 2, 0, 0, .null, [], none)),
  (13, (1, .lload_n 2, 1, 0, 0, .null, [], none)),
  (14, (0, .ldc2_w 192, 3, 0, 0, (.long 4294967295), [], none)),
  (17, (0, .land, 1, 0, 0, .null, [], none)),
  (18, (1, .lstore 8, 2, 0, 0, .null, [], none)),
  (20, (1, .lload_n 2, 1, 0, 0, .null, [], none)),
  (21, (0, .bipush 32, 2, 0, 0, (.int 32), [], none)),
  (23, (0, .lushr, 1, 0, 0, .null, [], none)),
  (24, (1, .lstore 10, 2, 0, 0, .null, [], none)),
  (26, (1, .lload 4, 2, 0, 0, .null, [], none)),
  (28, (1, .lload 8, 2, 0, 0, .null, [], none)),
  (30, (0, .lmul, 1, 0, 0, .null, [], none)),
  (31, (1, .lstore 12, 2, 0, 0, .null, [], none))],
 [(33, (1, .lload 6, 2, 0, 0, .null, [], none)),
  (35, (1, .lload 8, 2, 0, 0, .null, [], none)),
  (37, (0, .lmul, 1, 0, 0, .null, [], none)),
  (38, (1, .lload 12, 2, 0, 0, .null, [], none)),
  (40, (0, .bipush 32, 2, 0, 0, (.int 32), [], none)),
  (42, (0, .lushr, 1, 0, 0, .null, [], none)),
  (43, (0, .ladd, 1, 0, 0, .null, [], none)),
  (44, (1, .lstore 14, 2, 0, 0, .null, [], none)),
  (46, (1, .lload 4, 2, 0, 0, .null, [], none)),
  (48, (1, .lload 10, 2, 0, 0, .null, [], none)),
  (50, (0, .lmul, 1, 0, 0, .null, [], none)),
  (51, (1, .lload 14, 2, 0, 0, .null, [], none)),
  (53, (0, .ldc2_w 192, 3, 0, 0, (.long 4294967295), [], none)),
  (56, (0, .land, 1, 0, 0, .null, [], none)),
  (57, (0, .ladd, 1, 0, 0, .null, [], none)),
  (58, (1, .lstore 16, 2, 0, 0, .null, [], none)),
  (60, (1, .lload 6, 2, 0, 0, .null, [], none)),
  (62, (1, .lload 10, 2, 0, 0, .null, [], none))],
 [(64, (0, .lmul, 1, 0, 0, .null, [], none)),
  (65, (1, .lload 14, 2, 0, 0, .null, [], none)),
  (67, (0, .bipush 32, 2, 0, 0, (.int 32), [], none)),
  (69, (0, .lushr, 1, 0, 0, .null, [], none)),
  (70, (0, .ladd, 1, 0, 0, .null, [], none)),
  (71, (1, .lload 16, 2, 0, 0, .null, [], none)),
  (73, (0, .bipush 32, 2, 0, 0, (.int 32), [], none)),
  (75, (0, .lushr, 1, 0, 0, .null, [], none)),
  (76, (0, .ladd, 1, 0, 0, .null, [], none)),
  (77, (5, .lreturn, 1, 0, 0, .null, [], none))]]
/- 145: FlagMachineModel.input(JI)Z -/
noncomputable def tb_c145 : List (List (Nat × am_I)) := [[(0, (1, .aload_n 0, 1, 0, 0, .null, [], none)),
  (1, (0, .iconst 0, 1, 0, 0, (.int 0), [], none)),
  (2, (3, .putfield 61, 3, 12, 0, .null, [], none)),
  (5, (1, .iload_n 3, 1, 0, 0, .null, [], none)),
  (6, (0, .iconst 1, 1, 0, 0, (.int 1), [], none)),
  (7, (2, .if_icmp .lt 20, 3, 27, 0, .null, [], none)),
  (10, (1, .iload_n 3, 1, 0, 0, .null, [], none)),
  (11, (0, .bipush 8, 2, 0, 0, (.int 8), [], none)),
  (13, (2, .if_icmp .gt 14, 3, 27, 0, .null, [], none)),
  (16, (1, .aload_n 0, 1, 0, 0, .null, [], none)),
  (17, (3, .getfield 97, 3, 12, 14, .null, [], none)),
  (20, (1, .iload_n 3, 1, 0, 0, .null, [], none)),
  (21, (0, .iadd, 1, 0, 0, .null, [], none)),
  (22, (0, .ldc 17, 2, 0, 0, (.int 65536), [], none)),
  (24, (2, .if_icmp .le 5, 3, 29, 0, .null, [], none)),
  (27, (0, .iconst 0, 1, 0, 0, (.int 0), [], some [])),
  (28, (5, .ireturn, 1, 0, 0, .null, [], none)),
  (29, (1, .iload_n 3, 1, 0, 0, .null, [], none)),
  (30, (0, .iconst 1, 1, 0, 0, (.int 1), [], none)),
  (31, (0, .isub, 1, 0, 0, .null, [], none))],
 [(32, (1, .istore 4, 2, 0, 0, .null, [], none)),
  (34, (1, .iload 4, 2, 0, 0, .null, [], some [0, 1, 4])),
  (36, (2, .ifCond .lt 37, 3, 73, 0, .null, [], none)),
  (39, (1, .aload_n 0, 1, 0, 0, .null, [], none)),
  (40, (3, .getfield 24, 3, 12, 5, .null, [], none)),
  (43, (1, .aload_n 0, 1, 0, 0, .null, [], none)),
  (44, (3, .getfield 97, 3, 12, 14, .null, [], none)),
  (47, (1, .lload_n 1, 1, 0, 0, .null, [], none)),
  (48, (0, .bipush 8, 2, 0, 0, (.int 8), [], none)),
  (50, (1, .iload 4, 2, 0, 0, .null, [], none)),
  (52, (0, .imul, 1, 0, 0, .null, [], none)),
  (53, (0, .lshr, 1, 0, 0, .null, [], none)),
  (54, (0, .l2i, 1, 0, 0, .null, [], none)),
  (55, (0, .i2b, 1, 0, 0, .null, [], none)),
  (56, (3, .bastore, 1, 1, 0, .null, [], none)),
  (57, (1, .aload_n 0, 1, 0, 0, .null, [], none)),
  (58, (0, .dup, 1, 0, 0, .null, [], none)),
  (59, (3, .getfield 97, 3, 12, 14, .null, [], none)),
  (62, (0, .iconst 1, 1, 0, 0, (.int 1), [], none)),
  (63, (0, .iadd, 1, 0, 0, .null, [], none))],
 [(64, (3, .putfield 97, 3, 12, 14, .null, [], none)),
  (67, (1, .iinc 4 (-1), 3, 0, 0, (.int (-1)), [], none)),
  (70, (2, .goto (-36), 3, 34, 0, .null, [], none)),
  (73, (0, .iconst 1, 1, 0, 0, (.int 1), [], none)),
  (74, (5, .ireturn, 1, 0, 0, .null, [], none))]]
/- 146: FlagMachineModel.isEither(I)Z -/
noncomputable def tb_c146 : List (List (Nat × am_I)) := [[(0, (1, .aload_n 0, 1, 0, 0, .null, [], none)),
  (1, (3, .getfield 50, 3, 12, 39, .null, [], none)),
  (4, (1, .iload_n 1, 1, 0, 0, .null, [], none)),
  (5, (3, .iaload, 1, 0, 0, .null, [], none)),
  (6, (0, .iconst 1, 1, 0, 0, (.int 1), [], none)),
  (7, (2, .if_icmp .eq 13, 3, 20, 0, .null, [], none)),
  (10, (1, .aload_n 0, 1, 0, 0, .null, [], none)),
  (11, (3, .getfield 50, 3, 12, 39, .null, [], none)),
  (14, (1, .iload_n 1, 1, 0, 0, .null, [], none)),
  (15, (3, .iaload, 1, 0, 0, .null, [], none)),
  (16, (0, .iconst 2, 1, 0, 0, (.int 2), [], none)),
  (17, (2, .if_icmp .ne 7, 3, 24, 0, .null, [], none)),
  (20, (0, .iconst 1, 1, 0, 0, (.int 1), [], some [])),
  (21, (2, .goto 4, 3, 25, 0, .null, [], none)),
  (24, (0, .iconst 0, 1, 0, 0, (.int 0), [], none)),
  (25, (5, .ireturn, 1, 0, 0, .null, [], some []))]]
/- 147: FlagMachineModel.isMet(I)Z -/
noncomputable def tb_c147 : List (List (Nat × am_I)) := [[(0, (1, .iload_n 1, 1, 0, 0, .null, [], none)),
  (1, (0, .iconst 1, 1, 0, 0, (.int 1), [], none)),
  (2, (0, .ishr, 1, 0, 0, .null, [], none)),
  (3, (1, .istore_n 2, 1, 0, 0, .null, [], none)),
  (4, (1, .aload_n 0, 1, 0, 0, .null, [], none)),
  (5, (3, .getfield 227, 3, 12, 24, .null, [], none)),
  (8, (1, .aload_n 0, 1, 0, 0, .null, [], none)),
  (9, (3, .getfield 240, 3, 12, 25, .null, [], none)),
  (12, (2, .if_icmp .eq 7, 3, 19, 0, .null, [], none)),
  (15, (0, .iconst 1, 1, 0, 0, (.int 1), [], none)),
  (16, (2, .goto 4, 3, 20, 0, .null, [], none)),
  (19, (0, .iconst 0, 1, 0, 0, (.int 0), [], none)),
  (20, (1, .istore_n 3, 1, 0, 0, .null, [], some [0, 1, 2])),
  (21, (1, .iload_n 2, 1, 0, 0, .null, [], none)),
  (22, (2, .ifCond .ne 10, 3, 32, 0, .null, [], none)),
  (25, (1, .aload_n 0, 1, 0, 0, .null, [], none)),
  (26, (3, .getfield 240, 3, 12, 25, .null, [], none)),
  (29, (2, .goto 104, 3, 133, 0, .null, [], none))],
 [(32, (1, .iload_n 2, 1, 0, 0, .null, [], none)),
  (33, (0, .iconst 1, 1, 0, 0, (.int 1), [], none)),
  (34, (2, .if_icmp .ne 10, 3, 44, 0, .null, [], none)),
  (37, (1, .aload_n 0, 1, 0, 0, .null, [], none)),
  (38, (3, .getfield 237, 3, 12, 21, .null, [], none)),
  (41, (2, .goto 92, 3, 133, 0, .null, [], none)),
  (44, (1, .iload_n 2, 1, 0, 0, .null, [], none)),
  (45, (0, .iconst 2, 1, 0, 0, (.int 2), [], none)),
  (46, (2, .if_icmp .ne 10, 3, 56, 0, .null, [], none)),
  (49, (1, .aload_n 0, 1, 0, 0, .null, [], none)),
  (50, (3, .getfield 220, 3, 12, 23, .null, [], none)),
  (53, (2, .goto 80, 3, 133, 0, .null, [], none)),
  (56, (1, .iload_n 2, 1, 0, 0, .null, [], none)),
  (57, (0, .iconst 3, 1, 0, 0, (.int 3), [], none)),
  (58, (2, .if_icmp .ne 25, 3, 83, 0, .null, [], none)),
  (61, (1, .aload_n 0, 1, 0, 0, .null, [], none)),
  (62, (3, .getfield 237, 3, 12, 21, .null, [], none))],
 [(65, (2, .ifCond .ne 10, 3, 75, 0, .null, [], none)),
  (68, (1, .aload_n 0, 1, 0, 0, .null, [], none)),
  (69, (3, .getfield 220, 3, 12, 23, .null, [], none)),
  (72, (2, .ifCond .eq 7, 3, 79, 0, .null, [], none)),
  (75, (0, .iconst 1, 1, 0, 0, (.int 1), [], some [1])),
  (76, (2, .goto 57, 3, 133, 0, .null, [], none)),
  (79, (0, .iconst 0, 1, 0, 0, (.int 0), [], none)),
  (80, (2, .goto 53, 3, 133, 0, .null, [], none)),
  (83, (1, .iload_n 2, 1, 0, 0, .null, [], none)),
  (84, (0, .iconst 4, 1, 0, 0, (.int 4), [], none)),
  (85, (2, .if_icmp .ne 10, 3, 95, 0, .null, [], none)),
  (88, (1, .aload_n 0, 1, 0, 0, .null, [], none)),
  (89, (3, .getfield 227, 3, 12, 24, .null, [], none)),
  (92, (2, .goto 41, 3, 133, 0, .null, [], none)),
  (95, (1, .iload_n 2, 1, 0, 0, .null, [], none))],
 [(96, (0, .iconst 5, 1, 0, 0, (.int 5), [], none)),
  (97, (2, .if_icmp .ne 10, 3, 107, 0, .null, [], none)),
  (100, (1, .aload_n 0, 1, 0, 0, .null, [], none)),
  (101, (3, .getfield 230, 3, 12, 22, .null, [], none)),
  (104, (2, .goto 29, 3, 133, 0, .null, [], none)),
  (107, (1, .iload_n 2, 1, 0, 0, .null, [], none)),
  (108, (0, .bipush 6, 2, 0, 0, (.int 6), [], none)),
  (110, (2, .if_icmp .ne 7, 3, 117, 0, .null, [], none)),
  (113, (1, .iload_n 3, 1, 0, 0, .null, [], none)),
  (114, (2, .goto 19, 3, 133, 0, .null, [], none)),
  (117, (1, .aload_n 0, 1, 0, 0, .null, [], none)),
  (118, (3, .getfield 220, 3, 12, 23, .null, [], none)),
  (121, (2, .ifCond .ne 7, 3, 128, 0, .null, [], none)),
  (124, (1, .iload_n 3, 1, 0, 0, .null, [], none)),
  (125, (2, .ifCond .eq 7, 3, 132, 0, .null, [], none))],
 [(128, (0, .iconst 1, 1, 0, 0, (.int 1), [], some [1])),
  (129, (2, .goto 4, 3, 133, 0, .null, [], none)),
  (132, (0, .iconst 0, 1, 0, 0, (.int 0), [], none)),
  (133, (1, .istore 4, 2, 0, 0, .null, [], some [1])),
  (135, (1, .iload 4, 2, 0, 0, .null, [], none)),
  (137, (1, .iload_n 1, 1, 0, 0, .null, [], none)),
  (138, (0, .iconst 1, 1, 0, 0, (.int 1), [], none)),
  (139, (0, .iand, 1, 0, 0, .null, [], none)),
  (140, (2, .ifCond .ne 7, 3, 147, 0, .null, [], none)),
  (143, (0, .iconst 1, 1, 0, 0, (.int 1), [], none)),
  (144, (2, .goto 4, 3, 148, 0, .null, [], none)),
  (147, (0, .iconst 0, 1, 0, 0, (.int 0), [], none)),
  (148, (2, .if_icmp .ne 7, 3, 155, 0, .null, [], some [])),
  (151, (0, .iconst 1, 1, 0, 0, (.int 1), [], none)),
  (152, (2, .goto 4, 3, 156, 0, .null, [], none)),
  (155, (0, .iconst 0, 1, 0, 0, (.int 0), [], none)),
  (156, (5, .ireturn, 1, 0, 0, .null, [], some []))]]
/- 148: FlagMachineModel.isNumber(IJJ)Z -/
noncomputable def tb_c148 : List (List (Nat × am_I)) := [[(0, (1, .aload_n 0, 1, 0, 0, .null, [], none)),
  (1, (3, .getfield 50, 3, 12, 39, .null, [], none)),
  (4, (1, .iload_n 1, 1, 0, 0, .null, [], none)),
  (5, (3, .iaload, 1, 0, 0, .null, [], none)),
  (6, (0, .iconst 3, 1, 0, 0, (.int 3), [], none)),
  (7, (2, .if_icmp .ne 26, 3, 33, 0, .null, [], none)),
  (10, (1, .aload_n 0, 1, 0, 0, .null, [], none)),
  (11, (3, .getfield 123, 3, 12, 38, .null, [], none)),
  (14, (1, .lload_n 2, 1, 0, 0, .null, [], none)),
  (15, (0, .lcmp, 1, 0, 0, .null, [], none)),
  (16, (2, .ifCond .lt 17, 3, 33, 0, .null, [], none)),
  (19, (1, .aload_n 0, 1, 0, 0, .null, [], none)),
  (20, (3, .getfield 123, 3, 12, 38, .null, [], none)),
  (23, (1, .lload 4, 2, 0, 0, .null, [], none)),
  (25, (0, .lcmp, 1, 0, 0, .null, [], none)),
  (26, (2, .ifCond .gt 7, 3, 33, 0, .null, [], none)),
  (29, (0, .iconst 1, 1, 0, 0, (.int 1), [], none)),
  (30, (2, .goto 4, 3, 34, 0, .null, [], none))],
 [(33, (0, .iconst 0, 1, 0, 0, (.int 0), [], some [])),
  (34, (5, .ireturn, 1, 0, 0, .null, [], some []))]]
/- 149: FlagMachineModel.isPlain(I)Z -/
noncomputable def tb_c149 : List (List (Nat × am_I)) := [[(0, (1, .aload_n 0, 1, 0, 0, .null, [], none)),
  (1, (3, .getfield 37, 3, 12, 30, .null, [], none)),
  (4, (0, .bipush 8, 2, 0, 0, (.int 8), [], none)),
  (6, (2, .if_icmp .ne 28, 3, 34, 0, .null, [], none)),
  (9, (1, .aload_n 0, 1, 0, 0, .null, [], none)),
  (10, (3, .getfield 114, 3, 12, 31, .null, [], none)),
  (13, (0, .bipush 8, 2, 0, 0, (.int 8), [], none)),
  (15, (2, .if_icmp .ne 19, 3, 34, 0, .null, [], none)),
  (18, (1, .aload_n 0, 1, 0, 0, .null, [], none)),
  (19, (3, .getfield 50, 3, 12, 39, .null, [], none)),
  (22, (1, .iload_n 1, 1, 0, 0, .null, [], none)),
  (23, (3, .iaload, 1, 0, 0, .null, [], none)),
  (24, (0, .iconst 3, 1, 0, 0, (.int 3), [], none)),
  (25, (2, .if_icmp .ne 7, 3, 32, 0, .null, [], none)),
  (28, (0, .iconst 1, 1, 0, 0, (.int 1), [], none)),
  (29, (2, .goto 4, 3, 33, 0, .null, [], none))],
 [(32, (0, .iconst 0, 1, 0, 0, (.int 0), [], none)),
  (33, (5, .ireturn, 1, 0, 0, .null, [], some [])),
  (34, (1, .aload_n 0, 1, 0, 0, .null, [], some [0, 1])),
  (35, (3, .getfield 114, 3, 12, 31, .null, [], none)),
  (38, (0, .iconst 1, 1, 0, 0, (.int 1), [], none)),
  (39, (2, .if_icmp .ne 17, 3, 56, 0, .null, [], none)),
  (42, (1, .aload_n 0, 1, 0, 0, .null, [], none)),
  (43, (1, .iload_n 1, 1, 0, 0, .null, [], none)),
  (44, (0, .ldc2_w 126, 3, 0, 0, (.long (-128)), [], none)),
  (47, (0, .ldc2_w 128, 3, 0, 0, (.long 127), [], none)),
  (50, (4, .invokevirtual 130, 3, 148, 4, .null, [], none)),
  (53, (2, .goto 14, 3, 67, 0, .null, [], none)),
  (56, (1, .aload_n 0, 1, 0, 0, .null, [], none)),
  (57, (1, .iload_n 1, 1, 0, 0, .null, [], none)),
  (58, (0, .ldc2_w 134, 3, 0, 0, (.long (-2147483648)), [], none)),
  (61, (0, .ldc2_w 136, 3, 0, 0, (.long 2147483647), [], none))],
 [(64, (4, .invokevirtual 130, 3, 148, 4, .null, [], none)),
  (67, (5, .ireturn, 1, 0, 0, .null, [], some []))]]
/- 150: FlagMachineModel.isSound()Z -/
noncomputable def tb_c150 : List (List (Nat × am_I)) := [[(0, (1, .aload_n 0, 1, 0, 0, .null, [], none)),
  (1, (3, .getfield 37, 3, 12, 30, .null, [], none)),
  (4, (2, .ifCond .lt 26, 3, 30, 0, .null, [], none)),
  (7, (1, .aload_n 0, 1, 0, 0, .null, [], none)),
  (8, (3, .getfield 37, 3, 12, 30, .null, [], none)),
  (11, (0, .bipush 53, 2, 0, 0, (.int 53), [], none)),
  (13, (2, .if_icmp .gt 17, 3, 30, 0, .null, [], none)),
  (16, (1, .aload_n 0, 1, 0, 0, .null, [], none)),
  (17, (4, .invokevirtual 149, 3, 180, 1, .null, [], none)),
  (20, (2, .ifCond .eq 10, 3, 30, 0, .null, [], none)),
  (23, (1, .aload_n 0, 1, 0, 0, .null, [], none)),
  (24, (4, .invokevirtual 153, 3, 161, 1, .null, [], none)),
  (27, (2, .ifCond .ne 5, 3, 32, 0, .null, [], none)),
  (30, (0, .iconst 0, 1, 0, 0, (.int 0), [], some [])),
  (31, (5, .ireturn, 1, 0, 0, .null, [], none))],
 [(32, (1, .aload_n 0, 1, 0, 0, .null, [], none)),
  (33, (3, .getfield 37, 3, 12, 30, .null, [], none)),
  (36, (0, .bipush 33, 2, 0, 0, (.int 33), [], none)),
  (38, (2, .if_icmp .le 36, 3, 74, 0, .null, [], none)),
  (41, (1, .aload_n 0, 1, 0, 0, .null, [], none)),
  (42, (3, .getfield 37, 3, 12, 30, .null, [], none)),
  (45, (0, .bipush 37, 2, 0, 0, (.int 37), [], none)),
  (47, (2, .if_icmp .ge 27, 3, 74, 0, .null, [], none)),
  (50, (1, .aload_n 0, 1, 0, 0, .null, [], none)),
  (51, (3, .getfield 117, 3, 12, 32, .null, [], none)),
  (54, (2, .ifCond .lt 16, 3, 70, 0, .null, [], none)),
  (57, (1, .aload_n 0, 1, 0, 0, .null, [], none)),
  (58, (3, .getfield 117, 3, 12, 32, .null, [], none)),
  (61, (0, .bipush 16, 2, 0, 0, (.int 16), [], none)),
  (63, (2, .if_icmp .ge 7, 3, 70, 0, .null, [], none))],
 [(66, (0, .iconst 1, 1, 0, 0, (.int 1), [], none)),
  (67, (2, .goto 19, 3, 86, 0, .null, [], none)),
  (70, (0, .iconst 0, 1, 0, 0, (.int 0), [], some [0])),
  (71, (2, .goto 15, 3, 86, 0, .null, [], none)),
  (74, (1, .aload_n 0, 1, 0, 0, .null, [], some [0])),
  (75, (3, .getfield 117, 3, 12, 32, .null, [], none)),
  (78, (2, .ifCond .ne 7, 3, 85, 0, .null, [], none)),
  (81, (0, .iconst 1, 1, 0, 0, (.int 1), [], none)),
  (82, (2, .goto 4, 3, 86, 0, .null, [], none)),
  (85, (0, .iconst 0, 1, 0, 0, (.int 0), [], none)),
  (86, (1, .istore_n 1, 1, 0, 0, .null, [], some [0])),
  (87, (0, .iconst 0, 1, 0, 0, (.int 0), [], none)),
  (88, (1, .istore_n 2, 1, 0, 0, .null, [], none)),
  (89, (0, .iconst 0, 1, 0, 0, (.int 0), [], none)),
  (90, (1, .istore_n 3, 1, 0, 0, .null, [], none)),
  (91, (1, .iload_n 3, 1, 0, 0, .null, [], some [0, 1, 2, 3])),
  (92, (0, .iconst 3, 1, 0, 0, (.int 3), [], none)),
  (93, (2, .if_icmp .ge 27, 3, 120, 0, .null, [], none))],
 [(96, (1, .iload_n 2, 1, 0, 0, .null, [], none)),
  (97, (1, .aload_n 0, 1, 0, 0, .null, [], none)),
  (98, (3, .getfield 50, 3, 12, 39, .null, [], none)),
  (101, (1, .iload_n 3, 1, 0, 0, .null, [], none)),
  (102, (3, .iaload, 1, 0, 0, .null, [], none)),
  (103, (0, .iconst 2, 1, 0, 0, (.int 2), [], none)),
  (104, (2, .if_icmp .ne 7, 3, 111, 0, .null, [], none)),
  (107, (0, .iconst 1, 1, 0, 0, (.int 1), [], none)),
  (108, (2, .goto 4, 3, 112, 0, .null, [], none)),
  (111, (0, .iconst 0, 1, 0, 0, (.int 0), [], none)),
  (112, (0, .iadd, 1, 0, 0, .null, [], some [0, 1, 3])),
  (113, (1, .istore_n 2, 1, 0, 0, .null, [], none)),
  (114, (1, .iinc 3 1, 3, 0, 0, (.int 1), [], none)),
  (117, (2, .goto (-26), 3, 91, 0, .null, [], none)),
  (120, (1, .iload_n 1, 1, 0, 0, .null, [], none)),
  (121, (2, .ifCond .eq 23, 3, 144, 0, .null, [], none)),
  (124, (1, .iload_n 2, 1, 0, 0, .null, [], none)),
  (125, (0, .iconst 2, 1, 0, 0, (.int 2), [], none)),
  (126, (2, .if_icmp .ge 18, 3, 144, 0, .null, [], none))],
 [(129, (1, .iload_n 2, 1, 0, 0, .null, [], none)),
  (130, (2, .ifCond .eq 10, 3, 140, 0, .null, [], none)),
  (133, (1, .aload_n 0, 1, 0, 0, .null, [], none)),
  (134, (4, .invokevirtual 156, 3, 155, 1, .null, [], none)),
  (137, (2, .ifCond .eq 7, 3, 144, 0, .null, [], none)),
  (140, (0, .iconst 1, 1, 0, 0, (.int 1), [], some [])),
  (141, (2, .goto 4, 3, 145, 0, .null, [], none)),
  (144, (0, .iconst 0, 1, 0, 0, (.int 0), [], some [])),
  (145, (5, .ireturn, 1, 0, 0, .null, [], some []))]]
/- 151: FlagMachineModel.kindAt(I)I -/
noncomputable def tb_c151 : List (List (Nat × am_I)) := [[(0, (1, .aload_n 0, 1, 0, 0, .null, [], none)),
  (1, (3, .getfield 50, 3, 12, 39, .null, [], none)),
  (4, (1, .iload_n 1, 1, 0, 0, .null, [], none)),
  (5, (3, .iaload, 1, 0, 0, .null, [], none)),
  (6, (5, .ireturn, 1, 0, 0, .null, [], none))]]
/- 152: FlagMachineModel.load(JI)J -/
noncomputable def tb_c152 : List (List (Nat × am_I)) := [[(0, (0, .lconst 0, 1, 0, 0, (.long 0), [], none)),
  (1, (1, .lstore 4, 2, 0, 0, .null, [], none)),
  (3, (0, .iconst 0, 1, 0, 0, (.int 0), [], none)),
  (4, (1, .istore 6, 2, 0, 0, .null, [], none)),
  (6, (1, .iload 6, 2, 0, 0, .null, [], some [0, 1, 3, 4, 6])),
  (8, (1, .iload_n 3, 1, 0, 0, .null, [], none)),
  (9, (2, .if_icmp .ge 52, 3, 61, 0, .null, [], none)),
  (12, (1, .aload_n 0, 1, 0, 0, .null, [], none)),
  (13, (1, .lload_n 1, 1, 0, 0, .null, [], none)),
  (14, (1, .iload 6, 2, 0, 0, .null, [], none)),
  (16, (0, .i2l, 1, 0, 0, .null, [], none)),
  (17, (0, .ladd, 1, 0, 0, .null, [], none)),
  (18, (0, .iconst 0, 1, 0, 0, (.int 0), [], none)),
  (19, (4, .invokevirtual 176, 3, 139, 3, .null, [], none)),
  (22, (1, .istore 7, 2, 0, 0, .null, [], none)),
  (24, (1, .iload 7, 2, 0, 0, .null, [], none)),
  (26, (2, .ifCond .ge 11, 3, 37, 0, .null, [], none)),
  (29, (1, .aload_n 0, 1, 0, 0, .null, [], none)),
  (30, (0, .iconst 3, 1, 0, 0, (.int 3), [], none)),
  (31, (1, .lload_n 1, 1, 0, 0, .null, [], none))],
 [(32, (4, .invokevirtual 180, 3, 183, 3, .null, [], none)),
  (35, (0, .lconst 0, 1, 0, 0, (.long 0), [], none)),
  (36, (5, .lreturn, 1, 0, 0, .null, [], none)),
  (37, (1, .lload 4, 2, 0, 0, .null, [], none)),
  (39, (1, .aload_n 0, 1, 0, 0, .null, [], none)),
  (40, (1, .iload 7, 2, 0, 0, .null, [], none)),
  (42, (4, .invokevirtual 184, 3, 133, 2, .null, [], none)),
  (45, (0, .i2l, 1, 0, 0, .null, [], none)),
  (46, (0, .bipush 8, 2, 0, 0, (.int 8), [], none)),
  (48, (1, .iload 6, 2, 0, 0, .null, [], none)),
  (50, (0, .imul, 1, 0, 0, .null, [], none)),
  (51, (0, .lshl, 1, 0, 0, .null, [], none)),
  (52, (0, .lor, 1, 0, 0, .null, [], none)),
  (53, (1, .lstore 4, 2, 0, 0, .null, [], none)),
  (55, (1, .iinc 6 1, 3, 0, 0, (.int 1), [], none)),
  (58, (2, .goto (-52), 3, 6, 0, .null, [], none)),
  (61, (1, .lload 4, 2, 0, 0, .null, [], none)),
  (63, (5, .lreturn, 1, 0, 0, .null, [], none))]]
/- 153: FlagMachineModel.may(JJZ)Z -/
noncomputable def tb_c153 : List (List (Nat × am_I)) := [[(0, (1, .lload_n 3, 1, 0, 0, .null, [], none)),
  (1, (0, .lconst 0, 1, 0, 0, (.long 0), [], none)),
  (2, (0, .lcmp, 1, 0, 0, .null, [], none)),
  (3, (2, .ifCond .lt 11, 3, 14, 0, .null, [], none)),
  (6, (1, .lload_n 3, 1, 0, 0, .null, [], none)),
  (7, (0, .ldc2_w 308, 3, 0, 0, (.long 1048576), [], none)),
  (10, (0, .lcmp, 1, 0, 0, .null, [], none)),
  (11, (2, .ifCond .le 5, 3, 16, 0, .null, [], none)),
  (14, (0, .iconst 0, 1, 0, 0, (.int 0), [], some [])),
  (15, (5, .ireturn, 1, 0, 0, .null, [], none)),
  (16, (0, .lconst 0, 1, 0, 0, (.long 0), [], none)),
  (17, (1, .lstore 6, 2, 0, 0, .null, [], none)),
  (19, (1, .lload 6, 2, 0, 0, .null, [], some [0, 1, 3, 5, 6])),
  (21, (1, .lload_n 3, 1, 0, 0, .null, [], none)),
  (22, (0, .lcmp, 1, 0, 0, .null, [], none)),
  (23, (2, .ifCond .ge 27, 3, 50, 0, .null, [], none)),
  (26, (1, .aload_n 0, 1, 0, 0, .null, [], none)),
  (27, (1, .lload_n 1, 1, 0, 0, .null, [], none)),
  (28, (1, .lload 6, 2, 0, 0, .null, [], none)),
  (30, (0, .ladd, 1, 0, 0, .null, [], none)),
  (31, (1, .iload 5, 2, 0, 0, .null, [], none))],
 [(33, (4, .invokevirtual 176, 3, 139, 3, .null, [], none)),
  (36, (2, .ifCond .ge 5, 3, 41, 0, .null, [], none)),
  (39, (0, .iconst 0, 1, 0, 0, (.int 0), [], none)),
  (40, (5, .ireturn, 1, 0, 0, .null, [], none)),
  (41, (1, .lload 6, 2, 0, 0, .null, [], none)),
  (43, (0, .lconst 1, 1, 0, 0, (.long 1), [], none)),
  (44, (0, .ladd, 1, 0, 0, .null, [], none)),
  (45, (1, .lstore 6, 2, 0, 0, .null, [], none)),
  (47, (2, .goto (-28), 3, 19, 0, .null, [], none)),
  (50, (0, .iconst 1, 1, 0, 0, (.int 1), [], none)),
  (51, (5, .ireturn, 1, 0, 0, .null, [], none))]]
/- 154: FlagMachineModel.memory(IIII)V -/
noncomputable def tb_c154 : List (List (Nat × am_I)) := [[(0, (1, .aload_n 0, 1, 0, 0, .null, [], none)),
  (1, (0, .iconst 0, 1, 0, 0, (.int 0), [], none)),
  (2, (3, .putfield 61, 3, 12, 0, .null, [], none)),
  (5, (1, .aload_n 0, 1, 0, 0, .null, [], none)),
  (6, (1, .iload_n 1, 1, 0, 0, .null, [], none)),
  (7, (3, .putfield 41, 3, 12, 33, .null, [], none)),
  (10, (1, .aload_n 0, 1, 0, 0, .null, [], none)),
  (11, (1, .iload_n 2, 1, 0, 0, .null, [], none)),
  (12, (3, .putfield 44, 3, 12, 34, .null, [], none)),
  (15, (1, .aload_n 0, 1, 0, 0, .null, [], none)),
  (16, (1, .iload_n 3, 1, 0, 0, .null, [], none)),
  (17, (3, .putfield 47, 3, 12, 35, .null, [], none)),
  (20, (1, .aload_n 0, 1, 0, 0, .null, [], none)),
  (21, (1, .iload 4, 2, 0, 0, .null, [], none)),
  (23, (3, .putfield 120, 3, 12, 36, .null, [], none)),
  (26, (5, .return_, 1, 0, 0, .null, [], none))]]
/- 155: FlagMachineModel.memoryFits()Z -/
noncomputable def tb_c155 : List (List (Nat × am_I)) := [[(0, (1, .aload_n 0, 1, 0, 0, .null, [], none)),
  (1, (3, .getfield 47, 3, 12, 35, .null, [], none)),
  (4, (0, .iconst 1, 1, 0, 0, (.int 1), [], none)),
  (5, (2, .if_icmp .eq 28, 3, 33, 0, .null, [], none)),
  (8, (1, .aload_n 0, 1, 0, 0, .null, [], none)),
  (9, (3, .getfield 47, 3, 12, 35, .null, [], none)),
  (12, (0, .iconst 2, 1, 0, 0, (.int 2), [], none)),
  (13, (2, .if_icmp .eq 20, 3, 33, 0, .null, [], none)),
  (16, (1, .aload_n 0, 1, 0, 0, .null, [], none)),
  (17, (3, .getfield 47, 3, 12, 35, .null, [], none)),
  (20, (0, .iconst 4, 1, 0, 0, (.int 4), [], none)),
  (21, (2, .if_icmp .eq 12, 3, 33, 0, .null, [], none)),
  (24, (1, .aload_n 0, 1, 0, 0, .null, [], none)),
  (25, (3, .getfield 47, 3, 12, 35, .null, [], none)),
  (28, (0, .bipush 8, 2, 0, 0, (.int 8), [], none)),
  (30, (2, .if_icmp .ne 7, 3, 37, 0, .null, [], none))],
 [(33, (0, .iconst 1, 1, 0, 0, (.int 1), [], some [0])),
  (34, (2, .goto 4, 3, 38, 0, .null, [], none)),
  (37, (0, .iconst 0, 1, 0, 0, (.int 0), [], none)),
  (38, (1, .istore_n 1, 1, 0, 0, .null, [], some [0])),
  (39, (1, .aload_n 0, 1, 0, 0, .null, [], none)),
  (40, (3, .getfield 41, 3, 12, 33, .null, [], none)),
  (43, (0, .iconst (-1), 1, 0, 0, (.int (-1)), [], none)),
  (44, (2, .if_icmp .lt 76, 3, 120, 0, .null, [], none)),
  (47, (1, .aload_n 0, 1, 0, 0, .null, [], none)),
  (48, (3, .getfield 41, 3, 12, 33, .null, [], none)),
  (51, (0, .bipush 16, 2, 0, 0, (.int 16), [], none)),
  (53, (2, .if_icmp .gt 67, 3, 120, 0, .null, [], none)),
  (56, (1, .aload_n 0, 1, 0, 0, .null, [], none)),
  (57, (3, .getfield 44, 3, 12, 34, .null, [], none)),
  (60, (0, .iconst (-1), 1, 0, 0, (.int (-1)), [], none)),
  (61, (2, .if_icmp .lt 59, 3, 120, 0, .null, [], none))],
 [(64, (1, .aload_n 0, 1, 0, 0, .null, [], none)),
  (65, (3, .getfield 44, 3, 12, 34, .null, [], none)),
  (68, (0, .bipush 15, 2, 0, 0, (.int 15), [], none)),
  (70, (2, .if_icmp .gt 50, 3, 120, 0, .null, [], none)),
  (73, (1, .aload_n 0, 1, 0, 0, .null, [], none)),
  (74, (3, .getfield 44, 3, 12, 34, .null, [], none)),
  (77, (0, .iconst 4, 1, 0, 0, (.int 4), [], none)),
  (78, (2, .if_icmp .eq 42, 3, 120, 0, .null, [], none)),
  (81, (1, .iload_n 1, 1, 0, 0, .null, [], none)),
  (82, (2, .ifCond .eq 38, 3, 120, 0, .null, [], none)),
  (85, (1, .aload_n 0, 1, 0, 0, .null, [], none)),
  (86, (3, .getfield 44, 3, 12, 34, .null, [], none)),
  (89, (2, .ifCond .ge 11, 3, 100, 0, .null, [], none)),
  (92, (1, .aload_n 0, 1, 0, 0, .null, [], none)),
  (93, (3, .getfield 47, 3, 12, 35, .null, [], none))],
 [(96, (0, .iconst 1, 1, 0, 0, (.int 1), [], none)),
  (97, (2, .if_icmp .ne 23, 3, 120, 0, .null, [], none)),
  (100, (1, .aload_n 0, 1, 0, 0, .null, [], some [0])),
  (101, (3, .getfield 41, 3, 12, 33, .null, [], none)),
  (104, (0, .bipush 16, 2, 0, 0, (.int 16), [], none)),
  (106, (2, .if_icmp .ne 10, 3, 116, 0, .null, [], none)),
  (109, (1, .aload_n 0, 1, 0, 0, .null, [], none)),
  (110, (3, .getfield 44, 3, 12, 34, .null, [], none)),
  (113, (2, .ifCond .ge 7, 3, 120, 0, .null, [], none)),
  (116, (0, .iconst 1, 1, 0, 0, (.int 1), [], some [])),
  (117, (2, .goto 4, 3, 121, 0, .null, [], none)),
  (120, (0, .iconst 0, 1, 0, 0, (.int 0), [], some [])),
  (121, (5, .ireturn, 1, 0, 0, .null, [], some []))]]
/- 156: FlagMachineModel.moves(II)V -/
noncomputable def tb_c156 : List (List (Nat × am_I)) := [[(0, (1, .iload_n 1, 1, 0, 0, .null, [], none)),
  (1, (0, .bipush 8, 2, 0, 0, (.int 8), [], none)),
  (3, (2, .if_icmp .ne 18, 3, 21, 0, .null, [], none)),
  (6, (1, .aload_n 0, 1, 0, 0, .null, [], none)),
  (7, (0, .iconst 0, 1, 0, 0, (.int 0), [], none)),
  (8, (1, .iload_n 2, 1, 0, 0, .null, [], none)),
  (9, (1, .aload_n 0, 1, 0, 0, .null, [], none)),
  (10, (0, .iconst 1, 1, 0, 0, (.int 1), [], none)),
  (11, (1, .iload_n 2, 1, 0, 0, .null, [], none)),
  (12, (4, .invokevirtual 257, 3, 187, 3, .null, [], none)),
  (15, (4, .invokevirtual 268, 3, 169, 4, .null, [], none)),
  (18, (2, .goto 126, 3, 144, 0, .null, [], none)),
  (21, (1, .iload_n 1, 1, 0, 0, .null, [], none)),
  (22, (0, .bipush 10, 2, 0, 0, (.int 10), [], none)),
  (24, (2, .if_icmp .ne 36, 3, 60, 0, .null, [], none)),
  (27, (1, .aload_n 0, 1, 0, 0, .null, [], none)),
  (28, (0, .iconst 0, 1, 0, 0, (.int 0), [], none)),
  (29, (1, .iload_n 2, 1, 0, 0, .null, [], none)),
  (30, (4, .invokevirtual 257, 3, 187, 3, .null, [], none))],
 [(33, (1, .lstore_n 3, 1, 0, 0, .null, [], none)),
  (34, (1, .aload_n 0, 1, 0, 0, .null, [], none)),
  (35, (0, .iconst 1, 1, 0, 0, (.int 1), [], none)),
  (36, (1, .iload_n 2, 1, 0, 0, .null, [], none)),
  (37, (4, .invokevirtual 257, 3, 187, 3, .null, [], none)),
  (40, (1, .lstore 5, 2, 0, 0, .null, [], none)),
  (42, (1, .aload_n 0, 1, 0, 0, .null, [], none)),
  (43, (0, .iconst 0, 1, 0, 0, (.int 0), [], none)),
  (44, (1, .iload_n 2, 1, 0, 0, .null, [], none)),
  (45, (1, .lload 5, 2, 0, 0, .null, [], none)),
  (47, (4, .invokevirtual 268, 3, 169, 4, .null, [], none)),
  (50, (1, .aload_n 0, 1, 0, 0, .null, [], none)),
  (51, (0, .iconst 1, 1, 0, 0, (.int 1), [], none)),
  (52, (1, .iload_n 2, 1, 0, 0, .null, [], none)),
  (53, (1, .lload_n 3, 1, 0, 0, .null, [], none)),
  (54, (4, .invokevirtual 268, 3, 169, 4, .null, [], none)),
  (57, (2, .goto 87, 3, 144, 0, .null, [], none)),
  (60, (1, .iload_n 1, 1, 0, 0, .null, [], none)),
  (61, (0, .bipush 11, 2, 0, 0, (.int 11), [], none)),
  (63, (2, .if_icmp .ne 20, 3, 83, 0, .null, [], none))],
 [(66, (1, .aload_n 0, 1, 0, 0, .null, [], none)),
  (67, (0, .iconst 0, 1, 0, 0, (.int 0), [], none)),
  (68, (1, .iload_n 2, 1, 0, 0, .null, [], none)),
  (69, (1, .aload_n 0, 1, 0, 0, .null, [], none)),
  (70, (4, .invokevirtual 271, 3, 127, 1, .null, [], none)),
  (73, (1, .iload_n 2, 1, 0, 0, .null, [], none)),
  (74, (4, .invokestatic 200, 3, 135, 2, .null, [], none)),
  (77, (4, .invokevirtual 268, 3, 169, 4, .null, [], none)),
  (80, (2, .goto 64, 3, 144, 0, .null, [], none)),
  (83, (1, .iload_n 1, 1, 0, 0, .null, [], none)),
  (84, (0, .bipush 12, 2, 0, 0, (.int 12), [], none)),
  (86, (2, .if_icmp .ne 18, 3, 104, 0, .null, [], none)),
  (89, (1, .aload_n 0, 1, 0, 0, .null, [], none)),
  (90, (0, .iconst 0, 1, 0, 0, (.int 0), [], none)),
  (91, (1, .iload_n 2, 1, 0, 0, .null, [], none)),
  (92, (1, .aload_n 0, 1, 0, 0, .null, [], none)),
  (93, (0, .iconst 1, 1, 0, 0, (.int 1), [], none)),
  (94, (0, .iconst 1, 1, 0, 0, (.int 1), [], none)),
  (95, (4, .invokevirtual 257, 3, 187, 3, .null, [], none))],
 [(98, (4, .invokevirtual 268, 3, 169, 4, .null, [], none)),
  (101, (2, .goto 43, 3, 144, 0, .null, [], none)),
  (104, (1, .aload_n 0, 1, 0, 0, .null, [], none)),
  (105, (0, .iconst 0, 1, 0, 0, (.int 0), [], none)),
  (106, (1, .iload_n 2, 1, 0, 0, .null, [], none)),
  (107, (1, .aload_n 0, 1, 0, 0, .null, [], none)),
  (108, (0, .iconst 1, 1, 0, 0, (.int 1), [], none)),
  (109, (1, .iload_n 1, 1, 0, 0, .null, [], none)),
  (110, (0, .bipush 13, 2, 0, 0, (.int 13), [], none)),
  (112, (2, .if_icmp .ne 7, 3, 119, 0, .null, [], none)),
  (115, (0, .iconst 1, 1, 0, 0, (.int 1), [], none)),
  (116, (2, .goto 4, 3, 120, 0, .null, [], none)),
  (119, (0, .iconst 4, 1, 0, 0, (.int 4), [], none)),
  (120, (4, .invokevirtual 257, 3, 187, 3, .null, [], some [1, 2])),
  (123, (1, .iload_n 1, 1, 0, 0, .null, [], none)),
  (124, (0, .bipush 13, 2, 0, 0, (.int 13), [], none)),
  (126, (2, .if_icmp .ne 7, 3, 133, 0, .null, [], none))],
 [(129, (0, .iconst 1, 1, 0, 0, (.int 1), [], none)),
  (130, (2, .goto 4, 3, 134, 0, .null, [], none)),
  (133, (0, .iconst 4, 1, 0, 0, (.int 4), [], none)),
  (134, (4, .invokestatic 274, 3, 178, 2, .null, [], some [2])),
  (137, (1, .iload_n 2, 1, 0, 0, .null, [], none)),
  (138, (4, .invokestatic 200, 3, 135, 2, .null, [], none)),
  (141, (4, .invokevirtual 268, 3, 169, 4, .null, [], none)),
  (144, (5, .return_, 1, 0, 0, .null, [], some []))]]
/- 157: FlagMachineModel.multiply(ZI)V -/
noncomputable def tb_c157 : List (List (Nat × am_I)) := [[(0, (1, .aload_n 0, 1, 0, 0, .null, [], none)),
  (1, (0, .iconst 0, 1, 0, 0, (.int 0), [], none)),
  (2, (1, .iload_n 2, 1, 0, 0, .null, [], none)),
  (3, (4, .invokevirtual 257, 3, 187, 3, .null, [], none)),
  (6, (1, .lstore_n 3, 1, 0, 0, .null, [], none)),
  (7, (1, .aload_n 0, 1, 0, 0, .null, [], none)),
  (8, (3, .getfield 30, 3, 12, 16, .null, [], none)),
  (11, (0, .iconst 0, 1, 0, 0, (.int 0), [], none)),
  (12, (3, .laload, 1, 0, 0, .null, [], none)),
  (13, (1, .iload_n 2, 1, 0, 0, .null, [], none)),
  (14, (4, .invokestatic 200, 3, 135, 2, .null, [], none)),
  (17, (1, .lstore 5, 2, 0, 0, .null, [], none)),
  (19, (1, .iload_n 1, 1, 0, 0, .null, [], none)),
  (20, (2, .ifCond .eq 18, 3, 38, 0, .null, [], none)),
  (23, (1, .lload 5, 2, 0, 0, .null, [], none)),
  (25, (1, .iload_n 2, 1, 0, 0, .null, [], none)),
  (26, (4, .invokestatic 274, 3, 178, 2, .null, [], none)),
  (29, (1, .lload_n 3, 1, 0, 0, .null, [], none)),
  (30, (1, .iload_n 2, 1, 0, 0, .null, [], none)),
  (31, (4, .invokestatic 274, 3, 178, 2, .null, [], none))],
 [(34, (0, .lmul, 1, 0, 0, .null, [], none)),
  (35, (2, .goto 7, 3, 42, 0, .null, [], none)),
  (38, (1, .lload 5, 2, 0, 0, .null, [], none)),
  (40, (1, .lload_n 3, 1, 0, 0, .null, [], none)),
  (41, (0, .lmul, 1, 0, 0, .null, [], none)),
  (42, (1, .lstore 7, 2, 0, 0, .null, [], some [0, 1, 2, 3, 5])),
  (44, (1, .iload_n 2, 1, 0, 0, .null, [], none)),
  (45, (0, .iconst 1, 1, 0, 0, (.int 1), [], none)),
  (46, (2, .if_icmp .ne 70, 3, 116, 0, .null, [], none)),
  (49, (1, .aload_n 0, 1, 0, 0, .null, [], none)),
  (50, (3, .getfield 30, 3, 12, 16, .null, [], none)),
  (53, (0, .iconst 0, 1, 0, 0, (.int 0), [], none)),
  (54, (1, .aload_n 0, 1, 0, 0, .null, [], none)),
  (55, (3, .getfield 30, 3, 12, 16, .null, [], none)),
  (58, (0, .iconst 0, 1, 0, 0, (.int 0), [], none)),
  (59, (3, .laload, 1, 0, 0, .null, [], none)),
  (60, (0, .ldc2_w 285, 3, 0, 0, (.long (-65536)), [], none)),
  (63, (0, .land, 1, 0, 0, .null, [], none))],
 [(64, (1, .lload 7, 2, 0, 0, .null, [], none)),
  (66, (0, .ldc2_w 147, 3, 0, 0, (.long 65535), [], none)),
  (69, (0, .land, 1, 0, 0, .null, [], none)),
  (70, (0, .lor, 1, 0, 0, .null, [], none)),
  (71, (3, .lastore, 1, 0, 0, .null, [], none)),
  (72, (1, .aload_n 0, 1, 0, 0, .null, [], none)),
  (73, (1, .iload_n 1, 1, 0, 0, .null, [], none)),
  (74, (2, .ifCond .eq 22, 3, 96, 0, .null, [], none)),
  (77, (1, .lload 7, 2, 0, 0, .null, [], none)),
  (79, (1, .lload 7, 2, 0, 0, .null, [], none)),
  (81, (0, .l2i, 1, 0, 0, .null, [], none)),
  (82, (0, .i2b, 1, 0, 0, .null, [], none)),
  (83, (0, .i2l, 1, 0, 0, .null, [], none)),
  (84, (0, .lcmp, 1, 0, 0, .null, [], none)),
  (85, (2, .ifCond .eq 7, 3, 92, 0, .null, [], none)),
  (88, (0, .iconst 1, 1, 0, 0, (.int 1), [], none)),
  (89, (2, .goto 21, 3, 110, 0, .null, [], none)),
  (92, (0, .iconst 0, 1, 0, 0, (.int 0), [], none)),
  (93, (2, .goto 17, 3, 110, 0, .null, [], none))],
 [(96, (1, .lload 7, 2, 0, 0, .null, [], none)),
  (98, (0, .ldc2_w 145, 3, 0, 0, (.long 255), [], none)),
  (101, (0, .lcmp, 1, 0, 0, .null, [], none)),
  (102, (2, .ifCond .le 7, 3, 109, 0, .null, [], none)),
  (105, (0, .iconst 1, 1, 0, 0, (.int 1), [], none)),
  (106, (2, .goto 4, 3, 110, 0, .null, [], none)),
  (109, (0, .iconst 0, 1, 0, 0, (.int 0), [], none)),
  (110, (3, .putfield 237, 3, 12, 21, .null, [], some [0])),
  (113, (2, .goto 147, 3, 260, 0, .null, [], none)),
  (116, (1, .iload_n 2, 1, 0, 0, .null, [], none)),
  (117, (0, .iconst 4, 1, 0, 0, (.int 4), [], none)),
  (118, (2, .if_icmp .ne 66, 3, 184, 0, .null, [], none)),
  (121, (1, .aload_n 0, 1, 0, 0, .null, [], none)),
  (122, (0, .iconst 0, 1, 0, 0, (.int 0), [], none)),
  (123, (0, .iconst 4, 1, 0, 0, (.int 4), [], none)),
  (124, (1, .lload 7, 2, 0, 0, .null, [], none)),
  (126, (4, .invokevirtual 212, 3, 176, 4, .null, [], none))],
 [(129, (1, .aload_n 0, 1, 0, 0, .null, [], none)),
  (130, (0, .iconst 2, 1, 0, 0, (.int 2), [], none)),
  (131, (0, .iconst 4, 1, 0, 0, (.int 4), [], none)),
  (132, (1, .lload 7, 2, 0, 0, .null, [], none)),
  (134, (0, .bipush 32, 2, 0, 0, (.int 32), [], none)),
  (136, (0, .lushr, 1, 0, 0, .null, [], none)),
  (137, (4, .invokevirtual 212, 3, 176, 4, .null, [], none)),
  (140, (1, .aload_n 0, 1, 0, 0, .null, [], none)),
  (141, (1, .iload_n 1, 1, 0, 0, .null, [], none)),
  (142, (2, .ifCond .eq 21, 3, 163, 0, .null, [], none)),
  (145, (1, .lload 7, 2, 0, 0, .null, [], none)),
  (147, (1, .lload 7, 2, 0, 0, .null, [], none)),
  (149, (0, .l2i, 1, 0, 0, .null, [], none)),
  (150, (0, .i2l, 1, 0, 0, .null, [], none)),
  (151, (0, .lcmp, 1, 0, 0, .null, [], none)),
  (152, (2, .ifCond .eq 7, 3, 159, 0, .null, [], none)),
  (155, (0, .iconst 1, 1, 0, 0, (.int 1), [], none)),
  (156, (2, .goto 22, 3, 178, 0, .null, [], none)),
  (159, (0, .iconst 0, 1, 0, 0, (.int 0), [], none))],
 [(160, (2, .goto 18, 3, 178, 0, .null, [], none)),
  (163, (1, .lload 7, 2, 0, 0, .null, [], none)),
  (165, (0, .bipush 32, 2, 0, 0, (.int 32), [], none)),
  (167, (0, .lushr, 1, 0, 0, .null, [], none)),
  (168, (0, .lconst 0, 1, 0, 0, (.long 0), [], none)),
  (169, (0, .lcmp, 1, 0, 0, .null, [], none)),
  (170, (2, .ifCond .eq 7, 3, 177, 0, .null, [], none)),
  (173, (0, .iconst 1, 1, 0, 0, (.int 1), [], none)),
  (174, (2, .goto 4, 3, 178, 0, .null, [], none)),
  (177, (0, .iconst 0, 1, 0, 0, (.int 0), [], none)),
  (178, (3, .putfield 237, 3, 12, 21, .null, [], some [0])),
  (181, (2, .goto 79, 3, 260, 0, .null, [], none)),
  (184, (1, .iload_n 1, 1, 0, 0, .null, [], none)),
  (185, (2, .ifCond .eq 12, 3, 197, 0, .null, [], none)),
  (188, (1, .lload 5, 2, 0, 0, .null, [], none)),
  (190, (1, .lload_n 3, 1, 0, 0, .null, [], none)),
  (191, (4, .invokestatic 287, 3, 143, 2, .null, [], none))],
 [(194, (2, .goto 9, 3, 203, 0, .null, [], none)),
  (197, (1, .lload 5, 2, 0, 0, .null, [], none)),
  (199, (1, .lload_n 3, 1, 0, 0, .null, [], none)),
  (200, (4, .invokestatic 281, 3, 144, 2, .null, [], none)),
  (203, (1, .lstore 9, 2, 0, 0, .null, [], some [0, 1, 7])),
  (205, (1, .aload_n 0, 1, 0, 0, .null, [], none)),
  (206, (3, .getfield 30, 3, 12, 16, .null, [], none)),
  (209, (0, .iconst 0, 1, 0, 0, (.int 0), [], none)),
  (210, (1, .lload 7, 2, 0, 0, .null, [], none)),
  (212, (3, .lastore, 1, 0, 0, .null, [], none)),
  (213, (1, .aload_n 0, 1, 0, 0, .null, [], none)),
  (214, (3, .getfield 30, 3, 12, 16, .null, [], none)),
  (217, (0, .iconst 2, 1, 0, 0, (.int 2), [], none)),
  (218, (1, .lload 9, 2, 0, 0, .null, [], none)),
  (220, (3, .lastore, 1, 0, 0, .null, [], none)),
  (221, (1, .aload_n 0, 1, 0, 0, .null, [], none)),
  (222, (1, .iload_n 1, 1, 0, 0, .null, [], none)),
  (223, (2, .ifCond .eq 22, 3, 245, 0, .null, [], none))],
 [(226, (1, .lload 9, 2, 0, 0, .null, [], none)),
  (228, (1, .lload 7, 2, 0, 0, .null, [], none)),
  (230, (0, .bipush 63, 2, 0, 0, (.int 63), [], none)),
  (232, (0, .lshr, 1, 0, 0, .null, [], none)),
  (233, (0, .lcmp, 1, 0, 0, .null, [], none)),
  (234, (2, .ifCond .eq 7, 3, 241, 0, .null, [], none)),
  (237, (0, .iconst 1, 1, 0, 0, (.int 1), [], none)),
  (238, (2, .goto 19, 3, 257, 0, .null, [], none)),
  (241, (0, .iconst 0, 1, 0, 0, (.int 0), [], none)),
  (242, (2, .goto 15, 3, 257, 0, .null, [], none)),
  (245, (1, .lload 9, 2, 0, 0, .null, [], none)),
  (247, (0, .lconst 0, 1, 0, 0, (.long 0), [], none)),
  (248, (0, .lcmp, 1, 0, 0, .null, [], none)),
  (249, (2, .ifCond .eq 7, 3, 256, 0, .null, [], none)),
  (252, (0, .iconst 1, 1, 0, 0, (.int 1), [], none)),
  (253, (2, .goto 4, 3, 257, 0, .null, [], none))],
 [(256, (0, .iconst 0, 1, 0, 0, (.int 0), [], none)),
  (257, (3, .putfield 237, 3, 12, 21, .null, [], some [0])),
  (260, (1, .aload_n 0, 1, 0, 0, .null, [], some [0])),
  (261, (1, .aload_n 0, 1, 0, 0, .null, [], none)),
  (262, (3, .getfield 237, 3, 12, 21, .null, [], none)),
  (265, (3, .putfield 240, 3, 12, 25, .null, [], none)),
  (268, (5, .return_, 1, 0, 0, .null, [], none))]]
/- 158: FlagMachineModel.number(J)V -/
noncomputable def tb_c158 : List (List (Nat × am_I)) := [[(0, (1, .aload_n 0, 1, 0, 0, .null, [], none)),
  (1, (0, .iconst 0, 1, 0, 0, (.int 0), [], none)),
  (2, (3, .putfield 61, 3, 12, 0, .null, [], none)),
  (5, (1, .aload_n 0, 1, 0, 0, .null, [], none)),
  (6, (1, .lload_n 1, 1, 0, 0, .null, [], none)),
  (7, (3, .putfield 123, 3, 12, 38, .null, [], none)),
  (10, (5, .return_, 1, 0, 0, .null, [], none))]]
/- 159: FlagMachineModel.op(III)V -/
noncomputable def tb_c159 : List (List (Nat × am_I)) := [[(0, (1, .aload_n 0, 1, 0, 0, .null, [], none)),
  (1, (0, .iconst 0, 1, 0, 0, (.int 0), [], none)),
  (2, (3, .putfield 61, 3, 12, 0, .null, [], none)),
  (5, (1, .aload_n 0, 1, 0, 0, .null, [], none)),
  (6, (1, .iload_n 1, 1, 0, 0, .null, [], none)),
  (7, (3, .putfield 37, 3, 12, 30, .null, [], none)),
  (10, (1, .aload_n 0, 1, 0, 0, .null, [], none)),
  (11, (1, .iload_n 2, 1, 0, 0, .null, [], none)),
  (12, (3, .putfield 114, 3, 12, 31, .null, [], none)),
  (15, (1, .aload_n 0, 1, 0, 0, .null, [], none)),
  (16, (1, .iload_n 3, 1, 0, 0, .null, [], none)),
  (17, (3, .putfield 117, 3, 12, 32, .null, [], none)),
  (20, (0, .iconst 0, 1, 0, 0, (.int 0), [], none)),
  (21, (1, .istore 4, 2, 0, 0, .null, [], none)),
  (23, (1, .iload 4, 2, 0, 0, .null, [], some [0, 4])),
  (25, (0, .iconst 3, 1, 0, 0, (.int 3), [], none)),
  (26, (2, .if_icmp .ge 25, 3, 51, 0, .null, [], none)),
  (29, (1, .aload_n 0, 1, 0, 0, .null, [], none)),
  (30, (3, .getfield 50, 3, 12, 39, .null, [], none))],
 [(33, (1, .iload 4, 2, 0, 0, .null, [], none)),
  (35, (0, .iconst 0, 1, 0, 0, (.int 0), [], none)),
  (36, (3, .iastore, 1, 0, 0, .null, [], none)),
  (37, (1, .aload_n 0, 1, 0, 0, .null, [], none)),
  (38, (3, .getfield 54, 3, 12, 40, .null, [], none)),
  (41, (1, .iload 4, 2, 0, 0, .null, [], none)),
  (43, (0, .iconst 0, 1, 0, 0, (.int 0), [], none)),
  (44, (3, .iastore, 1, 0, 0, .null, [], none)),
  (45, (1, .iinc 4 1, 3, 0, 0, (.int 1), [], none)),
  (48, (2, .goto (-25), 3, 23, 0, .null, [], none)),
  (51, (5, .return_, 1, 0, 0, .null, [], none))]]
/- 160: FlagMachineModel.operand(III)Z -/
noncomputable def tb_c160 : List (List (Nat × am_I)) := [[(0, (1, .aload_n 0, 1, 0, 0, .null, [], none)),
  (1, (0, .iconst 0, 1, 0, 0, (.int 0), [], none)),
  (2, (3, .putfield 61, 3, 12, 0, .null, [], none)),
  (5, (1, .iload_n 1, 1, 0, 0, .null, [], none)),
  (6, (2, .ifCond .lt 36, 3, 42, 0, .null, [], none)),
  (9, (1, .iload_n 1, 1, 0, 0, .null, [], none)),
  (10, (0, .iconst 2, 1, 0, 0, (.int 2), [], none)),
  (11, (2, .if_icmp .gt 31, 3, 42, 0, .null, [], none)),
  (14, (1, .iload_n 2, 1, 0, 0, .null, [], none)),
  (15, (2, .ifCond .lt 27, 3, 42, 0, .null, [], none)),
  (18, (1, .iload_n 2, 1, 0, 0, .null, [], none)),
  (19, (0, .iconst 3, 1, 0, 0, (.int 3), [], none)),
  (20, (2, .if_icmp .gt 22, 3, 42, 0, .null, [], none)),
  (23, (1, .iload_n 3, 1, 0, 0, .null, [], none)),
  (24, (2, .ifCond .lt 18, 3, 42, 0, .null, [], none)),
  (27, (1, .iload_n 3, 1, 0, 0, .null, [], none)),
  (28, (1, .iload_n 2, 1, 0, 0, .null, [], none)),
  (29, (0, .iconst 1, 1, 0, 0, (.int 1), [], none)),
  (30, (2, .if_icmp .ne 8, 3, 38, 0, .null, [], none))],
 [(33, (0, .bipush 15, 2, 0, 0, (.int 15), [], none)),
  (35, (2, .goto 4, 3, 39, 0, .null, [], none)),
  (38, (0, .iconst 0, 1, 0, 0, (.int 0), [], none)),
  (39, (2, .if_icmp .le 5, 3, 44, 0, .null, [], some [0, 1, 2, 3])),
  (42, (0, .iconst 0, 1, 0, 0, (.int 0), [], some [])),
  (43, (5, .ireturn, 1, 0, 0, .null, [], none)),
  (44, (1, .aload_n 0, 1, 0, 0, .null, [], none)),
  (45, (3, .getfield 50, 3, 12, 39, .null, [], none)),
  (48, (1, .iload_n 1, 1, 0, 0, .null, [], none)),
  (49, (1, .iload_n 2, 1, 0, 0, .null, [], none)),
  (50, (3, .iastore, 1, 0, 0, .null, [], none)),
  (51, (1, .aload_n 0, 1, 0, 0, .null, [], none)),
  (52, (3, .getfield 54, 3, 12, 40, .null, [], none)),
  (55, (1, .iload_n 1, 1, 0, 0, .null, [], none)),
  (56, (1, .iload_n 3, 1, 0, 0, .null, [], none)),
  (57, (3, .iastore, 1, 0, 0, .null, [], none)),
  (58, (0, .iconst 1, 1, 0, 0, (.int 1), [], none)),
  (59, (5, .ireturn, 1, 0, 0, .null, [], none))]]
/- 161: FlagMachineModel.operandsFit()Z -/
noncomputable def tb_c161 : List (List (Nat × am_I)) := [[(0, (1, .aload_n 0, 1, 0, 0, .null, [], none)),
  (1, (3, .getfield 50, 3, 12, 39, .null, [], none)),
  (4, (0, .iconst 0, 1, 0, 0, (.int 0), [], none)),
  (5, (3, .iaload, 1, 0, 0, .null, [], none)),
  (6, (1, .istore_n 1, 1, 0, 0, .null, [], none)),
  (7, (1, .aload_n 0, 1, 0, 0, .null, [], none)),
  (8, (3, .getfield 50, 3, 12, 39, .null, [], none)),
  (11, (0, .iconst 1, 1, 0, 0, (.int 1), [], none)),
  (12, (3, .iaload, 1, 0, 0, .null, [], none)),
  (13, (1, .istore_n 2, 1, 0, 0, .null, [], none)),
  (14, (1, .aload_n 0, 1, 0, 0, .null, [], none)),
  (15, (3, .getfield 50, 3, 12, 39, .null, [], none)),
  (18, (0, .iconst 2, 1, 0, 0, (.int 2), [], none)),
  (19, (3, .iaload, 1, 0, 0, .null, [], none)),
  (20, (2, .ifCond .ne 7, 3, 27, 0, .null, [], none)),
  (23, (0, .iconst 1, 1, 0, 0, (.int 1), [], none)),
  (24, (2, .goto 4, 3, 28, 0, .null, [], none)),
  (27, (0, .iconst 0, 1, 0, 0, (.int 0), [], none)),
  (28, (1, .istore_n 3, 1, 0, 0, .null, [], some [0, 1, 2])),
  (29, (1, .iload_n 2, 1, 0, 0, .null, [], none)),
  (30, (2, .ifCond .ne 11, 3, 41, 0, .null, [], none))],
 [(33, (1, .iload_n 3, 1, 0, 0, .null, [], none)),
  (34, (2, .ifCond .eq 7, 3, 41, 0, .null, [], none)),
  (37, (0, .iconst 1, 1, 0, 0, (.int 1), [], none)),
  (38, (2, .goto 4, 3, 42, 0, .null, [], none)),
  (41, (0, .iconst 0, 1, 0, 0, (.int 0), [], some [0, 1, 2, 3])),
  (42, (1, .istore 4, 2, 0, 0, .null, [], some [0, 1, 2, 3])),
  (44, (1, .aload_n 0, 1, 0, 0, .null, [], none)),
  (45, (3, .getfield 37, 3, 12, 30, .null, [], none)),
  (48, (0, .bipush 11, 2, 0, 0, (.int 11), [], none)),
  (50, (2, .if_icmp .lt 21, 3, 71, 0, .null, [], none)),
  (53, (1, .aload_n 0, 1, 0, 0, .null, [], none)),
  (54, (3, .getfield 37, 3, 12, 30, .null, [], none)),
  (57, (0, .bipush 48, 2, 0, 0, (.int 48), [], none)),
  (59, (2, .if_icmp .eq 12, 3, 71, 0, .null, [], none)),
  (62, (1, .aload_n 0, 1, 0, 0, .null, [], none)),
  (63, (3, .getfield 37, 3, 12, 30, .null, [], none))],
 [(66, (0, .bipush 49, 2, 0, 0, (.int 49), [], none)),
  (68, (2, .if_icmp .ne 70, 3, 138, 0, .null, [], none)),
  (71, (1, .iload_n 3, 1, 0, 0, .null, [], some [0, 1, 2, 3])),
  (72, (2, .ifCond .eq 64, 3, 136, 0, .null, [], none)),
  (75, (1, .aload_n 0, 1, 0, 0, .null, [], none)),
  (76, (0, .iconst 0, 1, 0, 0, (.int 0), [], none)),
  (77, (4, .invokevirtual 138, 3, 146, 2, .null, [], none)),
  (80, (2, .ifCond .eq 8, 3, 88, 0, .null, [], none)),
  (83, (1, .iload_n 2, 1, 0, 0, .null, [], none)),
  (84, (0, .iconst 1, 1, 0, 0, (.int 1), [], none)),
  (85, (2, .if_icmp .eq 47, 3, 132, 0, .null, [], none)),
  (88, (1, .aload_n 0, 1, 0, 0, .null, [], some [0, 1, 2])),
  (89, (3, .getfield 37, 3, 12, 30, .null, [], none)),
  (92, (0, .bipush 9, 2, 0, 0, (.int 9), [], none)),
  (94, (2, .if_icmp .ge 13, 3, 107, 0, .null, [], none))],
 [(97, (1, .iload_n 1, 1, 0, 0, .null, [], none)),
  (98, (0, .iconst 1, 1, 0, 0, (.int 1), [], none)),
  (99, (2, .if_icmp .ne 8, 3, 107, 0, .null, [], none)),
  (102, (1, .iload_n 2, 1, 0, 0, .null, [], none)),
  (103, (0, .iconst 2, 1, 0, 0, (.int 2), [], none)),
  (104, (2, .if_icmp .eq 28, 3, 132, 0, .null, [], none)),
  (107, (1, .aload_n 0, 1, 0, 0, .null, [], some [0])),
  (108, (3, .getfield 37, 3, 12, 30, .null, [], none)),
  (111, (0, .bipush 10, 2, 0, 0, (.int 10), [], none)),
  (113, (2, .if_icmp .ge 23, 3, 136, 0, .null, [], none)),
  (116, (1, .aload_n 0, 1, 0, 0, .null, [], none)),
  (117, (0, .iconst 0, 1, 0, 0, (.int 0), [], none)),
  (118, (4, .invokevirtual 138, 3, 146, 2, .null, [], none)),
  (121, (2, .ifCond .eq 15, 3, 136, 0, .null, [], none)),
  (124, (1, .aload_n 0, 1, 0, 0, .null, [], none)),
  (125, (0, .iconst 1, 1, 0, 0, (.int 1), [], none)),
  (126, (4, .invokevirtual 142, 3, 149, 2, .null, [], none))],
 [(129, (2, .ifCond .eq 7, 3, 136, 0, .null, [], none)),
  (132, (0, .iconst 1, 1, 0, 0, (.int 1), [], some [])),
  (133, (2, .goto 4, 3, 137, 0, .null, [], none)),
  (136, (0, .iconst 0, 1, 0, 0, (.int 0), [], some [])),
  (137, (5, .ireturn, 1, 0, 0, .null, [], some [])),
  (138, (1, .aload_n 0, 1, 0, 0, .null, [], none)),
  (139, (3, .getfield 37, 3, 12, 30, .null, [], none)),
  (142, (0, .bipush 11, 2, 0, 0, (.int 11), [], none)),
  (144, (2, .if_icmp .ne 23, 3, 167, 0, .null, [], none)),
  (147, (1, .iload_n 3, 1, 0, 0, .null, [], none)),
  (148, (2, .ifCond .eq 17, 3, 165, 0, .null, [], none)),
  (151, (1, .iload_n 1, 1, 0, 0, .null, [], none)),
  (152, (0, .iconst 1, 1, 0, 0, (.int 1), [], none)),
  (153, (2, .if_icmp .ne 12, 3, 165, 0, .null, [], none)),
  (156, (1, .iload_n 2, 1, 0, 0, .null, [], none)),
  (157, (0, .iconst 2, 1, 0, 0, (.int 2), [], none)),
  (158, (2, .if_icmp .ne 7, 3, 165, 0, .null, [], none))],
 [(161, (0, .iconst 1, 1, 0, 0, (.int 1), [], none)),
  (162, (2, .goto 4, 3, 166, 0, .null, [], none)),
  (165, (0, .iconst 0, 1, 0, 0, (.int 0), [], some [])),
  (166, (5, .ireturn, 1, 0, 0, .null, [], some [])),
  (167, (1, .aload_n 0, 1, 0, 0, .null, [], none)),
  (168, (3, .getfield 37, 3, 12, 30, .null, [], none)),
  (171, (0, .bipush 15, 2, 0, 0, (.int 15), [], none)),
  (173, (2, .if_icmp .lt 30, 3, 203, 0, .null, [], none)),
  (176, (1, .aload_n 0, 1, 0, 0, .null, [], none)),
  (177, (3, .getfield 37, 3, 12, 30, .null, [], none)),
  (180, (0, .bipush 36, 2, 0, 0, (.int 36), [], none)),
  (182, (2, .if_icmp .eq 21, 3, 203, 0, .null, [], none)),
  (185, (1, .aload_n 0, 1, 0, 0, .null, [], none)),
  (186, (3, .getfield 37, 3, 12, 30, .null, [], none)),
  (189, (0, .bipush 44, 2, 0, 0, (.int 44), [], none)),
  (191, (2, .if_icmp .eq 12, 3, 203, 0, .null, [], none))],
 [(194, (1, .aload_n 0, 1, 0, 0, .null, [], none)),
  (195, (3, .getfield 37, 3, 12, 30, .null, [], none)),
  (198, (0, .bipush 45, 2, 0, 0, (.int 45), [], none)),
  (200, (2, .if_icmp .ne 26, 3, 226, 0, .null, [], none)),
  (203, (1, .iload_n 3, 1, 0, 0, .null, [], some [0, 1, 3])),
  (204, (2, .ifCond .eq 20, 3, 224, 0, .null, [], none)),
  (207, (1, .iload_n 1, 1, 0, 0, .null, [], none)),
  (208, (0, .iconst 1, 1, 0, 0, (.int 1), [], none)),
  (209, (2, .if_icmp .ne 15, 3, 224, 0, .null, [], none)),
  (212, (1, .aload_n 0, 1, 0, 0, .null, [], none)),
  (213, (0, .iconst 1, 1, 0, 0, (.int 1), [], none)),
  (214, (4, .invokevirtual 138, 3, 146, 2, .null, [], none)),
  (217, (2, .ifCond .eq 7, 3, 224, 0, .null, [], none)),
  (220, (0, .iconst 1, 1, 0, 0, (.int 1), [], none)),
  (221, (2, .goto 4, 3, 225, 0, .null, [], none))],
 [(224, (0, .iconst 0, 1, 0, 0, (.int 0), [], some [])),
  (225, (5, .ireturn, 1, 0, 0, .null, [], some [])),
  (226, (1, .aload_n 0, 1, 0, 0, .null, [], none)),
  (227, (3, .getfield 37, 3, 12, 30, .null, [], none)),
  (230, (0, .bipush 23, 2, 0, 0, (.int 23), [], none)),
  (232, (2, .if_icmp .lt 21, 3, 253, 0, .null, [], none)),
  (235, (1, .aload_n 0, 1, 0, 0, .null, [], none)),
  (236, (3, .getfield 37, 3, 12, 30, .null, [], none)),
  (239, (0, .bipush 30, 2, 0, 0, (.int 30), [], none)),
  (241, (2, .if_icmp .eq 12, 3, 253, 0, .null, [], none)),
  (244, (1, .aload_n 0, 1, 0, 0, .null, [], none)),
  (245, (3, .getfield 37, 3, 12, 30, .null, [], none)),
  (248, (0, .bipush 35, 2, 0, 0, (.int 35), [], none)),
  (250, (2, .if_icmp .ne 22, 3, 272, 0, .null, [], none)),
  (253, (1, .iload 4, 2, 0, 0, .null, [], some [0, 4])),
  (255, (2, .ifCond .eq 15, 3, 270, 0, .null, [], none))],
 [(258, (1, .aload_n 0, 1, 0, 0, .null, [], none)),
  (259, (0, .iconst 0, 1, 0, 0, (.int 0), [], none)),
  (260, (4, .invokevirtual 138, 3, 146, 2, .null, [], none)),
  (263, (2, .ifCond .eq 7, 3, 270, 0, .null, [], none)),
  (266, (0, .iconst 1, 1, 0, 0, (.int 1), [], none)),
  (267, (2, .goto 4, 3, 271, 0, .null, [], none)),
  (270, (0, .iconst 0, 1, 0, 0, (.int 0), [], some [])),
  (271, (5, .ireturn, 1, 0, 0, .null, [], some [])),
  (272, (1, .aload_n 0, 1, 0, 0, .null, [], none)),
  (273, (3, .getfield 37, 3, 12, 30, .null, [], none)),
  (276, (0, .bipush 23, 2, 0, 0, (.int 23), [], none)),
  (278, (2, .if_icmp .ne 34, 3, 312, 0, .null, [], none)),
  (281, (1, .iload_n 1, 1, 0, 0, .null, [], none)),
  (282, (0, .iconst 1, 1, 0, 0, (.int 1), [], none)),
  (283, (2, .if_icmp .ne 27, 3, 310, 0, .null, [], none)),
  (286, (1, .aload_n 0, 1, 0, 0, .null, [], none)),
  (287, (0, .iconst 1, 1, 0, 0, (.int 1), [], none))],
 [(288, (4, .invokevirtual 138, 3, 146, 2, .null, [], none)),
  (291, (2, .ifCond .eq 19, 3, 310, 0, .null, [], none)),
  (294, (1, .iload_n 3, 1, 0, 0, .null, [], none)),
  (295, (2, .ifCond .ne 11, 3, 306, 0, .null, [], none)),
  (298, (1, .aload_n 0, 1, 0, 0, .null, [], none)),
  (299, (0, .iconst 2, 1, 0, 0, (.int 2), [], none)),
  (300, (4, .invokevirtual 142, 3, 149, 2, .null, [], none)),
  (303, (2, .ifCond .eq 7, 3, 310, 0, .null, [], none)),
  (306, (0, .iconst 1, 1, 0, 0, (.int 1), [], some [])),
  (307, (2, .goto 4, 3, 311, 0, .null, [], none)),
  (310, (0, .iconst 0, 1, 0, 0, (.int 0), [], some [])),
  (311, (5, .ireturn, 1, 0, 0, .null, [], some [])),
  (312, (1, .aload_n 0, 1, 0, 0, .null, [], none)),
  (313, (3, .getfield 37, 3, 12, 30, .null, [], none)),
  (316, (0, .bipush 29, 2, 0, 0, (.int 29), [], none)),
  (318, (2, .if_icmp .ge 48, 3, 366, 0, .null, [], none))],
 [(321, (1, .iload_n 3, 1, 0, 0, .null, [], none)),
  (322, (2, .ifCond .eq 42, 3, 364, 0, .null, [], none)),
  (325, (1, .aload_n 0, 1, 0, 0, .null, [], none)),
  (326, (0, .iconst 0, 1, 0, 0, (.int 0), [], none)),
  (327, (4, .invokevirtual 138, 3, 146, 2, .null, [], none)),
  (330, (2, .ifCond .eq 34, 3, 364, 0, .null, [], none)),
  (333, (1, .iload_n 2, 1, 0, 0, .null, [], none)),
  (334, (0, .iconst 1, 1, 0, 0, (.int 1), [], none)),
  (335, (2, .if_icmp .ne 13, 3, 348, 0, .null, [], none)),
  (338, (1, .aload_n 0, 1, 0, 0, .null, [], none)),
  (339, (3, .getfield 54, 3, 12, 40, .null, [], none)),
  (342, (0, .iconst 1, 1, 0, 0, (.int 1), [], none)),
  (343, (3, .iaload, 1, 0, 0, .null, [], none)),
  (344, (0, .iconst 1, 1, 0, 0, (.int 1), [], none)),
  (345, (2, .if_icmp .eq 15, 3, 360, 0, .null, [], none)),
  (348, (1, .aload_n 0, 1, 0, 0, .null, [], some [0])),
  (349, (0, .iconst 1, 1, 0, 0, (.int 1), [], none)),
  (350, (0, .lconst 0, 1, 0, 0, (.long 0), [], none)),
  (351, (0, .ldc2_w 145, 3, 0, 0, (.long 255), [], none))],
 [(354, (4, .invokevirtual 130, 3, 148, 4, .null, [], none)),
  (357, (2, .ifCond .eq 7, 3, 364, 0, .null, [], none)),
  (360, (0, .iconst 1, 1, 0, 0, (.int 1), [], some [])),
  (361, (2, .goto 4, 3, 365, 0, .null, [], none)),
  (364, (0, .iconst 0, 1, 0, 0, (.int 0), [], some [])),
  (365, (5, .ireturn, 1, 0, 0, .null, [], some [])),
  (366, (1, .aload_n 0, 1, 0, 0, .null, [], none)),
  (367, (3, .getfield 37, 3, 12, 30, .null, [], none)),
  (370, (0, .bipush 29, 2, 0, 0, (.int 29), [], none)),
  (372, (2, .if_icmp .eq 21, 3, 393, 0, .null, [], none)),
  (375, (1, .aload_n 0, 1, 0, 0, .null, [], none)),
  (376, (3, .getfield 37, 3, 12, 30, .null, [], none)),
  (379, (0, .bipush 31, 2, 0, 0, (.int 31), [], none)),
  (381, (2, .if_icmp .eq 12, 3, 393, 0, .null, [], none))],
 [(384, (1, .aload_n 0, 1, 0, 0, .null, [], none)),
  (385, (3, .getfield 37, 3, 12, 30, .null, [], none)),
  (388, (0, .bipush 32, 2, 0, 0, (.int 32), [], none)),
  (390, (2, .if_icmp .ne 30, 3, 420, 0, .null, [], none)),
  (393, (1, .iload 4, 2, 0, 0, .null, [], some [0, 4])),
  (395, (2, .ifCond .eq 23, 3, 418, 0, .null, [], none)),
  (398, (1, .aload_n 0, 1, 0, 0, .null, [], none)),
  (399, (0, .iconst 0, 1, 0, 0, (.int 0), [], none)),
  (400, (4, .invokevirtual 138, 3, 146, 2, .null, [], none)),
  (403, (2, .ifCond .ne 11, 3, 414, 0, .null, [], none)),
  (406, (1, .aload_n 0, 1, 0, 0, .null, [], none)),
  (407, (0, .iconst 0, 1, 0, 0, (.int 0), [], none)),
  (408, (4, .invokevirtual 142, 3, 149, 2, .null, [], none)),
  (411, (2, .ifCond .eq 7, 3, 418, 0, .null, [], none)),
  (414, (0, .iconst 1, 1, 0, 0, (.int 1), [], some [])),
  (415, (2, .goto 4, 3, 419, 0, .null, [], none))],
 [(418, (0, .iconst 0, 1, 0, 0, (.int 0), [], some [])),
  (419, (5, .ireturn, 1, 0, 0, .null, [], some [])),
  (420, (1, .aload_n 0, 1, 0, 0, .null, [], none)),
  (421, (3, .getfield 37, 3, 12, 30, .null, [], none)),
  (424, (0, .bipush 33, 2, 0, 0, (.int 33), [], none)),
  (426, (2, .if_icmp .ne 30, 3, 456, 0, .null, [], none)),
  (429, (1, .iload 4, 2, 0, 0, .null, [], none)),
  (431, (2, .ifCond .eq 23, 3, 454, 0, .null, [], none)),
  (434, (1, .iload_n 1, 1, 0, 0, .null, [], none)),
  (435, (2, .ifCond .eq 15, 3, 450, 0, .null, [], none)),
  (438, (1, .aload_n 0, 1, 0, 0, .null, [], none)),
  (439, (0, .iconst 0, 1, 0, 0, (.int 0), [], none)),
  (440, (0, .lconst 0, 1, 0, 0, (.long 0), [], none)),
  (441, (0, .ldc2_w 147, 3, 0, 0, (.long 65535), [], none)),
  (444, (4, .invokevirtual 130, 3, 148, 4, .null, [], none)),
  (447, (2, .ifCond .eq 7, 3, 454, 0, .null, [], none))],
 [(450, (0, .iconst 1, 1, 0, 0, (.int 1), [], some [])),
  (451, (2, .goto 4, 3, 455, 0, .null, [], none)),
  (454, (0, .iconst 0, 1, 0, 0, (.int 0), [], some [])),
  (455, (5, .ireturn, 1, 0, 0, .null, [], some [])),
  (456, (1, .aload_n 0, 1, 0, 0, .null, [], none)),
  (457, (3, .getfield 37, 3, 12, 30, .null, [], none)),
  (460, (0, .bipush 34, 2, 0, 0, (.int 34), [], none)),
  (462, (2, .if_icmp .ne 22, 3, 484, 0, .null, [], none)),
  (465, (1, .iload 4, 2, 0, 0, .null, [], none)),
  (467, (2, .ifCond .eq 15, 3, 482, 0, .null, [], none)),
  (470, (1, .aload_n 0, 1, 0, 0, .null, [], none)),
  (471, (0, .iconst 0, 1, 0, 0, (.int 0), [], none)),
  (472, (4, .invokevirtual 142, 3, 149, 2, .null, [], none)),
  (475, (2, .ifCond .eq 7, 3, 482, 0, .null, [], none)),
  (478, (0, .iconst 1, 1, 0, 0, (.int 1), [], none)),
  (479, (2, .goto 4, 3, 483, 0, .null, [], none))],
 [(482, (0, .iconst 0, 1, 0, 0, (.int 0), [], some [])),
  (483, (5, .ireturn, 1, 0, 0, .null, [], some [])),
  (484, (1, .aload_n 0, 1, 0, 0, .null, [], none)),
  (485, (3, .getfield 37, 3, 12, 30, .null, [], none)),
  (488, (0, .bipush 46, 2, 0, 0, (.int 46), [], none)),
  (490, (2, .if_icmp .ne 19, 3, 509, 0, .null, [], none)),
  (493, (1, .iload 4, 2, 0, 0, .null, [], none)),
  (495, (2, .ifCond .eq 12, 3, 507, 0, .null, [], none)),
  (498, (1, .iload_n 1, 1, 0, 0, .null, [], none)),
  (499, (0, .iconst 1, 1, 0, 0, (.int 1), [], none)),
  (500, (2, .if_icmp .ne 7, 3, 507, 0, .null, [], none)),
  (503, (0, .iconst 1, 1, 0, 0, (.int 1), [], none)),
  (504, (2, .goto 4, 3, 508, 0, .null, [], none)),
  (507, (0, .iconst 0, 1, 0, 0, (.int 0), [], some [])),
  (508, (5, .ireturn, 1, 0, 0, .null, [], some [])),
  (509, (1, .aload_n 0, 1, 0, 0, .null, [], none)),
  (510, (3, .getfield 37, 3, 12, 30, .null, [], none))],
 [(513, (0, .bipush 47, 2, 0, 0, (.int 47), [], none)),
  (515, (2, .if_icmp .ne 38, 3, 553, 0, .null, [], none)),
  (518, (1, .iload_n 3, 1, 0, 0, .null, [], none)),
  (519, (2, .ifCond .eq 32, 3, 551, 0, .null, [], none)),
  (522, (1, .aload_n 0, 1, 0, 0, .null, [], none)),
  (523, (0, .iconst 0, 1, 0, 0, (.int 0), [], none)),
  (524, (4, .invokevirtual 138, 3, 146, 2, .null, [], none)),
  (527, (2, .ifCond .eq 24, 3, 551, 0, .null, [], none)),
  (530, (1, .iload_n 2, 1, 0, 0, .null, [], none)),
  (531, (0, .iconst 1, 1, 0, 0, (.int 1), [], none)),
  (532, (2, .if_icmp .eq 15, 3, 547, 0, .null, [], none)),
  (535, (1, .aload_n 0, 1, 0, 0, .null, [], none)),
  (536, (0, .iconst 1, 1, 0, 0, (.int 1), [], none)),
  (537, (0, .lconst 0, 1, 0, 0, (.long 0), [], none)),
  (538, (0, .ldc2_w 145, 3, 0, 0, (.long 255), [], none)),
  (541, (4, .invokevirtual 130, 3, 148, 4, .null, [], none))],
 [(544, (2, .ifCond .eq 7, 3, 551, 0, .null, [], none)),
  (547, (0, .iconst 1, 1, 0, 0, (.int 1), [], some [])),
  (548, (2, .goto 4, 3, 552, 0, .null, [], none)),
  (551, (0, .iconst 0, 1, 0, 0, (.int 0), [], some [])),
  (552, (5, .ireturn, 1, 0, 0, .null, [], some [])),
  (553, (1, .iload_n 1, 1, 0, 0, .null, [], none)),
  (554, (2, .ifCond .ne 12, 3, 566, 0, .null, [], none)),
  (557, (1, .iload 4, 2, 0, 0, .null, [], none)),
  (559, (2, .ifCond .eq 7, 3, 566, 0, .null, [], none)),
  (562, (0, .iconst 1, 1, 0, 0, (.int 1), [], none)),
  (563, (2, .goto 4, 3, 567, 0, .null, [], none)),
  (566, (0, .iconst 0, 1, 0, 0, (.int 0), [], some [])),
  (567, (5, .ireturn, 1, 0, 0, .null, [], some []))]]
/- 162: FlagMachineModel.output(I)I -/
noncomputable def tb_c162 : List (List (Nat × am_I)) := [[(0, (1, .aload_n 0, 1, 0, 0, .null, [], none)),
  (1, (0, .iconst 0, 1, 0, 0, (.int 0), [], none)),
  (2, (3, .putfield 61, 3, 12, 0, .null, [], none)),
  (5, (1, .iload_n 1, 1, 0, 0, .null, [], none)),
  (6, (0, .iconst (-1), 1, 0, 0, (.int (-1)), [], none)),
  (7, (2, .if_icmp .ne 10, 3, 17, 0, .null, [], none)),
  (10, (1, .aload_n 0, 1, 0, 0, .null, [], none)),
  (11, (3, .getfield 100, 3, 12, 15, .null, [], none)),
  (14, (2, .goto 29, 3, 43, 0, .null, [], none)),
  (17, (1, .iload_n 1, 1, 0, 0, .null, [], none)),
  (18, (2, .ifCond .lt 24, 3, 42, 0, .null, [], none)),
  (21, (1, .iload_n 1, 1, 0, 0, .null, [], none)),
  (22, (1, .aload_n 0, 1, 0, 0, .null, [], none)),
  (23, (3, .getfield 100, 3, 12, 15, .null, [], none)),
  (26, (2, .if_icmp .ge 16, 3, 42, 0, .null, [], none)),
  (29, (1, .aload_n 0, 1, 0, 0, .null, [], none)),
  (30, (3, .getfield 27, 3, 12, 6, .null, [], none))],
 [(33, (1, .iload_n 1, 1, 0, 0, .null, [], none)),
  (34, (3, .baload, 1, 1, 0, .null, [], none)),
  (35, (0, .sipush 255, 3, 0, 0, (.int 255), [], none)),
  (38, (0, .iand, 1, 0, 0, .null, [], none)),
  (39, (2, .goto 4, 3, 43, 0, .null, [], none)),
  (42, (0, .iconst (-1), 1, 0, 0, (.int (-1)), [], some [])),
  (43, (5, .ireturn, 1, 0, 0, .null, [], some []))]]
/- 163: FlagMachineModel.peek(J)I -/
noncomputable def tb_c163 : List (List (Nat × am_I)) := [[(0, (1, .aload_n 0, 1, 0, 0, .null, [], none)),
  (1, (0, .iconst 0, 1, 0, 0, (.int 0), [], none)),
  (2, (3, .putfield 61, 3, 12, 0, .null, [], none)),
  (5, (1, .aload_n 0, 1, 0, 0, .null, [], none)),
  (6, (1, .lload_n 1, 1, 0, 0, .null, [], none)),
  (7, (0, .iconst 0, 1, 0, 0, (.int 0), [], none)),
  (8, (4, .invokevirtual 176, 3, 139, 3, .null, [], none)),
  (11, (1, .istore_n 3, 1, 0, 0, .null, [], none)),
  (12, (1, .iload_n 3, 1, 0, 0, .null, [], none)),
  (13, (2, .ifCond .ge 7, 3, 20, 0, .null, [], none)),
  (16, (0, .iconst (-1), 1, 0, 0, (.int (-1)), [], none)),
  (17, (2, .goto 8, 3, 25, 0, .null, [], none)),
  (20, (1, .aload_n 0, 1, 0, 0, .null, [], none)),
  (21, (1, .iload_n 3, 1, 0, 0, .null, [], none)),
  (22, (4, .invokevirtual 184, 3, 133, 2, .null, [], none)),
  (25, (5, .ireturn, 1, 0, 0, .null, [], some []))]]
/- 164: FlagMachineModel.perform()V -/
noncomputable def tb_c164 : List (List (Nat × am_I)) := [[(0, (1, .aload_n 0, 1, 0, 0, .null, [], none)),
  (1, (3, .getfield 37, 3, 12, 30, .null, [], none)),
  (4, (1, .istore_n 1, 1, 0, 0, .null, [], none)),
  (5, (1, .aload_n 0, 1, 0, 0, .null, [], none)),
  (6, (3, .getfield 114, 3, 12, 31, .null, [], none)),
  (9, (1, .istore_n 2, 1, 0, 0, .null, [], none)),
  (10, (1, .iload_n 1, 1, 0, 0, .null, [], none)),
  (11, (0, .bipush 8, 2, 0, 0, (.int 8), [], none)),
  (13, (2, .if_icmp .lt 9, 3, 22, 0, .null, [], none)),
  (16, (1, .iload_n 1, 1, 0, 0, .null, [], none)),
  (17, (0, .bipush 9, 2, 0, 0, (.int 9), [], none)),
  (19, (2, .if_icmp .ne 12, 3, 31, 0, .null, [], none)),
  (22, (1, .aload_n 0, 1, 0, 0, .null, [], some [0, 1, 2])),
  (23, (1, .iload_n 1, 1, 0, 0, .null, [], none)),
  (24, (1, .iload_n 2, 1, 0, 0, .null, [], none)),
  (25, (4, .invokevirtual 327, 3, 129, 3, .null, [], none)),
  (28, (2, .goto 327, 3, 355, 0, .null, [], none)),
  (31, (1, .iload_n 1, 1, 0, 0, .null, [], none))],
 [(32, (0, .bipush 15, 2, 0, 0, (.int 15), [], none)),
  (34, (2, .if_icmp .ge 12, 3, 46, 0, .null, [], none)),
  (37, (1, .aload_n 0, 1, 0, 0, .null, [], none)),
  (38, (1, .iload_n 1, 1, 0, 0, .null, [], none)),
  (39, (1, .iload_n 2, 1, 0, 0, .null, [], none)),
  (40, (4, .invokevirtual 330, 3, 156, 3, .null, [], none)),
  (43, (2, .goto 312, 3, 355, 0, .null, [], none)),
  (46, (1, .iload_n 1, 1, 0, 0, .null, [], none)),
  (47, (0, .bipush 17, 2, 0, 0, (.int 17), [], none)),
  (49, (2, .if_icmp .lt 15, 3, 64, 0, .null, [], none)),
  (52, (1, .iload_n 1, 1, 0, 0, .null, [], none)),
  (53, (0, .bipush 21, 2, 0, 0, (.int 21), [], none)),
  (55, (2, .if_icmp .eq 9, 3, 64, 0, .null, [], none)),
  (58, (1, .iload_n 1, 1, 0, 0, .null, [], none)),
  (59, (0, .bipush 22, 2, 0, 0, (.int 22), [], none)),
  (61, (2, .if_icmp .ne 12, 3, 73, 0, .null, [], none))],
 [(64, (1, .aload_n 0, 1, 0, 0, .null, [], some [0, 1, 2])),
  (65, (1, .iload_n 1, 1, 0, 0, .null, [], none)),
  (66, (1, .iload_n 2, 1, 0, 0, .null, [], none)),
  (67, (4, .invokevirtual 333, 3, 179, 3, .null, [], none)),
  (70, (2, .goto 285, 3, 355, 0, .null, [], none)),
  (73, (1, .iload_n 1, 1, 0, 0, .null, [], none)),
  (74, (0, .bipush 19, 2, 0, 0, (.int 19), [], none)),
  (76, (2, .if_icmp .ge 22, 3, 98, 0, .null, [], none)),
  (79, (1, .aload_n 0, 1, 0, 0, .null, [], none)),
  (80, (1, .iload_n 1, 1, 0, 0, .null, [], none)),
  (81, (0, .bipush 18, 2, 0, 0, (.int 18), [], none)),
  (83, (2, .if_icmp .ne 7, 3, 90, 0, .null, [], none)),
  (86, (0, .iconst 1, 1, 0, 0, (.int 1), [], none)),
  (87, (2, .goto 4, 3, 91, 0, .null, [], none)),
  (90, (0, .iconst 0, 1, 0, 0, (.int 0), [], none)),
  (91, (1, .iload_n 2, 1, 0, 0, .null, [], some [2])),
  (92, (4, .invokevirtual 336, 3, 157, 3, .null, [], none)),
  (95, (2, .goto 260, 3, 355, 0, .null, [], none))],
 [(98, (1, .iload_n 1, 1, 0, 0, .null, [], none)),
  (99, (0, .bipush 21, 2, 0, 0, (.int 21), [], none)),
  (101, (2, .if_icmp .ge 22, 3, 123, 0, .null, [], none)),
  (104, (1, .aload_n 0, 1, 0, 0, .null, [], none)),
  (105, (1, .iload_n 1, 1, 0, 0, .null, [], none)),
  (106, (0, .bipush 20, 2, 0, 0, (.int 20), [], none)),
  (108, (2, .if_icmp .ne 7, 3, 115, 0, .null, [], none)),
  (111, (0, .iconst 1, 1, 0, 0, (.int 1), [], none)),
  (112, (2, .goto 4, 3, 116, 0, .null, [], none)),
  (115, (0, .iconst 0, 1, 0, 0, (.int 0), [], none)),
  (116, (1, .iload_n 2, 1, 0, 0, .null, [], some [2])),
  (117, (4, .invokevirtual 340, 3, 136, 3, .null, [], none)),
  (120, (2, .goto 235, 3, 355, 0, .null, [], none)),
  (123, (1, .iload_n 1, 1, 0, 0, .null, [], none)),
  (124, (0, .bipush 23, 2, 0, 0, (.int 23), [], none)),
  (126, (2, .if_icmp .ne 11, 3, 137, 0, .null, [], none))],
 [(129, (1, .aload_n 0, 1, 0, 0, .null, [], none)),
  (130, (1, .iload_n 2, 1, 0, 0, .null, [], none)),
  (131, (4, .invokevirtual 343, 3, 167, 2, .null, [], none)),
  (134, (2, .goto 221, 3, 355, 0, .null, [], none)),
  (137, (1, .iload_n 1, 1, 0, 0, .null, [], none)),
  (138, (0, .bipush 29, 2, 0, 0, (.int 29), [], none)),
  (140, (2, .if_icmp .ge 12, 3, 152, 0, .null, [], none)),
  (143, (1, .aload_n 0, 1, 0, 0, .null, [], none)),
  (144, (1, .iload_n 1, 1, 0, 0, .null, [], none)),
  (145, (1, .iload_n 2, 1, 0, 0, .null, [], none)),
  (146, (4, .invokevirtual 347, 3, 177, 3, .null, [], none)),
  (149, (2, .goto 206, 3, 355, 0, .null, [], none)),
  (152, (1, .iload_n 1, 1, 0, 0, .null, [], none)),
  (153, (0, .bipush 35, 2, 0, 0, (.int 35), [], none)),
  (155, (2, .if_icmp .ge 11, 3, 166, 0, .null, [], none)),
  (158, (1, .aload_n 0, 1, 0, 0, .null, [], none)),
  (159, (1, .iload_n 1, 1, 0, 0, .null, [], none))],
 [(160, (4, .invokevirtual 350, 3, 141, 2, .null, [], none)),
  (163, (2, .goto 192, 3, 355, 0, .null, [], none)),
  (166, (1, .iload_n 1, 1, 0, 0, .null, [], none)),
  (167, (0, .bipush 35, 2, 0, 0, (.int 35), [], none)),
  (169, (2, .if_icmp .ne 28, 3, 197, 0, .null, [], none)),
  (172, (1, .aload_n 0, 1, 0, 0, .null, [], none)),
  (173, (0, .iconst 0, 1, 0, 0, (.int 0), [], none)),
  (174, (0, .iconst 1, 1, 0, 0, (.int 1), [], none)),
  (175, (1, .aload_n 0, 1, 0, 0, .null, [], none)),
  (176, (1, .aload_n 0, 1, 0, 0, .null, [], none)),
  (177, (3, .getfield 117, 3, 12, 32, .null, [], none)),
  (180, (4, .invokevirtual 302, 3, 147, 2, .null, [], none)),
  (183, (2, .ifCond .eq 7, 3, 190, 0, .null, [], none)),
  (186, (0, .lconst 1, 1, 0, 0, (.long 1), [], none)),
  (187, (2, .goto 4, 3, 191, 0, .null, [], none)),
  (190, (0, .lconst 0, 1, 0, 0, (.long 0), [], none)),
  (191, (4, .invokevirtual 268, 3, 169, 4, .null, [], some []))],
 [(194, (2, .goto 161, 3, 355, 0, .null, [], none)),
  (197, (1, .iload_n 1, 1, 0, 0, .null, [], none)),
  (198, (0, .bipush 36, 2, 0, 0, (.int 36), [], none)),
  (200, (2, .if_icmp .ne 11, 3, 211, 0, .null, [], none)),
  (203, (1, .aload_n 0, 1, 0, 0, .null, [], none)),
  (204, (1, .iload_n 2, 1, 0, 0, .null, [], none)),
  (205, (4, .invokevirtual 353, 3, 134, 2, .null, [], none)),
  (208, (2, .goto 147, 3, 355, 0, .null, [], none)),
  (211, (1, .iload_n 1, 1, 0, 0, .null, [], none)),
  (212, (0, .bipush 39, 2, 0, 0, (.int 39), [], none)),
  (214, (2, .if_icmp .ge 12, 3, 226, 0, .null, [], none)),
  (217, (1, .aload_n 0, 1, 0, 0, .null, [], none)),
  (218, (1, .iload_n 1, 1, 0, 0, .null, [], none)),
  (219, (1, .iload_n 2, 1, 0, 0, .null, [], none)),
  (220, (4, .invokevirtual 356, 3, 181, 3, .null, [], none)),
  (223, (2, .goto 132, 3, 355, 0, .null, [], none))],
 [(226, (1, .iload_n 1, 1, 0, 0, .null, [], none)),
  (227, (0, .bipush 40, 2, 0, 0, (.int 40), [], none)),
  (229, (2, .if_icmp .ne 13, 3, 242, 0, .null, [], none)),
  (232, (1, .aload_n 0, 1, 0, 0, .null, [], none)),
  (233, (0, .bipush 6, 2, 0, 0, (.int 6), [], none)),
  (235, (0, .lconst 0, 1, 0, 0, (.long 0), [], none)),
  (236, (4, .invokevirtual 180, 3, 183, 3, .null, [], none)),
  (239, (2, .goto 116, 3, 355, 0, .null, [], none)),
  (242, (1, .iload_n 1, 1, 0, 0, .null, [], none)),
  (243, (0, .bipush 41, 2, 0, 0, (.int 41), [], none)),
  (245, (2, .if_icmp .ne 12, 3, 257, 0, .null, [], none)),
  (248, (1, .aload_n 0, 1, 0, 0, .null, [], none)),
  (249, (0, .iconst 2, 1, 0, 0, (.int 2), [], none)),
  (250, (0, .lconst 0, 1, 0, 0, (.long 0), [], none)),
  (251, (4, .invokevirtual 180, 3, 183, 3, .null, [], none)),
  (254, (2, .goto 101, 3, 355, 0, .null, [], none))],
 [(257, (1, .iload_n 1, 1, 0, 0, .null, [], none)),
  (258, (0, .bipush 42, 2, 0, 0, (.int 42), [], none)),
  (260, (2, .if_icmp .ne 10, 3, 270, 0, .null, [], none)),
  (263, (1, .aload_n 0, 1, 0, 0, .null, [], none)),
  (264, (4, .invokevirtual 359, 3, 172, 1, .null, [], none)),
  (267, (2, .goto 88, 3, 355, 0, .null, [], none)),
  (270, (1, .iload_n 1, 1, 0, 0, .null, [], none)),
  (271, (0, .bipush 43, 2, 0, 0, (.int 43), [], none)),
  (273, (2, .if_icmp .ne 28, 3, 301, 0, .null, [], none)),
  (276, (1, .aload_n 0, 1, 0, 0, .null, [], none)),
  (277, (3, .getfield 30, 3, 12, 16, .null, [], none)),
  (280, (0, .iconst 4, 1, 0, 0, (.int 4), [], none)),
  (281, (1, .aload_n 0, 1, 0, 0, .null, [], none)),
  (282, (3, .getfield 30, 3, 12, 16, .null, [], none)),
  (285, (0, .iconst 5, 1, 0, 0, (.int 5), [], none)),
  (286, (3, .laload, 1, 0, 0, .null, [], none)),
  (287, (3, .lastore, 1, 0, 0, .null, [], none))],
 [(288, (1, .aload_n 0, 1, 0, 0, .null, [], none)),
  (289, (3, .getfield 30, 3, 12, 16, .null, [], none)),
  (292, (0, .iconst 5, 1, 0, 0, (.int 5), [], none)),
  (293, (1, .aload_n 0, 1, 0, 0, .null, [], none)),
  (294, (4, .invokevirtual 299, 3, 166, 1, .null, [], none)),
  (297, (3, .lastore, 1, 0, 0, .null, [], none)),
  (298, (2, .goto 57, 3, 355, 0, .null, [], none)),
  (301, (1, .iload_n 1, 1, 0, 0, .null, [], none)),
  (302, (0, .bipush 43, 2, 0, 0, (.int 43), [], none)),
  (304, (2, .if_icmp .le 18, 3, 322, 0, .null, [], none)),
  (307, (1, .iload_n 1, 1, 0, 0, .null, [], none)),
  (308, (0, .bipush 48, 2, 0, 0, (.int 48), [], none)),
  (310, (2, .if_icmp .ge 12, 3, 322, 0, .null, [], none)),
  (313, (1, .aload_n 0, 1, 0, 0, .null, [], none)),
  (314, (1, .iload_n 1, 1, 0, 0, .null, [], none)),
  (315, (1, .iload_n 2, 1, 0, 0, .null, [], none)),
  (316, (4, .invokevirtual 362, 3, 132, 3, .null, [], none)),
  (319, (2, .goto 36, 3, 355, 0, .null, [], none))],
 [(322, (1, .iload_n 1, 1, 0, 0, .null, [], some [0, 1, 2])),
  (323, (0, .bipush 48, 2, 0, 0, (.int 48), [], none)),
  (325, (2, .if_icmp .eq 9, 3, 334, 0, .null, [], none)),
  (328, (1, .iload_n 1, 1, 0, 0, .null, [], none)),
  (329, (0, .bipush 49, 2, 0, 0, (.int 49), [], none)),
  (331, (2, .if_icmp .ne 12, 3, 343, 0, .null, [], none)),
  (334, (1, .aload_n 0, 1, 0, 0, .null, [], some [0, 1, 2])),
  (335, (1, .iload_n 1, 1, 0, 0, .null, [], none)),
  (336, (1, .iload_n 2, 1, 0, 0, .null, [], none)),
  (337, (4, .invokevirtual 365, 3, 188, 3, .null, [], none)),
  (340, (2, .goto 15, 3, 355, 0, .null, [], none)),
  (343, (1, .iload_n 1, 1, 0, 0, .null, [], none)),
  (344, (0, .bipush 49, 2, 0, 0, (.int 49), [], none)),
  (346, (2, .if_icmp .le 9, 3, 355, 0, .null, [], none)),
  (349, (1, .aload_n 0, 1, 0, 0, .null, [], none)),
  (350, (1, .iload_n 1, 1, 0, 0, .null, [], none)),
  (351, (1, .iload_n 2, 1, 0, 0, .null, [], none))],
 [(352, (4, .invokevirtual 368, 3, 185, 3, .null, [], none)),
  (355, (5, .return_, 1, 0, 0, .null, [], some []))]]
/- 165: FlagMachineModel.poke(JI)Z -/
noncomputable def tb_c165 : List (List (Nat × am_I)) := [[(0, (1, .aload_n 0, 1, 0, 0, .null, [], none)),
  (1, (0, .iconst 0, 1, 0, 0, (.int 0), [], none)),
  (2, (3, .putfield 61, 3, 12, 0, .null, [], none)),
  (5, (1, .aload_n 0, 1, 0, 0, .null, [], none)),
  (6, (1, .lload_n 1, 1, 0, 0, .null, [], none)),
  (7, (0, .iconst 1, 1, 0, 0, (.int 1), [], none)),
  (8, (4, .invokevirtual 176, 3, 139, 3, .null, [], none)),
  (11, (1, .istore 4, 2, 0, 0, .null, [], none)),
  (13, (1, .iload 4, 2, 0, 0, .null, [], none)),
  (15, (2, .ifCond .lt 10, 3, 25, 0, .null, [], none)),
  (18, (1, .aload_n 0, 1, 0, 0, .null, [], none)),
  (19, (1, .iload 4, 2, 0, 0, .null, [], none)),
  (21, (1, .iload_n 3, 1, 0, 0, .null, [], none)),
  (22, (4, .invokevirtual 188, 3, 175, 3, .null, [], none)),
  (25, (1, .iload 4, 2, 0, 0, .null, [], some [4])),
  (27, (2, .ifCond .lt 7, 3, 34, 0, .null, [], none)),
  (30, (0, .iconst 1, 1, 0, 0, (.int 1), [], none)),
  (31, (2, .goto 4, 3, 35, 0, .null, [], none))],
 [(34, (0, .iconst 0, 1, 0, 0, (.int 0), [], none)),
  (35, (5, .ireturn, 1, 0, 0, .null, [], some []))]]
/- 166: FlagMachineModel.pop()J -/
noncomputable def tb_c166 : List (List (Nat × am_I)) := [[(0, (1, .aload_n 0, 1, 0, 0, .null, [], none)),
  (1, (1, .aload_n 0, 1, 0, 0, .null, [], none)),
  (2, (3, .getfield 30, 3, 12, 16, .null, [], none)),
  (5, (0, .iconst 4, 1, 0, 0, (.int 4), [], none)),
  (6, (3, .laload, 1, 0, 0, .null, [], none)),
  (7, (0, .bipush 8, 2, 0, 0, (.int 8), [], none)),
  (9, (4, .invokevirtual 207, 3, 152, 3, .null, [], none)),
  (12, (1, .lstore_n 1, 1, 0, 0, .null, [], none)),
  (13, (1, .aload_n 0, 1, 0, 0, .null, [], none)),
  (14, (3, .getfield 30, 3, 12, 16, .null, [], none)),
  (17, (0, .iconst 4, 1, 0, 0, (.int 4), [], none)),
  (18, (0, .dup2, 1, 0, 0, .null, [], none)),
  (19, (3, .laload, 1, 0, 0, .null, [], none)),
  (20, (0, .ldc2_w 294, 3, 0, 0, (.long 8), [], none)),
  (23, (0, .ladd, 1, 0, 0, .null, [], none)),
  (24, (3, .lastore, 1, 0, 0, .null, [], none)),
  (25, (1, .lload_n 1, 1, 0, 0, .null, [], none)),
  (26, (5, .lreturn, 1, 0, 0, .null, [], none))]]
/- 167: FlagMachineModel.product(I)V -/
noncomputable def tb_c167 : List (List (Nat × am_I)) := [[(0, (1, .aload_n 0, 1, 0, 0, .null, [], none)),
  (1, (0, .iconst 2, 1, 0, 0, (.int 2), [], none)),
  (2, (4, .invokevirtual 194, 3, 151, 2, .null, [], none)),
  (5, (2, .ifCond .eq 7, 3, 12, 0, .null, [], none)),
  (8, (0, .iconst 1, 1, 0, 0, (.int 1), [], none)),
  (9, (2, .goto 4, 3, 13, 0, .null, [], none)),
  (12, (0, .iconst 0, 1, 0, 0, (.int 0), [], none)),
  (13, (1, .istore_n 2, 1, 0, 0, .null, [], some [0, 1])),
  (14, (1, .aload_n 0, 1, 0, 0, .null, [], none)),
  (15, (1, .iload_n 2, 1, 0, 0, .null, [], none)),
  (16, (2, .ifCond .eq 7, 3, 23, 0, .null, [], none)),
  (19, (0, .iconst 1, 1, 0, 0, (.int 1), [], none)),
  (20, (2, .goto 4, 3, 24, 0, .null, [], none)),
  (23, (0, .iconst 0, 1, 0, 0, (.int 0), [], none)),
  (24, (1, .iload_n 1, 1, 0, 0, .null, [], some [0, 1, 2])),
  (25, (4, .invokevirtual 257, 3, 187, 3, .null, [], none)),
  (28, (1, .iload_n 1, 1, 0, 0, .null, [], none)),
  (29, (4, .invokestatic 274, 3, 178, 2, .null, [], none))],
 [(32, (1, .lstore_n 3, 1, 0, 0, .null, [], none)),
  (33, (1, .iload_n 2, 1, 0, 0, .null, [], none)),
  (34, (2, .ifCond .eq 10, 3, 44, 0, .null, [], none)),
  (37, (1, .aload_n 0, 1, 0, 0, .null, [], none)),
  (38, (3, .getfield 123, 3, 12, 38, .null, [], none)),
  (41, (2, .goto 13, 3, 54, 0, .null, [], none)),
  (44, (1, .aload_n 0, 1, 0, 0, .null, [], none)),
  (45, (0, .iconst 1, 1, 0, 0, (.int 1), [], none)),
  (46, (1, .iload_n 1, 1, 0, 0, .null, [], none)),
  (47, (4, .invokevirtual 257, 3, 187, 3, .null, [], none)),
  (50, (1, .iload_n 1, 1, 0, 0, .null, [], none)),
  (51, (4, .invokestatic 274, 3, 178, 2, .null, [], none)),
  (54, (1, .lstore 5, 2, 0, 0, .null, [], some [0, 1, 3])),
  (56, (1, .lload_n 3, 1, 0, 0, .null, [], none)),
  (57, (1, .lload 5, 2, 0, 0, .null, [], none)),
  (59, (0, .lmul, 1, 0, 0, .null, [], none)),
  (60, (1, .lstore 7, 2, 0, 0, .null, [], none)),
  (62, (1, .aload_n 0, 1, 0, 0, .null, [], none)),
  (63, (1, .iload_n 1, 1, 0, 0, .null, [], none))],
 [(64, (0, .iconst 4, 1, 0, 0, (.int 4), [], none)),
  (65, (2, .if_icmp .ne 21, 3, 86, 0, .null, [], none)),
  (68, (1, .lload 7, 2, 0, 0, .null, [], none)),
  (70, (1, .lload 7, 2, 0, 0, .null, [], none)),
  (72, (0, .l2i, 1, 0, 0, .null, [], none)),
  (73, (0, .i2l, 1, 0, 0, .null, [], none)),
  (74, (0, .lcmp, 1, 0, 0, .null, [], none)),
  (75, (2, .ifCond .eq 7, 3, 82, 0, .null, [], none)),
  (78, (0, .iconst 1, 1, 0, 0, (.int 1), [], none)),
  (79, (2, .goto 27, 3, 106, 0, .null, [], none)),
  (82, (0, .iconst 0, 1, 0, 0, (.int 0), [], none)),
  (83, (2, .goto 23, 3, 106, 0, .null, [], none)),
  (86, (1, .lload_n 3, 1, 0, 0, .null, [], none)),
  (87, (1, .lload 5, 2, 0, 0, .null, [], none)),
  (89, (4, .invokestatic 287, 3, 143, 2, .null, [], none)),
  (92, (1, .lload 7, 2, 0, 0, .null, [], none)),
  (94, (0, .bipush 63, 2, 0, 0, (.int 63), [], none))],
 [(96, (0, .lshr, 1, 0, 0, .null, [], none)),
  (97, (0, .lcmp, 1, 0, 0, .null, [], none)),
  (98, (2, .ifCond .eq 7, 3, 105, 0, .null, [], none)),
  (101, (0, .iconst 1, 1, 0, 0, (.int 1), [], none)),
  (102, (2, .goto 4, 3, 106, 0, .null, [], none)),
  (105, (0, .iconst 0, 1, 0, 0, (.int 0), [], none)),
  (106, (3, .putfield 237, 3, 12, 21, .null, [], some [0, 1, 7])),
  (109, (1, .aload_n 0, 1, 0, 0, .null, [], none)),
  (110, (1, .aload_n 0, 1, 0, 0, .null, [], none)),
  (111, (3, .getfield 237, 3, 12, 21, .null, [], none)),
  (114, (3, .putfield 240, 3, 12, 25, .null, [], none)),
  (117, (1, .aload_n 0, 1, 0, 0, .null, [], none)),
  (118, (0, .iconst 0, 1, 0, 0, (.int 0), [], none)),
  (119, (1, .iload_n 1, 1, 0, 0, .null, [], none)),
  (120, (1, .lload 7, 2, 0, 0, .null, [], none)),
  (122, (1, .iload_n 1, 1, 0, 0, .null, [], none)),
  (123, (4, .invokestatic 200, 3, 135, 2, .null, [], none)),
  (126, (4, .invokevirtual 268, 3, 169, 4, .null, [], none))],
 [(129, (5, .return_, 1, 0, 0, .null, [], none))]]
/- 168: FlagMachineModel.push(J)V -/
noncomputable def tb_c168 : List (List (Nat × am_I)) := [[(0, (1, .aload_n 0, 1, 0, 0, .null, [], none)),
  (1, (1, .aload_n 0, 1, 0, 0, .null, [], none)),
  (2, (3, .getfield 30, 3, 12, 16, .null, [], none)),
  (5, (0, .iconst 4, 1, 0, 0, (.int 4), [], none)),
  (6, (3, .laload, 1, 0, 0, .null, [], none)),
  (7, (0, .ldc2_w 294, 3, 0, 0, (.long 8), [], none)),
  (10, (0, .lsub, 1, 0, 0, .null, [], none)),
  (11, (0, .bipush 8, 2, 0, 0, (.int 8), [], none)),
  (13, (1, .lload_n 1, 1, 0, 0, .null, [], none)),
  (14, (4, .invokevirtual 216, 3, 184, 4, .null, [], none)),
  (17, (1, .aload_n 0, 1, 0, 0, .null, [], none)),
  (18, (3, .getfield 30, 3, 12, 16, .null, [], none)),
  (21, (0, .iconst 4, 1, 0, 0, (.int 4), [], none)),
  (22, (0, .dup2, 1, 0, 0, .null, [], none)),
  (23, (3, .laload, 1, 0, 0, .null, [], none)),
  (24, (0, .ldc2_w 294, 3, 0, 0, (.long 8), [], none)),
  (27, (0, .lsub, 1, 0, 0, .null, [], none)),
  (28, (3, .lastore, 1, 0, 0, .null, [], none)),
  (29, (5, .return_, 1, 0, 0, .null, [], none))]]
/- 169: FlagMachineModel.put(IIJ)V -/
noncomputable def tb_c169 : List (List (Nat × am_I)) := [[(0, (1, .aload_n 0, 1, 0, 0, .null, [], none)),
  (1, (1, .iload_n 1, 1, 0, 0, .null, [], none)),
  (2, (4, .invokevirtual 194, 3, 151, 2, .null, [], none)),
  (5, (0, .iconst 1, 1, 0, 0, (.int 1), [], none)),
  (6, (2, .if_icmp .ne 17, 3, 23, 0, .null, [], none)),
  (9, (1, .aload_n 0, 1, 0, 0, .null, [], none)),
  (10, (1, .aload_n 0, 1, 0, 0, .null, [], none)),
  (11, (1, .iload_n 1, 1, 0, 0, .null, [], none)),
  (12, (4, .invokevirtual 197, 3, 171, 2, .null, [], none)),
  (15, (1, .iload_n 2, 1, 0, 0, .null, [], none)),
  (16, (1, .lload_n 3, 1, 0, 0, .null, [], none)),
  (17, (4, .invokevirtual 212, 3, 176, 4, .null, [], none)),
  (20, (2, .goto 13, 3, 33, 0, .null, [], none)),
  (23, (1, .aload_n 0, 1, 0, 0, .null, [], none)),
  (24, (1, .aload_n 0, 1, 0, 0, .null, [], none)),
  (25, (3, .getfield 204, 3, 12, 29, .null, [], none)),
  (28, (1, .iload_n 2, 1, 0, 0, .null, [], none)),
  (29, (1, .lload_n 3, 1, 0, 0, .null, [], none)),
  (30, (4, .invokevirtual 216, 3, 184, 4, .null, [], none))],
 [(33, (5, .return_, 1, 0, 0, .null, [], some []))]]
/- 170: FlagMachineModel.register(I)J -/
noncomputable def tb_c170 : List (List (Nat × am_I)) := [[(0, (1, .aload_n 0, 1, 0, 0, .null, [], none)),
  (1, (0, .iconst 0, 1, 0, 0, (.int 0), [], none)),
  (2, (3, .putfield 61, 3, 12, 0, .null, [], none)),
  (5, (1, .iload_n 1, 1, 0, 0, .null, [], none)),
  (6, (2, .ifCond .lt 16, 3, 22, 0, .null, [], none)),
  (9, (1, .iload_n 1, 1, 0, 0, .null, [], none)),
  (10, (0, .bipush 16, 2, 0, 0, (.int 16), [], none)),
  (12, (2, .if_icmp .ge 10, 3, 22, 0, .null, [], none)),
  (15, (1, .aload_n 0, 1, 0, 0, .null, [], none)),
  (16, (3, .getfield 30, 3, 12, 16, .null, [], none)),
  (19, (1, .iload_n 1, 1, 0, 0, .null, [], none)),
  (20, (3, .laload, 1, 0, 0, .null, [], none)),
  (21, (5, .lreturn, 1, 0, 0, .null, [], none)),
  (22, (1, .iload_n 1, 1, 0, 0, .null, [], some [0, 1])),
  (23, (0, .bipush 16, 2, 0, 0, (.int 16), [], none)),
  (25, (2, .if_icmp .ne 10, 3, 35, 0, .null, [], none)),
  (28, (1, .aload_n 0, 1, 0, 0, .null, [], none)),
  (29, (3, .getfield 90, 3, 12, 18, .null, [], none))],
 [(32, (2, .goto 49, 3, 81, 0, .null, [], none)),
  (35, (1, .iload_n 1, 1, 0, 0, .null, [], none)),
  (36, (0, .bipush 17, 2, 0, 0, (.int 17), [], none)),
  (38, (2, .if_icmp .ne 10, 3, 48, 0, .null, [], none)),
  (41, (1, .aload_n 0, 1, 0, 0, .null, [], none)),
  (42, (4, .invokevirtual 310, 3, 140, 1, .null, [], none)),
  (45, (2, .goto 36, 3, 81, 0, .null, [], none)),
  (48, (1, .iload_n 1, 1, 0, 0, .null, [], none)),
  (49, (0, .bipush 18, 2, 0, 0, (.int 18), [], none)),
  (51, (2, .if_icmp .ne 16, 3, 67, 0, .null, [], none)),
  (54, (1, .aload_n 0, 1, 0, 0, .null, [], none)),
  (55, (4, .invokevirtual 159, 3, 142, 1, .null, [], none)),
  (58, (1, .aload_n 0, 1, 0, 0, .null, [], none)),
  (59, (3, .getfield 94, 3, 12, 13, .null, [], none)),
  (62, (0, .i2l, 1, 0, 0, .null, [], none)),
  (63, (0, .ladd, 1, 0, 0, .null, [], none))],
 [(64, (2, .goto 17, 3, 81, 0, .null, [], none)),
  (67, (1, .iload_n 1, 1, 0, 0, .null, [], none)),
  (68, (0, .bipush 19, 2, 0, 0, (.int 19), [], none)),
  (70, (2, .if_icmp .ne 10, 3, 80, 0, .null, [], none)),
  (73, (1, .aload_n 0, 1, 0, 0, .null, [], none)),
  (74, (3, .getfield 109, 3, 12, 20, .null, [], none)),
  (77, (2, .goto 4, 3, 81, 0, .null, [], none)),
  (80, (0, .lconst 0, 1, 0, 0, (.long 0), [], none)),
  (81, (5, .lreturn, 1, 0, 0, .null, [], some []))]]
/- 171: FlagMachineModel.registerAt(I)I -/
noncomputable def tb_c171 : List (List (Nat × am_I)) := [[(0, (1, .aload_n 0, 1, 0, 0, .null, [], none)),
  (1, (3, .getfield 54, 3, 12, 40, .null, [], none)),
  (4, (1, .iload_n 1, 1, 0, 0, .null, [], none)),
  (5, (3, .iaload, 1, 0, 0, .null, [], none)),
  (6, (5, .ireturn, 1, 0, 0, .null, [], none))]]
/- 172: FlagMachineModel.service()V -/
noncomputable def tb_c172 : List (List (Nat × am_I)) := [[(0, (1, .aload_n 0, 1, 0, 0, .null, [], none)),
  (1, (3, .getfield 30, 3, 12, 16, .null, [], none)),
  (4, (0, .iconst 1, 1, 0, 0, (.int 1), [], none)),
  (5, (1, .aload_n 0, 1, 0, 0, .null, [], none)),
  (6, (3, .getfield 90, 3, 12, 18, .null, [], none)),
  (9, (3, .lastore, 1, 0, 0, .null, [], none)),
  (10, (1, .aload_n 0, 1, 0, 0, .null, [], none)),
  (11, (3, .getfield 30, 3, 12, 16, .null, [], none)),
  (14, (0, .bipush 11, 2, 0, 0, (.int 11), [], none)),
  (16, (1, .aload_n 0, 1, 0, 0, .null, [], none)),
  (17, (4, .invokevirtual 310, 3, 140, 1, .null, [], none)),
  (20, (3, .lastore, 1, 0, 0, .null, [], none)),
  (21, (1, .aload_n 0, 1, 0, 0, .null, [], none)),
  (22, (3, .getfield 30, 3, 12, 16, .null, [], none)),
  (25, (0, .iconst 0, 1, 0, 0, (.int 0), [], none)),
  (26, (3, .laload, 1, 0, 0, .null, [], none)),
  (27, (1, .lstore_n 1, 1, 0, 0, .null, [], none)),
  (28, (1, .aload_n 0, 1, 0, 0, .null, [], none)),
  (29, (3, .getfield 30, 3, 12, 16, .null, [], none))],
 [(32, (0, .bipush 7, 2, 0, 0, (.int 7), [], none)),
  (34, (3, .laload, 1, 0, 0, .null, [], none)),
  (35, (1, .lstore_n 3, 1, 0, 0, .null, [], none)),
  (36, (1, .aload_n 0, 1, 0, 0, .null, [], none)),
  (37, (3, .getfield 30, 3, 12, 16, .null, [], none)),
  (40, (0, .bipush 6, 2, 0, 0, (.int 6), [], none)),
  (42, (3, .laload, 1, 0, 0, .null, [], none)),
  (43, (1, .lstore 5, 2, 0, 0, .null, [], none)),
  (45, (1, .aload_n 0, 1, 0, 0, .null, [], none)),
  (46, (3, .getfield 30, 3, 12, 16, .null, [], none)),
  (49, (0, .iconst 2, 1, 0, 0, (.int 2), [], none)),
  (50, (3, .laload, 1, 0, 0, .null, [], none)),
  (51, (1, .lstore 7, 2, 0, 0, .null, [], none)),
  (53, (1, .lload_n 1, 1, 0, 0, .null, [], none)),
  (54, (0, .lconst 0, 1, 0, 0, (.long 0), [], none)),
  (55, (0, .lcmp, 1, 0, 0, .null, [], none)),
  (56, (2, .ifCond .ne 172, 3, 228, 0, .null, [], none)),
  (59, (1, .lload 7, 2, 0, 0, .null, [], none)),
  (61, (0, .lconst 0, 1, 0, 0, (.long 0), [], none)),
  (62, (0, .lcmp, 1, 0, 0, .null, [], none)),
  (63, (2, .ifCond .lt 14, 3, 77, 0, .null, [], none))],
 [(66, (1, .lload 7, 2, 0, 0, .null, [], none)),
  (68, (1, .aload_n 0, 1, 0, 0, .null, [], none)),
  (69, (3, .getfield 97, 3, 12, 14, .null, [], none)),
  (72, (0, .i2l, 1, 0, 0, .null, [], none)),
  (73, (0, .lcmp, 1, 0, 0, .null, [], none)),
  (74, (2, .ifCond .le 10, 3, 84, 0, .null, [], none)),
  (77, (1, .aload_n 0, 1, 0, 0, .null, [], some [0, 5])),
  (78, (3, .getfield 97, 3, 12, 14, .null, [], none)),
  (81, (2, .goto 6, 3, 87, 0, .null, [], none)),
  (84, (1, .lload 7, 2, 0, 0, .null, [], none)),
  (86, (0, .l2i, 1, 0, 0, .null, [], none)),
  (87, (1, .istore 9, 2, 0, 0, .null, [], some [0, 5])),
  (89, (1, .aload_n 0, 1, 0, 0, .null, [], none)),
  (90, (1, .lload 5, 2, 0, 0, .null, [], none)),
  (92, (1, .iload 9, 2, 0, 0, .null, [], none)),
  (94, (0, .i2l, 1, 0, 0, .null, [], none)),
  (95, (0, .iconst 1, 1, 0, 0, (.int 1), [], none))],
 [(96, (4, .invokevirtual 313, 3, 153, 4, .null, [], none)),
  (99, (1, .istore 10, 2, 0, 0, .null, [], none)),
  (101, (0, .iconst 0, 1, 0, 0, (.int 0), [], none)),
  (102, (1, .istore 11, 2, 0, 0, .null, [], none)),
  (104, (1, .iload 11, 2, 0, 0, .null, [], some [0, 5, 9, 10, 11])),
  (106, (1, .iload 9, 2, 0, 0, .null, [], none)),
  (108, (2, .if_icmp .ge 36, 3, 144, 0, .null, [], none)),
  (111, (1, .iload 10, 2, 0, 0, .null, [], none)),
  (113, (2, .ifCond .eq 31, 3, 144, 0, .null, [], none)),
  (116, (1, .aload_n 0, 1, 0, 0, .null, [], none)),
  (117, (1, .aload_n 0, 1, 0, 0, .null, [], none)),
  (118, (1, .lload 5, 2, 0, 0, .null, [], none)),
  (120, (1, .iload 11, 2, 0, 0, .null, [], none)),
  (122, (0, .i2l, 1, 0, 0, .null, [], none)),
  (123, (0, .ladd, 1, 0, 0, .null, [], none)),
  (124, (0, .iconst 1, 1, 0, 0, (.int 1), [], none)),
  (125, (4, .invokevirtual 176, 3, 139, 3, .null, [], none))],
 [(128, (1, .aload_n 0, 1, 0, 0, .null, [], none)),
  (129, (3, .getfield 24, 3, 12, 5, .null, [], none)),
  (132, (1, .iload 11, 2, 0, 0, .null, [], none)),
  (134, (3, .baload, 1, 1, 0, .null, [], none)),
  (135, (4, .invokevirtual 188, 3, 175, 3, .null, [], none)),
  (138, (1, .iinc 11 1, 3, 0, 0, (.int 1), [], none)),
  (141, (2, .goto (-37), 3, 104, 0, .null, [], none)),
  (144, (1, .iload 9, 2, 0, 0, .null, [], some [0, 9, 10])),
  (146, (1, .istore 11, 2, 0, 0, .null, [], none)),
  (148, (1, .iload 11, 2, 0, 0, .null, [], some [0, 9, 10, 11])),
  (150, (1, .aload_n 0, 1, 0, 0, .null, [], none)),
  (151, (3, .getfield 97, 3, 12, 14, .null, [], none)),
  (154, (2, .if_icmp .ge 31, 3, 185, 0, .null, [], none)),
  (157, (1, .iload 10, 2, 0, 0, .null, [], none)),
  (159, (2, .ifCond .eq 26, 3, 185, 0, .null, [], none))],
 [(162, (1, .aload_n 0, 1, 0, 0, .null, [], none)),
  (163, (3, .getfield 24, 3, 12, 5, .null, [], none)),
  (166, (1, .iload 11, 2, 0, 0, .null, [], none)),
  (168, (1, .iload 9, 2, 0, 0, .null, [], none)),
  (170, (0, .isub, 1, 0, 0, .null, [], none)),
  (171, (1, .aload_n 0, 1, 0, 0, .null, [], none)),
  (172, (3, .getfield 24, 3, 12, 5, .null, [], none)),
  (175, (1, .iload 11, 2, 0, 0, .null, [], none)),
  (177, (3, .baload, 1, 1, 0, .null, [], none)),
  (178, (3, .bastore, 1, 1, 0, .null, [], none)),
  (179, (1, .iinc 11 1, 3, 0, 0, (.int 1), [], none)),
  (182, (2, .goto (-34), 3, 148, 0, .null, [], none)),
  (185, (1, .aload_n 0, 1, 0, 0, .null, [], some [0, 9, 10])),
  (186, (0, .dup, 1, 0, 0, .null, [], none)),
  (187, (3, .getfield 97, 3, 12, 14, .null, [], none)),
  (190, (1, .iload 10, 2, 0, 0, .null, [], none))],
 [(192, (2, .ifCond .eq 8, 3, 200, 0, .null, [], none)),
  (195, (1, .iload 9, 2, 0, 0, .null, [], none)),
  (197, (2, .goto 4, 3, 201, 0, .null, [], none)),
  (200, (0, .iconst 0, 1, 0, 0, (.int 0), [], none)),
  (201, (0, .isub, 1, 0, 0, .null, [], some [0, 9, 10])),
  (202, (3, .putfield 97, 3, 12, 14, .null, [], none)),
  (205, (1, .aload_n 0, 1, 0, 0, .null, [], none)),
  (206, (3, .getfield 30, 3, 12, 16, .null, [], none)),
  (209, (0, .iconst 0, 1, 0, 0, (.int 0), [], none)),
  (210, (1, .iload 10, 2, 0, 0, .null, [], none)),
  (212, (2, .ifCond .eq 9, 3, 221, 0, .null, [], none)),
  (215, (1, .iload 9, 2, 0, 0, .null, [], none)),
  (217, (0, .i2l, 1, 0, 0, .null, [], none)),
  (218, (2, .goto 6, 3, 224, 0, .null, [], none)),
  (221, (0, .ldc2_w 317, 3, 0, 0, (.long (-14)), [], none))],
 [(224, (3, .lastore, 1, 0, 0, .null, [], some [])),
  (225, (2, .goto 265, 3, 490, 0, .null, [], none)),
  (228, (1, .lload_n 1, 1, 0, 0, .null, [], none)),
  (229, (0, .lconst 1, 1, 0, 0, (.long 1), [], none)),
  (230, (0, .lcmp, 1, 0, 0, .null, [], none)),
  (231, (2, .ifCond .ne 147, 3, 378, 0, .null, [], none)),
  (234, (1, .lload 7, 2, 0, 0, .null, [], none)),
  (236, (0, .lconst 0, 1, 0, 0, (.long 0), [], none)),
  (237, (0, .lcmp, 1, 0, 0, .null, [], none)),
  (238, (2, .ifCond .lt 22, 3, 260, 0, .null, [], none)),
  (241, (1, .lload 7, 2, 0, 0, .null, [], none)),
  (243, (0, .ldc2_w 166, 3, 0, 0, (.long 65536), [], none)),
  (246, (1, .aload_n 0, 1, 0, 0, .null, [], none)),
  (247, (3, .getfield 100, 3, 12, 15, .null, [], none)),
  (250, (0, .i2l, 1, 0, 0, .null, [], none)),
  (251, (0, .lsub, 1, 0, 0, .null, [], none)),
  (252, (0, .lcmp, 1, 0, 0, .null, [], none)),
  (253, (2, .ifCond .gt 7, 3, 260, 0, .null, [], none))],
 [(256, (0, .iconst 1, 1, 0, 0, (.int 1), [], none)),
  (257, (2, .goto 4, 3, 261, 0, .null, [], none)),
  (260, (0, .iconst 0, 1, 0, 0, (.int 0), [], some [0, 5, 7])),
  (261, (1, .istore 9, 2, 0, 0, .null, [], some [0, 5, 7])),
  (263, (1, .iload 9, 2, 0, 0, .null, [], none)),
  (265, (2, .ifCond .eq 19, 3, 284, 0, .null, [], none)),
  (268, (1, .aload_n 0, 1, 0, 0, .null, [], none)),
  (269, (1, .lload 5, 2, 0, 0, .null, [], none)),
  (271, (1, .lload 7, 2, 0, 0, .null, [], none)),
  (273, (0, .iconst 0, 1, 0, 0, (.int 0), [], none)),
  (274, (4, .invokevirtual 313, 3, 153, 4, .null, [], none)),
  (277, (2, .ifCond .eq 7, 3, 284, 0, .null, [], none)),
  (280, (0, .iconst 1, 1, 0, 0, (.int 1), [], none)),
  (281, (2, .goto 4, 3, 285, 0, .null, [], none)),
  (284, (0, .iconst 0, 1, 0, 0, (.int 0), [], some [0, 5, 7, 9])),
  (285, (1, .istore 10, 2, 0, 0, .null, [], some [0, 5, 7, 9])),
  (287, (0, .iconst 0, 1, 0, 0, (.int 0), [], none))],
 [(288, (1, .istore 11, 2, 0, 0, .null, [], none)),
  (290, (1, .iload 11, 2, 0, 0, .null, [], some [0, 5, 7, 9, 10, 11])),
  (292, (0, .i2l, 1, 0, 0, .null, [], none)),
  (293, (1, .lload 7, 2, 0, 0, .null, [], none)),
  (295, (0, .lcmp, 1, 0, 0, .null, [], none)),
  (296, (2, .ifCond .ge 49, 3, 345, 0, .null, [], none)),
  (299, (1, .iload 10, 2, 0, 0, .null, [], none)),
  (301, (2, .ifCond .eq 44, 3, 345, 0, .null, [], none)),
  (304, (1, .aload_n 0, 1, 0, 0, .null, [], none)),
  (305, (3, .getfield 27, 3, 12, 6, .null, [], none)),
  (308, (1, .aload_n 0, 1, 0, 0, .null, [], none)),
  (309, (3, .getfield 100, 3, 12, 15, .null, [], none)),
  (312, (1, .aload_n 0, 1, 0, 0, .null, [], none)),
  (313, (1, .aload_n 0, 1, 0, 0, .null, [], none)),
  (314, (1, .lload 5, 2, 0, 0, .null, [], none)),
  (316, (1, .iload 11, 2, 0, 0, .null, [], none)),
  (318, (0, .i2l, 1, 0, 0, .null, [], none)),
  (319, (0, .ladd, 1, 0, 0, .null, [], none))],
 [(320, (0, .iconst 0, 1, 0, 0, (.int 0), [], none)),
  (321, (4, .invokevirtual 176, 3, 139, 3, .null, [], none)),
  (324, (4, .invokevirtual 184, 3, 133, 2, .null, [], none)),
  (327, (0, .i2b, 1, 0, 0, .null, [], none)),
  (328, (3, .bastore, 1, 1, 0, .null, [], none)),
  (329, (1, .aload_n 0, 1, 0, 0, .null, [], none)),
  (330, (0, .dup, 1, 0, 0, .null, [], none)),
  (331, (3, .getfield 100, 3, 12, 15, .null, [], none)),
  (334, (0, .iconst 1, 1, 0, 0, (.int 1), [], none)),
  (335, (0, .iadd, 1, 0, 0, .null, [], none)),
  (336, (3, .putfield 100, 3, 12, 15, .null, [], none)),
  (339, (1, .iinc 11 1, 3, 0, 0, (.int 1), [], none)),
  (342, (2, .goto (-52), 3, 290, 0, .null, [], none)),
  (345, (1, .aload_n 0, 1, 0, 0, .null, [], some [0, 7, 9, 10])),
  (346, (3, .getfield 30, 3, 12, 16, .null, [], none)),
  (349, (0, .iconst 0, 1, 0, 0, (.int 0), [], none)),
  (350, (1, .iload 10, 2, 0, 0, .null, [], none))],
 [(352, (2, .ifCond .eq 8, 3, 360, 0, .null, [], none)),
  (355, (1, .lload 7, 2, 0, 0, .null, [], none)),
  (357, (2, .goto 17, 3, 374, 0, .null, [], none)),
  (360, (1, .iload 9, 2, 0, 0, .null, [], none)),
  (362, (2, .ifCond .eq 9, 3, 371, 0, .null, [], none)),
  (365, (0, .ldc2_w 317, 3, 0, 0, (.long (-14)), [], none)),
  (368, (2, .goto 6, 3, 374, 0, .null, [], none)),
  (371, (0, .ldc2_w 319, 3, 0, 0, (.long (-28)), [], none)),
  (374, (3, .lastore, 1, 0, 0, .null, [], some [])),
  (375, (2, .goto 115, 3, 490, 0, .null, [], none)),
  (378, (1, .lload_n 1, 1, 0, 0, .null, [], none)),
  (379, (0, .ldc2_w 321, 3, 0, 0, (.long 12), [], none)),
  (382, (0, .lcmp, 1, 0, 0, .null, [], none)),
  (383, (2, .ifCond .ne 81, 3, 464, 0, .null, [], none))],
 [(386, (1, .lload_n 3, 1, 0, 0, .null, [], none)),
  (387, (1, .aload_n 0, 1, 0, 0, .null, [], none)),
  (388, (4, .invokevirtual 159, 3, 142, 1, .null, [], none)),
  (391, (0, .lsub, 1, 0, 0, .null, [], none)),
  (392, (1, .lstore 9, 2, 0, 0, .null, [], none)),
  (394, (1, .lload 9, 2, 0, 0, .null, [], none)),
  (396, (0, .lconst 0, 1, 0, 0, (.long 0), [], none)),
  (397, (0, .lcmp, 1, 0, 0, .null, [], none)),
  (398, (2, .ifCond .lt 47, 3, 445, 0, .null, [], none)),
  (401, (1, .lload 9, 2, 0, 0, .null, [], none)),
  (403, (0, .ldc2_w 166, 3, 0, 0, (.long 65536), [], none)),
  (406, (0, .lcmp, 1, 0, 0, .null, [], none)),
  (407, (2, .ifCond .gt 38, 3, 445, 0, .null, [], none)),
  (410, (1, .lload 9, 2, 0, 0, .null, [], none)),
  (412, (0, .l2i, 1, 0, 0, .null, [], none)),
  (413, (1, .istore 11, 2, 0, 0, .null, [], none)),
  (415, (1, .iload 11, 2, 0, 0, .null, [], some [0, 9, 11]))],
 [(417, (1, .aload_n 0, 1, 0, 0, .null, [], none)),
  (418, (3, .getfield 94, 3, 12, 13, .null, [], none)),
  (421, (2, .if_icmp .ge 17, 3, 438, 0, .null, [], none)),
  (424, (1, .aload_n 0, 1, 0, 0, .null, [], none)),
  (425, (3, .getfield 18, 3, 12, 3, .null, [], none)),
  (428, (1, .iload 11, 2, 0, 0, .null, [], none)),
  (430, (0, .iconst 0, 1, 0, 0, (.int 0), [], none)),
  (431, (3, .bastore, 1, 1, 0, .null, [], none)),
  (432, (1, .iinc 11 1, 3, 0, 0, (.int 1), [], none)),
  (435, (2, .goto (-20), 3, 415, 0, .null, [], none)),
  (438, (1, .aload_n 0, 1, 0, 0, .null, [], none)),
  (439, (1, .lload 9, 2, 0, 0, .null, [], none)),
  (441, (0, .l2i, 1, 0, 0, .null, [], none)),
  (442, (3, .putfield 94, 3, 12, 13, .null, [], none)),
  (445, (1, .aload_n 0, 1, 0, 0, .null, [], some [0])),
  (446, (3, .getfield 30, 3, 12, 16, .null, [], none))],
 [(449, (0, .iconst 0, 1, 0, 0, (.int 0), [], none)),
  (450, (1, .aload_n 0, 1, 0, 0, .null, [], none)),
  (451, (4, .invokevirtual 159, 3, 142, 1, .null, [], none)),
  (454, (1, .aload_n 0, 1, 0, 0, .null, [], none)),
  (455, (3, .getfield 94, 3, 12, 13, .null, [], none)),
  (458, (0, .i2l, 1, 0, 0, .null, [], none)),
  (459, (0, .ladd, 1, 0, 0, .null, [], none)),
  (460, (3, .lastore, 1, 0, 0, .null, [], none)),
  (461, (2, .goto 29, 3, 490, 0, .null, [], none)),
  (464, (1, .lload_n 1, 1, 0, 0, .null, [], none)),
  (465, (0, .ldc2_w 323, 3, 0, 0, (.long 60), [], none)),
  (468, (0, .lcmp, 1, 0, 0, .null, [], none)),
  (469, (2, .ifCond .ne 12, 3, 481, 0, .null, [], none)),
  (472, (1, .aload_n 0, 1, 0, 0, .null, [], none)),
  (473, (0, .iconst 1, 1, 0, 0, (.int 1), [], none)),
  (474, (1, .lload_n 3, 1, 0, 0, .null, [], none)),
  (475, (4, .invokevirtual 180, 3, 183, 3, .null, [], none)),
  (478, (2, .goto 12, 3, 490, 0, .null, [], none))],
 [(481, (1, .aload_n 0, 1, 0, 0, .null, [], none)),
  (482, (3, .getfield 30, 3, 12, 16, .null, [], none)),
  (485, (0, .iconst 0, 1, 0, 0, (.int 0), [], none)),
  (486, (0, .ldc2_w 325, 3, 0, 0, (.long (-38)), [], none)),
  (489, (3, .lastore, 1, 0, 0, .null, [], none)),
  (490, (5, .return_, 1, 0, 0, .null, [], some []))]]
/- 173: FlagMachineModel.set(IJ)Z -/
noncomputable def tb_c173 : List (List (Nat × am_I)) := [[(0, (1, .aload_n 0, 1, 0, 0, .null, [], none)),
  (1, (0, .iconst 0, 1, 0, 0, (.int 0), [], none)),
  (2, (3, .putfield 61, 3, 12, 0, .null, [], none)),
  (5, (1, .iload_n 1, 1, 0, 0, .null, [], none)),
  (6, (2, .ifCond .lt 9, 3, 15, 0, .null, [], none)),
  (9, (1, .iload_n 1, 1, 0, 0, .null, [], none)),
  (10, (0, .bipush 16, 2, 0, 0, (.int 16), [], none)),
  (12, (2, .if_icmp .le 5, 3, 17, 0, .null, [], none)),
  (15, (0, .iconst 0, 1, 0, 0, (.int 0), [], some [])),
  (16, (5, .ireturn, 1, 0, 0, .null, [], none)),
  (17, (1, .iload_n 1, 1, 0, 0, .null, [], none)),
  (18, (0, .bipush 16, 2, 0, 0, (.int 16), [], none)),
  (20, (2, .if_icmp .ne 11, 3, 31, 0, .null, [], none)),
  (23, (1, .aload_n 0, 1, 0, 0, .null, [], none)),
  (24, (1, .lload_n 2, 1, 0, 0, .null, [], none)),
  (25, (3, .putfield 90, 3, 12, 18, .null, [], none)),
  (28, (2, .goto 10, 3, 38, 0, .null, [], none)),
  (31, (1, .aload_n 0, 1, 0, 0, .null, [], none))],
 [(32, (3, .getfield 30, 3, 12, 16, .null, [], none)),
  (35, (1, .iload_n 1, 1, 0, 0, .null, [], none)),
  (36, (1, .lload_n 2, 1, 0, 0, .null, [], none)),
  (37, (3, .lastore, 1, 0, 0, .null, [], none)),
  (38, (0, .iconst 1, 1, 0, 0, (.int 1), [], some [])),
  (39, (5, .ireturn, 1, 0, 0, .null, [], none))]]
/- 174: FlagMachineModel.setFlags(J)V -/
noncomputable def tb_c174 : List (List (Nat × am_I)) := [[(0, (1, .aload_n 0, 1, 0, 0, .null, [], none)),
  (1, (1, .lload_n 1, 1, 0, 0, .null, [], none)),
  (2, (0, .lconst 1, 1, 0, 0, (.long 1), [], none)),
  (3, (0, .land, 1, 0, 0, .null, [], none)),
  (4, (0, .lconst 0, 1, 0, 0, (.long 0), [], none)),
  (5, (0, .lcmp, 1, 0, 0, .null, [], none)),
  (6, (2, .ifCond .eq 7, 3, 13, 0, .null, [], none)),
  (9, (0, .iconst 1, 1, 0, 0, (.int 1), [], none)),
  (10, (2, .goto 4, 3, 14, 0, .null, [], none)),
  (13, (0, .iconst 0, 1, 0, 0, (.int 0), [], none)),
  (14, (3, .putfield 237, 3, 12, 21, .null, [], some [0, 1])),
  (17, (1, .aload_n 0, 1, 0, 0, .null, [], none)),
  (18, (1, .lload_n 1, 1, 0, 0, .null, [], none)),
  (19, (0, .ldc2_w 249, 3, 0, 0, (.long 4), [], none)),
  (22, (0, .land, 1, 0, 0, .null, [], none)),
  (23, (0, .lconst 0, 1, 0, 0, (.long 0), [], none)),
  (24, (0, .lcmp, 1, 0, 0, .null, [], none)),
  (25, (2, .ifCond .eq 7, 3, 32, 0, .null, [], none)),
  (28, (0, .iconst 1, 1, 0, 0, (.int 1), [], none)),
  (29, (2, .goto 4, 3, 33, 0, .null, [], none))],
 [(32, (0, .iconst 0, 1, 0, 0, (.int 0), [], none)),
  (33, (3, .putfield 230, 3, 12, 22, .null, [], some [0, 1])),
  (36, (1, .aload_n 0, 1, 0, 0, .null, [], none)),
  (37, (1, .lload_n 1, 1, 0, 0, .null, [], none)),
  (38, (0, .ldc2_w 251, 3, 0, 0, (.long 64), [], none)),
  (41, (0, .land, 1, 0, 0, .null, [], none)),
  (42, (0, .lconst 0, 1, 0, 0, (.long 0), [], none)),
  (43, (0, .lcmp, 1, 0, 0, .null, [], none)),
  (44, (2, .ifCond .eq 7, 3, 51, 0, .null, [], none)),
  (47, (0, .iconst 1, 1, 0, 0, (.int 1), [], none)),
  (48, (2, .goto 4, 3, 52, 0, .null, [], none)),
  (51, (0, .iconst 0, 1, 0, 0, (.int 0), [], none)),
  (52, (3, .putfield 220, 3, 12, 23, .null, [], some [0, 1])),
  (55, (1, .aload_n 0, 1, 0, 0, .null, [], none)),
  (56, (1, .lload_n 1, 1, 0, 0, .null, [], none)),
  (57, (0, .ldc2_w 253, 3, 0, 0, (.long 128), [], none)),
  (60, (0, .land, 1, 0, 0, .null, [], none)),
  (61, (0, .lconst 0, 1, 0, 0, (.long 0), [], none)),
  (62, (0, .lcmp, 1, 0, 0, .null, [], none)),
  (63, (2, .ifCond .eq 7, 3, 70, 0, .null, [], none))],
 [(66, (0, .iconst 1, 1, 0, 0, (.int 1), [], none)),
  (67, (2, .goto 4, 3, 71, 0, .null, [], none)),
  (70, (0, .iconst 0, 1, 0, 0, (.int 0), [], none)),
  (71, (3, .putfield 227, 3, 12, 24, .null, [], some [0, 1])),
  (74, (1, .aload_n 0, 1, 0, 0, .null, [], none)),
  (75, (1, .lload_n 1, 1, 0, 0, .null, [], none)),
  (76, (0, .ldc2_w 255, 3, 0, 0, (.long 2048), [], none)),
  (79, (0, .land, 1, 0, 0, .null, [], none)),
  (80, (0, .lconst 0, 1, 0, 0, (.long 0), [], none)),
  (81, (0, .lcmp, 1, 0, 0, .null, [], none)),
  (82, (2, .ifCond .eq 7, 3, 89, 0, .null, [], none)),
  (85, (0, .iconst 1, 1, 0, 0, (.int 1), [], none)),
  (86, (2, .goto 4, 3, 90, 0, .null, [], none)),
  (89, (0, .iconst 0, 1, 0, 0, (.int 0), [], none)),
  (90, (3, .putfield 240, 3, 12, 25, .null, [], some [])),
  (93, (5, .return_, 1, 0, 0, .null, [], none))]]
/- 175: FlagMachineModel.setPlace(II)V -/
noncomputable def tb_c175 : List (List (Nat × am_I)) := [[(0, (1, .iload_n 1, 1, 0, 0, .null, [], none)),
  (1, (0, .ldc 163, 2, 0, 0, (.int 1048576), [], none)),
  (3, (2, .if_icmp .ge 14, 3, 17, 0, .null, [], none)),
  (6, (1, .aload_n 0, 1, 0, 0, .null, [], none)),
  (7, (3, .getfield 14, 3, 12, 2, .null, [], none)),
  (10, (1, .iload_n 1, 1, 0, 0, .null, [], none)),
  (11, (1, .iload_n 2, 1, 0, 0, .null, [], none)),
  (12, (0, .i2b, 1, 0, 0, .null, [], none)),
  (13, (3, .bastore, 1, 1, 0, .null, [], none)),
  (14, (2, .goto 34, 3, 48, 0, .null, [], none)),
  (17, (1, .iload_n 1, 1, 0, 0, .null, [], none)),
  (18, (0, .ldc 168, 2, 0, 0, (.int 2097152), [], none)),
  (20, (2, .if_icmp .ge 17, 3, 37, 0, .null, [], none)),
  (23, (1, .aload_n 0, 1, 0, 0, .null, [], none)),
  (24, (3, .getfield 18, 3, 12, 3, .null, [], none)),
  (27, (1, .iload_n 1, 1, 0, 0, .null, [], none)),
  (28, (0, .ldc 169, 2, 0, 0, (.int 65535), [], none)),
  (30, (0, .iand, 1, 0, 0, .null, [], none)),
  (31, (1, .iload_n 2, 1, 0, 0, .null, [], none))],
 [(32, (0, .i2b, 1, 0, 0, .null, [], none)),
  (33, (3, .bastore, 1, 1, 0, .null, [], none)),
  (34, (2, .goto 14, 3, 48, 0, .null, [], none)),
  (37, (1, .aload_n 0, 1, 0, 0, .null, [], none)),
  (38, (3, .getfield 21, 3, 12, 4, .null, [], none)),
  (41, (1, .iload_n 1, 1, 0, 0, .null, [], none)),
  (42, (0, .ldc 169, 2, 0, 0, (.int 65535), [], none)),
  (44, (0, .iand, 1, 0, 0, .null, [], none)),
  (45, (1, .iload_n 2, 1, 0, 0, .null, [], none)),
  (46, (0, .i2b, 1, 0, 0, .null, [], none)),
  (47, (3, .bastore, 1, 1, 0, .null, [], none)),
  (48, (5, .return_, 1, 0, 0, .null, [], some []))]]
/- 176: FlagMachineModel.setRegister(IIJ)V -/
noncomputable def tb_c176 : List (List (Nat × am_I)) := [[(0, (1, .aload_n 0, 1, 0, 0, .null, [], none)),
  (1, (3, .getfield 30, 3, 12, 16, .null, [], none)),
  (4, (1, .iload_n 1, 1, 0, 0, .null, [], none)),
  (5, (1, .iload_n 2, 1, 0, 0, .null, [], none)),
  (6, (0, .bipush 8, 2, 0, 0, (.int 8), [], none)),
  (8, (2, .if_icmp .ne 7, 3, 15, 0, .null, [], none)),
  (11, (1, .lload_n 3, 1, 0, 0, .null, [], none)),
  (12, (2, .goto 32, 3, 44, 0, .null, [], none)),
  (15, (1, .iload_n 2, 1, 0, 0, .null, [], none)),
  (16, (0, .iconst 4, 1, 0, 0, (.int 4), [], none)),
  (17, (2, .if_icmp .ne 11, 3, 28, 0, .null, [], none)),
  (20, (1, .lload_n 3, 1, 0, 0, .null, [], none)),
  (21, (0, .ldc2_w 192, 3, 0, 0, (.long 4294967295), [], none)),
  (24, (0, .land, 1, 0, 0, .null, [], none)),
  (25, (2, .goto 19, 3, 44, 0, .null, [], none)),
  (28, (1, .aload_n 0, 1, 0, 0, .null, [], none)),
  (29, (3, .getfield 30, 3, 12, 16, .null, [], none))],
 [(32, (1, .iload_n 1, 1, 0, 0, .null, [], none)),
  (33, (3, .laload, 1, 0, 0, .null, [], none)),
  (34, (0, .ldc2_w 210, 3, 0, 0, (.long (-256)), [], none)),
  (37, (0, .land, 1, 0, 0, .null, [], none)),
  (38, (1, .lload_n 3, 1, 0, 0, .null, [], none)),
  (39, (0, .ldc2_w 145, 3, 0, 0, (.long 255), [], none)),
  (42, (0, .land, 1, 0, 0, .null, [], none)),
  (43, (0, .lor, 1, 0, 0, .null, [], none)),
  (44, (3, .lastore, 1, 0, 0, .null, [], some [])),
  (45, (5, .return_, 1, 0, 0, .null, [], none))]]
/- 177: FlagMachineModel.shift(II)V -/
noncomputable def tb_c177 : List (List (Nat × am_I)) := [[(0, (1, .aload_n 0, 1, 0, 0, .null, [], none)),
  (1, (0, .iconst 0, 1, 0, 0, (.int 0), [], none)),
  (2, (1, .iload_n 2, 1, 0, 0, .null, [], none)),
  (3, (4, .invokevirtual 257, 3, 187, 3, .null, [], none)),
  (6, (1, .lstore_n 3, 1, 0, 0, .null, [], none)),
  (7, (1, .aload_n 0, 1, 0, 0, .null, [], none)),
  (8, (0, .iconst 1, 1, 0, 0, (.int 1), [], none)),
  (9, (0, .iconst 1, 1, 0, 0, (.int 1), [], none)),
  (10, (4, .invokevirtual 257, 3, 187, 3, .null, [], none)),
  (13, (0, .l2i, 1, 0, 0, .null, [], none)),
  (14, (1, .iload_n 2, 1, 0, 0, .null, [], none)),
  (15, (0, .bipush 8, 2, 0, 0, (.int 8), [], none)),
  (17, (2, .if_icmp .ne 8, 3, 25, 0, .null, [], none)),
  (20, (0, .bipush 63, 2, 0, 0, (.int 63), [], none)),
  (22, (2, .goto 5, 3, 27, 0, .null, [], none)),
  (25, (0, .bipush 31, 2, 0, 0, (.int 31), [], none)),
  (27, (0, .iand, 1, 0, 0, .null, [], some [0, 1, 2, 3])),
  (28, (1, .istore 5, 2, 0, 0, .null, [], none)),
  (30, (1, .iload 5, 2, 0, 0, .null, [], none))],
 [(32, (2, .ifCond .ne 4, 3, 36, 0, .null, [], none)),
  (35, (5, .return_, 1, 0, 0, .null, [], none)),
  (36, (1, .lload_n 3, 1, 0, 0, .null, [], none)),
  (37, (1, .lstore 6, 2, 0, 0, .null, [], none)),
  (39, (1, .lload_n 3, 1, 0, 0, .null, [], none)),
  (40, (1, .iload_n 2, 1, 0, 0, .null, [], none)),
  (41, (4, .invokestatic 224, 3, 189, 2, .null, [], none)),
  (44, (1, .lstore 8, 2, 0, 0, .null, [], none)),
  (46, (0, .bipush 8, 2, 0, 0, (.int 8), [], none)),
  (48, (1, .iload_n 2, 1, 0, 0, .null, [], none)),
  (49, (0, .imul, 1, 0, 0, .null, [], none)),
  (50, (0, .iconst 1, 1, 0, 0, (.int 1), [], none)),
  (51, (0, .isub, 1, 0, 0, .null, [], none)),
  (52, (1, .istore 10, 2, 0, 0, .null, [], none)),
  (54, (0, .iconst 0, 1, 0, 0, (.int 0), [], none)),
  (55, (1, .istore 11, 2, 0, 0, .null, [], none)),
  (57, (1, .iload 11, 2, 0, 0, .null, [], some [0, 1, 2, 5, 6, 8, 10, 11])),
  (59, (1, .iload 5, 2, 0, 0, .null, [], none)),
  (61, (2, .if_icmp .ge 134, 3, 195, 0, .null, [], none))],
 [(64, (1, .iload_n 1, 1, 0, 0, .null, [], none)),
  (65, (0, .bipush 24, 2, 0, 0, (.int 24), [], none)),
  (67, (2, .if_icmp .eq 9, 3, 76, 0, .null, [], none)),
  (70, (1, .iload_n 1, 1, 0, 0, .null, [], none)),
  (71, (0, .bipush 26, 2, 0, 0, (.int 26), [], none)),
  (73, (2, .if_icmp .ne 7, 3, 80, 0, .null, [], none)),
  (76, (0, .iconst 1, 1, 0, 0, (.int 1), [], some [0, 1, 2, 5, 6, 8, 10, 11])),
  (77, (2, .goto 4, 3, 81, 0, .null, [], none)),
  (80, (0, .iconst 0, 1, 0, 0, (.int 0), [], none)),
  (81, (1, .istore 12, 2, 0, 0, .null, [], some [0, 1, 2, 5, 6, 8, 10, 11])),
  (83, (1, .iload 12, 2, 0, 0, .null, [], none)),
  (85, (2, .ifCond .eq 13, 3, 98, 0, .null, [], none)),
  (88, (1, .lload 6, 2, 0, 0, .null, [], none)),
  (90, (1, .iload 10, 2, 0, 0, .null, [], none)),
  (92, (0, .lushr, 1, 0, 0, .null, [], none)),
  (93, (0, .lconst 1, 1, 0, 0, (.long 1), [], none)),
  (94, (0, .land, 1, 0, 0, .null, [], none)),
  (95, (2, .goto 7, 3, 102, 0, .null, [], none))],
 [(98, (1, .lload 6, 2, 0, 0, .null, [], none)),
  (100, (0, .lconst 1, 1, 0, 0, (.long 1), [], none)),
  (101, (0, .land, 1, 0, 0, .null, [], none)),
  (102, (1, .lstore 13, 2, 0, 0, .null, [], some [0, 1, 2, 5, 6, 8, 10, 11, 12])),
  (104, (1, .aload_n 0, 1, 0, 0, .null, [], none)),
  (105, (1, .lload 13, 2, 0, 0, .null, [], none)),
  (107, (0, .lconst 1, 1, 0, 0, (.long 1), [], none)),
  (108, (0, .lcmp, 1, 0, 0, .null, [], none)),
  (109, (2, .ifCond .ne 7, 3, 116, 0, .null, [], none)),
  (112, (0, .iconst 1, 1, 0, 0, (.int 1), [], none)),
  (113, (2, .goto 4, 3, 117, 0, .null, [], none)),
  (116, (0, .iconst 0, 1, 0, 0, (.int 0), [], none)),
  (117, (3, .putfield 237, 3, 12, 21, .null, [], some [0, 1, 2, 5, 6, 8, 10, 11, 12, 13])),
  (120, (1, .iload 12, 2, 0, 0, .null, [], none)),
  (122, (2, .ifCond .eq 29, 3, 151, 0, .null, [], none)),
  (125, (1, .lload 6, 2, 0, 0, .null, [], none)),
  (127, (0, .iconst 1, 1, 0, 0, (.int 1), [], none))],
 [(128, (0, .lshl, 1, 0, 0, .null, [], none)),
  (129, (1, .iload_n 2, 1, 0, 0, .null, [], none)),
  (130, (4, .invokestatic 200, 3, 135, 2, .null, [], none)),
  (133, (1, .iload_n 1, 1, 0, 0, .null, [], none)),
  (134, (0, .bipush 24, 2, 0, 0, (.int 24), [], none)),
  (136, (2, .if_icmp .ne 8, 3, 144, 0, .null, [], none)),
  (139, (1, .lload 13, 2, 0, 0, .null, [], none)),
  (141, (2, .goto 4, 3, 145, 0, .null, [], none)),
  (144, (0, .lconst 0, 1, 0, 0, (.long 0), [], none)),
  (145, (0, .lor, 1, 0, 0, .null, [], some [0, 1, 2, 5, 8, 10, 11])),
  (146, (1, .lstore 6, 2, 0, 0, .null, [], none)),
  (148, (2, .goto 41, 3, 189, 0, .null, [], none)),
  (151, (1, .lload 6, 2, 0, 0, .null, [], none)),
  (153, (0, .iconst 1, 1, 0, 0, (.int 1), [], none)),
  (154, (0, .lushr, 1, 0, 0, .null, [], none)),
  (155, (1, .iload_n 1, 1, 0, 0, .null, [], none)),
  (156, (0, .bipush 25, 2, 0, 0, (.int 25), [], none)),
  (158, (2, .if_icmp .ne 8, 3, 166, 0, .null, [], none))],
 [(161, (1, .lload 13, 2, 0, 0, .null, [], none)),
  (163, (2, .goto 20, 3, 183, 0, .null, [], none)),
  (166, (1, .iload_n 1, 1, 0, 0, .null, [], none)),
  (167, (0, .bipush 28, 2, 0, 0, (.int 28), [], none)),
  (169, (2, .if_icmp .ne 13, 3, 182, 0, .null, [], none)),
  (172, (1, .lload 6, 2, 0, 0, .null, [], none)),
  (174, (1, .iload 10, 2, 0, 0, .null, [], none)),
  (176, (0, .lushr, 1, 0, 0, .null, [], none)),
  (177, (0, .lconst 1, 1, 0, 0, (.long 1), [], none)),
  (178, (0, .land, 1, 0, 0, .null, [], none)),
  (179, (2, .goto 4, 3, 183, 0, .null, [], none)),
  (182, (0, .lconst 0, 1, 0, 0, (.long 0), [], none)),
  (183, (1, .iload 10, 2, 0, 0, .null, [], some [0, 1, 2, 5, 8, 10, 11])),
  (185, (0, .lshl, 1, 0, 0, .null, [], none)),
  (186, (0, .lor, 1, 0, 0, .null, [], none)),
  (187, (1, .lstore 6, 2, 0, 0, .null, [], none)),
  (189, (1, .iinc 11 1, 3, 0, 0, (.int 1), [], some [0, 1, 2, 5, 6, 8, 10, 11]))],
 [(192, (2, .goto (-135), 3, 57, 0, .null, [], none)),
  (195, (1, .lload 6, 2, 0, 0, .null, [], none)),
  (197, (1, .iload_n 2, 1, 0, 0, .null, [], none)),
  (198, (4, .invokestatic 224, 3, 189, 2, .null, [], none)),
  (201, (1, .lstore 11, 2, 0, 0, .null, [], none)),
  (203, (1, .iload 5, 2, 0, 0, .null, [], none)),
  (205, (0, .iconst 1, 1, 0, 0, (.int 1), [], none)),
  (206, (2, .if_icmp .ne 93, 3, 299, 0, .null, [], none)),
  (209, (1, .aload_n 0, 1, 0, 0, .null, [], none)),
  (210, (1, .iload_n 1, 1, 0, 0, .null, [], none)),
  (211, (0, .bipush 24, 2, 0, 0, (.int 24), [], none)),
  (213, (2, .if_icmp .eq 9, 3, 222, 0, .null, [], none)),
  (216, (1, .iload_n 1, 1, 0, 0, .null, [], none)),
  (217, (0, .bipush 26, 2, 0, 0, (.int 26), [], none)),
  (219, (2, .if_icmp .ne 30, 3, 249, 0, .null, [], none)),
  (222, (1, .aload_n 0, 1, 0, 0, .null, [], some [0, 1, 2, 6, 11])),
  (223, (3, .getfield 237, 3, 12, 21, .null, [], none))],
 [(226, (1, .lload 11, 2, 0, 0, .null, [], none)),
  (228, (0, .lconst 1, 1, 0, 0, (.long 1), [], none)),
  (229, (0, .lcmp, 1, 0, 0, .null, [], none)),
  (230, (2, .ifCond .ne 7, 3, 237, 0, .null, [], none)),
  (233, (0, .iconst 1, 1, 0, 0, (.int 1), [], none)),
  (234, (2, .goto 4, 3, 238, 0, .null, [], none)),
  (237, (0, .iconst 0, 1, 0, 0, (.int 0), [], none)),
  (238, (2, .if_icmp .eq 7, 3, 245, 0, .null, [], some [0, 1, 2, 6])),
  (241, (0, .iconst 1, 1, 0, 0, (.int 1), [], none)),
  (242, (2, .goto 54, 3, 296, 0, .null, [], none)),
  (245, (0, .iconst 0, 1, 0, 0, (.int 0), [], none)),
  (246, (2, .goto 50, 3, 296, 0, .null, [], none)),
  (249, (1, .iload_n 1, 1, 0, 0, .null, [], none)),
  (250, (0, .bipush 25, 2, 0, 0, (.int 25), [], none)),
  (252, (2, .if_icmp .ne 26, 3, 278, 0, .null, [], none)),
  (255, (1, .lload 11, 2, 0, 0, .null, [], none))],
 [(257, (1, .lload 6, 2, 0, 0, .null, [], none)),
  (259, (1, .iload 10, 2, 0, 0, .null, [], none)),
  (261, (0, .iconst 1, 1, 0, 0, (.int 1), [], none)),
  (262, (0, .isub, 1, 0, 0, .null, [], none)),
  (263, (0, .lushr, 1, 0, 0, .null, [], none)),
  (264, (0, .lconst 1, 1, 0, 0, (.long 1), [], none)),
  (265, (0, .land, 1, 0, 0, .null, [], none)),
  (266, (0, .lcmp, 1, 0, 0, .null, [], none)),
  (267, (2, .ifCond .eq 7, 3, 274, 0, .null, [], none)),
  (270, (0, .iconst 1, 1, 0, 0, (.int 1), [], none)),
  (271, (2, .goto 25, 3, 296, 0, .null, [], none)),
  (274, (0, .iconst 0, 1, 0, 0, (.int 0), [], none)),
  (275, (2, .goto 21, 3, 296, 0, .null, [], none)),
  (278, (1, .iload_n 1, 1, 0, 0, .null, [], none)),
  (279, (0, .bipush 27, 2, 0, 0, (.int 27), [], none)),
  (281, (2, .if_icmp .ne 14, 3, 295, 0, .null, [], none)),
  (284, (1, .lload 8, 2, 0, 0, .null, [], none)),
  (286, (0, .lconst 1, 1, 0, 0, (.long 1), [], none)),
  (287, (0, .lcmp, 1, 0, 0, .null, [], none))],
 [(288, (2, .ifCond .ne 7, 3, 295, 0, .null, [], none)),
  (291, (0, .iconst 1, 1, 0, 0, (.int 1), [], none)),
  (292, (2, .goto 4, 3, 296, 0, .null, [], none)),
  (295, (0, .iconst 0, 1, 0, 0, (.int 0), [], some [0, 1, 2, 6])),
  (296, (3, .putfield 240, 3, 12, 25, .null, [], some [0, 1, 2, 6])),
  (299, (1, .iload_n 1, 1, 0, 0, .null, [], some [0, 1, 2, 6])),
  (300, (0, .bipush 25, 2, 0, 0, (.int 25), [], none)),
  (302, (2, .if_icmp .le 10, 3, 312, 0, .null, [], none)),
  (305, (1, .aload_n 0, 1, 0, 0, .null, [], none)),
  (306, (1, .lload 6, 2, 0, 0, .null, [], none)),
  (308, (1, .iload_n 2, 1, 0, 0, .null, [], none)),
  (309, (4, .invokevirtual 243, 3, 191, 3, .null, [], none)),
  (312, (1, .aload_n 0, 1, 0, 0, .null, [], some [0, 2, 6])),
  (313, (0, .iconst 0, 1, 0, 0, (.int 0), [], none)),
  (314, (1, .iload_n 2, 1, 0, 0, .null, [], none)),
  (315, (1, .lload 6, 2, 0, 0, .null, [], none)),
  (317, (4, .invokevirtual 268, 3, 169, 4, .null, [], none))],
 [(320, (5, .return_, 1, 0, 0, .null, [], none))]]
/- 178: FlagMachineModel.signed(JI)J -/
noncomputable def tb_c178 : List (List (Nat × am_I)) := [[(0, (1, .iload_n 2, 1, 0, 0, .null, [], none)),
  (1, (0, .bipush 8, 2, 0, 0, (.int 8), [], none)),
  (3, (2, .if_icmp .ne 7, 3, 10, 0, .null, [], none)),
  (6, (1, .lload_n 0, 1, 0, 0, .null, [], none)),
  (7, (2, .goto 18, 3, 25, 0, .null, [], none)),
  (10, (1, .iload_n 2, 1, 0, 0, .null, [], none)),
  (11, (0, .iconst 4, 1, 0, 0, (.int 4), [], none)),
  (12, (2, .if_icmp .ne 9, 3, 21, 0, .null, [], none)),
  (15, (1, .lload_n 0, 1, 0, 0, .null, [], none)),
  (16, (0, .l2i, 1, 0, 0, .null, [], none)),
  (17, (0, .i2l, 1, 0, 0, .null, [], none)),
  (18, (2, .goto 7, 3, 25, 0, .null, [], none)),
  (21, (1, .lload_n 0, 1, 0, 0, .null, [], none)),
  (22, (0, .l2i, 1, 0, 0, .null, [], none)),
  (23, (0, .i2b, 1, 0, 0, .null, [], none)),
  (24, (0, .i2l, 1, 0, 0, .null, [], none)),
  (25, (5, .lreturn, 1, 0, 0, .null, [], some []))]]
/- 179: FlagMachineModel.single(II)V -/
noncomputable def tb_c179 : List (List (Nat × am_I)) := [[(0, (1, .aload_n 0, 1, 0, 0, .null, [], none)),
  (1, (0, .iconst 0, 1, 0, 0, (.int 0), [], none)),
  (2, (1, .iload_n 2, 1, 0, 0, .null, [], none)),
  (3, (4, .invokevirtual 257, 3, 187, 3, .null, [], none)),
  (6, (1, .lstore_n 3, 1, 0, 0, .null, [], none)),
  (7, (1, .aload_n 0, 1, 0, 0, .null, [], none)),
  (8, (3, .getfield 237, 3, 12, 21, .null, [], none)),
  (11, (1, .istore 5, 2, 0, 0, .null, [], none)),
  (13, (1, .iload_n 1, 1, 0, 0, .null, [], none)),
  (14, (0, .bipush 15, 2, 0, 0, (.int 15), [], none)),
  (16, (2, .if_icmp .ne 15, 3, 31, 0, .null, [], none)),
  (19, (1, .lload_n 3, 1, 0, 0, .null, [], none)),
  (20, (0, .ldc2_w 277, 3, 0, 0, (.long (-1)), [], none)),
  (23, (0, .lxor, 1, 0, 0, .null, [], none)),
  (24, (1, .iload_n 2, 1, 0, 0, .null, [], none)),
  (25, (4, .invokestatic 200, 3, 135, 2, .null, [], none)),
  (28, (2, .goto 4, 3, 32, 0, .null, [], none)),
  (31, (0, .lconst 0, 1, 0, 0, (.long 0), [], none))],
 [(32, (1, .lstore 6, 2, 0, 0, .null, [], some [0, 1, 2, 3, 5])),
  (34, (1, .iload_n 1, 1, 0, 0, .null, [], none)),
  (35, (0, .bipush 16, 2, 0, 0, (.int 16), [], none)),
  (37, (2, .if_icmp .ne 13, 3, 50, 0, .null, [], none)),
  (40, (1, .aload_n 0, 1, 0, 0, .null, [], none)),
  (41, (0, .lconst 0, 1, 0, 0, (.long 0), [], none)),
  (42, (1, .lload_n 3, 1, 0, 0, .null, [], none)),
  (43, (0, .iconst 0, 1, 0, 0, (.int 0), [], none)),
  (44, (1, .iload_n 2, 1, 0, 0, .null, [], none)),
  (45, (4, .invokevirtual 265, 3, 186, 5, .null, [], none)),
  (48, (1, .lstore 6, 2, 0, 0, .null, [], none)),
  (50, (1, .iload_n 1, 1, 0, 0, .null, [], some [0, 1, 2, 3, 5, 6])),
  (51, (0, .bipush 21, 2, 0, 0, (.int 21), [], none)),
  (53, (2, .if_icmp .ne 13, 3, 66, 0, .null, [], none)),
  (56, (1, .aload_n 0, 1, 0, 0, .null, [], none)),
  (57, (1, .lload_n 3, 1, 0, 0, .null, [], none)),
  (58, (0, .lconst 1, 1, 0, 0, (.long 1), [], none)),
  (59, (0, .iconst 0, 1, 0, 0, (.int 0), [], none)),
  (60, (1, .iload_n 2, 1, 0, 0, .null, [], none)),
  (61, (4, .invokevirtual 261, 3, 126, 5, .null, [], none))],
 [(64, (1, .lstore 6, 2, 0, 0, .null, [], none)),
  (66, (1, .iload_n 1, 1, 0, 0, .null, [], some [0, 1, 2, 3, 5, 6])),
  (67, (0, .bipush 22, 2, 0, 0, (.int 22), [], none)),
  (69, (2, .if_icmp .ne 13, 3, 82, 0, .null, [], none)),
  (72, (1, .aload_n 0, 1, 0, 0, .null, [], none)),
  (73, (1, .lload_n 3, 1, 0, 0, .null, [], none)),
  (74, (0, .lconst 1, 1, 0, 0, (.long 1), [], none)),
  (75, (0, .iconst 0, 1, 0, 0, (.int 0), [], none)),
  (76, (1, .iload_n 2, 1, 0, 0, .null, [], none)),
  (77, (4, .invokevirtual 265, 3, 186, 5, .null, [], none)),
  (80, (1, .lstore 6, 2, 0, 0, .null, [], none)),
  (82, (1, .iload_n 1, 1, 0, 0, .null, [], some [0, 1, 2, 5, 6])),
  (83, (0, .bipush 20, 2, 0, 0, (.int 20), [], none)),
  (85, (2, .if_icmp .le 9, 3, 94, 0, .null, [], none)),
  (88, (1, .aload_n 0, 1, 0, 0, .null, [], none)),
  (89, (1, .iload 5, 2, 0, 0, .null, [], none)),
  (91, (3, .putfield 237, 3, 12, 21, .null, [], none)),
  (94, (1, .aload_n 0, 1, 0, 0, .null, [], some [0, 2, 6])),
  (95, (0, .iconst 0, 1, 0, 0, (.int 0), [], none))],
 [(96, (1, .iload_n 2, 1, 0, 0, .null, [], none)),
  (97, (1, .lload 6, 2, 0, 0, .null, [], none)),
  (99, (4, .invokevirtual 268, 3, 169, 4, .null, [], none)),
  (102, (5, .return_, 1, 0, 0, .null, [], none))]]
/- 180: FlagMachineModel.sizeFits()Z -/
noncomputable def tb_c180 : List (List (Nat × am_I)) := [[(0, (1, .aload_n 0, 1, 0, 0, .null, [], none)),
  (1, (3, .getfield 114, 3, 12, 31, .null, [], none)),
  (4, (0, .iconst 1, 1, 0, 0, (.int 1), [], none)),
  (5, (2, .if_icmp .eq 20, 3, 25, 0, .null, [], none)),
  (8, (1, .aload_n 0, 1, 0, 0, .null, [], none)),
  (9, (3, .getfield 114, 3, 12, 31, .null, [], none)),
  (12, (0, .iconst 4, 1, 0, 0, (.int 4), [], none)),
  (13, (2, .if_icmp .eq 12, 3, 25, 0, .null, [], none)),
  (16, (1, .aload_n 0, 1, 0, 0, .null, [], none)),
  (17, (3, .getfield 114, 3, 12, 31, .null, [], none)),
  (20, (0, .bipush 8, 2, 0, 0, (.int 8), [], none)),
  (22, (2, .if_icmp .ne 7, 3, 29, 0, .null, [], none)),
  (25, (0, .iconst 1, 1, 0, 0, (.int 1), [], some [0])),
  (26, (2, .goto 4, 3, 30, 0, .null, [], none)),
  (29, (0, .iconst 0, 1, 0, 0, (.int 0), [], none)),
  (30, (1, .istore_n 1, 1, 0, 0, .null, [], some [0])),
  (31, (1, .aload_n 0, 1, 0, 0, .null, [], none))],
 [(32, (3, .getfield 114, 3, 12, 31, .null, [], none)),
  (35, (0, .iconst 4, 1, 0, 0, (.int 4), [], none)),
  (36, (2, .if_icmp .eq 12, 3, 48, 0, .null, [], none)),
  (39, (1, .aload_n 0, 1, 0, 0, .null, [], none)),
  (40, (3, .getfield 114, 3, 12, 31, .null, [], none)),
  (43, (0, .bipush 8, 2, 0, 0, (.int 8), [], none)),
  (45, (2, .if_icmp .ne 7, 3, 52, 0, .null, [], none)),
  (48, (0, .iconst 1, 1, 0, 0, (.int 1), [], some [0, 1])),
  (49, (2, .goto 4, 3, 53, 0, .null, [], none)),
  (52, (0, .iconst 0, 1, 0, 0, (.int 0), [], none)),
  (53, (1, .istore_n 2, 1, 0, 0, .null, [], some [0, 1])),
  (54, (1, .aload_n 0, 1, 0, 0, .null, [], none)),
  (55, (3, .getfield 37, 3, 12, 30, .null, [], none)),
  (58, (0, .bipush 14, 2, 0, 0, (.int 14), [], none)),
  (60, (2, .if_icmp .eq 21, 3, 81, 0, .null, [], none)),
  (63, (1, .aload_n 0, 1, 0, 0, .null, [], none))],
 [(64, (3, .getfield 37, 3, 12, 30, .null, [], none)),
  (67, (0, .bipush 29, 2, 0, 0, (.int 29), [], none)),
  (69, (2, .if_icmp .eq 12, 3, 81, 0, .null, [], none)),
  (72, (1, .aload_n 0, 1, 0, 0, .null, [], none)),
  (73, (3, .getfield 37, 3, 12, 30, .null, [], none)),
  (76, (0, .bipush 30, 2, 0, 0, (.int 30), [], none)),
  (78, (2, .if_icmp .ne 18, 3, 96, 0, .null, [], none)),
  (81, (1, .aload_n 0, 1, 0, 0, .null, [], some [0])),
  (82, (3, .getfield 114, 3, 12, 31, .null, [], none)),
  (85, (0, .bipush 8, 2, 0, 0, (.int 8), [], none)),
  (87, (2, .if_icmp .ne 7, 3, 94, 0, .null, [], none)),
  (90, (0, .iconst 1, 1, 0, 0, (.int 1), [], none)),
  (91, (2, .goto 4, 3, 95, 0, .null, [], none)),
  (94, (0, .iconst 0, 1, 0, 0, (.int 0), [], none)),
  (95, (5, .ireturn, 1, 0, 0, .null, [], some []))],
 [(96, (1, .aload_n 0, 1, 0, 0, .null, [], none)),
  (97, (3, .getfield 37, 3, 12, 30, .null, [], none)),
  (100, (0, .bipush 35, 2, 0, 0, (.int 35), [], none)),
  (102, (2, .if_icmp .ne 17, 3, 119, 0, .null, [], none)),
  (105, (1, .aload_n 0, 1, 0, 0, .null, [], none)),
  (106, (3, .getfield 114, 3, 12, 31, .null, [], none)),
  (109, (0, .iconst 1, 1, 0, 0, (.int 1), [], none)),
  (110, (2, .if_icmp .ne 7, 3, 117, 0, .null, [], none)),
  (113, (0, .iconst 1, 1, 0, 0, (.int 1), [], none)),
  (114, (2, .goto 4, 3, 118, 0, .null, [], none)),
  (117, (0, .iconst 0, 1, 0, 0, (.int 0), [], none)),
  (118, (5, .ireturn, 1, 0, 0, .null, [], some [])),
  (119, (1, .aload_n 0, 1, 0, 0, .null, [], none)),
  (120, (3, .getfield 37, 3, 12, 30, .null, [], none)),
  (123, (0, .bipush 30, 2, 0, 0, (.int 30), [], none)),
  (125, (2, .if_icmp .le 12, 3, 137, 0, .null, [], none))],
 [(128, (1, .aload_n 0, 1, 0, 0, .null, [], none)),
  (129, (3, .getfield 37, 3, 12, 30, .null, [], none)),
  (132, (0, .bipush 35, 2, 0, 0, (.int 35), [], none)),
  (134, (2, .if_icmp .lt 21, 3, 155, 0, .null, [], none)),
  (137, (1, .aload_n 0, 1, 0, 0, .null, [], some [0, 1, 2])),
  (138, (3, .getfield 37, 3, 12, 30, .null, [], none)),
  (141, (0, .bipush 38, 2, 0, 0, (.int 38), [], none)),
  (143, (2, .if_icmp .le 25, 3, 168, 0, .null, [], none)),
  (146, (1, .aload_n 0, 1, 0, 0, .null, [], none)),
  (147, (3, .getfield 37, 3, 12, 30, .null, [], none)),
  (150, (0, .bipush 44, 2, 0, 0, (.int 44), [], none)),
  (152, (2, .if_icmp .ge 16, 3, 168, 0, .null, [], none)),
  (155, (1, .aload_n 0, 1, 0, 0, .null, [], some [0])),
  (156, (3, .getfield 114, 3, 12, 31, .null, [], none)),
  (159, (2, .ifCond .ne 7, 3, 166, 0, .null, [], none))],
 [(162, (0, .iconst 1, 1, 0, 0, (.int 1), [], none)),
  (163, (2, .goto 4, 3, 167, 0, .null, [], none)),
  (166, (0, .iconst 0, 1, 0, 0, (.int 0), [], none)),
  (167, (5, .ireturn, 1, 0, 0, .null, [], some [])),
  (168, (1, .aload_n 0, 1, 0, 0, .null, [], some [0, 1, 2])),
  (169, (3, .getfield 37, 3, 12, 30, .null, [], none)),
  (172, (0, .bipush 11, 2, 0, 0, (.int 11), [], none)),
  (174, (2, .if_icmp .lt 66, 3, 240, 0, .null, [], none)),
  (177, (1, .aload_n 0, 1, 0, 0, .null, [], none)),
  (178, (3, .getfield 37, 3, 12, 30, .null, [], none)),
  (181, (0, .bipush 14, 2, 0, 0, (.int 14), [], none)),
  (183, (2, .if_icmp .le 12, 3, 195, 0, .null, [], none)),
  (186, (1, .aload_n 0, 1, 0, 0, .null, [], none)),
  (187, (3, .getfield 37, 3, 12, 30, .null, [], none)),
  (190, (0, .bipush 23, 2, 0, 0, (.int 23), [], none))],
 [(192, (2, .if_icmp .lt 48, 3, 240, 0, .null, [], none)),
  (195, (1, .aload_n 0, 1, 0, 0, .null, [], some [0, 1, 2])),
  (196, (3, .getfield 37, 3, 12, 30, .null, [], none)),
  (199, (0, .bipush 23, 2, 0, 0, (.int 23), [], none)),
  (201, (2, .if_icmp .le 12, 3, 213, 0, .null, [], none)),
  (204, (1, .aload_n 0, 1, 0, 0, .null, [], none)),
  (205, (3, .getfield 37, 3, 12, 30, .null, [], none)),
  (208, (0, .bipush 29, 2, 0, 0, (.int 29), [], none)),
  (210, (2, .if_icmp .lt 30, 3, 240, 0, .null, [], none)),
  (213, (1, .aload_n 0, 1, 0, 0, .null, [], some [0, 1, 2])),
  (214, (3, .getfield 37, 3, 12, 30, .null, [], none)),
  (217, (0, .bipush 48, 2, 0, 0, (.int 48), [], none)),
  (219, (2, .if_icmp .eq 21, 3, 240, 0, .null, [], none)),
  (222, (1, .aload_n 0, 1, 0, 0, .null, [], none)),
  (223, (3, .getfield 37, 3, 12, 30, .null, [], none))],
 [(226, (0, .bipush 49, 2, 0, 0, (.int 49), [], none)),
  (228, (2, .if_icmp .eq 12, 3, 240, 0, .null, [], none)),
  (231, (1, .aload_n 0, 1, 0, 0, .null, [], none)),
  (232, (3, .getfield 37, 3, 12, 30, .null, [], none)),
  (235, (0, .bipush 49, 2, 0, 0, (.int 49), [], none)),
  (237, (2, .if_icmp .le 7, 3, 244, 0, .null, [], none)),
  (240, (0, .iconst 1, 1, 0, 0, (.int 1), [], some [1, 2])),
  (241, (2, .goto 4, 3, 245, 0, .null, [], none)),
  (244, (0, .iconst 0, 1, 0, 0, (.int 0), [], none)),
  (245, (1, .istore_n 3, 1, 0, 0, .null, [], some [1, 2])),
  (246, (1, .iload_n 3, 1, 0, 0, .null, [], none)),
  (247, (2, .ifCond .eq 7, 3, 254, 0, .null, [], none)),
  (250, (1, .iload_n 1, 1, 0, 0, .null, [], none)),
  (251, (2, .goto 4, 3, 255, 0, .null, [], none)),
  (254, (1, .iload_n 2, 1, 0, 0, .null, [], none)),
  (255, (5, .ireturn, 1, 0, 0, .null, [], some []))]]
/- 181: FlagMachineModel.spread(II)V -/
noncomputable def tb_c181 : List (List (Nat × am_I)) := [[(0, (1, .aload_n 0, 1, 0, 0, .null, [], none)),
  (1, (3, .getfield 30, 3, 12, 16, .null, [], none)),
  (4, (0, .iconst 0, 1, 0, 0, (.int 0), [], none)),
  (5, (3, .laload, 1, 0, 0, .null, [], none)),
  (6, (1, .lstore_n 3, 1, 0, 0, .null, [], none)),
  (7, (1, .iload_n 1, 1, 0, 0, .null, [], none)),
  (8, (0, .bipush 37, 2, 0, 0, (.int 37), [], none)),
  (10, (2, .if_icmp .ne 29, 3, 39, 0, .null, [], none)),
  (13, (1, .aload_n 0, 1, 0, 0, .null, [], none)),
  (14, (0, .iconst 2, 1, 0, 0, (.int 2), [], none)),
  (15, (1, .iload_n 2, 1, 0, 0, .null, [], none)),
  (16, (1, .lload_n 3, 1, 0, 0, .null, [], none)),
  (17, (1, .iload_n 2, 1, 0, 0, .null, [], none)),
  (18, (4, .invokestatic 224, 3, 189, 2, .null, [], none)),
  (21, (0, .lconst 1, 1, 0, 0, (.long 1), [], none)),
  (22, (0, .lcmp, 1, 0, 0, .null, [], none)),
  (23, (2, .ifCond .ne 9, 3, 32, 0, .null, [], none)),
  (26, (0, .ldc2_w 277, 3, 0, 0, (.long (-1)), [], none)),
  (29, (2, .goto 4, 3, 33, 0, .null, [], none))],
 [(32, (0, .lconst 0, 1, 0, 0, (.long 0), [], none)),
  (33, (4, .invokevirtual 212, 3, 176, 4, .null, [], some [])),
  (36, (2, .goto 24, 3, 60, 0, .null, [], none)),
  (39, (1, .aload_n 0, 1, 0, 0, .null, [], none)),
  (40, (0, .iconst 0, 1, 0, 0, (.int 0), [], none)),
  (41, (1, .iload_n 2, 1, 0, 0, .null, [], none)),
  (42, (1, .iload_n 2, 1, 0, 0, .null, [], none)),
  (43, (0, .iconst 4, 1, 0, 0, (.int 4), [], none)),
  (44, (2, .if_icmp .ne 10, 3, 54, 0, .null, [], none)),
  (47, (1, .lload_n 3, 1, 0, 0, .null, [], none)),
  (48, (0, .l2i, 1, 0, 0, .null, [], none)),
  (49, (0, .i2s, 1, 0, 0, .null, [], none)),
  (50, (0, .i2l, 1, 0, 0, .null, [], none)),
  (51, (2, .goto 6, 3, 57, 0, .null, [], none)),
  (54, (1, .lload_n 3, 1, 0, 0, .null, [], none)),
  (55, (0, .l2i, 1, 0, 0, .null, [], none)),
  (56, (0, .i2l, 1, 0, 0, .null, [], none)),
  (57, (4, .invokevirtual 212, 3, 176, 4, .null, [], some [])),
  (60, (5, .return_, 1, 0, 0, .null, [], some []))]]
/- 182: FlagMachineModel.step(I)I -/
noncomputable def tb_c182 : List (List (Nat × am_I)) := [[(0, (1, .aload_n 0, 1, 0, 0, .null, [], none)),
  (1, (0, .iconst 0, 1, 0, 0, (.int 0), [], none)),
  (2, (3, .putfield 61, 3, 12, 0, .null, [], none)),
  (5, (1, .iload_n 1, 1, 0, 0, .null, [], none)),
  (6, (0, .iconst 1, 1, 0, 0, (.int 1), [], none)),
  (7, (2, .if_icmp .lt 24, 3, 31, 0, .null, [], none)),
  (10, (1, .iload_n 1, 1, 0, 0, .null, [], none)),
  (11, (0, .bipush 15, 2, 0, 0, (.int 15), [], none)),
  (13, (2, .if_icmp .gt 18, 3, 31, 0, .null, [], none)),
  (16, (1, .aload_n 0, 1, 0, 0, .null, [], none)),
  (17, (3, .getfield 103, 3, 12, 26, .null, [], none)),
  (20, (0, .iconst 1, 1, 0, 0, (.int 1), [], none)),
  (21, (2, .if_icmp .eq 10, 3, 31, 0, .null, [], none)),
  (24, (1, .aload_n 0, 1, 0, 0, .null, [], none)),
  (25, (4, .invokevirtual 371, 3, 150, 1, .null, [], none)),
  (28, (2, .ifCond .ne 5, 3, 33, 0, .null, [], none)),
  (31, (0, .iconst (-1), 1, 0, 0, (.int (-1)), [], some []))],
 [(32, (5, .ireturn, 1, 0, 0, .null, [], none)),
  (33, (1, .aload_n 0, 1, 0, 0, .null, [], none)),
  (34, (1, .iload_n 1, 1, 0, 0, .null, [], none)),
  (35, (3, .putfield 305, 3, 12, 37, .null, [], none)),
  (38, (1, .aload_n 0, 1, 0, 0, .null, [], none)),
  (39, (0, .iconst 0, 1, 0, 0, (.int 0), [], none)),
  (40, (3, .putfield 170, 3, 12, 27, .null, [], none)),
  (43, (1, .aload_n 0, 1, 0, 0, .null, [], none)),
  (44, (0, .lconst 0, 1, 0, 0, (.long 0), [], none)),
  (45, (3, .putfield 173, 3, 12, 28, .null, [], none)),
  (48, (1, .aload_n 0, 1, 0, 0, .null, [], none)),
  (49, (3, .getfield 90, 3, 12, 18, .null, [], none)),
  (52, (1, .lstore_n 2, 1, 0, 0, .null, [], none)),
  (53, (1, .aload_n 0, 1, 0, 0, .null, [], none)),
  (54, (4, .invokevirtual 310, 3, 140, 1, .null, [], none)),
  (57, (1, .lstore 4, 2, 0, 0, .null, [], none)),
  (59, (0, .iconst 0, 1, 0, 0, (.int 0), [], none)),
  (60, (1, .istore 6, 2, 0, 0, .null, [], none)),
  (62, (1, .iload 6, 2, 0, 0, .null, [], some [0, 2, 4, 6]))],
 [(64, (0, .bipush 16, 2, 0, 0, (.int 16), [], none)),
  (66, (2, .if_icmp .ge 23, 3, 89, 0, .null, [], none)),
  (69, (1, .aload_n 0, 1, 0, 0, .null, [], none)),
  (70, (3, .getfield 34, 3, 12, 17, .null, [], none)),
  (73, (1, .iload 6, 2, 0, 0, .null, [], none)),
  (75, (1, .aload_n 0, 1, 0, 0, .null, [], none)),
  (76, (3, .getfield 30, 3, 12, 16, .null, [], none)),
  (79, (1, .iload 6, 2, 0, 0, .null, [], none)),
  (81, (3, .laload, 1, 0, 0, .null, [], none)),
  (82, (3, .lastore, 1, 0, 0, .null, [], none)),
  (83, (1, .iinc 6 1, 3, 0, 0, (.int 1), [], none)),
  (86, (2, .goto (-24), 3, 62, 0, .null, [], none)),
  (89, (1, .aload_n 0, 1, 0, 0, .null, [], none)),
  (90, (0, .dup, 1, 0, 0, .null, [], none)),
  (91, (3, .getfield 90, 3, 12, 18, .null, [], none)),
  (94, (1, .aload_n 0, 1, 0, 0, .null, [], none)),
  (95, (3, .getfield 305, 3, 12, 37, .null, [], none))],
 [(98, (0, .i2l, 1, 0, 0, .null, [], none)),
  (99, (0, .ladd, 1, 0, 0, .null, [], none)),
  (100, (3, .putfield 90, 3, 12, 18, .null, [], none)),
  (103, (1, .aload_n 0, 1, 0, 0, .null, [], none)),
  (104, (1, .aload_n 0, 1, 0, 0, .null, [], none)),
  (105, (3, .getfield 50, 3, 12, 39, .null, [], none)),
  (108, (0, .iconst 0, 1, 0, 0, (.int 0), [], none)),
  (109, (3, .iaload, 1, 0, 0, .null, [], none)),
  (110, (0, .iconst 2, 1, 0, 0, (.int 2), [], none)),
  (111, (2, .if_icmp .eq 23, 3, 134, 0, .null, [], none)),
  (114, (1, .aload_n 0, 1, 0, 0, .null, [], none)),
  (115, (3, .getfield 50, 3, 12, 39, .null, [], none)),
  (118, (0, .iconst 1, 1, 0, 0, (.int 1), [], none)),
  (119, (3, .iaload, 1, 0, 0, .null, [], none)),
  (120, (0, .iconst 2, 1, 0, 0, (.int 2), [], none)),
  (121, (2, .if_icmp .eq 13, 3, 134, 0, .null, [], none)),
  (124, (1, .aload_n 0, 1, 0, 0, .null, [], none)),
  (125, (3, .getfield 50, 3, 12, 39, .null, [], none))],
 [(128, (0, .iconst 2, 1, 0, 0, (.int 2), [], none)),
  (129, (3, .iaload, 1, 0, 0, .null, [], none)),
  (130, (0, .iconst 2, 1, 0, 0, (.int 2), [], none)),
  (131, (2, .if_icmp .ne 10, 3, 141, 0, .null, [], none)),
  (134, (1, .aload_n 0, 1, 0, 0, .null, [], some [0, 2, 4])),
  (135, (4, .invokevirtual 271, 3, 127, 1, .null, [], none)),
  (138, (2, .goto 4, 3, 142, 0, .null, [], none)),
  (141, (0, .lconst 0, 1, 0, 0, (.long 0), [], none)),
  (142, (3, .putfield 204, 3, 12, 29, .null, [], some [0, 2, 4])),
  (145, (1, .aload_n 0, 1, 0, 0, .null, [], none)),
  (146, (4, .invokevirtual 374, 3, 164, 1, .null, [], none)),
  (149, (1, .aload_n 0, 1, 0, 0, .null, [], none)),
  (150, (1, .aload_n 0, 1, 0, 0, .null, [], none)),
  (151, (3, .getfield 170, 3, 12, 27, .null, [], none)),
  (154, (3, .putfield 103, 3, 12, 26, .null, [], none)),
  (157, (1, .aload_n 0, 1, 0, 0, .null, [], none)),
  (158, (1, .aload_n 0, 1, 0, 0, .null, [], none)),
  (159, (3, .getfield 173, 3, 12, 28, .null, [], none))],
 [(162, (3, .putfield 106, 3, 12, 19, .null, [], none)),
  (165, (1, .aload_n 0, 1, 0, 0, .null, [], none)),
  (166, (3, .getfield 170, 3, 12, 27, .null, [], none)),
  (169, (2, .ifCond .eq 20, 3, 189, 0, .null, [], none)),
  (172, (1, .aload_n 0, 1, 0, 0, .null, [], none)),
  (173, (3, .getfield 170, 3, 12, 27, .null, [], none)),
  (176, (0, .iconst 1, 1, 0, 0, (.int 1), [], none)),
  (177, (2, .if_icmp .eq 12, 3, 189, 0, .null, [], none)),
  (180, (1, .aload_n 0, 1, 0, 0, .null, [], none)),
  (181, (3, .getfield 170, 3, 12, 27, .null, [], none)),
  (184, (0, .bipush 6, 2, 0, 0, (.int 6), [], none)),
  (186, (2, .if_icmp .ne 18, 3, 204, 0, .null, [], none)),
  (189, (1, .aload_n 0, 1, 0, 0, .null, [], some [0])),
  (190, (0, .dup, 1, 0, 0, .null, [], none)),
  (191, (3, .getfield 109, 3, 12, 20, .null, [], none))],
 [(194, (0, .lconst 1, 1, 0, 0, (.long 1), [], none)),
  (195, (0, .ladd, 1, 0, 0, .null, [], none)),
  (196, (3, .putfield 109, 3, 12, 20, .null, [], none)),
  (199, (1, .aload_n 0, 1, 0, 0, .null, [], none)),
  (200, (3, .getfield 170, 3, 12, 27, .null, [], none)),
  (203, (5, .ireturn, 1, 0, 0, .null, [], none)),
  (204, (0, .iconst 0, 1, 0, 0, (.int 0), [], none)),
  (205, (1, .istore 6, 2, 0, 0, .null, [], none)),
  (207, (1, .iload 6, 2, 0, 0, .null, [], some [0, 2, 4, 6])),
  (209, (0, .bipush 16, 2, 0, 0, (.int 16), [], none)),
  (211, (2, .if_icmp .ge 23, 3, 234, 0, .null, [], none)),
  (214, (1, .aload_n 0, 1, 0, 0, .null, [], none)),
  (215, (3, .getfield 30, 3, 12, 16, .null, [], none)),
  (218, (1, .iload 6, 2, 0, 0, .null, [], none)),
  (220, (1, .aload_n 0, 1, 0, 0, .null, [], none)),
  (221, (3, .getfield 34, 3, 12, 17, .null, [], none))],
 [(224, (1, .iload 6, 2, 0, 0, .null, [], none)),
  (226, (3, .laload, 1, 0, 0, .null, [], none)),
  (227, (3, .lastore, 1, 0, 0, .null, [], none)),
  (228, (1, .iinc 6 1, 3, 0, 0, (.int 1), [], none)),
  (231, (2, .goto (-24), 3, 207, 0, .null, [], none)),
  (234, (1, .aload_n 0, 1, 0, 0, .null, [], none)),
  (235, (1, .lload 4, 2, 0, 0, .null, [], none)),
  (237, (4, .invokevirtual 84, 3, 174, 2, .null, [], none)),
  (240, (1, .aload_n 0, 1, 0, 0, .null, [], none)),
  (241, (1, .lload_n 2, 1, 0, 0, .null, [], none)),
  (242, (3, .putfield 90, 3, 12, 18, .null, [], none)),
  (245, (1, .aload_n 0, 1, 0, 0, .null, [], none)),
  (246, (3, .getfield 170, 3, 12, 27, .null, [], none)),
  (249, (5, .ireturn, 1, 0, 0, .null, [], none))]]
/- 183: FlagMachineModel.stopWith(IJ)V -/
noncomputable def tb_c183 : List (List (Nat × am_I)) := [[(0, (1, .aload_n 0, 1, 0, 0, .null, [], none)),
  (1, (3, .getfield 170, 3, 12, 27, .null, [], none)),
  (4, (2, .ifCond .eq 4, 3, 8, 0, .null, [], none)),
  (7, (5, .return_, 1, 0, 0, .null, [], none)),
  (8, (1, .aload_n 0, 1, 0, 0, .null, [], none)),
  (9, (1, .iload_n 1, 1, 0, 0, .null, [], none)),
  (10, (3, .putfield 170, 3, 12, 27, .null, [], none)),
  (13, (1, .aload_n 0, 1, 0, 0, .null, [], none)),
  (14, (1, .lload_n 2, 1, 0, 0, .null, [], none)),
  (15, (3, .putfield 173, 3, 12, 28, .null, [], none)),
  (18, (5, .return_, 1, 0, 0, .null, [], none))]]
/- 184: FlagMachineModel.store(JIJ)V -/
noncomputable def tb_c184 : List (List (Nat × am_I)) := [[(0, (0, .iconst 0, 1, 0, 0, (.int 0), [], none)),
  (1, (1, .istore 6, 2, 0, 0, .null, [], none)),
  (3, (1, .iload 6, 2, 0, 0, .null, [], some [0, 1, 3, 4, 6])),
  (5, (1, .iload_n 3, 1, 0, 0, .null, [], none)),
  (6, (2, .if_icmp .ge 28, 3, 34, 0, .null, [], none)),
  (9, (1, .aload_n 0, 1, 0, 0, .null, [], none)),
  (10, (1, .lload_n 1, 1, 0, 0, .null, [], none)),
  (11, (1, .iload 6, 2, 0, 0, .null, [], none)),
  (13, (0, .i2l, 1, 0, 0, .null, [], none)),
  (14, (0, .ladd, 1, 0, 0, .null, [], none)),
  (15, (0, .iconst 1, 1, 0, 0, (.int 1), [], none)),
  (16, (4, .invokevirtual 176, 3, 139, 3, .null, [], none)),
  (19, (2, .ifCond .ge 9, 3, 28, 0, .null, [], none)),
  (22, (1, .aload_n 0, 1, 0, 0, .null, [], none)),
  (23, (0, .iconst 3, 1, 0, 0, (.int 3), [], none)),
  (24, (1, .lload_n 1, 1, 0, 0, .null, [], none)),
  (25, (4, .invokevirtual 180, 3, 183, 3, .null, [], none)),
  (28, (1, .iinc 6 1, 3, 0, 0, (.int 1), [], some [0, 1, 3, 4, 6])),
  (31, (2, .goto (-28), 3, 3, 0, .null, [], none))],
 [(34, (0, .iconst 0, 1, 0, 0, (.int 0), [], none)),
  (35, (1, .istore 6, 2, 0, 0, .null, [], none)),
  (37, (1, .iload 6, 2, 0, 0, .null, [], some [0, 1, 3, 4, 6])),
  (39, (1, .iload_n 3, 1, 0, 0, .null, [], none)),
  (40, (2, .if_icmp .ge 39, 3, 79, 0, .null, [], none)),
  (43, (1, .aload_n 0, 1, 0, 0, .null, [], none)),
  (44, (3, .getfield 170, 3, 12, 27, .null, [], none)),
  (47, (2, .ifCond .ne 32, 3, 79, 0, .null, [], none)),
  (50, (1, .aload_n 0, 1, 0, 0, .null, [], none)),
  (51, (1, .aload_n 0, 1, 0, 0, .null, [], none)),
  (52, (1, .lload_n 1, 1, 0, 0, .null, [], none)),
  (53, (1, .iload 6, 2, 0, 0, .null, [], none)),
  (55, (0, .i2l, 1, 0, 0, .null, [], none)),
  (56, (0, .ladd, 1, 0, 0, .null, [], none)),
  (57, (0, .iconst 1, 1, 0, 0, (.int 1), [], none)),
  (58, (4, .invokevirtual 176, 3, 139, 3, .null, [], none)),
  (61, (1, .lload 4, 2, 0, 0, .null, [], none)),
  (63, (0, .bipush 8, 2, 0, 0, (.int 8), [], none))],
 [(65, (1, .iload 6, 2, 0, 0, .null, [], none)),
  (67, (0, .imul, 1, 0, 0, .null, [], none)),
  (68, (0, .lshr, 1, 0, 0, .null, [], none)),
  (69, (0, .l2i, 1, 0, 0, .null, [], none)),
  (70, (4, .invokevirtual 188, 3, 175, 3, .null, [], none)),
  (73, (1, .iinc 6 1, 3, 0, 0, (.int 1), [], none)),
  (76, (2, .goto (-39), 3, 37, 0, .null, [], none)),
  (79, (5, .return_, 1, 0, 0, .null, [], some []))]]
/- 185: FlagMachineModel.strings(II)V -/
noncomputable def tb_c185 : List (List (Nat × am_I)) := [[(0, (1, .iload_n 1, 1, 0, 0, .null, [], none)),
  (1, (0, .bipush 51, 2, 0, 0, (.int 51), [], none)),
  (3, (2, .if_icmp .le 7, 3, 10, 0, .null, [], none)),
  (6, (0, .iconst 1, 1, 0, 0, (.int 1), [], none)),
  (7, (2, .goto 4, 3, 11, 0, .null, [], none)),
  (10, (0, .iconst 0, 1, 0, 0, (.int 0), [], none)),
  (11, (1, .istore_n 3, 1, 0, 0, .null, [], some [0, 1, 2])),
  (12, (1, .iload_n 3, 1, 0, 0, .null, [], none)),
  (13, (2, .ifCond .eq 15, 3, 28, 0, .null, [], none)),
  (16, (1, .aload_n 0, 1, 0, 0, .null, [], none)),
  (17, (3, .getfield 30, 3, 12, 16, .null, [], none)),
  (20, (0, .iconst 1, 1, 0, 0, (.int 1), [], none)),
  (21, (3, .laload, 1, 0, 0, .null, [], none)),
  (22, (0, .lconst 0, 1, 0, 0, (.long 0), [], none)),
  (23, (0, .lcmp, 1, 0, 0, .null, [], none)),
  (24, (2, .ifCond .ne 4, 3, 28, 0, .null, [], none)),
  (27, (5, .return_, 1, 0, 0, .null, [], none)),
  (28, (1, .iload_n 1, 1, 0, 0, .null, [], some [0, 1, 2, 3])),
  (29, (0, .bipush 50, 2, 0, 0, (.int 50), [], none)),
  (31, (2, .if_icmp .eq 9, 3, 40, 0, .null, [], none))],
 [(34, (1, .iload_n 1, 1, 0, 0, .null, [], none)),
  (35, (0, .bipush 52, 2, 0, 0, (.int 52), [], none)),
  (37, (2, .if_icmp .ne 7, 3, 44, 0, .null, [], none)),
  (40, (0, .iconst 1, 1, 0, 0, (.int 1), [], some [0, 2, 3])),
  (41, (2, .goto 4, 3, 45, 0, .null, [], none)),
  (44, (0, .iconst 0, 1, 0, 0, (.int 0), [], none)),
  (45, (1, .istore 4, 2, 0, 0, .null, [], some [0, 2, 3])),
  (47, (1, .iload 4, 2, 0, 0, .null, [], none)),
  (49, (2, .ifCond .eq 18, 3, 67, 0, .null, [], none)),
  (52, (1, .aload_n 0, 1, 0, 0, .null, [], none)),
  (53, (1, .aload_n 0, 1, 0, 0, .null, [], none)),
  (54, (3, .getfield 30, 3, 12, 16, .null, [], none)),
  (57, (0, .bipush 6, 2, 0, 0, (.int 6), [], none)),
  (59, (3, .laload, 1, 0, 0, .null, [], none)),
  (60, (1, .iload_n 2, 1, 0, 0, .null, [], none)),
  (61, (4, .invokevirtual 207, 3, 152, 3, .null, [], none))],
 [(64, (2, .goto 13, 3, 77, 0, .null, [], none)),
  (67, (1, .aload_n 0, 1, 0, 0, .null, [], none)),
  (68, (3, .getfield 30, 3, 12, 16, .null, [], none)),
  (71, (0, .iconst 0, 1, 0, 0, (.int 0), [], none)),
  (72, (3, .laload, 1, 0, 0, .null, [], none)),
  (73, (1, .iload_n 2, 1, 0, 0, .null, [], none)),
  (74, (4, .invokestatic 200, 3, 135, 2, .null, [], none)),
  (77, (1, .lstore 5, 2, 0, 0, .null, [], some [0, 2, 3, 4])),
  (79, (1, .aload_n 0, 1, 0, 0, .null, [], none)),
  (80, (1, .aload_n 0, 1, 0, 0, .null, [], none)),
  (81, (3, .getfield 30, 3, 12, 16, .null, [], none)),
  (84, (0, .bipush 7, 2, 0, 0, (.int 7), [], none)),
  (86, (3, .laload, 1, 0, 0, .null, [], none)),
  (87, (1, .iload_n 2, 1, 0, 0, .null, [], none)),
  (88, (1, .lload 5, 2, 0, 0, .null, [], none)),
  (90, (4, .invokevirtual 216, 3, 184, 4, .null, [], none)),
  (93, (1, .iload 4, 2, 0, 0, .null, [], none)),
  (95, (2, .ifCond .eq 15, 3, 110, 0, .null, [], none))],
 [(98, (1, .aload_n 0, 1, 0, 0, .null, [], none)),
  (99, (3, .getfield 30, 3, 12, 16, .null, [], none)),
  (102, (0, .bipush 6, 2, 0, 0, (.int 6), [], none)),
  (104, (0, .dup2, 1, 0, 0, .null, [], none)),
  (105, (3, .laload, 1, 0, 0, .null, [], none)),
  (106, (1, .iload_n 2, 1, 0, 0, .null, [], none)),
  (107, (0, .i2l, 1, 0, 0, .null, [], none)),
  (108, (0, .ladd, 1, 0, 0, .null, [], none)),
  (109, (3, .lastore, 1, 0, 0, .null, [], none)),
  (110, (1, .aload_n 0, 1, 0, 0, .null, [], some [0, 2, 3])),
  (111, (3, .getfield 30, 3, 12, 16, .null, [], none)),
  (114, (0, .bipush 7, 2, 0, 0, (.int 7), [], none)),
  (116, (0, .dup2, 1, 0, 0, .null, [], none)),
  (117, (3, .laload, 1, 0, 0, .null, [], none)),
  (118, (1, .iload_n 2, 1, 0, 0, .null, [], none)),
  (119, (0, .i2l, 1, 0, 0, .null, [], none)),
  (120, (0, .ladd, 1, 0, 0, .null, [], none)),
  (121, (3, .lastore, 1, 0, 0, .null, [], none)),
  (122, (1, .iload_n 3, 1, 0, 0, .null, [], none)),
  (123, (2, .ifCond .ne 4, 3, 127, 0, .null, [], none)),
  (126, (5, .return_, 1, 0, 0, .null, [], none)),
  (127, (1, .aload_n 0, 1, 0, 0, .null, [], none))],
 [(128, (3, .getfield 30, 3, 12, 16, .null, [], none)),
  (131, (0, .iconst 1, 1, 0, 0, (.int 1), [], none)),
  (132, (0, .dup2, 1, 0, 0, .null, [], none)),
  (133, (3, .laload, 1, 0, 0, .null, [], none)),
  (134, (0, .lconst 1, 1, 0, 0, (.long 1), [], none)),
  (135, (0, .lsub, 1, 0, 0, .null, [], none)),
  (136, (3, .lastore, 1, 0, 0, .null, [], none)),
  (137, (1, .aload_n 0, 1, 0, 0, .null, [], none)),
  (138, (3, .getfield 30, 3, 12, 16, .null, [], none)),
  (141, (0, .iconst 1, 1, 0, 0, (.int 1), [], none)),
  (142, (3, .laload, 1, 0, 0, .null, [], none)),
  (143, (0, .lconst 0, 1, 0, 0, (.long 0), [], none)),
  (144, (0, .lcmp, 1, 0, 0, .null, [], none)),
  (145, (2, .ifCond .eq 17, 3, 162, 0, .null, [], none)),
  (148, (1, .aload_n 0, 1, 0, 0, .null, [], none)),
  (149, (0, .dup, 1, 0, 0, .null, [], none)),
  (150, (3, .getfield 90, 3, 12, 18, .null, [], none)),
  (153, (1, .aload_n 0, 1, 0, 0, .null, [], none)),
  (154, (3, .getfield 305, 3, 12, 37, .null, [], none)),
  (157, (0, .i2l, 1, 0, 0, .null, [], none)),
  (158, (0, .lsub, 1, 0, 0, .null, [], none)),
  (159, (3, .putfield 90, 3, 12, 18, .null, [], none))],
 [(162, (5, .return_, 1, 0, 0, .null, [], some []))]]
/- 186: FlagMachineModel.subtract(JJZI)J -/
noncomputable def tb_c186 : List (List (Nat × am_I)) := [[(0, (1, .lload_n 1, 1, 0, 0, .null, [], none)),
  (1, (1, .lload_n 3, 1, 0, 0, .null, [], none)),
  (2, (0, .lsub, 1, 0, 0, .null, [], none)),
  (3, (1, .iload 5, 2, 0, 0, .null, [], none)),
  (5, (2, .ifCond .eq 7, 3, 12, 0, .null, [], none)),
  (8, (0, .lconst 1, 1, 0, 0, (.long 1), [], none)),
  (9, (2, .goto 4, 3, 13, 0, .null, [], none)),
  (12, (0, .lconst 0, 1, 0, 0, (.long 0), [], none)),
  (13, (0, .lsub, 1, 0, 0, .null, [], some [0, 1, 3, 5, 6])),
  (14, (1, .iload 6, 2, 0, 0, .null, [], none)),
  (16, (4, .invokestatic 200, 3, 135, 2, .null, [], none)),
  (19, (1, .lstore 7, 2, 0, 0, .null, [], none)),
  (21, (1, .aload_n 0, 1, 0, 0, .null, [], none)),
  (22, (1, .lload_n 1, 1, 0, 0, .null, [], none)),
  (23, (1, .lload_n 3, 1, 0, 0, .null, [], none)),
  (24, (4, .invokestatic 233, 3, 131, 2, .null, [], none)),
  (27, (2, .ifCond .ne 14, 3, 41, 0, .null, [], none)),
  (30, (1, .iload 5, 2, 0, 0, .null, [], none))],
 [(32, (2, .ifCond .eq 13, 3, 45, 0, .null, [], none)),
  (35, (1, .lload_n 1, 1, 0, 0, .null, [], none)),
  (36, (1, .lload_n 3, 1, 0, 0, .null, [], none)),
  (37, (0, .lcmp, 1, 0, 0, .null, [], none)),
  (38, (2, .ifCond .ne 7, 3, 45, 0, .null, [], none)),
  (41, (0, .iconst 1, 1, 0, 0, (.int 1), [], some [0, 1, 3, 6, 7])),
  (42, (2, .goto 4, 3, 46, 0, .null, [], none)),
  (45, (0, .iconst 0, 1, 0, 0, (.int 0), [], some [0, 1, 3, 6, 7])),
  (46, (3, .putfield 237, 3, 12, 21, .null, [], some [0, 1, 3, 6, 7])),
  (49, (1, .aload_n 0, 1, 0, 0, .null, [], none)),
  (50, (1, .lload_n 1, 1, 0, 0, .null, [], none)),
  (51, (1, .lload_n 3, 1, 0, 0, .null, [], none)),
  (52, (0, .lxor, 1, 0, 0, .null, [], none)),
  (53, (1, .lload_n 1, 1, 0, 0, .null, [], none)),
  (54, (1, .lload 7, 2, 0, 0, .null, [], none)),
  (56, (0, .lxor, 1, 0, 0, .null, [], none)),
  (57, (0, .land, 1, 0, 0, .null, [], none)),
  (58, (1, .iload 6, 2, 0, 0, .null, [], none)),
  (60, (4, .invokestatic 224, 3, 189, 2, .null, [], none)),
  (63, (0, .lconst 1, 1, 0, 0, (.long 1), [], none))],
 [(64, (0, .lcmp, 1, 0, 0, .null, [], none)),
  (65, (2, .ifCond .ne 7, 3, 72, 0, .null, [], none)),
  (68, (0, .iconst 1, 1, 0, 0, (.int 1), [], none)),
  (69, (2, .goto 4, 3, 73, 0, .null, [], none)),
  (72, (0, .iconst 0, 1, 0, 0, (.int 0), [], none)),
  (73, (3, .putfield 240, 3, 12, 25, .null, [], some [0, 6, 7])),
  (76, (1, .aload_n 0, 1, 0, 0, .null, [], none)),
  (77, (1, .lload 7, 2, 0, 0, .null, [], none)),
  (79, (1, .iload 6, 2, 0, 0, .null, [], none)),
  (81, (4, .invokevirtual 243, 3, 191, 3, .null, [], none)),
  (84, (1, .lload 7, 2, 0, 0, .null, [], none)),
  (86, (5, .lreturn, 1, 0, 0, .null, [], none))]]
/- 187: FlagMachineModel.take(II)J -/
noncomputable def tb_c187 : List (List (Nat × am_I)) := [[(0, (1, .aload_n 0, 1, 0, 0, .null, [], none)),
  (1, (1, .iload_n 1, 1, 0, 0, .null, [], none)),
  (2, (4, .invokevirtual 194, 3, 151, 2, .null, [], none)),
  (5, (1, .istore_n 3, 1, 0, 0, .null, [], none)),
  (6, (1, .iload_n 3, 1, 0, 0, .null, [], none)),
  (7, (0, .iconst 1, 1, 0, 0, (.int 1), [], none)),
  (8, (2, .if_icmp .ne 18, 3, 26, 0, .null, [], none)),
  (11, (1, .aload_n 0, 1, 0, 0, .null, [], none)),
  (12, (3, .getfield 30, 3, 12, 16, .null, [], none)),
  (15, (1, .aload_n 0, 1, 0, 0, .null, [], none)),
  (16, (1, .iload_n 1, 1, 0, 0, .null, [], none)),
  (17, (4, .invokevirtual 197, 3, 171, 2, .null, [], none)),
  (20, (3, .laload, 1, 0, 0, .null, [], none)),
  (21, (1, .iload_n 2, 1, 0, 0, .null, [], none)),
  (22, (4, .invokestatic 200, 3, 135, 2, .null, [], none)),
  (25, (5, .lreturn, 1, 0, 0, .null, [], none)),
  (26, (1, .iload_n 3, 1, 0, 0, .null, [], none)),
  (27, (0, .iconst 2, 1, 0, 0, (.int 2), [], none)),
  (28, (2, .if_icmp .ne 15, 3, 43, 0, .null, [], none)),
  (31, (1, .aload_n 0, 1, 0, 0, .null, [], none))],
 [(32, (1, .aload_n 0, 1, 0, 0, .null, [], none)),
  (33, (3, .getfield 204, 3, 12, 29, .null, [], none)),
  (36, (1, .iload_n 2, 1, 0, 0, .null, [], none)),
  (37, (4, .invokevirtual 207, 3, 152, 3, .null, [], none)),
  (40, (2, .goto 11, 3, 51, 0, .null, [], none)),
  (43, (1, .aload_n 0, 1, 0, 0, .null, [], none)),
  (44, (3, .getfield 123, 3, 12, 38, .null, [], none)),
  (47, (1, .iload_n 2, 1, 0, 0, .null, [], none)),
  (48, (4, .invokestatic 200, 3, 135, 2, .null, [], none)),
  (51, (5, .lreturn, 1, 0, 0, .null, [], some []))]]
/- 188: FlagMachineModel.together(II)V -/
noncomputable def tb_c188 : List (List (Nat × am_I)) := [[(0, (1, .aload_n 0, 1, 0, 0, .null, [], none)),
  (1, (0, .iconst 0, 1, 0, 0, (.int 0), [], none)),
  (2, (1, .iload_n 2, 1, 0, 0, .null, [], none)),
  (3, (4, .invokevirtual 257, 3, 187, 3, .null, [], none)),
  (6, (1, .lstore_n 3, 1, 0, 0, .null, [], none)),
  (7, (1, .aload_n 0, 1, 0, 0, .null, [], none)),
  (8, (0, .iconst 1, 1, 0, 0, (.int 1), [], none)),
  (9, (1, .iload_n 2, 1, 0, 0, .null, [], none)),
  (10, (4, .invokevirtual 257, 3, 187, 3, .null, [], none)),
  (13, (1, .lstore 5, 2, 0, 0, .null, [], none)),
  (15, (1, .iload_n 1, 1, 0, 0, .null, [], none)),
  (16, (0, .bipush 48, 2, 0, 0, (.int 48), [], none)),
  (18, (2, .if_icmp .ne 30, 3, 48, 0, .null, [], none)),
  (21, (1, .aload_n 0, 1, 0, 0, .null, [], none)),
  (22, (1, .lload_n 3, 1, 0, 0, .null, [], none)),
  (23, (1, .lload 5, 2, 0, 0, .null, [], none)),
  (25, (0, .iconst 0, 1, 0, 0, (.int 0), [], none)),
  (26, (1, .iload_n 2, 1, 0, 0, .null, [], none)),
  (27, (4, .invokevirtual 261, 3, 126, 5, .null, [], none)),
  (30, (1, .lstore 7, 2, 0, 0, .null, [], none))],
 [(32, (1, .aload_n 0, 1, 0, 0, .null, [], none)),
  (33, (0, .iconst 1, 1, 0, 0, (.int 1), [], none)),
  (34, (1, .iload_n 2, 1, 0, 0, .null, [], none)),
  (35, (1, .lload_n 3, 1, 0, 0, .null, [], none)),
  (36, (4, .invokevirtual 268, 3, 169, 4, .null, [], none)),
  (39, (1, .aload_n 0, 1, 0, 0, .null, [], none)),
  (40, (0, .iconst 0, 1, 0, 0, (.int 0), [], none)),
  (41, (1, .iload_n 2, 1, 0, 0, .null, [], none)),
  (42, (1, .lload 7, 2, 0, 0, .null, [], none)),
  (44, (4, .invokevirtual 268, 3, 169, 4, .null, [], none)),
  (47, (5, .return_, 1, 0, 0, .null, [], none)),
  (48, (1, .aload_n 0, 1, 0, 0, .null, [], none)),
  (49, (3, .getfield 30, 3, 12, 16, .null, [], none)),
  (52, (0, .iconst 0, 1, 0, 0, (.int 0), [], none)),
  (53, (3, .laload, 1, 0, 0, .null, [], none)),
  (54, (1, .iload_n 2, 1, 0, 0, .null, [], none)),
  (55, (4, .invokestatic 200, 3, 135, 2, .null, [], none)),
  (58, (1, .lstore 7, 2, 0, 0, .null, [], none)),
  (60, (1, .aload_n 0, 1, 0, 0, .null, [], none)),
  (61, (1, .lload 7, 2, 0, 0, .null, [], none)),
  (63, (1, .lload_n 3, 1, 0, 0, .null, [], none))],
 [(64, (0, .iconst 0, 1, 0, 0, (.int 0), [], none)),
  (65, (1, .iload_n 2, 1, 0, 0, .null, [], none)),
  (66, (4, .invokevirtual 265, 3, 186, 5, .null, [], none)),
  (69, (0, .pop2, 1, 0, 0, .null, [], none)),
  (70, (1, .lload 7, 2, 0, 0, .null, [], none)),
  (72, (1, .lload_n 3, 1, 0, 0, .null, [], none)),
  (73, (0, .lcmp, 1, 0, 0, .null, [], none)),
  (74, (2, .ifCond .ne 14, 3, 88, 0, .null, [], none)),
  (77, (1, .aload_n 0, 1, 0, 0, .null, [], none)),
  (78, (0, .iconst 0, 1, 0, 0, (.int 0), [], none)),
  (79, (1, .iload_n 2, 1, 0, 0, .null, [], none)),
  (80, (1, .lload 5, 2, 0, 0, .null, [], none)),
  (82, (4, .invokevirtual 268, 3, 169, 4, .null, [], none)),
  (85, (2, .goto 10, 3, 95, 0, .null, [], none)),
  (88, (1, .aload_n 0, 1, 0, 0, .null, [], none)),
  (89, (0, .iconst 0, 1, 0, 0, (.int 0), [], none)),
  (90, (1, .iload_n 2, 1, 0, 0, .null, [], none)),
  (91, (1, .lload_n 3, 1, 0, 0, .null, [], none)),
  (92, (4, .invokevirtual 212, 3, 176, 4, .null, [], none)),
  (95, (5, .return_, 1, 0, 0, .null, [], some []))]]
/- 189: FlagMachineModel.upper(JI)J -/
noncomputable def tb_c189 : List (List (Nat × am_I)) := [[(0, (1, .lload_n 0, 1, 0, 0, .null, [], none)),
  (1, (0, .bipush 8, 2, 0, 0, (.int 8), [], none)),
  (3, (1, .iload_n 2, 1, 0, 0, .null, [], none)),
  (4, (0, .imul, 1, 0, 0, .null, [], none)),
  (5, (0, .iconst 1, 1, 0, 0, (.int 1), [], none)),
  (6, (0, .isub, 1, 0, 0, .null, [], none)),
  (7, (0, .lushr, 1, 0, 0, .null, [], none)),
  (8, (0, .lconst 1, 1, 0, 0, (.long 1), [], none)),
  (9, (0, .land, 1, 0, 0, .null, [], none)),
  (10, (5, .lreturn, 1, 0, 0, .null, [], none))]]
/- 190: FlagMachineModel.value()J -/
noncomputable def tb_c190 : List (List (Nat × am_I)) := [[(0, (1, .aload_n 0, 1, 0, 0, .null, [], none)),
  (1, (0, .iconst 0, 1, 0, 0, (.int 0), [], none)),
  (2, (3, .putfield 61, 3, 12, 0, .null, [], none)),
  (5, (1, .aload_n 0, 1, 0, 0, .null, [], none)),
  (6, (3, .getfield 106, 3, 12, 19, .null, [], none)),
  (9, (5, .lreturn, 1, 0, 0, .null, [], none))]]
/- 191: FlagMachineModel.zsp(JI)V -/
noncomputable def tb_c191 : List (List (Nat × am_I)) := [[(0, (1, .aload_n 0, 1, 0, 0, .null, [], none)),
  (1, (1, .lload_n 1, 1, 0, 0, .null, [], none)),
  (2, (1, .iload_n 3, 1, 0, 0, .null, [], none)),
  (3, (4, .invokestatic 200, 3, 135, 2, .null, [], none)),
  (6, (0, .lconst 0, 1, 0, 0, (.long 0), [], none)),
  (7, (0, .lcmp, 1, 0, 0, .null, [], none)),
  (8, (2, .ifCond .ne 7, 3, 15, 0, .null, [], none)),
  (11, (0, .iconst 1, 1, 0, 0, (.int 1), [], none)),
  (12, (2, .goto 4, 3, 16, 0, .null, [], none)),
  (15, (0, .iconst 0, 1, 0, 0, (.int 0), [], none)),
  (16, (3, .putfield 220, 3, 12, 23, .null, [], some [0, 1, 3])),
  (19, (1, .aload_n 0, 1, 0, 0, .null, [], none)),
  (20, (1, .lload_n 1, 1, 0, 0, .null, [], none)),
  (21, (1, .iload_n 3, 1, 0, 0, .null, [], none)),
  (22, (4, .invokestatic 224, 3, 189, 2, .null, [], none)),
  (25, (0, .lconst 1, 1, 0, 0, (.long 1), [], none)),
  (26, (0, .lcmp, 1, 0, 0, .null, [], none)),
  (27, (2, .ifCond .ne 7, 3, 34, 0, .null, [], none)),
  (30, (0, .iconst 1, 1, 0, 0, (.int 1), [], none)),
  (31, (2, .goto 4, 3, 35, 0, .null, [], none))],
 [(34, (0, .iconst 0, 1, 0, 0, (.int 0), [], none)),
  (35, (3, .putfield 227, 3, 12, 24, .null, [], some [0, 1])),
  (38, (0, .iconst 0, 1, 0, 0, (.int 0), [], none)),
  (39, (1, .istore 4, 2, 0, 0, .null, [], none)),
  (41, (0, .iconst 0, 1, 0, 0, (.int 0), [], none)),
  (42, (1, .istore 5, 2, 0, 0, .null, [], none)),
  (44, (1, .iload 5, 2, 0, 0, .null, [], some [0, 1, 4, 5])),
  (46, (0, .bipush 8, 2, 0, 0, (.int 8), [], none)),
  (48, (2, .if_icmp .ge 21, 3, 69, 0, .null, [], none)),
  (51, (1, .iload 4, 2, 0, 0, .null, [], none)),
  (53, (1, .lload_n 1, 1, 0, 0, .null, [], none)),
  (54, (1, .iload 5, 2, 0, 0, .null, [], none)),
  (56, (0, .lshr, 1, 0, 0, .null, [], none)),
  (57, (0, .lconst 1, 1, 0, 0, (.long 1), [], none)),
  (58, (0, .land, 1, 0, 0, .null, [], none)),
  (59, (0, .l2i, 1, 0, 0, .null, [], none)),
  (60, (0, .iadd, 1, 0, 0, .null, [], none)),
  (61, (1, .istore 4, 2, 0, 0, .null, [], none)),
  (63, (1, .iinc 5 1, 3, 0, 0, (.int 1), [], none))],
 [(66, (2, .goto (-22), 3, 44, 0, .null, [], none)),
  (69, (1, .aload_n 0, 1, 0, 0, .null, [], none)),
  (70, (1, .iload 4, 2, 0, 0, .null, [], none)),
  (72, (0, .iconst 2, 1, 0, 0, (.int 2), [], none)),
  (73, (0, .irem, 1, 0, 0, .null, [], none)),
  (74, (2, .ifCond .ne 7, 3, 81, 0, .null, [], none)),
  (77, (0, .iconst 1, 1, 0, 0, (.int 1), [], none)),
  (78, (2, .goto 4, 3, 82, 0, .null, [], none)),
  (81, (0, .iconst 0, 1, 0, 0, (.int 0), [], none)),
  (82, (3, .putfield 230, 3, 12, 22, .null, [], some [])),
  (85, (5, .return_, 1, 0, 0, .null, [], none))]]
/- 192: java/lang/Long.bitCount(J)I -/
noncomputable def tb_c192 : List (List (Nat × am_I)) := [[(0, (1, .lload_n 0, 1, 0, 0, .null, [], none)),
  (1, (1, .lload_n 0, 1, 0, 0, .null, [], none)),
  (2, (0, .iconst 1, 1, 0, 0, (.int 1), [], none)),
  (3, (0, .lushr, 1, 0, 0, .null, [], none)),
  (4, (0, .ldc2_w 314, 3, 0, 0, (.long 6148914691236517205), [], none)),
  (7, (0, .land, 1, 0, 0, .null, [], none)),
  (8, (0, .lsub, 1, 0, 0, .null, [], none)),
  (9, (1, .lstore_n 0, 1, 0, 0, .null, [], none)),
  (10, (1, .lload_n 0, 1, 0, 0, .null, [], none)),
  (11, (0, .ldc2_w 316, 3, 0, 0, (.long 3689348814741910323), [], none)),
  (14, (0, .land, 1, 0, 0, .null, [], none)),
  (15, (1, .lload_n 0, 1, 0, 0, .null, [], none)),
  (16, (0, .iconst 2, 1, 0, 0, (.int 2), [], none)),
  (17, (0, .lushr, 1, 0, 0, .null, [], none)),
  (18, (0, .ldc2_w 316, 3, 0, 0, (.long 3689348814741910323), [], none)),
  (21, (0, .land, 1, 0, 0, .null, [], none)),
  (22, (0, .ladd, 1, 0, 0, .null, [], none)),
  (23, (1, .lstore_n 0, 1, 0, 0, .null, [], none)),
  (24, (1, .lload_n 0, 1, 0, 0, .null, [], none)),
  (25, (1, .lload_n 0, 1, 0, 0, .null, [], none)),
  (26, (0, .iconst 4, 1, 0, 0, (.int 4), [], none)),
  (27, (0, .lushr, 1, 0, 0, .null, [], none)),
  (28, (0, .ladd, 1, 0, 0, .null, [], none)),
  (29, (0, .ldc2_w 318, 3, 0, 0, (.long 1085102592571150095), [], none))],
 [(32, (0, .land, 1, 0, 0, .null, [], none)),
  (33, (1, .lstore_n 0, 1, 0, 0, .null, [], none)),
  (34, (1, .lload_n 0, 1, 0, 0, .null, [], none)),
  (35, (1, .lload_n 0, 1, 0, 0, .null, [], none)),
  (36, (0, .bipush 8, 2, 0, 0, (.int 8), [], none)),
  (38, (0, .lushr, 1, 0, 0, .null, [], none)),
  (39, (0, .ladd, 1, 0, 0, .null, [], none)),
  (40, (1, .lstore_n 0, 1, 0, 0, .null, [], none)),
  (41, (1, .lload_n 0, 1, 0, 0, .null, [], none)),
  (42, (1, .lload_n 0, 1, 0, 0, .null, [], none)),
  (43, (0, .bipush 16, 2, 0, 0, (.int 16), [], none)),
  (45, (0, .lushr, 1, 0, 0, .null, [], none)),
  (46, (0, .ladd, 1, 0, 0, .null, [], none)),
  (47, (1, .lstore_n 0, 1, 0, 0, .null, [], none)),
  (48, (1, .lload_n 0, 1, 0, 0, .null, [], none)),
  (49, (1, .lload_n 0, 1, 0, 0, .null, [], none)),
  (50, (0, .bipush 32, 2, 0, 0, (.int 32), [], none)),
  (52, (0, .lushr, 1, 0, 0, .null, [], none)),
  (53, (0, .ladd, 1, 0, 0, .null, [], none)),
  (54, (1, .lstore_n 0, 1, 0, 0, .null, [], none)),
  (55, (1, .lload_n 0, 1, 0, 0, .null, [], none)),
  (56, (0, .l2i, 1, 0, 0, .null, [], none)),
  (57, (0, .bipush 127, 2, 0, 0, (.int 127), [], none)),
  (59, (0, .iand, 1, 0, 0, .null, [], none)),
  (60, (5, .ireturn, 1, 0, 0, .null, [], none))]]
/- 193: java/util/Arrays.fill([BB)V -/
noncomputable def tb_c193 : List (List (Nat × am_I)) := [[(0, (0, .iconst 0, 1, 0, 0, (.int 0), [], none)),
  (1, (1, .istore_n 2, 1, 0, 0, .null, [], none)),
  (2, (1, .aload_n 0, 1, 0, 0, .null, [], none)),
  (3, (3, .arraylength, 1, 1, 0, .null, [], none)),
  (4, (1, .istore_n 3, 1, 0, 0, .null, [], none)),
  (5, (1, .iload_n 2, 1, 0, 0, .null, [], some [0, 1, 2, 3])),
  (6, (1, .iload_n 3, 1, 0, 0, .null, [], none)),
  (7, (2, .if_icmp .ge 13, 3, 20, 0, .null, [], none)),
  (10, (1, .aload_n 0, 1, 0, 0, .null, [], none)),
  (11, (1, .iload_n 2, 1, 0, 0, .null, [], none)),
  (12, (1, .iload_n 1, 1, 0, 0, .null, [], none)),
  (13, (3, .bastore, 1, 1, 0, .null, [], none)),
  (14, (1, .iinc 2 1, 3, 0, 0, (.int 1), [], none)),
  (17, (2, .goto (-12), 3, 5, 0, .null, [], none)),
  (20, (5, .return_, 1, 0, 0, .null, [], none))]]
/- 194: java/util/Arrays.fill([BIIB)V -/
noncomputable def tb_c194 : List (List (Nat × am_I)) := [[(0, (1, .aload_n 0, 1, 0, 0, .null, [], none)),
  (1, (3, .arraylength, 1, 1, 0, .null, [], none)),
  (2, (1, .iload_n 1, 1, 0, 0, .null, [], none)),
  (3, (1, .iload_n 2, 1, 0, 0, .null, [], none)),
  (4, (4, .invokestatic 13, 3, 196, 3, .null, [], none)),
  (7, (1, .iload_n 1, 1, 0, 0, .null, [], none)),
  (8, (1, .istore 4, 2, 0, 0, .null, [], none)),
  (10, (1, .iload 4, 2, 0, 0, .null, [], some [0, 2, 3, 4])),
  (12, (1, .iload_n 2, 1, 0, 0, .null, [], none)),
  (13, (2, .if_icmp .ge 14, 3, 27, 0, .null, [], none)),
  (16, (1, .aload_n 0, 1, 0, 0, .null, [], none)),
  (17, (1, .iload 4, 2, 0, 0, .null, [], none)),
  (19, (1, .iload_n 3, 1, 0, 0, .null, [], none)),
  (20, (3, .bastore, 1, 1, 0, .null, [], none)),
  (21, (1, .iinc 4 1, 3, 0, 0, (.int 1), [], none)),
  (24, (2, .goto (-14), 3, 10, 0, .null, [], none)),
  (27, (5, .return_, 1, 0, 0, .null, [], none))]]
/- 195: java/util/Arrays.fill([JJ)V -/
noncomputable def tb_c195 : List (List (Nat × am_I)) := [[(0, (0, .iconst 0, 1, 0, 0, (.int 0), [], none)),
  (1, (1, .istore_n 3, 1, 0, 0, .null, [], none)),
  (2, (1, .aload_n 0, 1, 0, 0, .null, [], none)),
  (3, (3, .arraylength, 1, 3, 0, .null, [], none)),
  (4, (1, .istore 4, 2, 0, 0, .null, [], none)),
  (6, (1, .iload_n 3, 1, 0, 0, .null, [], some [0, 1, 3, 4])),
  (7, (1, .iload 4, 2, 0, 0, .null, [], none)),
  (9, (2, .if_icmp .ge 13, 3, 22, 0, .null, [], none)),
  (12, (1, .aload_n 0, 1, 0, 0, .null, [], none)),
  (13, (1, .iload_n 3, 1, 0, 0, .null, [], none)),
  (14, (1, .lload_n 1, 1, 0, 0, .null, [], none)),
  (15, (3, .lastore, 1, 0, 0, .null, [], none)),
  (16, (1, .iinc 3 1, 3, 0, 0, (.int 1), [], none)),
  (19, (2, .goto (-13), 3, 6, 0, .null, [], none)),
  (22, (5, .return_, 1, 0, 0, .null, [], none))]]
/- 196: java/util/Arrays.rangeCheck(III)V -/
noncomputable def tb_c196 : List (List (Nat × am_I)) := [[(0, (1, .iload_n 1, 1, 0, 0, .null, [], none)),
  (1, (1, .iload_n 2, 1, 0, 0, .null, [], none)),
  (2, (2, .if_icmp .le 44, 3, 46, 0, .null, [], none)),
  (8, (0, .dup, 1, 0, 0, .null, [], none)),
  (12, (0, .dup, 1, 0, 0, .null, [], none)),
  (21, (1, .iload_n 1, 1, 0, 0, .null, [], none)),
  (30, (1, .iload_n 2, 1, 0, 0, .null, [], none))],
 [(46, (1, .iload_n 1, 1, 0, 0, .null, [], none)),
  (47, (2, .ifCond .ge 12, 3, 59, 0, .null, [], none)),
  (53, (0, .dup, 1, 0, 0, .null, [], none)),
  (54, (1, .iload_n 1, 1, 0, 0, .null, [], none)),
  (59, (1, .iload_n 2, 1, 0, 0, .null, [], none)),
  (60, (1, .iload_n 0, 1, 0, 0, .null, [], none)),
  (61, (2, .if_icmp .le 12, 3, 73, 0, .null, [], none))],
 [(67, (0, .dup, 1, 0, 0, .null, [], none)),
  (68, (1, .iload_n 2, 1, 0, 0, .null, [], none)),
  (73, (5, .return_, 1, 0, 0, .null, [], none))]]
noncomputable def tb_g0 : List (List (List (Nat × am_I))) := [tb_c0, tb_c1, tb_c2, tb_c3, tb_c4, tb_c5, tb_c6, tb_c7, tb_c8, tb_c9, tb_c10, tb_c11, tb_c12, tb_c13, tb_c14, tb_c15]
noncomputable def tb_g1 : List (List (List (Nat × am_I))) := [tb_c16, tb_c17, tb_c18, tb_c19, tb_c20, tb_c21, tb_c22, tb_c23, tb_c24, tb_c25, tb_c26, tb_c27, tb_c28, tb_c29, tb_c30, tb_c31]
noncomputable def tb_g2 : List (List (List (Nat × am_I))) := [tb_c32, tb_c33, tb_c34, tb_c35, tb_c36, tb_c37, tb_c38, tb_c39, tb_c40, tb_c41, tb_c42, tb_c43, tb_c44, tb_c45, tb_c46, tb_c47]
noncomputable def tb_g3 : List (List (List (Nat × am_I))) := [tb_c48, tb_c49, tb_c50, tb_c51, tb_c52, tb_c53, tb_c54, tb_c55, tb_c56, tb_c57, tb_c58, tb_c59, tb_c60, tb_c61, tb_c62, tb_c63]
noncomputable def tb_g4 : List (List (List (Nat × am_I))) := [tb_c64, tb_c65, tb_c66, tb_c67, tb_c68, tb_c69, tb_c70, tb_c71, tb_c72, tb_c73, tb_c74, tb_c75, tb_c76, tb_c77, tb_c78, tb_c79]
noncomputable def tb_g5 : List (List (List (Nat × am_I))) := [tb_c80, tb_c81, tb_c82, tb_c83, tb_c84, tb_c85, tb_c86, tb_c87, tb_c88, tb_c89, tb_c90, tb_c91, tb_c92, tb_c93, tb_c94, tb_c95]
noncomputable def tb_g6 : List (List (List (Nat × am_I))) := [tb_c96, tb_c97, tb_c98, tb_c99, tb_c100, tb_c101, tb_c102, tb_c103, tb_c104, tb_c105, tb_c106, tb_c107, tb_c108, tb_c109, tb_c110, tb_c111]
noncomputable def tb_g7 : List (List (List (Nat × am_I))) := [tb_c112, tb_c113, tb_c114, tb_c115, tb_c116, tb_c117, tb_c118, tb_c119, tb_c120, tb_c121, tb_c122, tb_c123, tb_c124, tb_c125, tb_c126, tb_c127]
noncomputable def tb_g8 : List (List (List (Nat × am_I))) := [tb_c128, tb_c129, tb_c130, tb_c131, tb_c132, tb_c133, tb_c134, tb_c135, tb_c136, tb_c137, tb_c138, tb_c139, tb_c140, tb_c141, tb_c142, tb_c143]
noncomputable def tb_g9 : List (List (List (Nat × am_I))) := [tb_c144, tb_c145, tb_c146, tb_c147, tb_c148, tb_c149, tb_c150, tb_c151, tb_c152, tb_c153, tb_c154, tb_c155, tb_c156, tb_c157, tb_c158, tb_c159]
noncomputable def tb_g10 : List (List (List (Nat × am_I))) := [tb_c160, tb_c161, tb_c162, tb_c163, tb_c164, tb_c165, tb_c166, tb_c167, tb_c168, tb_c169, tb_c170, tb_c171, tb_c172, tb_c173, tb_c174, tb_c175]
noncomputable def tb_g11 : List (List (List (Nat × am_I))) := [tb_c176, tb_c177, tb_c178, tb_c179, tb_c180, tb_c181, tb_c182, tb_c183, tb_c184, tb_c185, tb_c186, tb_c187, tb_c188, tb_c189, tb_c190, tb_c191]
noncomputable def tb_g12 : List (List (List (Nat × am_I))) := [tb_c192, tb_c193, tb_c194, tb_c195, tb_c196]
noncomputable def tb_cs : List (List (List (List (Nat × am_I)))) := [tb_g0, tb_g1, tb_g2, tb_g3, tb_g4, tb_g5, tb_g6, tb_g7, tb_g8, tb_g9, tb_g10, tb_g11, tb_g12]
noncomputable def tb_code (mi : Nat) : List (List (Nat × am_I)) := (tb_cs.getD (mi / 16) []).getD (mi % 16) []
noncomputable def tb_T (mi pc : Nat) : Option am_I := bif Nat.blt mi 197 then am_find pc ((tb_code mi).getD (pc / 32) []) else none
end
section
/-! PRINTED by wip/tools/gen.py: the words of the table stand in the Statement's -/
abbrev tb_tbl : List Cond := lw_tbl.filter goodWord
abbrev tb_nst : List Cond := lw_tbl.filter am_isN
theorem tb_i0 {i : Nat} {w : Cond} (h : (k2_sels lw_privs)[i]? = some w) (g : goodWord w = true) : w ∈ tb_tbl := List.mem_filter.mpr ⟨List.mem_append_left _ (List.mem_of_getElem? h), g⟩
theorem tb_t1_in {i : Nat} {w : Cond} (h : tables_1_1[i]? = some w) : w ∈ lw_tbl := List.mem_append_right _ (List.mem_append_left _ (List.mem_of_getElem? h))
theorem tb_i1 {i : Nat} {w : Cond} (h : tables_1_1[i]? = some w) (g : goodWord w = true) : w ∈ tb_tbl := List.mem_filter.mpr ⟨tb_t1_in h, g⟩
theorem tb_n1 {i : Nat} {w : Cond} (h : tables_1_1[i]? = some w) (g : am_isN w = true) : w ∈ tb_nst := List.mem_filter.mpr ⟨tb_t1_in h, g⟩
theorem tb_t2_in {i : Nat} {w : Cond} (h : tables_1_2[i]? = some w) : w ∈ lw_tbl := List.mem_append_right _ (List.mem_append_right _ (List.mem_append_left _ (List.mem_of_getElem? h)))
theorem tb_i2 {i : Nat} {w : Cond} (h : tables_1_2[i]? = some w) (g : goodWord w = true) : w ∈ tb_tbl := List.mem_filter.mpr ⟨tb_t2_in h, g⟩
theorem tb_n2 {i : Nat} {w : Cond} (h : tables_1_2[i]? = some w) (g : am_isN w = true) : w ∈ tb_nst := List.mem_filter.mpr ⟨tb_t2_in h, g⟩
theorem tb_t3_in {i : Nat} {w : Cond} (h : tables_1_3[i]? = some w) : w ∈ lw_tbl := List.mem_append_right _ (List.mem_append_right _ (List.mem_append_right _ (List.mem_append_left _ (List.mem_of_getElem? h))))
theorem tb_i3 {i : Nat} {w : Cond} (h : tables_1_3[i]? = some w) (g : goodWord w = true) : w ∈ tb_tbl := List.mem_filter.mpr ⟨tb_t3_in h, g⟩
theorem tb_n3 {i : Nat} {w : Cond} (h : tables_1_3[i]? = some w) (g : am_isN w = true) : w ∈ tb_nst := List.mem_filter.mpr ⟨tb_t3_in h, g⟩
theorem tb_t4_in {i : Nat} {w : Cond} (h : tables_1_4[i]? = some w) : w ∈ lw_tbl := List.mem_append_right _ (List.mem_append_right _ (List.mem_append_right _ (List.mem_append_right _ (List.mem_append_left _ (List.mem_of_getElem? h)))))
theorem tb_i4 {i : Nat} {w : Cond} (h : tables_1_4[i]? = some w) (g : goodWord w = true) : w ∈ tb_tbl := List.mem_filter.mpr ⟨tb_t4_in h, g⟩
theorem tb_n4 {i : Nat} {w : Cond} (h : tables_1_4[i]? = some w) (g : am_isN w = true) : w ∈ tb_nst := List.mem_filter.mpr ⟨tb_t4_in h, g⟩
theorem tb_t5_in {i : Nat} {w : Cond} (h : tables_1_5[i]? = some w) : w ∈ lw_tbl := List.mem_append_right _ (List.mem_append_right _ (List.mem_append_right _ (List.mem_append_right _ (List.mem_append_right _ (List.mem_append_left _ (List.mem_of_getElem? h))))))
theorem tb_i5 {i : Nat} {w : Cond} (h : tables_1_5[i]? = some w) (g : goodWord w = true) : w ∈ tb_tbl := List.mem_filter.mpr ⟨tb_t5_in h, g⟩
theorem tb_n5 {i : Nat} {w : Cond} (h : tables_1_5[i]? = some w) (g : am_isN w = true) : w ∈ tb_nst := List.mem_filter.mpr ⟨tb_t5_in h, g⟩
theorem tb_t6_in {i : Nat} {w : Cond} (h : tables_1_6[i]? = some w) : w ∈ lw_tbl := List.mem_append_right _ (List.mem_append_right _ (List.mem_append_right _ (List.mem_append_right _ (List.mem_append_right _ (List.mem_append_right _ (List.mem_of_getElem? h))))))
theorem tb_i6 {i : Nat} {w : Cond} (h : tables_1_6[i]? = some w) (g : goodWord w = true) : w ∈ tb_tbl := List.mem_filter.mpr ⟨tb_t6_in h, g⟩
theorem tb_n6 {i : Nat} {w : Cond} (h : tables_1_6[i]? = some w) (g : am_isN w = true) : w ∈ tb_nst := List.mem_filter.mpr ⟨tb_t6_in h, g⟩
def tb_k0 : am_K := ([(18, (.int 262144)), (102, (.long 262144)), (212, (.long (-1))), (216, (.long (-9223372036854775808)))], [(10, 0, 0), (22, 0, 1), (31, 0, 2), (40, 0, 3), (47, 0, 4), (54, 0, 5), (61, 0, 6), (68, 0, 7), (76, 3, 2), (94, 0, 8), (98, 0, 9), (108, 1, 0), (112, 1, 1), (115, 1, 2), (118, 1, 3), (122, 1, 4), (125, 1, 5), (128, 1, 6), (131, 1, 7), (134, 1, 8), (137, 1, 9), (163, 3, 7), (170, 3, 8), (173, 3, 0), (176, 3, 4), (179, 3, 1), (203, 5, 0), (209, 3, 5)], [(10, 0, 0), (22, 0, 1), (31, 0, 2), (40, 0, 3), (47, 0, 4), (54, 0, 5), (61, 0, 6), (68, 0, 7)], [(7, 1), (16, 2), (26, 3), (35, 6), (44, 7), (51, 8), (58, 9), (65, 10)], [(9, 53), (19, 106), (28, 31), (37, 120), (46, 88), (53, 21), (60, 73), (67, 99), (72, 2), (80, 68), (86, 69), (90, 40), (93, 104), (104, 116), (140, 57), (144, 36), (147, 122), (150, 121), (153, 96), (154, 25), (155, 41), (159, 103), (162, 81), (166, 5), (183, 44), (189, 66), (192, 100), (196, 102), (199, 71), (206, 108)], [1], [])
set_option maxRecDepth 100000 in
theorem tb_v0_0 : ∀ r ∈ tb_k0.1, am_vc tb_tbl "FlagMachine" r := (am_fa1 (tb_i1 (i := 89) rfl rfl) (am_fa1 (tb_i2 (i := 203) rfl rfl) (am_fa1 (tb_i3 (i := 60) rfl rfl) (am_fa1 (tb_i3 (i := 197) rfl rfl) am_fa0))))
set_option maxRecDepth 100000 in
theorem tb_v0_1 : ∀ r ∈ tb_k0.2.1, am_vf tb_tbl tb_nst tb_cl "FlagMachine" r := (am_fa1 (am_vf_p rfl (Nat.le_of_ble_eq_true rfl) (tb_i2 (i := 167) rfl rfl)) (am_fa1 (am_vf_p rfl (Nat.le_of_ble_eq_true rfl) (tb_i2 (i := 168) rfl rfl)) (am_fa1 (am_vf_p rfl (Nat.le_of_ble_eq_true rfl) (tb_i2 (i := 169) rfl rfl)) (am_fa1 (am_vf_p rfl (Nat.le_of_ble_eq_true rfl) (tb_i2 (i := 170) rfl rfl)) (am_fa1 (am_vf_p rfl (Nat.le_of_ble_eq_true rfl) (tb_i2 (i := 171) rfl rfl)) (am_fa1 (am_vf_p rfl (Nat.le_of_ble_eq_true rfl) (tb_i2 (i := 172) rfl rfl)) (am_fa1 (am_vf_p rfl (Nat.le_of_ble_eq_true rfl) (tb_i2 (i := 173) rfl rfl)) (am_fa1 (am_vf_p rfl (Nat.le_of_ble_eq_true rfl) (tb_i2 (i := 174) rfl rfl)) (am_fa1 (am_vf_p rfl (Nat.le_of_ble_eq_true rfl) (tb_i1 (i := 174) rfl rfl)) (am_fa1 (am_vf_p rfl (Nat.le_of_ble_eq_true rfl) (tb_i2 (i := 175) rfl rfl)) (am_fa1 (am_vf_p rfl (Nat.le_of_ble_eq_true rfl) (tb_i2 (i := 176) rfl rfl)) (am_fa1 (am_vf_p rfl (Nat.le_of_ble_eq_true rfl) (tb_i1 (i := 33) rfl rfl)) (am_fa1 (am_vf_p rfl (Nat.le_of_ble_eq_true rfl) (tb_i1 (i := 38) rfl rfl)) (am_fa1 (am_vf_p rfl (Nat.le_of_ble_eq_true rfl) (tb_i1 (i := 41) rfl rfl)) (am_fa1 (am_vf_p rfl (Nat.le_of_ble_eq_true rfl) (tb_i1 (i := 45) rfl rfl)) (am_fa1 (am_vf_p rfl (Nat.le_of_ble_eq_true rfl) (tb_i1 (i := 49) rfl rfl)) (am_fa1 (am_vf_p rfl (Nat.le_of_ble_eq_true rfl) (tb_i1 (i := 52) rfl rfl)) (am_fa1 (am_vf_p rfl (Nat.le_of_ble_eq_true rfl) (tb_i1 (i := 55) rfl rfl)) (am_fa1 (am_vf_p rfl (Nat.le_of_ble_eq_true rfl) (tb_i1 (i := 58) rfl rfl)) (am_fa1 (am_vf_p rfl (Nat.le_of_ble_eq_true rfl) (tb_i1 (i := 61) rfl rfl)) (am_fa1 (am_vf_p rfl (Nat.le_of_ble_eq_true rfl) (tb_i1 (i := 62) rfl rfl)) (am_fa1 (am_vf_p rfl (Nat.le_of_ble_eq_true rfl) (tb_i1 (i := 195) rfl rfl)) (am_fa1 (am_vf_p rfl (Nat.le_of_ble_eq_true rfl) (tb_i1 (i := 197) rfl rfl)) (am_fa1 (am_vf_p rfl (Nat.le_of_ble_eq_true rfl) (tb_i1 (i := 165) rfl rfl)) (am_fa1 (am_vf_p rfl (Nat.le_of_ble_eq_true rfl) (tb_i1 (i := 182) rfl rfl)) (am_fa1 (am_vf_p rfl (Nat.le_of_ble_eq_true rfl) (tb_i1 (i := 172) rfl rfl)) (am_fa1 (am_vf_p rfl (Nat.le_of_ble_eq_true rfl) (tb_i1 (i := 151) rfl rfl)) (am_fa1 (am_vf_p rfl (Nat.le_of_ble_eq_true rfl) (tb_i1 (i := 187) rfl rfl)) am_fa0))))))))))))))))))))))))))))
set_option maxRecDepth 100000 in
theorem tb_v0_2 : ∀ r ∈ tb_k0.2.2.1, am_vg tb_tbl tb_cl "FlagMachine" r := (am_fa1 (am_vg_p rfl (Nat.le_of_ble_eq_true rfl) rfl rfl (tb_i2 (i := 167) rfl rfl)) (am_fa1 (am_vg_p rfl (Nat.le_of_ble_eq_true rfl) rfl rfl (tb_i2 (i := 168) rfl rfl)) (am_fa1 (am_vg_p rfl (Nat.le_of_ble_eq_true rfl) rfl rfl (tb_i2 (i := 169) rfl rfl)) (am_fa1 (am_vg_p rfl (Nat.le_of_ble_eq_true rfl) rfl rfl (tb_i2 (i := 170) rfl rfl)) (am_fa1 (am_vg_p rfl (Nat.le_of_ble_eq_true rfl) rfl rfl (tb_i2 (i := 171) rfl rfl)) (am_fa1 (am_vg_p rfl (Nat.le_of_ble_eq_true rfl) rfl rfl (tb_i2 (i := 172) rfl rfl)) (am_fa1 (am_vg_p rfl (Nat.le_of_ble_eq_true rfl) rfl rfl (tb_i2 (i := 173) rfl rfl)) (am_fa1 (am_vg_p rfl (Nat.le_of_ble_eq_true rfl) rfl rfl (tb_i2 (i := 174) rfl rfl)) am_fa0))))))))
set_option maxRecDepth 100000 in
theorem tb_v0_3 : ∀ r ∈ tb_k0.2.2.2.1, am_vn tb_tbl tb_cl "FlagMachine" r := (am_fa1 (am_vn_p rfl (tb_i1 (i := 26) rfl rfl)) (am_fa1 (am_vn_p rfl (tb_i1 (i := 87) rfl rfl)) (am_fa1 (am_vn_p rfl (tb_i1 (i := 106) rfl rfl)) (am_fa1 (am_vn_p rfl (tb_i1 (i := 217) rfl rfl)) (am_fa1 (am_vn_p rfl (tb_i1 (i := 233) rfl rfl)) (am_fa1 (am_vn_p rfl (tb_i2 (i := 18) rfl rfl)) (am_fa1 (am_vn_p rfl (tb_i2 (i := 34) rfl rfl)) (am_fa1 (am_vn_p rfl (tb_i2 (i := 47) rfl rfl)) am_fa0))))))))
set_option maxRecDepth 100000 in
theorem tb_v0_4 : ∀ r ∈ tb_k0.2.2.2.2.1, am_lnkM tb_tbl tb_nst "FlagMachine" r.1 (tb_mt r.2).1 := (am_fa1 (Or.inr ⟨_, (tb_n1 (i := 28) rfl rfl)⟩) (am_fa1 (Or.inl (tb_i1 (i := 90) rfl rfl)) (am_fa1 (Or.inl (tb_i1 (i := 108) rfl rfl)) (am_fa1 (Or.inl (tb_i1 (i := 219) rfl rfl)) (am_fa1 (Or.inl (tb_i1 (i := 235) rfl rfl)) (am_fa1 (Or.inl (tb_i2 (i := 20) rfl rfl)) (am_fa1 (Or.inl (tb_i2 (i := 36) rfl rfl)) (am_fa1 (Or.inl (tb_i2 (i := 49) rfl rfl)) (am_fa1 (Or.inl (tb_i2 (i := 75) rfl rfl)) (am_fa1 (Or.inl (tb_i2 (i := 79) rfl rfl)) (am_fa1 (Or.inl (tb_i2 (i := 88) rfl rfl)) (am_fa1 (Or.inl (tb_i2 (i := 150) rfl rfl)) (am_fa1 (Or.inl (tb_i2 (i := 163) rfl rfl)) (am_fa1 (Or.inl (tb_i2 (i := 204) rfl rfl)) (am_fa1 (Or.inl (tb_i2 (i := 228) rfl rfl)) (am_fa1 (Or.inl (tb_i3 (i := 32) rfl rfl)) (am_fa1 (Or.inl (tb_i3 (i := 45) rfl rfl)) (am_fa1 (Or.inl (tb_i3 (i := 142) rfl rfl)) (am_fa1 (Or.inl (tb_i3 (i := 148) rfl rfl)) (am_fa1 (Or.inl (tb_i3 (i := 204) rfl rfl)) (am_fa1 (Or.inl (tb_i4 (i := 3) rfl rfl)) (am_fa1 (Or.inl (tb_i4 (i := 4) rfl rfl)) (am_fa1 (Or.inl (tb_i4 (i := 53) rfl rfl)) (am_fa1 (Or.inl (tb_i4 (i := 122) rfl rfl)) (am_fa1 (Or.inl (tb_i4 (i := 134) rfl rfl)) (am_fa1 (Or.inl (tb_i4 (i := 135) rfl rfl)) (am_fa1 (Or.inl (tb_i4 (i := 144) rfl rfl)) (am_fa1 (Or.inl (tb_i4 (i := 152) rfl rfl)) (am_fa1 (Or.inl (tb_i4 (i := 160) rfl rfl)) (am_fa1 (Or.inl (tb_i4 (i := 161) rfl rfl)) am_fa0))))))))))))))))))))))))))))))
set_option maxRecDepth 100000 in
theorem tb_v0_5 : ∀ r ∈ tb_k0.2.2.2.2.2.1, Cond.methodLink "FlagMachine" r objectInit ∈ tb_tbl := (am_fa1 (tb_i1 (i := 23) rfl rfl) am_fa0)
set_option maxRecDepth 100000 in
theorem tb_v0_6 : ∀ r ∈ tb_k0.2.2.2.2.2.2, am_vx tb_tbl tb_tl "FlagMachine" r := am_fa0
theorem tb_v0 : am_vK tb_tbl tb_nst tb_cl tb_tl tb_mt "FlagMachine" tb_k0 := ⟨tb_v0_0, tb_v0_1, tb_v0_2, tb_v0_3, tb_v0_4, tb_v0_5, tb_v0_6⟩
def tb_k1 : am_K := ([(70, (.long 255)), (72, (.long 65535))], [(9, 1, 0), (15, 1, 3), (19, 1, 4), (45, 1, 1), (48, 1, 2), (57, 1, 5), (60, 1, 6), (63, 1, 7), (66, 1, 9)], [(15, 1, 3), (19, 1, 4)], [], [(22, 63), (26, 54), (29, 64), (32, 61), (35, 55), (39, 58), (42, 59), (51, 56), (54, 60), (74, 17)], [3], [])
set_option maxRecDepth 100000 in
theorem tb_v1_0 : ∀ r ∈ tb_k1.1, am_vc tb_tbl "FlagMachine$Instruction" r := (am_fa1 (tb_i3 (i := 27) rfl rfl) (am_fa1 (tb_i3 (i := 28) rfl rfl) am_fa0))
set_option maxRecDepth 100000 in
theorem tb_v1_1 : ∀ r ∈ tb_k1.2.1, am_vf tb_tbl tb_nst tb_cl "FlagMachine$Instruction" r := (am_fa1 (am_vf_p rfl (Nat.le_of_ble_eq_true rfl) (tb_i1 (i := 32) rfl rfl)) (am_fa1 (am_vf_p rfl (Nat.le_of_ble_eq_true rfl) (tb_i1 (i := 43) rfl rfl)) (am_fa1 (am_vf_p rfl (Nat.le_of_ble_eq_true rfl) (tb_i1 (i := 48) rfl rfl)) (am_fa1 (am_vf_p rfl (Nat.le_of_ble_eq_true rfl) (tb_i1 (i := 39) rfl rfl)) (am_fa1 (am_vf_p rfl (Nat.le_of_ble_eq_true rfl) (tb_i1 (i := 42) rfl rfl)) (am_fa1 (am_vf_p rfl (Nat.le_of_ble_eq_true rfl) (tb_i1 (i := 53) rfl rfl)) (am_fa1 (am_vf_p rfl (Nat.le_of_ble_eq_true rfl) (tb_i1 (i := 56) rfl rfl)) (am_fa1 (am_vf_p rfl (Nat.le_of_ble_eq_true rfl) (tb_i1 (i := 59) rfl rfl)) (am_fa1 (am_vf_p rfl (Nat.le_of_ble_eq_true rfl) (tb_i1 (i := 64) rfl rfl)) am_fa0)))))))))
set_option maxRecDepth 100000 in
theorem tb_v1_2 : ∀ r ∈ tb_k1.2.2.1, am_vg tb_tbl tb_cl "FlagMachine$Instruction" r := (am_fa1 (am_vg_p rfl (Nat.le_of_ble_eq_true rfl) rfl rfl (tb_i1 (i := 43) rfl rfl)) (am_fa1 (am_vg_p rfl (Nat.le_of_ble_eq_true rfl) rfl rfl (tb_i1 (i := 48) rfl rfl)) am_fa0))
set_option maxRecDepth 100000 in
theorem tb_v1_3 : ∀ r ∈ tb_k1.2.2.2.1, am_vn tb_tbl tb_cl "FlagMachine$Instruction" r := am_fa0
set_option maxRecDepth 100000 in
theorem tb_v1_4 : ∀ r ∈ tb_k1.2.2.2.2.1, am_lnkM tb_tbl tb_nst "FlagMachine$Instruction" r.1 (tb_mt r.2).1 := (am_fa1 (Or.inl (tb_i2 (i := 232) rfl rfl)) (am_fa1 (Or.inl (tb_i2 (i := 236) rfl rfl)) (am_fa1 (Or.inl (tb_i3 (i := 0) rfl rfl)) (am_fa1 (Or.inl (tb_i3 (i := 4) rfl rfl)) (am_fa1 (Or.inl (tb_i3 (i := 15) rfl rfl)) (am_fa1 (Or.inl (tb_i3 (i := 19) rfl rfl)) (am_fa1 (Or.inl (tb_i3 (i := 23) rfl rfl)) (am_fa1 (Or.inl (tb_i3 (i := 8) rfl rfl)) (am_fa1 (Or.inl (tb_i3 (i := 11) rfl rfl)) (am_fa1 (Or.inr ⟨_, (tb_n3 (i := 29) rfl rfl)⟩) am_fa0))))))))))
set_option maxRecDepth 100000 in
theorem tb_v1_5 : ∀ r ∈ tb_k1.2.2.2.2.2.1, Cond.methodLink "FlagMachine$Instruction" r objectInit ∈ tb_tbl := (am_fa1 (tb_i1 (i := 31) rfl rfl) am_fa0)
set_option maxRecDepth 100000 in
theorem tb_v1_6 : ∀ r ∈ tb_k1.2.2.2.2.2.2, am_vx tb_tbl tb_tl "FlagMachine$Instruction" r := am_fa0
theorem tb_v1 : am_vK tb_tbl tb_nst tb_cl tb_tl tb_mt "FlagMachine$Instruction" tb_k1 := ⟨tb_v1_0, tb_v1_1, tb_v1_2, tb_v1_3, tb_v1_4, tb_v1_5, tb_v1_6⟩
def tb_k2 : am_K := ([], [(17, 2, 0), (27, 11, 2), (34, 2, 1), (44, 11, 1), (61, 11, 0)], [(17, 2, 0)], [(15, 11)], [(23, 114), (31, 115), (38, 193), (47, 118), (54, 111), (58, 109), (65, 113), (75, 194), (78, 87)], [3], [(9, 1), (51, 2), (69, 0)])
set_option maxRecDepth 100000 in
theorem tb_v2_0 : ∀ r ∈ tb_k2.1, am_vc tb_tbl "FlagMachine$Stretch" r := am_fa0
set_option maxRecDepth 100000 in
theorem tb_v2_1 : ∀ r ∈ tb_k2.2.1, am_vf tb_tbl tb_nst tb_cl "FlagMachine$Stretch" r := (am_fa1 (am_vf_p rfl (Nat.le_of_ble_eq_true rfl) (tb_i1 (i := 99) rfl rfl)) (am_fa1 (am_vf_p rfl (Nat.le_of_ble_eq_true rfl) (tb_i2 (i := 128) rfl rfl)) (am_fa1 (am_vf_p rfl (Nat.le_of_ble_eq_true rfl) (tb_i1 (i := 100) rfl rfl)) (am_fa1 (am_vf_p rfl (Nat.le_of_ble_eq_true rfl) (tb_i2 (i := 126) rfl rfl)) (am_fa1 (am_vf_p rfl (Nat.le_of_ble_eq_true rfl) (tb_i2 (i := 124) rfl rfl)) am_fa0)))))
set_option maxRecDepth 100000 in
theorem tb_v2_2 : ∀ r ∈ tb_k2.2.2.1, am_vg tb_tbl tb_cl "FlagMachine$Stretch" r := (am_fa1 (am_vg_p rfl (Nat.le_of_ble_eq_true rfl) rfl rfl (tb_i1 (i := 99) rfl rfl)) am_fa0)
set_option maxRecDepth 100000 in
theorem tb_v2_3 : ∀ r ∈ tb_k2.2.2.2.1, am_vn tb_tbl tb_cl "FlagMachine$Stretch" r := (am_fa1 (am_vn_p rfl (tb_i1 (i := 97) rfl rfl)) am_fa0)
set_option maxRecDepth 100000 in
theorem tb_v2_4 : ∀ r ∈ tb_k2.2.2.2.2.1, am_lnkM tb_tbl tb_nst "FlagMachine$Stretch" r.1 (tb_mt r.2).1 := (am_fa1 (Or.inl (tb_i2 (i := 110) rfl rfl)) (am_fa1 (Or.inl (tb_i2 (i := 114) rfl rfl)) (am_fa1 (Or.inl (tb_i2 (i := 100) rfl rfl)) (am_fa1 (Or.inl (tb_i4 (i := 33) rfl rfl)) (am_fa1 (Or.inl (tb_i2 (i := 137) rfl rfl)) (am_fa1 (Or.inl (tb_i2 (i := 96) rfl rfl)) (am_fa1 (Or.inl (tb_i2 (i := 106) rfl rfl)) (am_fa1 (Or.inl (tb_i2 (i := 141) rfl rfl)) (am_fa1 (Or.inl (tb_i2 (i := 119) rfl rfl)) am_fa0)))))))))
set_option maxRecDepth 100000 in
theorem tb_v2_5 : ∀ r ∈ tb_k2.2.2.2.2.2.1, Cond.methodLink "FlagMachine$Stretch" r objectInit ∈ tb_tbl := (am_fa1 (tb_i1 (i := 93) rfl rfl) am_fa0)
set_option maxRecDepth 100000 in
theorem tb_v2_6 : ∀ r ∈ tb_k2.2.2.2.2.2.2, am_vx tb_tbl tb_tl "FlagMachine$Stretch" r := (am_fa1 (am_vx1 (tb_i1 (i := 94) rfl rfl) (tb_i1 (i := 95) rfl rfl) (tb_i1 (i := 4) rfl rfl) (tb_i1 (i := 96) rfl rfl)) (am_fa1 (am_vx2 (tb_i2 (i := 103) rfl rfl) (tb_i2 (i := 104) rfl rfl) (tb_i1 (i := 4) rfl rfl) (tb_i2 (i := 105) rfl rfl)) (am_fa1 (am_vx0 (tb_i2 (i := 147) rfl rfl) (tb_i2 (i := 149) rfl rfl) (tb_i2 (i := 148) rfl rfl) (tb_i1 (i := 15) rfl rfl) (by decide)) am_fa0)))
theorem tb_v2 : am_vK tb_tbl tb_nst tb_cl tb_tl tb_mt "FlagMachine$Stretch" tb_k2 := ⟨tb_v2_0, tb_v2_1, tb_v2_2, tb_v2_3, tb_v2_4, tb_v2_5, tb_v2_6⟩
def tb_k3 : am_K := ([(39, (.long 2147479552)), (44, (.long 4194304)), (92, (.long (-1)))], [(9, 3, 0), (18, 3, 1), (25, 3, 2), (29, 3, 3), (46, 3, 4), (50, 3, 7), (54, 3, 8), (57, 3, 5), (70, 3, 6), (73, 1, 5), (80, 1, 6), (83, 1, 7), (86, 1, 8), (94, 1, 3), (98, 1, 4), (108, 1, 9), (119, 5, 0)], [(9, 3, 0), (18, 3, 1), (25, 3, 2), (29, 3, 3)], [(15, 4), (22, 5)], [(17, 43), (24, 65), (33, 195), (41, 45), (60, 55), (66, 34), (76, 38), (89, 7), (100, 35), (104, 33), (111, 71), (115, 41), (123, 119), (128, 37), (132, 39), (136, 117)], [3], [])
set_option maxRecDepth 100000 in
theorem tb_v3_0 : ∀ r ∈ tb_k3.1, am_vc tb_tbl "FlagMachine$Core" r := (am_fa1 (tb_i2 (i := 157) rfl rfl) (am_fa1 (tb_i2 (i := 162) rfl rfl) (am_fa1 (tb_i3 (i := 98) rfl rfl) am_fa0)))
set_option maxRecDepth 100000 in
theorem tb_v3_1 : ∀ r ∈ tb_k3.2.1, am_vf tb_tbl tb_nst tb_cl "FlagMachine$Core" r := (am_fa1 (am_vf_p rfl (Nat.le_of_ble_eq_true rfl) (tb_i1 (i := 161) rfl rfl)) (am_fa1 (am_vf_p rfl (Nat.le_of_ble_eq_true rfl) (tb_i1 (i := 168) rfl rfl)) (am_fa1 (am_vf_p rfl (Nat.le_of_ble_eq_true rfl) (tb_i1 (i := 173) rfl rfl)) (am_fa1 (am_vf_p rfl (Nat.le_of_ble_eq_true rfl) (tb_i1 (i := 180) rfl rfl)) (am_fa1 (am_vf_p rfl (Nat.le_of_ble_eq_true rfl) (tb_i1 (i := 181) rfl rfl)) (am_fa1 (am_vf_p rfl (Nat.le_of_ble_eq_true rfl) (tb_i1 (i := 190) rfl rfl)) (am_fa1 (am_vf_p rfl (Nat.le_of_ble_eq_true rfl) (tb_i1 (i := 196) rfl rfl)) (am_fa1 (am_vf_p rfl (Nat.le_of_ble_eq_true rfl) (tb_i1 (i := 184) rfl rfl)) (am_fa1 (am_vf_p rfl (Nat.le_of_ble_eq_true rfl) (tb_i1 (i := 188) rfl rfl)) (am_fa1 (am_vf_p rfl (Nat.le_of_ble_eq_true rfl) (tb_i1 (i := 51) rfl rfl)) (am_fa1 (am_vf_p rfl (Nat.le_of_ble_eq_true rfl) (tb_i1 (i := 54) rfl rfl)) (am_fa1 (am_vf_p rfl (Nat.le_of_ble_eq_true rfl) (tb_i1 (i := 57) rfl rfl)) (am_fa1 (am_vf_p rfl (Nat.le_of_ble_eq_true rfl) (tb_i1 (i := 60) rfl rfl)) (am_fa1 (am_vf_p rfl (Nat.le_of_ble_eq_true rfl) (tb_i1 (i := 46) rfl rfl)) (am_fa1 (am_vf_p rfl (Nat.le_of_ble_eq_true rfl) (tb_i1 (i := 50) rfl rfl)) (am_fa1 (am_vf_p rfl (Nat.le_of_ble_eq_true rfl) (tb_i1 (i := 63) rfl rfl)) (am_fa1 (am_vf_p rfl (Nat.le_of_ble_eq_true rfl) (tb_i1 (i := 150) rfl rfl)) am_fa0)))))))))))))))))
set_option maxRecDepth 100000 in
theorem tb_v3_2 : ∀ r ∈ tb_k3.2.2.1, am_vg tb_tbl tb_cl "FlagMachine$Core" r := (am_fa1 (am_vg_p rfl (Nat.le_of_ble_eq_true rfl) rfl rfl (tb_i1 (i := 161) rfl rfl)) (am_fa1 (am_vg_p rfl (Nat.le_of_ble_eq_true rfl) rfl rfl (tb_i1 (i := 168) rfl rfl)) (am_fa1 (am_vg_p rfl (Nat.le_of_ble_eq_true rfl) rfl rfl (tb_i1 (i := 173) rfl rfl)) (am_fa1 (am_vg_p rfl (Nat.le_of_ble_eq_true rfl) rfl rfl (tb_i1 (i := 180) rfl rfl)) am_fa0))))
set_option maxRecDepth 100000 in
theorem tb_v3_3 : ∀ r ∈ tb_k3.2.2.2.1, am_vn tb_tbl tb_cl "FlagMachine$Core" r := (am_fa1 (am_vn_p rfl (tb_i1 (i := 112) rfl rfl)) (am_fa1 (am_vn_p rfl (tb_i1 (i := 139) rfl rfl)) am_fa0))
set_option maxRecDepth 100000 in
theorem tb_v3_4 : ∀ r ∈ tb_k3.2.2.2.2.1, am_lnkM tb_tbl tb_nst "FlagMachine$Core" r.1 (tb_mt r.2).1 := (am_fa1 (Or.inr ⟨_, (tb_n1 (i := 114) rfl rfl)⟩) (am_fa1 (Or.inr ⟨_, (tb_n1 (i := 141) rfl rfl)⟩) (am_fa1 (Or.inl (tb_i2 (i := 154) rfl rfl)) (am_fa1 (Or.inl (tb_i2 (i := 158) rfl rfl)) (am_fa1 (Or.inl (tb_i3 (i := 36) rfl rfl)) (am_fa1 (Or.inl (tb_i3 (i := 37) rfl rfl)) (am_fa1 (Or.inl (tb_i3 (i := 41) rfl rfl)) (am_fa1 (Or.inr ⟨_, (tb_n3 (i := 57) rfl rfl)⟩) (am_fa1 (Or.inl (tb_i3 (i := 53) rfl rfl)) (am_fa1 (Or.inl (tb_i3 (i := 61) rfl rfl)) (am_fa1 (Or.inl (tb_i3 (i := 65) rfl rfl)) (am_fa1 (Or.inl (tb_i3 (i := 76) rfl rfl)) (am_fa1 (Or.inl (tb_i3 (i := 80) rfl rfl)) (am_fa1 (Or.inl (tb_i3 (i := 94) rfl rfl)) (am_fa1 (Or.inl (tb_i3 (i := 99) rfl rfl)) (am_fa1 (Or.inl (tb_i3 (i := 103) rfl rfl)) am_fa0))))))))))))))))
set_option maxRecDepth 100000 in
theorem tb_v3_5 : ∀ r ∈ tb_k3.2.2.2.2.2.1, Cond.methodLink "FlagMachine$Core" r objectInit ∈ tb_tbl := (am_fa1 (tb_i1 (i := 111) rfl rfl) am_fa0)
set_option maxRecDepth 100000 in
theorem tb_v3_6 : ∀ r ∈ tb_k3.2.2.2.2.2.2, am_vx tb_tbl tb_tl "FlagMachine$Core" r := am_fa0
theorem tb_v3 : am_vK tb_tbl tb_nst tb_cl tb_tl tb_mt "FlagMachine$Core" tb_k3 := ⟨tb_v3_0, tb_v3_1, tb_v3_2, tb_v3_3, tb_v3_4, tb_v3_5, tb_v3_6⟩
def tb_k4 : am_K := ([(35, (.long 255)), (43, (.long (-1)))], [(7, 4, 0), (13, 4, 1), (16, 4, 2), (19, 4, 3), (22, 4, 4)], [], [], [(25, 47), (29, 19), (37, 192), (45, 51)], [1], [])
set_option maxRecDepth 100000 in
theorem tb_v4_0 : ∀ r ∈ tb_k4.1, am_vc tb_tbl "FlagMachine$Flags" r := (am_fa1 (tb_i3 (i := 127) rfl rfl) (am_fa1 (tb_i3 (i := 122) rfl rfl) am_fa0))
set_option maxRecDepth 100000 in
theorem tb_v4_1 : ∀ r ∈ tb_k4.2.1, am_vf tb_tbl tb_nst tb_cl "FlagMachine$Flags" r := (am_fa1 (am_vf_p rfl (Nat.le_of_ble_eq_true rfl) (tb_i1 (i := 118) rfl rfl)) (am_fa1 (am_vf_p rfl (Nat.le_of_ble_eq_true rfl) (tb_i1 (i := 121) rfl rfl)) (am_fa1 (am_vf_p rfl (Nat.le_of_ble_eq_true rfl) (tb_i1 (i := 122) rfl rfl)) (am_fa1 (am_vf_p rfl (Nat.le_of_ble_eq_true rfl) (tb_i1 (i := 124) rfl rfl)) (am_fa1 (am_vf_p rfl (Nat.le_of_ble_eq_true rfl) (tb_i1 (i := 125) rfl rfl)) am_fa0)))))
set_option maxRecDepth 100000 in
theorem tb_v4_2 : ∀ r ∈ tb_k4.2.2.1, am_vg tb_tbl tb_cl "FlagMachine$Flags" r := am_fa0
set_option maxRecDepth 100000 in
theorem tb_v4_3 : ∀ r ∈ tb_k4.2.2.2.1, am_vn tb_tbl tb_cl "FlagMachine$Flags" r := am_fa0
set_option maxRecDepth 100000 in
theorem tb_v4_4 : ∀ r ∈ tb_k4.2.2.2.2.1, am_lnkM tb_tbl tb_nst "FlagMachine$Flags" r.1 (tb_mt r.2).1 := (am_fa1 (Or.inl (tb_i4 (i := 96) rfl rfl)) (am_fa1 (Or.inr ⟨_, (tb_n3 (i := 119) rfl rfl)⟩) (am_fa1 (Or.inl (tb_i3 (i := 128) rfl rfl)) (am_fa1 (Or.inl (tb_i3 (i := 123) rfl rfl)) am_fa0))))
set_option maxRecDepth 100000 in
theorem tb_v4_5 : ∀ r ∈ tb_k4.2.2.2.2.2.1, Cond.methodLink "FlagMachine$Flags" r objectInit ∈ tb_tbl := (am_fa1 (tb_i1 (i := 117) rfl rfl) am_fa0)
set_option maxRecDepth 100000 in
theorem tb_v4_6 : ∀ r ∈ tb_k4.2.2.2.2.2.2, am_vx tb_tbl tb_tl "FlagMachine$Flags" r := am_fa0
theorem tb_v4 : am_vK tb_tbl tb_nst tb_cl tb_tl tb_mt "FlagMachine$Flags" tb_k4 := ⟨tb_v4_0, tb_v4_1, tb_v4_2, tb_v4_3, tb_v4_4, tb_v4_5, tb_v4_6⟩
def tb_k5 : am_K := ([(13, (.int 393472)), (32, (.int 327936)), (37, (.long 4194304)), (39, (.long 65536)), (49, (.long 4521984)), (51, (.long 2147414016)), (53, (.long 2147479552))], [(17, 5, 0), (21, 5, 1), (25, 5, 2)], [(17, 5, 0), (21, 5, 1), (25, 5, 2)], [(11, 2)], [(14, 106), (28, 67), (33, 107), (41, 110), (45, 72)], [5], [])
set_option maxRecDepth 100000 in
theorem tb_v5_0 : ∀ r ∈ tb_k5.1, am_vc tb_tbl "FlagMachine$Memory" r := (am_fa1 (tb_i1 (i := 146) rfl rfl) (am_fa1 (tb_i2 (i := 87) rfl rfl) (am_fa1 (tb_i3 (i := 72) rfl rfl) (am_fa1 (tb_i4 (i := 41) rfl rfl) (am_fa1 (tb_i3 (i := 73) rfl rfl) (am_fa1 (tb_i3 (i := 74) rfl rfl) (am_fa1 (tb_i3 (i := 75) rfl rfl) am_fa0)))))))
set_option maxRecDepth 100000 in
theorem tb_v5_1 : ∀ r ∈ tb_k5.2.1, am_vf tb_tbl tb_nst tb_cl "FlagMachine$Memory" r := (am_fa1 (am_vf_p rfl (Nat.le_of_ble_eq_true rfl) (tb_i1 (i := 148) rfl rfl)) (am_fa1 (am_vf_p rfl (Nat.le_of_ble_eq_true rfl) (tb_i1 (i := 152) rfl rfl)) (am_fa1 (am_vf_p rfl (Nat.le_of_ble_eq_true rfl) (tb_i1 (i := 153) rfl rfl)) am_fa0)))
set_option maxRecDepth 100000 in
theorem tb_v5_2 : ∀ r ∈ tb_k5.2.2.1, am_vg tb_tbl tb_cl "FlagMachine$Memory" r := (am_fa1 (am_vg_p rfl (Nat.le_of_ble_eq_true rfl) rfl rfl (tb_i1 (i := 148) rfl rfl)) (am_fa1 (am_vg_p rfl (Nat.le_of_ble_eq_true rfl) rfl rfl (tb_i1 (i := 152) rfl rfl)) (am_fa1 (am_vg_p rfl (Nat.le_of_ble_eq_true rfl) rfl rfl (tb_i1 (i := 153) rfl rfl)) am_fa0)))
set_option maxRecDepth 100000 in
theorem tb_v5_3 : ∀ r ∈ tb_k5.2.2.2.1, am_vn tb_tbl tb_cl "FlagMachine$Memory" r := (am_fa1 (am_vn_p rfl (tb_i1 (i := 145) rfl rfl)) am_fa0)
set_option maxRecDepth 100000 in
theorem tb_v5_4 : ∀ r ∈ tb_k5.2.2.2.2.1, am_lnkM tb_tbl tb_nst "FlagMachine$Memory" r.1 (tb_mt r.2).1 := (am_fa1 (Or.inl (tb_i1 (i := 147) rfl rfl)) (am_fa1 (Or.inl (tb_i2 (i := 83) rfl rfl)) (am_fa1 (Or.inl (tb_i2 (i := 92) rfl rfl)) (am_fa1 (Or.inl (tb_i4 (i := 42) rfl rfl)) (am_fa1 (Or.inl (tb_i3 (i := 69) rfl rfl)) am_fa0)))))
set_option maxRecDepth 100000 in
theorem tb_v5_5 : ∀ r ∈ tb_k5.2.2.2.2.2.1, Cond.methodLink "FlagMachine$Memory" r objectInit ∈ tb_tbl := (am_fa1 (tb_i1 (i := 144) rfl rfl) am_fa0)
set_option maxRecDepth 100000 in
theorem tb_v5_6 : ∀ r ∈ tb_k5.2.2.2.2.2.2, am_vx tb_tbl tb_tl "FlagMachine$Memory" r := am_fa0
theorem tb_v5 : am_vK tb_tbl tb_nst tb_cl tb_tl tb_mt "FlagMachine$Memory" tb_k5 := ⟨tb_v5_0, tb_v5_1, tb_v5_2, tb_v5_3, tb_v5_4, tb_v5_5, tb_v5_6⟩
def tb_k6 : am_K := ([(66, (.long (-1)))], [(9, 6, 0), (15, 3, 1), (21, 6, 1), (22, 3, 3), (26, 6, 2), (27, 1, 1), (37, 3, 7), (60, 4, 0)], [(9, 6, 0), (21, 6, 1), (26, 6, 2)], [], [(33, 32), (40, 123), (44, 7), (48, 42), (52, 62), (56, 124), (68, 52), (72, 49), (75, 48), (79, 35), (82, 37)], [3], [])
set_option maxRecDepth 100000 in
theorem tb_v6_0 : ∀ r ∈ tb_k6.1, am_vc tb_tbl "FlagMachine$Sums" r := (am_fa1 (tb_i3 (i := 88) rfl rfl) am_fa0)
set_option maxRecDepth 100000 in
theorem tb_v6_1 : ∀ r ∈ tb_k6.2.1, am_vf tb_tbl tb_nst tb_cl "FlagMachine$Sums" r := (am_fa1 (am_vf_p rfl (Nat.le_of_ble_eq_true rfl) (tb_i1 (i := 223) rfl rfl)) (am_fa1 (am_vf_p rfl (Nat.le_of_ble_eq_true rfl) (tb_i1 (i := 166) rfl rfl)) (am_fa1 (am_vf_p rfl (Nat.le_of_ble_eq_true rfl) (tb_i1 (i := 224) rfl rfl)) (am_fa1 (am_vf_p rfl (Nat.le_of_ble_eq_true rfl) (tb_i1 (i := 178) rfl rfl)) (am_fa1 (am_vf_p rfl (Nat.le_of_ble_eq_true rfl) (tb_i1 (i := 225) rfl rfl)) (am_fa1 (am_vf_p rfl (Nat.le_of_ble_eq_true rfl) (tb_i1 (i := 34) rfl rfl)) (am_fa1 (am_vf_p rfl (Nat.le_of_ble_eq_true rfl) (tb_i1 (i := 191) rfl rfl)) (am_fa1 (am_vf_p rfl (Nat.le_of_ble_eq_true rfl) (tb_i1 (i := 119) rfl rfl)) am_fa0))))))))
set_option maxRecDepth 100000 in
theorem tb_v6_2 : ∀ r ∈ tb_k6.2.2.1, am_vg tb_tbl tb_cl "FlagMachine$Sums" r := (am_fa1 (am_vg_p rfl (Nat.le_of_ble_eq_true rfl) rfl rfl (tb_i1 (i := 223) rfl rfl)) (am_fa1 (am_vg_p rfl (Nat.le_of_ble_eq_true rfl) rfl rfl (tb_i1 (i := 224) rfl rfl)) (am_fa1 (am_vg_p rfl (Nat.le_of_ble_eq_true rfl) rfl rfl (tb_i1 (i := 225) rfl rfl)) am_fa0)))
set_option maxRecDepth 100000 in
theorem tb_v6_3 : ∀ r ∈ tb_k6.2.2.2.1, am_vn tb_tbl tb_cl "FlagMachine$Sums" r := am_fa0
set_option maxRecDepth 100000 in
theorem tb_v6_4 : ∀ r ∈ tb_k6.2.2.2.2.1, am_lnkM tb_tbl tb_nst "FlagMachine$Sums" r.1 (tb_mt r.2).1 := (am_fa1 (Or.inl (tb_i3 (i := 49) rfl rfl)) (am_fa1 (Or.inl (tb_i3 (i := 84) rfl rfl)) (am_fa1 (Or.inr ⟨_, (tb_n3 (i := 89) rfl rfl)⟩) (am_fa1 (Or.inl (tb_i3 (i := 90) rfl rfl)) (am_fa1 (Or.inl (tb_i3 (i := 107) rfl rfl)) (am_fa1 (Or.inl (tb_i3 (i := 111) rfl rfl)) (am_fa1 (Or.inl (tb_i3 (i := 115) rfl rfl)) (am_fa1 (Or.inl (tb_i3 (i := 134) rfl rfl)) (am_fa1 (Or.inl (tb_i3 (i := 138) rfl rfl)) (am_fa1 (Or.inl (tb_i3 (i := 146) rfl rfl)) (am_fa1 (Or.inl (tb_i3 (i := 147) rfl rfl)) am_fa0)))))))))))
set_option maxRecDepth 100000 in
theorem tb_v6_5 : ∀ r ∈ tb_k6.2.2.2.2.2.1, Cond.methodLink "FlagMachine$Sums" r objectInit ∈ tb_tbl := (am_fa1 (tb_i1 (i := 222) rfl rfl) am_fa0)
set_option maxRecDepth 100000 in
theorem tb_v6_6 : ∀ r ∈ tb_k6.2.2.2.2.2.2, am_vx tb_tbl tb_tl "FlagMachine$Sums" r := am_fa0
theorem tb_v6 : am_vK tb_tbl tb_nst tb_cl tb_tl tb_mt "FlagMachine$Sums" tb_k6 := ⟨tb_v6_0, tb_v6_1, tb_v6_2, tb_v6_3, tb_v6_4, tb_v6_5, tb_v6_6⟩
def tb_k7 : am_K := ([(46, (.long (-1))), (97, (.long 255))], [(9, 7, 0), (15, 3, 3), (21, 7, 1), (32, 1, 1), (38, 3, 0), (56, 3, 7), (66, 7, 2), (70, 7, 3), (77, 3, 1), (89, 1, 3), (110, 7, 4), (113, 7, 5)], [(9, 7, 0), (21, 7, 1)], [], [(22, 95), (26, 89), (29, 94), (42, 17), (48, 37), (52, 32), (59, 35), (62, 93), (73, 97), (81, 98), (84, 50), (93, 42), (99, 90), (103, 91), (106, 41), (116, 19), (120, 7), (123, 92), (127, 3)], [3], [])
set_option maxRecDepth 100000 in
theorem tb_v7_0 : ∀ r ∈ tb_k7.1, am_vc tb_tbl "FlagMachine$Products" r := (am_fa1 (tb_i3 (i := 189) rfl rfl) (am_fa1 (tb_i3 (i := 184) rfl rfl) am_fa0))
set_option maxRecDepth 100000 in
theorem tb_v7_1 : ∀ r ∈ tb_k7.2.1, am_vf tb_tbl tb_nst tb_cl "FlagMachine$Products" r := (am_fa1 (am_vf_p rfl (Nat.le_of_ble_eq_true rfl) (tb_i1 (i := 239) rfl rfl)) (am_fa1 (am_vf_p rfl (Nat.le_of_ble_eq_true rfl) (tb_i1 (i := 176) rfl rfl)) (am_fa1 (am_vf_p rfl (Nat.le_of_ble_eq_true rfl) (tb_i2 (i := 0) rfl rfl)) (am_fa1 (am_vf_p rfl (Nat.le_of_ble_eq_true rfl) (tb_i1 (i := 35) rfl rfl)) (am_fa1 (am_vf_p rfl (Nat.le_of_ble_eq_true rfl) (tb_i1 (i := 162) rfl rfl)) (am_fa1 (am_vf_p rfl (Nat.le_of_ble_eq_true rfl) (tb_i1 (i := 193) rfl rfl)) (am_fa1 (am_vf_p rfl (Nat.le_of_ble_eq_true rfl) (tb_i2 (i := 1) rfl rfl)) (am_fa1 (am_vf_p rfl (Nat.le_of_ble_eq_true rfl) (tb_i2 (i := 2) rfl rfl)) (am_fa1 (am_vf_p rfl (Nat.le_of_ble_eq_true rfl) (tb_i1 (i := 170) rfl rfl)) (am_fa1 (am_vf_p rfl (Nat.le_of_ble_eq_true rfl) (tb_i1 (i := 44) rfl rfl)) (am_fa1 (am_vf_p rfl (Nat.le_of_ble_eq_true rfl) (tb_i2 (i := 3) rfl rfl)) (am_fa1 (am_vf_p rfl (Nat.le_of_ble_eq_true rfl) (tb_i2 (i := 4) rfl rfl)) am_fa0))))))))))))
set_option maxRecDepth 100000 in
theorem tb_v7_2 : ∀ r ∈ tb_k7.2.2.1, am_vg tb_tbl tb_cl "FlagMachine$Products" r := (am_fa1 (am_vg_p rfl (Nat.le_of_ble_eq_true rfl) rfl rfl (tb_i1 (i := 239) rfl rfl)) (am_fa1 (am_vg_p rfl (Nat.le_of_ble_eq_true rfl) rfl rfl (tb_i2 (i := 0) rfl rfl)) am_fa0))
set_option maxRecDepth 100000 in
theorem tb_v7_3 : ∀ r ∈ tb_k7.2.2.2.1, am_vn tb_tbl tb_cl "FlagMachine$Products" r := am_fa0
set_option maxRecDepth 100000 in
theorem tb_v7_4 : ∀ r ∈ tb_k7.2.2.2.2.1, am_lnkM tb_tbl tb_nst "FlagMachine$Products" r.1 (tb_mt r.2).1 := (am_fa1 (Or.inl (tb_i3 (i := 152) rfl rfl)) (am_fa1 (Or.inl (tb_i3 (i := 180) rfl rfl)) (am_fa1 (Or.inl (tb_i3 (i := 199) rfl rfl)) (am_fa1 (Or.inr ⟨_, (tb_n3 (i := 162) rfl rfl)⟩) (am_fa1 (Or.inl (tb_i3 (i := 171) rfl rfl)) (am_fa1 (Or.inl (tb_i3 (i := 156) rfl rfl)) (am_fa1 (Or.inl (tb_i3 (i := 157) rfl rfl)) (am_fa1 (Or.inl (tb_i3 (i := 158) rfl rfl)) (am_fa1 (Or.inl (tb_i3 (i := 167) rfl rfl)) (am_fa1 (Or.inl (tb_i3 (i := 172) rfl rfl)) (am_fa1 (Or.inl (tb_i3 (i := 176) rfl rfl)) (am_fa1 (Or.inl (tb_i3 (i := 203) rfl rfl)) (am_fa1 (Or.inl (tb_i3 (i := 185) rfl rfl)) (am_fa1 (Or.inl (tb_i3 (i := 190) rfl rfl)) (am_fa1 (Or.inl (tb_i3 (i := 198) rfl rfl)) (am_fa1 (Or.inr ⟨_, (tb_n3 (i := 175) rfl rfl)⟩) (am_fa1 (Or.inr ⟨_, (tb_n3 (i := 166) rfl rfl)⟩) (am_fa1 (Or.inl (tb_i3 (i := 163) rfl rfl)) (am_fa1 (Or.inr ⟨_, (tb_n3 (i := 194) rfl rfl)⟩) am_fa0)))))))))))))))))))
set_option maxRecDepth 100000 in
theorem tb_v7_5 : ∀ r ∈ tb_k7.2.2.2.2.2.1, Cond.methodLink "FlagMachine$Products" r objectInit ∈ tb_tbl := (am_fa1 (tb_i1 (i := 238) rfl rfl) am_fa0)
set_option maxRecDepth 100000 in
theorem tb_v7_6 : ∀ r ∈ tb_k7.2.2.2.2.2.2, am_vx tb_tbl tb_tl "FlagMachine$Products" r := am_fa0
theorem tb_v7 : am_vK tb_tbl tb_nst tb_cl tb_tl tb_mt "FlagMachine$Products" tb_k7 := ⟨tb_v7_0, tb_v7_1, tb_v7_2, tb_v7_3, tb_v7_4, tb_v7_5, tb_v7_6⟩
def tb_k8 : am_K := ([(96, (.long 255))], [(7, 8, 0), (13, 3, 1), (19, 8, 1), (20, 3, 3), (24, 8, 2), (39, 1, 1), (49, 3, 7), (66, 4, 0), (76, 4, 4), (86, 4, 2)], [(7, 8, 0), (19, 8, 1), (24, 8, 2)], [], [(25, 26), (29, 30), (32, 29), (35, 27), (45, 32), (52, 28), (56, 19), (62, 42), (72, 24), (79, 51), (83, 7), (89, 23), (93, 22)], [1], [])
set_option maxRecDepth 100000 in
theorem tb_v8_0 : ∀ r ∈ tb_k8.1, am_vc tb_tbl "FlagMachine$Bits" r := (am_fa1 (tb_i3 (i := 224) rfl rfl) am_fa0)
set_option maxRecDepth 100000 in
theorem tb_v8_1 : ∀ r ∈ tb_k8.2.1, am_vf tb_tbl tb_nst tb_cl "FlagMachine$Bits" r := (am_fa1 (am_vf_p rfl (Nat.le_of_ble_eq_true rfl) (tb_i2 (i := 24) rfl rfl)) (am_fa1 (am_vf_p rfl (Nat.le_of_ble_eq_true rfl) (tb_i1 (i := 167) rfl rfl)) (am_fa1 (am_vf_p rfl (Nat.le_of_ble_eq_true rfl) (tb_i2 (i := 25) rfl rfl)) (am_fa1 (am_vf_p rfl (Nat.le_of_ble_eq_true rfl) (tb_i1 (i := 179) rfl rfl)) (am_fa1 (am_vf_p rfl (Nat.le_of_ble_eq_true rfl) (tb_i2 (i := 26) rfl rfl)) (am_fa1 (am_vf_p rfl (Nat.le_of_ble_eq_true rfl) (tb_i1 (i := 36) rfl rfl)) (am_fa1 (am_vf_p rfl (Nat.le_of_ble_eq_true rfl) (tb_i1 (i := 194) rfl rfl)) (am_fa1 (am_vf_p rfl (Nat.le_of_ble_eq_true rfl) (tb_i1 (i := 120) rfl rfl)) (am_fa1 (am_vf_p rfl (Nat.le_of_ble_eq_true rfl) (tb_i1 (i := 126) rfl rfl)) (am_fa1 (am_vf_p rfl (Nat.le_of_ble_eq_true rfl) (tb_i1 (i := 123) rfl rfl)) am_fa0))))))))))
set_option maxRecDepth 100000 in
theorem tb_v8_2 : ∀ r ∈ tb_k8.2.2.1, am_vg tb_tbl tb_cl "FlagMachine$Bits" r := (am_fa1 (am_vg_p rfl (Nat.le_of_ble_eq_true rfl) rfl rfl (tb_i2 (i := 24) rfl rfl)) (am_fa1 (am_vg_p rfl (Nat.le_of_ble_eq_true rfl) rfl rfl (tb_i2 (i := 25) rfl rfl)) (am_fa1 (am_vg_p rfl (Nat.le_of_ble_eq_true rfl) rfl rfl (tb_i2 (i := 26) rfl rfl)) am_fa0)))
set_option maxRecDepth 100000 in
theorem tb_v8_3 : ∀ r ∈ tb_k8.2.2.2.1, am_vn tb_tbl tb_cl "FlagMachine$Bits" r := am_fa0
set_option maxRecDepth 100000 in
theorem tb_v8_4 : ∀ r ∈ tb_k8.2.2.2.2.1, am_lnkM tb_tbl tb_nst "FlagMachine$Bits" r.1 (tb_mt r.2).1 := (am_fa1 (Or.inl (tb_i3 (i := 208) rfl rfl)) (am_fa1 (Or.inl (tb_i3 (i := 220) rfl rfl)) (am_fa1 (Or.inl (tb_i3 (i := 225) rfl rfl)) (am_fa1 (Or.inl (tb_i3 (i := 229) rfl rfl)) (am_fa1 (Or.inl (tb_i3 (i := 212) rfl rfl)) (am_fa1 (Or.inl (tb_i3 (i := 233) rfl rfl)) (am_fa1 (Or.inr ⟨_, (tb_n3 (i := 236) rfl rfl)⟩) (am_fa1 (Or.inl (tb_i3 (i := 219) rfl rfl)) (am_fa1 (Or.inl (tb_i3 (i := 238) rfl rfl)) (am_fa1 (Or.inl (tb_i4 (i := 2) rfl rfl)) (am_fa1 (Or.inr ⟨_, (tb_n3 (i := 237) rfl rfl)⟩) (am_fa1 (Or.inl (tb_i3 (i := 213) rfl rfl)) (am_fa1 (Or.inl (tb_i3 (i := 216) rfl rfl)) am_fa0)))))))))))))
set_option maxRecDepth 100000 in
theorem tb_v8_5 : ∀ r ∈ tb_k8.2.2.2.2.2.1, Cond.methodLink "FlagMachine$Bits" r objectInit ∈ tb_tbl := (am_fa1 (tb_i2 (i := 23) rfl rfl) am_fa0)
set_option maxRecDepth 100000 in
theorem tb_v8_6 : ∀ r ∈ tb_k8.2.2.2.2.2.2, am_vx tb_tbl tb_tl "FlagMachine$Bits" r := am_fa0
theorem tb_v8 : am_vK tb_tbl tb_nst tb_cl tb_tl tb_mt "FlagMachine$Bits" tb_k8 := ⟨tb_v8_0, tb_v8_1, tb_v8_2, tb_v8_3, tb_v8_4, tb_v8_5, tb_v8_6⟩
def tb_k9 : am_K := ([(104, (.long 8))], [(9, 9, 0), (15, 3, 3), (21, 9, 1), (45, 3, 1), (49, 1, 2), (82, 3, 7), (85, 1, 1), (88, 3, 6), (100, 3, 0), (119, 3, 5), (122, 1, 3), (129, 3, 4)], [(9, 9, 0), (21, 9, 1)], [], [(22, 76), (25, 83), (28, 82), (31, 84), (35, 77), (39, 74), (42, 75), (55, 46), (61, 42), (65, 85), (68, 79), (71, 78), (74, 80), (78, 86), (92, 32), (96, 17), (106, 39), (110, 33), (113, 55), (116, 34), (126, 35)], [3], [])
set_option maxRecDepth 100000 in
theorem tb_v9_0 : ∀ r ∈ tb_k9.1, am_vc tb_tbl "FlagMachine$Moves" r := (am_fa1 (tb_i4 (i := 67) rfl rfl) am_fa0)
set_option maxRecDepth 100000 in
theorem tb_v9_1 : ∀ r ∈ tb_k9.2.1, am_vf tb_tbl tb_nst tb_cl "FlagMachine$Moves" r := (am_fa1 (am_vf_p rfl (Nat.le_of_ble_eq_true rfl) (tb_i2 (i := 40) rfl rfl)) (am_fa1 (am_vf_p rfl (Nat.le_of_ble_eq_true rfl) (tb_i1 (i := 177) rfl rfl)) (am_fa1 (am_vf_p rfl (Nat.le_of_ble_eq_true rfl) (tb_i2 (i := 41) rfl rfl)) (am_fa1 (am_vf_p rfl (Nat.le_of_ble_eq_true rfl) (tb_i1 (i := 169) rfl rfl)) (am_fa1 (am_vf_p rfl (Nat.le_of_ble_eq_true rfl) (tb_i1 (i := 40) rfl rfl)) (am_fa1 (am_vf_p rfl (Nat.le_of_ble_eq_true rfl) (tb_i1 (i := 192) rfl rfl)) (am_fa1 (am_vf_p rfl (Nat.le_of_ble_eq_true rfl) (tb_i1 (i := 37) rfl rfl)) (am_fa1 (am_vf_p rfl (Nat.le_of_ble_eq_true rfl) (tb_i1 (i := 189) rfl rfl)) (am_fa1 (am_vf_p rfl (Nat.le_of_ble_eq_true rfl) (tb_i1 (i := 164) rfl rfl)) (am_fa1 (am_vf_p rfl (Nat.le_of_ble_eq_true rfl) (tb_i1 (i := 186) rfl rfl)) (am_fa1 (am_vf_p rfl (Nat.le_of_ble_eq_true rfl) (tb_i1 (i := 47) rfl rfl)) (am_fa1 (am_vf_p rfl (Nat.le_of_ble_eq_true rfl) (tb_i1 (i := 183) rfl rfl)) am_fa0))))))))))))
set_option maxRecDepth 100000 in
theorem tb_v9_2 : ∀ r ∈ tb_k9.2.2.1, am_vg tb_tbl tb_cl "FlagMachine$Moves" r := (am_fa1 (am_vg_p rfl (Nat.le_of_ble_eq_true rfl) rfl rfl (tb_i2 (i := 40) rfl rfl)) (am_fa1 (am_vg_p rfl (Nat.le_of_ble_eq_true rfl) rfl rfl (tb_i2 (i := 41) rfl rfl)) am_fa0))
set_option maxRecDepth 100000 in
theorem tb_v9_3 : ∀ r ∈ tb_k9.2.2.2.1, am_vn tb_tbl tb_cl "FlagMachine$Moves" r := am_fa0
set_option maxRecDepth 100000 in
theorem tb_v9_4 : ∀ r ∈ tb_k9.2.2.2.2.1, am_lnkM tb_tbl tb_nst "FlagMachine$Moves" r.1 (tb_mt r.2).1 := (am_fa1 (Or.inl (tb_i4 (i := 57) rfl rfl)) (am_fa1 (Or.inl (tb_i4 (i := 63) rfl rfl)) (am_fa1 (Or.inl (tb_i4 (i := 69) rfl rfl)) (am_fa1 (Or.inl (tb_i4 (i := 76) rfl rfl)) (am_fa1 (Or.inl (tb_i4 (i := 80) rfl rfl)) (am_fa1 (Or.inl (tb_i4 (i := 84) rfl rfl)) (am_fa1 (Or.inl (tb_i4 (i := 88) rfl rfl)) (am_fa1 (Or.inl (tb_i4 (i := 92) rfl rfl)) (am_fa1 (Or.inl (tb_i4 (i := 62) rfl rfl)) (am_fa1 (Or.inl (tb_i4 (i := 100) rfl rfl)) (am_fa1 (Or.inl (tb_i4 (i := 104) rfl rfl)) (am_fa1 (Or.inl (tb_i4 (i := 108) rfl rfl)) (am_fa1 (Or.inl (tb_i4 (i := 112) rfl rfl)) (am_fa1 (Or.inl (tb_i4 (i := 117) rfl rfl)) (am_fa1 (Or.inl (tb_i4 (i := 61) rfl rfl)) (am_fa1 (Or.inr ⟨_, (tb_n4 (i := 121) rfl rfl)⟩) (am_fa1 (Or.inl (tb_i4 (i := 68) rfl rfl)) (am_fa1 (Or.inl (tb_i4 (i := 73) rfl rfl)) (am_fa1 (Or.inl (tb_i4 (i := 74) rfl rfl)) (am_fa1 (Or.inl (tb_i4 (i := 75) rfl rfl)) (am_fa1 (Or.inl (tb_i4 (i := 116) rfl rfl)) am_fa0)))))))))))))))))))))
set_option maxRecDepth 100000 in
theorem tb_v9_5 : ∀ r ∈ tb_k9.2.2.2.2.2.1, Cond.methodLink "FlagMachine$Moves" r objectInit ∈ tb_tbl := (am_fa1 (tb_i2 (i := 39) rfl rfl) am_fa0)
set_option maxRecDepth 100000 in
theorem tb_v9_6 : ∀ r ∈ tb_k9.2.2.2.2.2.2, am_vx tb_tbl tb_tl "FlagMachine$Moves" r := am_fa0
theorem tb_v9 : am_vK tb_tbl tb_nst tb_cl tb_tl tb_mt "FlagMachine$Moves" tb_k9 := ⟨tb_v9_0, tb_v9_1, tb_v9_2, tb_v9_3, tb_v9_4, tb_v9_5, tb_v9_6⟩
def tb_k10 : am_K := ([(11, (.int 65536)), (73, (.long 12)), (88, (.long 60)), (94, (.long (-38))), (104, (.long (-14))), (109, (.long (-28)))], [(15, 10, 1), (21, 10, 2), (24, 10, 0), (28, 10, 3), (32, 10, 4), (35, 10, 5), (46, 3, 0), (52, 3, 5), (56, 3, 1), (75, 3, 2), (106, 5, 0)], [(15, 10, 1), (21, 10, 2), (24, 10, 0)], [(9, 2)], [(12, 106), (38, 116), (42, 108), (60, 44), (66, 105), (70, 101), (79, 70), (85, 66), (90, 41), (96, 3), (100, 71), (111, 112)], [3], [])
set_option maxRecDepth 100000 in
theorem tb_v10_0 : ∀ r ∈ tb_k10.1, am_vc tb_tbl "FlagMachine$Services" r := (am_fa1 (tb_i2 (i := 54) rfl rfl) (am_fa1 (tb_i4 (i := 36) rfl rfl) (am_fa1 (tb_i4 (i := 50) rfl rfl) (am_fa1 (tb_i4 (i := 52) rfl rfl) (am_fa1 (tb_i4 (i := 18) rfl rfl) (am_fa1 (tb_i4 (i := 28) rfl rfl) am_fa0))))))
set_option maxRecDepth 100000 in
theorem tb_v10_1 : ∀ r ∈ tb_k10.2.1, am_vf tb_tbl tb_nst tb_cl "FlagMachine$Services" r := (am_fa1 (am_vf_p rfl (Nat.le_of_ble_eq_true rfl) (tb_i2 (i := 57) rfl rfl)) (am_fa1 (am_vf_p rfl (Nat.le_of_ble_eq_true rfl) (tb_i2 (i := 58) rfl rfl)) (am_fa1 (am_vf_p rfl (Nat.le_of_ble_eq_true rfl) (tb_i2 (i := 56) rfl rfl)) (am_fa1 (am_vf_p rfl (Nat.le_of_ble_eq_true rfl) (tb_i2 (i := 59) rfl rfl)) (am_fa1 (am_vf_p rfl (Nat.le_of_ble_eq_true rfl) (tb_i2 (i := 60) rfl rfl)) (am_fa1 (am_vf_p rfl (Nat.le_of_ble_eq_true rfl) (tb_i2 (i := 61) rfl rfl)) (am_fa1 (am_vf_p rfl (Nat.le_of_ble_eq_true rfl) (tb_i1 (i := 163) rfl rfl)) (am_fa1 (am_vf_p rfl (Nat.le_of_ble_eq_true rfl) (tb_i1 (i := 185) rfl rfl)) (am_fa1 (am_vf_p rfl (Nat.le_of_ble_eq_true rfl) (tb_i1 (i := 171) rfl rfl)) (am_fa1 (am_vf_p rfl (Nat.le_of_ble_eq_true rfl) (tb_i1 (i := 175) rfl rfl)) (am_fa1 (am_vf_p rfl (Nat.le_of_ble_eq_true rfl) (tb_i1 (i := 149) rfl rfl)) am_fa0)))))))))))
set_option maxRecDepth 100000 in
theorem tb_v10_2 : ∀ r ∈ tb_k10.2.2.1, am_vg tb_tbl tb_cl "FlagMachine$Services" r := (am_fa1 (am_vg_p rfl (Nat.le_of_ble_eq_true rfl) rfl rfl (tb_i2 (i := 57) rfl rfl)) (am_fa1 (am_vg_p rfl (Nat.le_of_ble_eq_true rfl) rfl rfl (tb_i2 (i := 58) rfl rfl)) (am_fa1 (am_vg_p rfl (Nat.le_of_ble_eq_true rfl) rfl rfl (tb_i2 (i := 56) rfl rfl)) am_fa0)))
set_option maxRecDepth 100000 in
theorem tb_v10_3 : ∀ r ∈ tb_k10.2.2.2.1, am_vn tb_tbl tb_cl "FlagMachine$Services" r := (am_fa1 (am_vn_p rfl (tb_i2 (i := 53) rfl rfl)) am_fa0)
set_option maxRecDepth 100000 in
theorem tb_v10_4 : ∀ r ∈ tb_k10.2.2.2.2.1, am_lnkM tb_tbl tb_nst "FlagMachine$Services" r.1 (tb_mt r.2).1 := (am_fa1 (Or.inl (tb_i2 (i := 55) rfl rfl)) (am_fa1 (Or.inl (tb_i4 (i := 23) rfl rfl)) (am_fa1 (Or.inl (tb_i4 (i := 19) rfl rfl)) (am_fa1 (Or.inl (tb_i4 (i := 8) rfl rfl)) (am_fa1 (Or.inl (tb_i4 (i := 12) rfl rfl)) (am_fa1 (Or.inl (tb_i4 (i := 24) rfl rfl)) (am_fa1 (Or.inl (tb_i4 (i := 37) rfl rfl)) (am_fa1 (Or.inl (tb_i4 (i := 46) rfl rfl)) (am_fa1 (Or.inl (tb_i4 (i := 51) rfl rfl)) (am_fa1 (Or.inr ⟨_, (tb_n4 (i := 16) rfl rfl)⟩) (am_fa1 (Or.inl (tb_i4 (i := 17) rfl rfl)) (am_fa1 (Or.inl (tb_i4 (i := 29) rfl rfl)) am_fa0))))))))))))
set_option maxRecDepth 100000 in
theorem tb_v10_5 : ∀ r ∈ tb_k10.2.2.2.2.2.1, Cond.methodLink "FlagMachine$Services" r objectInit ∈ tb_tbl := (am_fa1 (tb_i2 (i := 52) rfl rfl) am_fa0)
set_option maxRecDepth 100000 in
theorem tb_v10_6 : ∀ r ∈ tb_k10.2.2.2.2.2.2, am_vx tb_tbl tb_tl "FlagMachine$Services" r := am_fa0
theorem tb_v10 : am_vK tb_tbl tb_nst tb_cl tb_tl tb_mt "FlagMachine$Services" tb_k10 := ⟨tb_v10_0, tb_v10_1, tb_v10_2, tb_v10_3, tb_v10_4, tb_v10_5, tb_v10_6⟩
def tb_k11 : am_K := ([], [], [(9, 11, 2), (15, 11, 0), (19, 11, 1)], [], [], [3], [])
set_option maxRecDepth 100000 in
theorem tb_v11_0 : ∀ r ∈ tb_k11.1, am_vc tb_tbl "FlagMachine$Page" r := am_fa0
set_option maxRecDepth 100000 in
theorem tb_v11_1 : ∀ r ∈ tb_k11.2.1, am_vf tb_tbl tb_nst tb_cl "FlagMachine$Page" r := am_fa0
set_option maxRecDepth 100000 in
theorem tb_v11_2 : ∀ r ∈ tb_k11.2.2.1, am_vg tb_tbl tb_cl "FlagMachine$Page" r := (am_fa1 (am_vg_p rfl (Nat.le_of_ble_eq_true rfl) rfl rfl (tb_i2 (i := 127) rfl rfl)) (am_fa1 (am_vg_p rfl (Nat.le_of_ble_eq_true rfl) rfl rfl (tb_i2 (i := 123) rfl rfl)) (am_fa1 (am_vg_p rfl (Nat.le_of_ble_eq_true rfl) rfl rfl (tb_i2 (i := 125) rfl rfl)) am_fa0)))
set_option maxRecDepth 100000 in
theorem tb_v11_3 : ∀ r ∈ tb_k11.2.2.2.1, am_vn tb_tbl tb_cl "FlagMachine$Page" r := am_fa0
set_option maxRecDepth 100000 in
theorem tb_v11_4 : ∀ r ∈ tb_k11.2.2.2.2.1, am_lnkM tb_tbl tb_nst "FlagMachine$Page" r.1 (tb_mt r.2).1 := am_fa0
set_option maxRecDepth 100000 in
theorem tb_v11_5 : ∀ r ∈ tb_k11.2.2.2.2.2.1, Cond.methodLink "FlagMachine$Page" r objectInit ∈ tb_tbl := (am_fa1 (tb_i2 (i := 122) rfl rfl) am_fa0)
set_option maxRecDepth 100000 in
theorem tb_v11_6 : ∀ r ∈ tb_k11.2.2.2.2.2.2, am_vx tb_tbl tb_tl "FlagMachine$Page" r := am_fa0
theorem tb_v11 : am_vK tb_tbl tb_nst tb_cl tb_tl tb_mt "FlagMachine$Page" tb_k11 := ⟨tb_v11_0, tb_v11_1, tb_v11_2, tb_v11_3, tb_v11_4, tb_v11_5, tb_v11_6⟩
def tb_k12 : am_K := ([(9, (.int 262144)), (17, (.int 65536)), (82, (.long 2147479552)), (88, (.long 4194304)), (112, (.long 262144)), (126, (.long (-128))), (128, (.long 127)), (134, (.long (-2147483648))), (136, (.long 2147483647)), (145, (.long 255)), (147, (.long 65535)), (163, (.int 1048576)), (164, (.long 2147414016)), (166, (.long 65536)), (168, (.int 2097152)), (169, (.int 65535)), (192, (.long 4294967295)), (210, (.long (-256))), (247, (.long 2)), (249, (.long 4)), (251, (.long 64)), (253, (.long 128)), (255, (.long 2048)), (277, (.long (-1))), (279, (.long (-9223372036854775808))), (285, (.long (-65536))), (294, (.long 8)), (308, (.long 1048576)), (317, (.long (-14))), (319, (.long (-28))), (321, (.long 12)), (323, (.long 60)), (325, (.long (-38)))], [(10, 12, 1), (14, 12, 2), (18, 12, 3), (21, 12, 4), (24, 12, 5), (27, 12, 6), (30, 12, 16), (34, 12, 17), (37, 12, 30), (41, 12, 33), (44, 12, 34), (47, 12, 35), (50, 12, 39), (54, 12, 40), (61, 12, 0), (64, 12, 7), (67, 12, 8), (70, 12, 9), (73, 12, 10), (76, 12, 11), (79, 12, 12), (90, 12, 18), (94, 12, 13), (97, 12, 14), (100, 12, 15), (103, 12, 26), (106, 12, 19), (109, 12, 20), (114, 12, 31), (117, 12, 32), (120, 12, 36), (123, 12, 38), (170, 12, 27), (173, 12, 28), (204, 12, 29), (220, 12, 23), (227, 12, 24), (230, 12, 22), (237, 12, 21), (240, 12, 25), (305, 12, 37)], [(10, 12, 1), (14, 12, 2), (18, 12, 3), (21, 12, 4), (24, 12, 5), (27, 12, 6), (30, 12, 16), (34, 12, 17), (50, 12, 39), (54, 12, 40)], [], [(57, 128), (84, 174), (130, 148), (138, 146), (142, 149), (149, 180), (153, 161), (156, 155), (159, 142), (176, 139), (180, 183), (184, 133), (188, 175), (194, 151), (197, 171), (200, 135), (207, 152), (212, 176), (216, 184), (224, 189), (233, 131), (243, 191), (257, 187), (261, 126), (265, 186), (268, 169), (271, 127), (274, 178), (281, 144), (287, 143), (290, 137), (296, 168), (299, 166), (302, 147), (310, 140), (313, 153), (327, 129), (330, 156), (333, 179), (336, 157), (340, 136), (343, 167), (347, 177), (350, 141), (353, 134), (356, 181), (359, 172), (362, 132), (365, 188), (368, 185), (371, 150), (374, 164)], [1], [])
set_option maxRecDepth 100000 in
theorem tb_v12_0 : ∀ r ∈ tb_k12.1, am_vc tb_tbl "FlagMachineModel" r := (am_fa1 (tb_i4 (i := 172) rfl rfl) (am_fa1 (tb_i4 (i := 173) rfl rfl) (am_fa1 (tb_i4 (i := 178) rfl rfl) (am_fa1 (tb_i4 (i := 187) rfl rfl) (am_fa1 (tb_i5 (i := 80) rfl rfl) (am_fa1 (tb_i5 (i := 121) rfl rfl) (am_fa1 (tb_i5 (i := 122) rfl rfl) (am_fa1 (tb_i5 (i := 127) rfl rfl) (am_fa1 (tb_i5 (i := 128) rfl rfl) (am_fa1 (tb_i5 (i := 129) rfl rfl) (am_fa1 (tb_i5 (i := 130) rfl rfl) (am_fa1 (tb_i5 (i := 180) rfl rfl) (am_fa1 (tb_i5 (i := 181) rfl rfl) (am_fa1 (tb_i5 (i := 182) rfl rfl) (am_fa1 (tb_i5 (i := 183) rfl rfl) (am_fa1 (tb_i5 (i := 192) rfl rfl) (am_fa1 (tb_i5 (i := 167) rfl rfl) (am_fa1 (tb_i5 (i := 220) rfl rfl) (am_fa1 (tb_i5 (i := 139) rfl rfl) (am_fa1 (tb_i4 (i := 183) rfl rfl) (am_fa1 (tb_i4 (i := 184) rfl rfl) (am_fa1 (tb_i4 (i := 185) rfl rfl) (am_fa1 (tb_i4 (i := 186) rfl rfl) (am_fa1 (tb_i6 (i := 0) rfl rfl) (am_fa1 (tb_i5 (i := 200) rfl rfl) (am_fa1 (tb_i6 (i := 5) rfl rfl) (am_fa1 (tb_i6 (i := 36) rfl rfl) (am_fa1 (tb_i6 (i := 61) rfl rfl) (am_fa1 (tb_i6 (i := 62) rfl rfl) (am_fa1 (tb_i6 (i := 63) rfl rfl) (am_fa1 (tb_i6 (i := 64) rfl rfl) (am_fa1 (tb_i6 (i := 65) rfl rfl) (am_fa1 (tb_i6 (i := 66) rfl rfl) am_fa0)))))))))))))))))))))))))))))))))
set_option maxRecDepth 100000 in
theorem tb_v12_1 : ∀ r ∈ tb_k12.2.1, am_vf tb_tbl tb_nst tb_cl "FlagMachineModel" r := (am_fa1 (am_vf_p rfl (Nat.le_of_ble_eq_true rfl) (tb_i4 (i := 189) rfl rfl)) (am_fa1 (am_vf_p rfl (Nat.le_of_ble_eq_true rfl) (tb_i4 (i := 190) rfl rfl)) (am_fa1 (am_vf_p rfl (Nat.le_of_ble_eq_true rfl) (tb_i4 (i := 191) rfl rfl)) (am_fa1 (am_vf_p rfl (Nat.le_of_ble_eq_true rfl) (tb_i4 (i := 192) rfl rfl)) (am_fa1 (am_vf_p rfl (Nat.le_of_ble_eq_true rfl) (tb_i4 (i := 193) rfl rfl)) (am_fa1 (am_vf_p rfl (Nat.le_of_ble_eq_true rfl) (tb_i4 (i := 194) rfl rfl)) (am_fa1 (am_vf_p rfl (Nat.le_of_ble_eq_true rfl) (tb_i4 (i := 204) rfl rfl)) (am_fa1 (am_vf_p rfl (Nat.le_of_ble_eq_true rfl) (tb_i4 (i := 205) rfl rfl)) (am_fa1 (am_vf_p rfl (Nat.le_of_ble_eq_true rfl) (tb_i4 (i := 218) rfl rfl)) (am_fa1 (am_vf_p rfl (Nat.le_of_ble_eq_true rfl) (tb_i4 (i := 221) rfl rfl)) (am_fa1 (am_vf_p rfl (Nat.le_of_ble_eq_true rfl) (tb_i4 (i := 222) rfl rfl)) (am_fa1 (am_vf_p rfl (Nat.le_of_ble_eq_true rfl) (tb_i4 (i := 223) rfl rfl)) (am_fa1 (am_vf_p rfl (Nat.le_of_ble_eq_true rfl) (tb_i4 (i := 227) rfl rfl)) (am_fa1 (am_vf_p rfl (Nat.le_of_ble_eq_true rfl) (tb_i4 (i := 228) rfl rfl)) (am_fa1 (am_vf_p rfl (Nat.le_of_ble_eq_true rfl) (tb_i4 (i := 188) rfl rfl)) (am_fa1 (am_vf_p rfl (Nat.le_of_ble_eq_true rfl) (tb_i4 (i := 195) rfl rfl)) (am_fa1 (am_vf_p rfl (Nat.le_of_ble_eq_true rfl) (tb_i4 (i := 196) rfl rfl)) (am_fa1 (am_vf_p rfl (Nat.le_of_ble_eq_true rfl) (tb_i4 (i := 197) rfl rfl)) (am_fa1 (am_vf_p rfl (Nat.le_of_ble_eq_true rfl) (tb_i4 (i := 198) rfl rfl)) (am_fa1 (am_vf_p rfl (Nat.le_of_ble_eq_true rfl) (tb_i4 (i := 199) rfl rfl)) (am_fa1 (am_vf_p rfl (Nat.le_of_ble_eq_true rfl) (tb_i4 (i := 200) rfl rfl)) (am_fa1 (am_vf_p rfl (Nat.le_of_ble_eq_true rfl) (tb_i4 (i := 206) rfl rfl)) (am_fa1 (am_vf_p rfl (Nat.le_of_ble_eq_true rfl) (tb_i4 (i := 201) rfl rfl)) (am_fa1 (am_vf_p rfl (Nat.le_of_ble_eq_true rfl) (tb_i4 (i := 202) rfl rfl)) (am_fa1 (am_vf_p rfl (Nat.le_of_ble_eq_true rfl) (tb_i4 (i := 203) rfl rfl)) (am_fa1 (am_vf_p rfl (Nat.le_of_ble_eq_true rfl) (tb_i4 (i := 214) rfl rfl)) (am_fa1 (am_vf_p rfl (Nat.le_of_ble_eq_true rfl) (tb_i4 (i := 207) rfl rfl)) (am_fa1 (am_vf_p rfl (Nat.le_of_ble_eq_true rfl) (tb_i4 (i := 208) rfl rfl)) (am_fa1 (am_vf_p rfl (Nat.le_of_ble_eq_true rfl) (tb_i4 (i := 219) rfl rfl)) (am_fa1 (am_vf_p rfl (Nat.le_of_ble_eq_true rfl) (tb_i4 (i := 220) rfl rfl)) (am_fa1 (am_vf_p rfl (Nat.le_of_ble_eq_true rfl) (tb_i4 (i := 224) rfl rfl)) (am_fa1 (am_vf_p rfl (Nat.le_of_ble_eq_true rfl) (tb_i4 (i := 226) rfl rfl)) (am_fa1 (am_vf_p rfl (Nat.le_of_ble_eq_true rfl) (tb_i4 (i := 215) rfl rfl)) (am_fa1 (am_vf_p rfl (Nat.le_of_ble_eq_true rfl) (tb_i4 (i := 216) rfl rfl)) (am_fa1 (am_vf_p rfl (Nat.le_of_ble_eq_true rfl) (tb_i4 (i := 217) rfl rfl)) (am_fa1 (am_vf_p rfl (Nat.le_of_ble_eq_true rfl) (tb_i4 (i := 211) rfl rfl)) (am_fa1 (am_vf_p rfl (Nat.le_of_ble_eq_true rfl) (tb_i4 (i := 212) rfl rfl)) (am_fa1 (am_vf_p rfl (Nat.le_of_ble_eq_true rfl) (tb_i4 (i := 210) rfl rfl)) (am_fa1 (am_vf_p rfl (Nat.le_of_ble_eq_true rfl) (tb_i4 (i := 209) rfl rfl)) (am_fa1 (am_vf_p rfl (Nat.le_of_ble_eq_true rfl) (tb_i4 (i := 213) rfl rfl)) (am_fa1 (am_vf_p rfl (Nat.le_of_ble_eq_true rfl) (tb_i4 (i := 225) rfl rfl)) am_fa0)))))))))))))))))))))))))))))))))))))))))
set_option maxRecDepth 100000 in
theorem tb_v12_2 : ∀ r ∈ tb_k12.2.2.1, am_vg tb_tbl tb_cl "FlagMachineModel" r := (am_fa1 (am_vg_p rfl (Nat.le_of_ble_eq_true rfl) rfl rfl (tb_i4 (i := 189) rfl rfl)) (am_fa1 (am_vg_p rfl (Nat.le_of_ble_eq_true rfl) rfl rfl (tb_i4 (i := 190) rfl rfl)) (am_fa1 (am_vg_p rfl (Nat.le_of_ble_eq_true rfl) rfl rfl (tb_i4 (i := 191) rfl rfl)) (am_fa1 (am_vg_p rfl (Nat.le_of_ble_eq_true rfl) rfl rfl (tb_i4 (i := 192) rfl rfl)) (am_fa1 (am_vg_p rfl (Nat.le_of_ble_eq_true rfl) rfl rfl (tb_i4 (i := 193) rfl rfl)) (am_fa1 (am_vg_p rfl (Nat.le_of_ble_eq_true rfl) rfl rfl (tb_i4 (i := 194) rfl rfl)) (am_fa1 (am_vg_p rfl (Nat.le_of_ble_eq_true rfl) rfl rfl (tb_i4 (i := 204) rfl rfl)) (am_fa1 (am_vg_p rfl (Nat.le_of_ble_eq_true rfl) rfl rfl (tb_i4 (i := 205) rfl rfl)) (am_fa1 (am_vg_p rfl (Nat.le_of_ble_eq_true rfl) rfl rfl (tb_i4 (i := 227) rfl rfl)) (am_fa1 (am_vg_p rfl (Nat.le_of_ble_eq_true rfl) rfl rfl (tb_i4 (i := 228) rfl rfl)) am_fa0))))))))))
set_option maxRecDepth 100000 in
theorem tb_v12_3 : ∀ r ∈ tb_k12.2.2.2.1, am_vn tb_tbl tb_cl "FlagMachineModel" r := am_fa0
set_option maxRecDepth 100000 in
theorem tb_v12_4 : ∀ r ∈ tb_k12.2.2.2.2.1, am_lnkM tb_tbl tb_nst "FlagMachineModel" r.1 (tb_mt r.2).1 := (am_fa1 (Or.inl (tb_i4 (i := 174) rfl rfl)) (am_fa1 (Or.inl (tb_i4 (i := 179) rfl rfl)) (am_fa1 (Or.inl (tb_i5 (i := 123) rfl rfl)) (am_fa1 (Or.inl (tb_i5 (i := 113) rfl rfl)) (am_fa1 (Or.inl (tb_i5 (i := 117) rfl rfl)) (am_fa1 (Or.inl (tb_i5 (i := 105) rfl rfl)) (am_fa1 (Or.inl (tb_i5 (i := 109) rfl rfl)) (am_fa1 (Or.inl (tb_i5 (i := 131) rfl rfl)) (am_fa1 (Or.inl (tb_i5 (i := 176) rfl rfl)) (am_fa1 (Or.inl (tb_i5 (i := 172) rfl rfl)) (am_fa1 (Or.inl (tb_i5 (i := 184) rfl rfl)) (am_fa1 (Or.inl (tb_i5 (i := 188) rfl rfl)) (am_fa1 (Or.inl (tb_i5 (i := 225) rfl rfl)) (am_fa1 (Or.inl (tb_i5 (i := 156) rfl rfl)) (am_fa1 (Or.inl (tb_i5 (i := 160) rfl rfl)) (am_fa1 (Or.inl (tb_i5 (i := 164) rfl rfl)) (am_fa1 (Or.inl (tb_i5 (i := 168) rfl rfl)) (am_fa1 (Or.inl (tb_i5 (i := 216) rfl rfl)) (am_fa1 (Or.inl (tb_i5 (i := 221) rfl rfl)) (am_fa1 (Or.inl (tb_i5 (i := 201) rfl rfl)) (am_fa1 (Or.inl (tb_i5 (i := 197) rfl rfl)) (am_fa1 (Or.inl (tb_i5 (i := 204) rfl rfl)) (am_fa1 (Or.inl (tb_i5 (i := 152) rfl rfl)) (am_fa1 (Or.inl (tb_i5 (i := 193) rfl rfl)) (am_fa1 (Or.inl (tb_i5 (i := 208) rfl rfl)) (am_fa1 (Or.inl (tb_i5 (i := 212) rfl rfl)) (am_fa1 (Or.inl (tb_i5 (i := 140) rfl rfl)) (am_fa1 (Or.inl (tb_i5 (i := 233) rfl rfl)) (am_fa1 (Or.inl (tb_i6 (i := 9) rfl rfl)) (am_fa1 (Or.inl (tb_i6 (i := 6) rfl rfl)) (am_fa1 (Or.inl (tb_i6 (i := 16) rfl rfl)) (am_fa1 (Or.inl (tb_i6 (i := 32) rfl rfl)) (am_fa1 (Or.inl (tb_i6 (i := 37) rfl rfl)) (am_fa1 (Or.inl (tb_i6 (i := 41) rfl rfl)) (am_fa1 (Or.inl (tb_i5 (i := 135) rfl rfl)) (am_fa1 (Or.inl (tb_i6 (i := 57) rfl rfl)) (am_fa1 (Or.inl (tb_i5 (i := 148) rfl rfl)) (am_fa1 (Or.inl (tb_i5 (i := 229) rfl rfl)) (am_fa1 (Or.inl (tb_i5 (i := 236) rfl rfl)) (am_fa1 (Or.inl (tb_i6 (i := 1) rfl rfl)) (am_fa1 (Or.inl (tb_i6 (i := 12) rfl rfl)) (am_fa1 (Or.inl (tb_i6 (i := 20) rfl rfl)) (am_fa1 (Or.inl (tb_i6 (i := 24) rfl rfl)) (am_fa1 (Or.inl (tb_i6 (i := 28) rfl rfl)) (am_fa1 (Or.inl (tb_i6 (i := 45) rfl rfl)) (am_fa1 (Or.inl (tb_i6 (i := 49) rfl rfl)) (am_fa1 (Or.inl (tb_i6 (i := 53) rfl rfl)) (am_fa1 (Or.inl (tb_i6 (i := 67) rfl rfl)) (am_fa1 (Or.inl (tb_i6 (i := 71) rfl rfl)) (am_fa1 (Or.inl (tb_i6 (i := 75) rfl rfl)) (am_fa1 (Or.inl (tb_i5 (i := 101) rfl rfl)) (am_fa1 (Or.inl (tb_i5 (i := 144) rfl rfl)) am_fa0))))))))))))))))))))))))))))))))))))))))))))))))))))
set_option maxRecDepth 100000 in
theorem tb_v12_5 : ∀ r ∈ tb_k12.2.2.2.2.2.1, Cond.methodLink "FlagMachineModel" r objectInit ∈ tb_tbl := (am_fa1 (tb_i4 (i := 171) rfl rfl) am_fa0)
set_option maxRecDepth 100000 in
theorem tb_v12_6 : ∀ r ∈ tb_k12.2.2.2.2.2.2, am_vx tb_tbl tb_tl "FlagMachineModel" r := am_fa0
theorem tb_v12 : am_vK tb_tbl tb_nst tb_cl tb_tl tb_mt "FlagMachineModel" tb_k12 := ⟨tb_v12_0, tb_v12_1, tb_v12_2, tb_v12_3, tb_v12_4, tb_v12_5, tb_v12_6⟩
def tb_k13 : am_K := ([(18, (.long 4294967295))], [], [], [(7, 0), (10, 12)], [(9, 1), (12, 125), (13, 2), (17, 130), (20, 4), (24, 138), (25, 10), (29, 159), (30, 11), (34, 160), (35, 8), (39, 154), (40, 9), (44, 158), (45, 18), (49, 182), (50, 20), (54, 190), (55, 15), (59, 170), (60, 16), (64, 173), (65, 6), (69, 145), (70, 12), (73, 162), (74, 13), (78, 163), (79, 14), (82, 165)], [], [])
set_option maxRecDepth 100000 in
theorem tb_v13_0 : ∀ r ∈ tb_k13.1, am_vc tb_tbl "FlagMachineLaw" r := (am_fa1 (tb_i6 (i := 107) rfl rfl) am_fa0)
set_option maxRecDepth 100000 in
theorem tb_v13_1 : ∀ r ∈ tb_k13.2.1, am_vf tb_tbl tb_nst tb_cl "FlagMachineLaw" r := am_fa0
set_option maxRecDepth 100000 in
theorem tb_v13_2 : ∀ r ∈ tb_k13.2.2.1, am_vg tb_tbl tb_cl "FlagMachineLaw" r := am_fa0
set_option maxRecDepth 100000 in
theorem tb_v13_3 : ∀ r ∈ tb_k13.2.2.2.1, am_vn tb_tbl tb_cl "FlagMachineLaw" r := (am_fa1 (am_vn_p rfl (tb_i1 (i := 18) rfl rfl)) (am_fa1 (am_vn_p rfl (tb_i4 (i := 166) rfl rfl)) am_fa0))
set_option maxRecDepth 100000 in
theorem tb_v13_4 : ∀ r ∈ tb_k13.2.2.2.2.1, am_lnkM tb_tbl tb_nst "FlagMachineLaw" r.1 (tb_mt r.2).1 := (am_fa1 (Or.inl (tb_i1 (i := 20) rfl rfl)) (am_fa1 (Or.inl (tb_i4 (i := 168) rfl rfl)) (am_fa1 (Or.inl (tb_i2 (i := 198) rfl rfl)) (am_fa1 (Or.inl (tb_i5 (i := 72) rfl rfl)) (am_fa1 (Or.inl (tb_i2 (i := 199) rfl rfl)) (am_fa1 (Or.inl (tb_i5 (i := 76) rfl rfl)) (am_fa1 (Or.inl (tb_i2 (i := 208) rfl rfl)) (am_fa1 (Or.inl (tb_i5 (i := 81) rfl rfl)) (am_fa1 (Or.inl (tb_i2 (i := 212) rfl rfl)) (am_fa1 (Or.inl (tb_i5 (i := 85) rfl rfl)) (am_fa1 (Or.inl (tb_i2 (i := 216) rfl rfl)) (am_fa1 (Or.inl (tb_i5 (i := 89) rfl rfl)) (am_fa1 (Or.inl (tb_i2 (i := 220) rfl rfl)) (am_fa1 (Or.inl (tb_i5 (i := 93) rfl rfl)) (am_fa1 (Or.inl (tb_i2 (i := 224) rfl rfl)) (am_fa1 (Or.inl (tb_i5 (i := 97) rfl rfl)) (am_fa1 (Or.inl (tb_i4 (i := 126) rfl rfl)) (am_fa1 (Or.inl (tb_i6 (i := 79) rfl rfl)) (am_fa1 (Or.inl (tb_i4 (i := 130) rfl rfl)) (am_fa1 (Or.inl (tb_i6 (i := 83) rfl rfl)) (am_fa1 (Or.inl (tb_i4 (i := 136) rfl rfl)) (am_fa1 (Or.inl (tb_i6 (i := 87) rfl rfl)) (am_fa1 (Or.inl (tb_i4 (i := 140) rfl rfl)) (am_fa1 (Or.inl (tb_i6 (i := 91) rfl rfl)) (am_fa1 (Or.inl (tb_i4 (i := 148) rfl rfl)) (am_fa1 (Or.inl (tb_i6 (i := 95) rfl rfl)) (am_fa1 (Or.inl (tb_i4 (i := 156) rfl rfl)) (am_fa1 (Or.inl (tb_i6 (i := 99) rfl rfl)) (am_fa1 (Or.inl (tb_i4 (i := 162) rfl rfl)) (am_fa1 (Or.inl (tb_i6 (i := 103) rfl rfl)) am_fa0))))))))))))))))))))))))))))))
set_option maxRecDepth 100000 in
theorem tb_v13_5 : ∀ r ∈ tb_k13.2.2.2.2.2.1, Cond.methodLink "FlagMachineLaw" r objectInit ∈ tb_tbl := am_fa0
set_option maxRecDepth 100000 in
theorem tb_v13_6 : ∀ r ∈ tb_k13.2.2.2.2.2.2, am_vx tb_tbl tb_tl "FlagMachineLaw" r := am_fa0
theorem tb_v13 : am_vK tb_tbl tb_nst tb_cl tb_tl tb_mt "FlagMachineLaw" tb_k13 := ⟨tb_v13_0, tb_v13_1, tb_v13_2, tb_v13_3, tb_v13_4, tb_v13_5, tb_v13_6⟩
def tb_k14 : am_K := ([(314, (.long 6148914691236517205)), (316, (.long 3689348814741910323)), (318, (.long 1085102592571150095))], [], [], [], [], [], [])
set_option maxRecDepth 100000 in
theorem tb_v14_0 : ∀ r ∈ tb_k14.1, am_vc tb_tbl "java/lang/Long" r := (am_fa1 (tb_i3 (i := 131) rfl rfl) (am_fa1 (tb_i3 (i := 132) rfl rfl) (am_fa1 (tb_i3 (i := 133) rfl rfl) am_fa0)))
set_option maxRecDepth 100000 in
theorem tb_v14_1 : ∀ r ∈ tb_k14.2.1, am_vf tb_tbl tb_nst tb_cl "java/lang/Long" r := am_fa0
set_option maxRecDepth 100000 in
theorem tb_v14_2 : ∀ r ∈ tb_k14.2.2.1, am_vg tb_tbl tb_cl "java/lang/Long" r := am_fa0
set_option maxRecDepth 100000 in
theorem tb_v14_3 : ∀ r ∈ tb_k14.2.2.2.1, am_vn tb_tbl tb_cl "java/lang/Long" r := am_fa0
set_option maxRecDepth 100000 in
theorem tb_v14_4 : ∀ r ∈ tb_k14.2.2.2.2.1, am_lnkM tb_tbl tb_nst "java/lang/Long" r.1 (tb_mt r.2).1 := am_fa0
set_option maxRecDepth 100000 in
theorem tb_v14_5 : ∀ r ∈ tb_k14.2.2.2.2.2.1, Cond.methodLink "java/lang/Long" r objectInit ∈ tb_tbl := am_fa0
set_option maxRecDepth 100000 in
theorem tb_v14_6 : ∀ r ∈ tb_k14.2.2.2.2.2.2, am_vx tb_tbl tb_tl "java/lang/Long" r := am_fa0
theorem tb_v14 : am_vK tb_tbl tb_nst tb_cl tb_tl tb_mt "java/lang/Long" tb_k14 := ⟨tb_v14_0, tb_v14_1, tb_v14_2, tb_v14_3, tb_v14_4, tb_v14_5, tb_v14_6⟩
def tb_k15 : am_K := ([], [], [], [], [(13, 196)], [], [])
set_option maxRecDepth 100000 in
theorem tb_v15_0 : ∀ r ∈ tb_k15.1, am_vc tb_tbl "java/util/Arrays" r := am_fa0
set_option maxRecDepth 100000 in
theorem tb_v15_1 : ∀ r ∈ tb_k15.2.1, am_vf tb_tbl tb_nst tb_cl "java/util/Arrays" r := am_fa0
set_option maxRecDepth 100000 in
theorem tb_v15_2 : ∀ r ∈ tb_k15.2.2.1, am_vg tb_tbl tb_cl "java/util/Arrays" r := am_fa0
set_option maxRecDepth 100000 in
theorem tb_v15_3 : ∀ r ∈ tb_k15.2.2.2.1, am_vn tb_tbl tb_cl "java/util/Arrays" r := am_fa0
set_option maxRecDepth 100000 in
theorem tb_v15_4 : ∀ r ∈ tb_k15.2.2.2.2.1, am_lnkM tb_tbl tb_nst "java/util/Arrays" r.1 (tb_mt r.2).1 := (am_fa1 (Or.inl (tb_i2 (i := 144) rfl rfl)) am_fa0)
set_option maxRecDepth 100000 in
theorem tb_v15_5 : ∀ r ∈ tb_k15.2.2.2.2.2.1, Cond.methodLink "java/util/Arrays" r objectInit ∈ tb_tbl := am_fa0
set_option maxRecDepth 100000 in
theorem tb_v15_6 : ∀ r ∈ tb_k15.2.2.2.2.2.2, am_vx tb_tbl tb_tl "java/util/Arrays" r := am_fa0
theorem tb_v15 : am_vK tb_tbl tb_nst tb_cl tb_tl tb_mt "java/util/Arrays" tb_k15 := ⟨tb_v15_0, tb_v15_1, tb_v15_2, tb_v15_3, tb_v15_4, tb_v15_5, tb_v15_6⟩
set_option maxRecDepth 100000 in
theorem tb_u0 : ∀ w ∈ u_ws "FlagMachine" tb_F0 10, w ∈ tb_tbl := (am_fa1 (tb_i2 (i := 177) rfl rfl) (am_fa1 (tb_i2 (i := 179) rfl rfl) (am_fa1 (tb_i2 (i := 181) rfl rfl) (am_fa1 (tb_i2 (i := 183) rfl rfl) (am_fa1 (tb_i2 (i := 185) rfl rfl) (am_fa1 (tb_i2 (i := 187) rfl rfl) (am_fa1 (tb_i2 (i := 189) rfl rfl) (am_fa1 (tb_i2 (i := 191) rfl rfl) (am_fa1 (tb_i2 (i := 193) rfl rfl) (am_fa1 (tb_i2 (i := 195) rfl rfl) am_fa0))))))))))
set_option maxRecDepth 100000 in
theorem tb_ty0 : ∀ k, k < 10 → parseFieldDescriptor (tb_F0 k).2.2.1 = some (tb_fty 0 k) := by decide +kernel
set_option maxRecDepth 100000 in
theorem tb_nm0 : ∀ a, a < 10 → ∀ b, b < 10 → a ≠ b → (tb_F0 a).2.1 ≠ (tb_F0 b).2.1 := by decide +kernel
set_option maxRecDepth 100000 in
theorem tb_q0 : ∃ q, tb_cl[0]? = some q ∧ Cond.instantiable q.1 q.2.2 ∈ tb_tbl ∧ Cond.initialized q.1 ∈ tb_tbl ∧ (tb_dfl 0).length = q.2.2 ∧ (∀ j, j < q.2.2 → defaultValue (tb_fty 0 j) = vp_V (tb_dfl 0) j) ∧ ∀ v ∈ tb_dfl 0, v.asRef? = none ∨ v = .null := ⟨_, rfl, (tb_i1 (i := 19) rfl rfl), (tb_i1 (i := 1) rfl rfl), rfl, (by decide +kernel), (by decide +kernel)⟩
set_option maxRecDepth 100000 in
theorem tb_u1 : ∀ w ∈ u_ws "FlagMachine$Instruction" tb_F1 10, w ∈ tb_tbl := (am_fa1 (tb_i1 (i := 65) rfl rfl) (am_fa1 (tb_i1 (i := 67) rfl rfl) (am_fa1 (tb_i1 (i := 69) rfl rfl) (am_fa1 (tb_i1 (i := 71) rfl rfl) (am_fa1 (tb_i1 (i := 73) rfl rfl) (am_fa1 (tb_i1 (i := 75) rfl rfl) (am_fa1 (tb_i1 (i := 77) rfl rfl) (am_fa1 (tb_i1 (i := 79) rfl rfl) (am_fa1 (tb_i1 (i := 81) rfl rfl) (am_fa1 (tb_i1 (i := 83) rfl rfl) am_fa0))))))))))
set_option maxRecDepth 100000 in
theorem tb_ty1 : ∀ k, k < 10 → parseFieldDescriptor (tb_F1 k).2.2.1 = some (tb_fty 1 k) := by decide +kernel
set_option maxRecDepth 100000 in
theorem tb_nm1 : ∀ a, a < 10 → ∀ b, b < 10 → a ≠ b → (tb_F1 a).2.1 ≠ (tb_F1 b).2.1 := by decide +kernel
set_option maxRecDepth 100000 in
theorem tb_q1 : ∃ q, tb_cl[1]? = some q ∧ Cond.instantiable q.1 q.2.2 ∈ tb_tbl ∧ Cond.initialized q.1 ∈ tb_tbl ∧ (tb_dfl 1).length = q.2.2 ∧ (∀ j, j < q.2.2 → defaultValue (tb_fty 1 j) = vp_V (tb_dfl 1) j) ∧ ∀ v ∈ tb_dfl 1, v.asRef? = none ∨ v = .null := ⟨_, rfl, (tb_i1 (i := 27) rfl rfl), (tb_i1 (i := 2) rfl rfl), rfl, (by decide +kernel), (by decide +kernel)⟩
set_option maxRecDepth 100000 in
theorem tb_u2 : ∀ w ∈ u_ws "FlagMachine$Stretch" tb_F2 2, w ∈ tb_tbl := (am_fa1 (tb_i1 (i := 101) rfl rfl) (am_fa1 (tb_i1 (i := 103) rfl rfl) am_fa0))
set_option maxRecDepth 100000 in
theorem tb_ty2 : ∀ k, k < 2 → parseFieldDescriptor (tb_F2 k).2.2.1 = some (tb_fty 2 k) := by decide +kernel
set_option maxRecDepth 100000 in
theorem tb_nm2 : ∀ a, a < 2 → ∀ b, b < 2 → a ≠ b → (tb_F2 a).2.1 ≠ (tb_F2 b).2.1 := by decide +kernel
set_option maxRecDepth 100000 in
theorem tb_q2 : ∃ q, tb_cl[2]? = some q ∧ Cond.instantiable q.1 q.2.2 ∈ tb_tbl ∧ Cond.initialized q.1 ∈ tb_tbl ∧ (tb_dfl 2).length = q.2.2 ∧ (∀ j, j < q.2.2 → defaultValue (tb_fty 2 j) = vp_V (tb_dfl 2) j) ∧ ∀ v ∈ tb_dfl 2, v.asRef? = none ∨ v = .null := ⟨_, rfl, (tb_i1 (i := 88) rfl rfl), (tb_i1 (i := 3) rfl rfl), rfl, (by decide +kernel), (by decide +kernel)⟩
set_option maxRecDepth 100000 in
theorem tb_u3 : ∀ w ∈ u_ws "FlagMachine$Core" tb_F3 9, w ∈ tb_tbl := (am_fa1 (tb_i1 (i := 198) rfl rfl) (am_fa1 (tb_i1 (i := 200) rfl rfl) (am_fa1 (tb_i1 (i := 202) rfl rfl) (am_fa1 (tb_i1 (i := 204) rfl rfl) (am_fa1 (tb_i1 (i := 206) rfl rfl) (am_fa1 (tb_i1 (i := 208) rfl rfl) (am_fa1 (tb_i1 (i := 210) rfl rfl) (am_fa1 (tb_i1 (i := 212) rfl rfl) (am_fa1 (tb_i1 (i := 214) rfl rfl) am_fa0)))))))))
set_option maxRecDepth 100000 in
theorem tb_ty3 : ∀ k, k < 9 → parseFieldDescriptor (tb_F3 k).2.2.1 = some (tb_fty 3 k) := by decide +kernel
set_option maxRecDepth 100000 in
theorem tb_nm3 : ∀ a, a < 9 → ∀ b, b < 9 → a ≠ b → (tb_F3 a).2.1 ≠ (tb_F3 b).2.1 := by decide +kernel
set_option maxRecDepth 100000 in
theorem tb_q3 : ∃ q, tb_cl[3]? = some q ∧ Cond.instantiable q.1 q.2.2 ∈ tb_tbl ∧ Cond.initialized q.1 ∈ tb_tbl ∧ (tb_dfl 3).length = q.2.2 ∧ (∀ j, j < q.2.2 → defaultValue (tb_fty 3 j) = vp_V (tb_dfl 3) j) ∧ ∀ v ∈ tb_dfl 3, v.asRef? = none ∨ v = .null := ⟨_, rfl, (tb_i1 (i := 107) rfl rfl), (tb_i1 (i := 5) rfl rfl), rfl, (by decide +kernel), (by decide +kernel)⟩
set_option maxRecDepth 100000 in
theorem tb_u4 : ∀ w ∈ u_ws "FlagMachine$Flags" tb_F4 5, w ∈ tb_tbl := (am_fa1 (tb_i1 (i := 127) rfl rfl) (am_fa1 (tb_i1 (i := 129) rfl rfl) (am_fa1 (tb_i1 (i := 131) rfl rfl) (am_fa1 (tb_i1 (i := 133) rfl rfl) (am_fa1 (tb_i1 (i := 135) rfl rfl) am_fa0)))))
set_option maxRecDepth 100000 in
theorem tb_ty4 : ∀ k, k < 5 → parseFieldDescriptor (tb_F4 k).2.2.1 = some (tb_fty 4 k) := by decide +kernel
set_option maxRecDepth 100000 in
theorem tb_nm4 : ∀ a, a < 5 → ∀ b, b < 5 → a ≠ b → (tb_F4 a).2.1 ≠ (tb_F4 b).2.1 := by decide +kernel
set_option maxRecDepth 100000 in
theorem tb_q4 : ∃ q, tb_cl[4]? = some q ∧ Cond.instantiable q.1 q.2.2 ∈ tb_tbl ∧ Cond.initialized q.1 ∈ tb_tbl ∧ (tb_dfl 4).length = q.2.2 ∧ (∀ j, j < q.2.2 → defaultValue (tb_fty 4 j) = vp_V (tb_dfl 4) j) ∧ ∀ v ∈ tb_dfl 4, v.asRef? = none ∨ v = .null := ⟨_, rfl, (tb_i1 (i := 113) rfl rfl), (tb_i1 (i := 6) rfl rfl), rfl, (by decide +kernel), (by decide +kernel)⟩
set_option maxRecDepth 100000 in
theorem tb_u5 : ∀ w ∈ u_ws "FlagMachine$Memory" tb_F5 3, w ∈ tb_tbl := (am_fa1 (tb_i1 (i := 154) rfl rfl) (am_fa1 (tb_i1 (i := 156) rfl rfl) (am_fa1 (tb_i1 (i := 158) rfl rfl) am_fa0)))
set_option maxRecDepth 100000 in
theorem tb_ty5 : ∀ k, k < 3 → parseFieldDescriptor (tb_F5 k).2.2.1 = some (tb_fty 5 k) := by decide +kernel
set_option maxRecDepth 100000 in
theorem tb_nm5 : ∀ a, a < 3 → ∀ b, b < 3 → a ≠ b → (tb_F5 a).2.1 ≠ (tb_F5 b).2.1 := by decide +kernel
set_option maxRecDepth 100000 in
theorem tb_q5 : ∃ q, tb_cl[5]? = some q ∧ Cond.instantiable q.1 q.2.2 ∈ tb_tbl ∧ Cond.initialized q.1 ∈ tb_tbl ∧ (tb_dfl 5).length = q.2.2 ∧ (∀ j, j < q.2.2 → defaultValue (tb_fty 5 j) = vp_V (tb_dfl 5) j) ∧ ∀ v ∈ tb_dfl 5, v.asRef? = none ∨ v = .null := ⟨_, rfl, (tb_i1 (i := 140) rfl rfl), (tb_i1 (i := 7) rfl rfl), rfl, (by decide +kernel), (by decide +kernel)⟩
set_option maxRecDepth 100000 in
theorem tb_u6 : ∀ w ∈ u_ws "FlagMachine$Sums" tb_F6 3, w ∈ tb_tbl := (am_fa1 (tb_i1 (i := 226) rfl rfl) (am_fa1 (tb_i1 (i := 228) rfl rfl) (am_fa1 (tb_i1 (i := 230) rfl rfl) am_fa0)))
set_option maxRecDepth 100000 in
theorem tb_ty6 : ∀ k, k < 3 → parseFieldDescriptor (tb_F6 k).2.2.1 = some (tb_fty 6 k) := by decide +kernel
set_option maxRecDepth 100000 in
theorem tb_nm6 : ∀ a, a < 3 → ∀ b, b < 3 → a ≠ b → (tb_F6 a).2.1 ≠ (tb_F6 b).2.1 := by decide +kernel
set_option maxRecDepth 100000 in
theorem tb_q6 : ∃ q, tb_cl[6]? = some q ∧ Cond.instantiable q.1 q.2.2 ∈ tb_tbl ∧ Cond.initialized q.1 ∈ tb_tbl ∧ (tb_dfl 6).length = q.2.2 ∧ (∀ j, j < q.2.2 → defaultValue (tb_fty 6 j) = vp_V (tb_dfl 6) j) ∧ ∀ v ∈ tb_dfl 6, v.asRef? = none ∨ v = .null := ⟨_, rfl, (tb_i1 (i := 218) rfl rfl), (tb_i1 (i := 8) rfl rfl), rfl, (by decide +kernel), (by decide +kernel)⟩
set_option maxRecDepth 100000 in
theorem tb_u7 : ∀ w ∈ u_ws "FlagMachine$Products" tb_F7 6, w ∈ tb_tbl := (am_fa1 (tb_i2 (i := 5) rfl rfl) (am_fa1 (tb_i2 (i := 7) rfl rfl) (am_fa1 (tb_i2 (i := 9) rfl rfl) (am_fa1 (tb_i2 (i := 11) rfl rfl) (am_fa1 (tb_i2 (i := 13) rfl rfl) (am_fa1 (tb_i2 (i := 15) rfl rfl) am_fa0))))))
set_option maxRecDepth 100000 in
theorem tb_ty7 : ∀ k, k < 6 → parseFieldDescriptor (tb_F7 k).2.2.1 = some (tb_fty 7 k) := by decide +kernel
set_option maxRecDepth 100000 in
theorem tb_nm7 : ∀ a, a < 6 → ∀ b, b < 6 → a ≠ b → (tb_F7 a).2.1 ≠ (tb_F7 b).2.1 := by decide +kernel
set_option maxRecDepth 100000 in
theorem tb_q7 : ∃ q, tb_cl[7]? = some q ∧ Cond.instantiable q.1 q.2.2 ∈ tb_tbl ∧ Cond.initialized q.1 ∈ tb_tbl ∧ (tb_dfl 7).length = q.2.2 ∧ (∀ j, j < q.2.2 → defaultValue (tb_fty 7 j) = vp_V (tb_dfl 7) j) ∧ ∀ v ∈ tb_dfl 7, v.asRef? = none ∨ v = .null := ⟨_, rfl, (tb_i1 (i := 234) rfl rfl), (tb_i1 (i := 9) rfl rfl), rfl, (by decide +kernel), (by decide +kernel)⟩
set_option maxRecDepth 100000 in
theorem tb_u8 : ∀ w ∈ u_ws "FlagMachine$Bits" tb_F8 3, w ∈ tb_tbl := (am_fa1 (tb_i2 (i := 27) rfl rfl) (am_fa1 (tb_i2 (i := 29) rfl rfl) (am_fa1 (tb_i2 (i := 31) rfl rfl) am_fa0)))
set_option maxRecDepth 100000 in
theorem tb_ty8 : ∀ k, k < 3 → parseFieldDescriptor (tb_F8 k).2.2.1 = some (tb_fty 8 k) := by decide +kernel
set_option maxRecDepth 100000 in
theorem tb_nm8 : ∀ a, a < 3 → ∀ b, b < 3 → a ≠ b → (tb_F8 a).2.1 ≠ (tb_F8 b).2.1 := by decide +kernel
set_option maxRecDepth 100000 in
theorem tb_q8 : ∃ q, tb_cl[8]? = some q ∧ Cond.instantiable q.1 q.2.2 ∈ tb_tbl ∧ Cond.initialized q.1 ∈ tb_tbl ∧ (tb_dfl 8).length = q.2.2 ∧ (∀ j, j < q.2.2 → defaultValue (tb_fty 8 j) = vp_V (tb_dfl 8) j) ∧ ∀ v ∈ tb_dfl 8, v.asRef? = none ∨ v = .null := ⟨_, rfl, (tb_i2 (i := 19) rfl rfl), (tb_i1 (i := 10) rfl rfl), rfl, (by decide +kernel), (by decide +kernel)⟩
set_option maxRecDepth 100000 in
theorem tb_u9 : ∀ w ∈ u_ws "FlagMachine$Moves" tb_F9 2, w ∈ tb_tbl := (am_fa1 (tb_i2 (i := 42) rfl rfl) (am_fa1 (tb_i2 (i := 44) rfl rfl) am_fa0))
set_option maxRecDepth 100000 in
theorem tb_ty9 : ∀ k, k < 2 → parseFieldDescriptor (tb_F9 k).2.2.1 = some (tb_fty 9 k) := by decide +kernel
set_option maxRecDepth 100000 in
theorem tb_nm9 : ∀ a, a < 2 → ∀ b, b < 2 → a ≠ b → (tb_F9 a).2.1 ≠ (tb_F9 b).2.1 := by decide +kernel
set_option maxRecDepth 100000 in
theorem tb_q9 : ∃ q, tb_cl[9]? = some q ∧ Cond.instantiable q.1 q.2.2 ∈ tb_tbl ∧ Cond.initialized q.1 ∈ tb_tbl ∧ (tb_dfl 9).length = q.2.2 ∧ (∀ j, j < q.2.2 → defaultValue (tb_fty 9 j) = vp_V (tb_dfl 9) j) ∧ ∀ v ∈ tb_dfl 9, v.asRef? = none ∨ v = .null := ⟨_, rfl, (tb_i2 (i := 35) rfl rfl), (tb_i1 (i := 11) rfl rfl), rfl, (by decide +kernel), (by decide +kernel)⟩
set_option maxRecDepth 100000 in
theorem tb_u10 : ∀ w ∈ u_ws "FlagMachine$Services" tb_F10 6, w ∈ tb_tbl := (am_fa1 (tb_i2 (i := 62) rfl rfl) (am_fa1 (tb_i2 (i := 64) rfl rfl) (am_fa1 (tb_i2 (i := 66) rfl rfl) (am_fa1 (tb_i2 (i := 68) rfl rfl) (am_fa1 (tb_i2 (i := 70) rfl rfl) (am_fa1 (tb_i2 (i := 72) rfl rfl) am_fa0))))))
set_option maxRecDepth 100000 in
theorem tb_ty10 : ∀ k, k < 6 → parseFieldDescriptor (tb_F10 k).2.2.1 = some (tb_fty 10 k) := by decide +kernel
set_option maxRecDepth 100000 in
theorem tb_nm10 : ∀ a, a < 6 → ∀ b, b < 6 → a ≠ b → (tb_F10 a).2.1 ≠ (tb_F10 b).2.1 := by decide +kernel
set_option maxRecDepth 100000 in
theorem tb_q10 : ∃ q, tb_cl[10]? = some q ∧ Cond.instantiable q.1 q.2.2 ∈ tb_tbl ∧ Cond.initialized q.1 ∈ tb_tbl ∧ (tb_dfl 10).length = q.2.2 ∧ (∀ j, j < q.2.2 → defaultValue (tb_fty 10 j) = vp_V (tb_dfl 10) j) ∧ ∀ v ∈ tb_dfl 10, v.asRef? = none ∨ v = .null := ⟨_, rfl, (tb_i2 (i := 48) rfl rfl), (tb_i1 (i := 12) rfl rfl), rfl, (by decide +kernel), (by decide +kernel)⟩
set_option maxRecDepth 100000 in
theorem tb_u11 : ∀ w ∈ u_ws "FlagMachine$Page" tb_F11 3, w ∈ tb_tbl := (am_fa1 (tb_i2 (i := 129) rfl rfl) (am_fa1 (tb_i2 (i := 131) rfl rfl) (am_fa1 (tb_i2 (i := 133) rfl rfl) am_fa0)))
set_option maxRecDepth 100000 in
theorem tb_ty11 : ∀ k, k < 3 → parseFieldDescriptor (tb_F11 k).2.2.1 = some (tb_fty 11 k) := by decide +kernel
set_option maxRecDepth 100000 in
theorem tb_nm11 : ∀ a, a < 3 → ∀ b, b < 3 → a ≠ b → (tb_F11 a).2.1 ≠ (tb_F11 b).2.1 := by decide +kernel
set_option maxRecDepth 100000 in
theorem tb_q11 : ∃ q, tb_cl[11]? = some q ∧ Cond.instantiable q.1 q.2.2 ∈ tb_tbl ∧ Cond.initialized q.1 ∈ tb_tbl ∧ (tb_dfl 11).length = q.2.2 ∧ (∀ j, j < q.2.2 → defaultValue (tb_fty 11 j) = vp_V (tb_dfl 11) j) ∧ ∀ v ∈ tb_dfl 11, v.asRef? = none ∨ v = .null := ⟨_, rfl, (tb_i2 (i := 118) rfl rfl), (tb_i1 (i := 14) rfl rfl), rfl, (by decide +kernel), (by decide +kernel)⟩
set_option maxRecDepth 100000 in
theorem tb_u12 : ∀ w ∈ u_ws "FlagMachineModel" tb_F12 41, w ∈ tb_tbl := (am_fa1 (tb_i4 (i := 229) rfl rfl) (am_fa1 (tb_i4 (i := 231) rfl rfl) (am_fa1 (tb_i4 (i := 233) rfl rfl) (am_fa1 (tb_i4 (i := 235) rfl rfl) (am_fa1 (tb_i4 (i := 237) rfl rfl) (am_fa1 (tb_i4 (i := 239) rfl rfl) (am_fa1 (tb_i5 (i := 1) rfl rfl) (am_fa1 (tb_i5 (i := 3) rfl rfl) (am_fa1 (tb_i5 (i := 5) rfl rfl) (am_fa1 (tb_i5 (i := 7) rfl rfl) (am_fa1 (tb_i5 (i := 9) rfl rfl) (am_fa1 (tb_i5 (i := 11) rfl rfl) (am_fa1 (tb_i5 (i := 13) rfl rfl) (am_fa1 (tb_i5 (i := 15) rfl rfl) (am_fa1 (tb_i5 (i := 17) rfl rfl) (am_fa1 (tb_i5 (i := 19) rfl rfl) (am_fa1 (tb_i5 (i := 21) rfl rfl) (am_fa1 (tb_i5 (i := 23) rfl rfl) (am_fa1 (tb_i5 (i := 25) rfl rfl) (am_fa1 (tb_i5 (i := 27) rfl rfl) (am_fa1 (tb_i5 (i := 29) rfl rfl) (am_fa1 (tb_i5 (i := 31) rfl rfl) (am_fa1 (tb_i5 (i := 33) rfl rfl) (am_fa1 (tb_i5 (i := 35) rfl rfl) (am_fa1 (tb_i5 (i := 37) rfl rfl) (am_fa1 (tb_i5 (i := 39) rfl rfl) (am_fa1 (tb_i5 (i := 41) rfl rfl) (am_fa1 (tb_i5 (i := 43) rfl rfl) (am_fa1 (tb_i5 (i := 45) rfl rfl) (am_fa1 (tb_i5 (i := 47) rfl rfl) (am_fa1 (tb_i5 (i := 49) rfl rfl) (am_fa1 (tb_i5 (i := 51) rfl rfl) (am_fa1 (tb_i5 (i := 53) rfl rfl) (am_fa1 (tb_i5 (i := 55) rfl rfl) (am_fa1 (tb_i5 (i := 57) rfl rfl) (am_fa1 (tb_i5 (i := 59) rfl rfl) (am_fa1 (tb_i5 (i := 61) rfl rfl) (am_fa1 (tb_i5 (i := 63) rfl rfl) (am_fa1 (tb_i5 (i := 65) rfl rfl) (am_fa1 (tb_i5 (i := 67) rfl rfl) (am_fa1 (tb_i5 (i := 69) rfl rfl) am_fa0)))))))))))))))))))))))))))))))))))))))))
set_option maxRecDepth 100000 in
theorem tb_ty12 : ∀ k, k < 41 → parseFieldDescriptor (tb_F12 k).2.2.1 = some (tb_fty 12 k) := by decide +kernel
set_option maxRecDepth 100000 in
theorem tb_nm12 : ∀ a, a < 41 → ∀ b, b < 41 → a ≠ b → (tb_F12 a).2.1 ≠ (tb_F12 b).2.1 := by decide +kernel
set_option maxRecDepth 100000 in
theorem tb_q12 : ∃ q, tb_cl[12]? = some q ∧ Cond.instantiable q.1 q.2.2 ∈ tb_tbl ∧ Cond.initialized q.1 ∈ tb_tbl ∧ (tb_dfl 12).length = q.2.2 ∧ (∀ j, j < q.2.2 → defaultValue (tb_fty 12 j) = vp_V (tb_dfl 12) j) ∧ ∀ v ∈ tb_dfl 12, v.asRef? = none ∨ v = .null := ⟨_, rfl, (tb_i4 (i := 167) rfl rfl), (tb_i1 (i := 16) rfl rfl), rfl, (by decide +kernel), (by decide +kernel)⟩
theorem tb_pn0 : plainName "FlagMachine" = true ∧ "FlagMachine" ≠ "java/lang/invoke/MethodHandle" ∧ "FlagMachine" ≠ "java/lang/invoke/VarHandle" := by decide +kernel
theorem tb_pn1 : plainName "FlagMachine$Instruction" = true ∧ "FlagMachine$Instruction" ≠ "java/lang/invoke/MethodHandle" ∧ "FlagMachine$Instruction" ≠ "java/lang/invoke/VarHandle" := by decide +kernel
theorem tb_pn2 : plainName "FlagMachine$Stretch" = true ∧ "FlagMachine$Stretch" ≠ "java/lang/invoke/MethodHandle" ∧ "FlagMachine$Stretch" ≠ "java/lang/invoke/VarHandle" := by decide +kernel
theorem tb_pn3 : plainName "FlagMachine$Core" = true ∧ "FlagMachine$Core" ≠ "java/lang/invoke/MethodHandle" ∧ "FlagMachine$Core" ≠ "java/lang/invoke/VarHandle" := by decide +kernel
theorem tb_pn4 : plainName "FlagMachine$Flags" = true ∧ "FlagMachine$Flags" ≠ "java/lang/invoke/MethodHandle" ∧ "FlagMachine$Flags" ≠ "java/lang/invoke/VarHandle" := by decide +kernel
theorem tb_pn5 : plainName "FlagMachine$Memory" = true ∧ "FlagMachine$Memory" ≠ "java/lang/invoke/MethodHandle" ∧ "FlagMachine$Memory" ≠ "java/lang/invoke/VarHandle" := by decide +kernel
theorem tb_pn6 : plainName "FlagMachine$Sums" = true ∧ "FlagMachine$Sums" ≠ "java/lang/invoke/MethodHandle" ∧ "FlagMachine$Sums" ≠ "java/lang/invoke/VarHandle" := by decide +kernel
theorem tb_pn7 : plainName "FlagMachine$Products" = true ∧ "FlagMachine$Products" ≠ "java/lang/invoke/MethodHandle" ∧ "FlagMachine$Products" ≠ "java/lang/invoke/VarHandle" := by decide +kernel
theorem tb_pn8 : plainName "FlagMachine$Bits" = true ∧ "FlagMachine$Bits" ≠ "java/lang/invoke/MethodHandle" ∧ "FlagMachine$Bits" ≠ "java/lang/invoke/VarHandle" := by decide +kernel
theorem tb_pn9 : plainName "FlagMachine$Moves" = true ∧ "FlagMachine$Moves" ≠ "java/lang/invoke/MethodHandle" ∧ "FlagMachine$Moves" ≠ "java/lang/invoke/VarHandle" := by decide +kernel
theorem tb_pn10 : plainName "FlagMachine$Services" = true ∧ "FlagMachine$Services" ≠ "java/lang/invoke/MethodHandle" ∧ "FlagMachine$Services" ≠ "java/lang/invoke/VarHandle" := by decide +kernel
theorem tb_pn11 : plainName "FlagMachine$Page" = true ∧ "FlagMachine$Page" ≠ "java/lang/invoke/MethodHandle" ∧ "FlagMachine$Page" ≠ "java/lang/invoke/VarHandle" := by decide +kernel
theorem tb_pn12 : plainName "FlagMachineModel" = true ∧ "FlagMachineModel" ≠ "java/lang/invoke/MethodHandle" ∧ "FlagMachineModel" ≠ "java/lang/invoke/VarHandle" := by decide +kernel
theorem tb_pn14 : plainName "java/lang/Long" = true ∧ "java/lang/Long" ≠ "java/lang/invoke/MethodHandle" ∧ "java/lang/Long" ≠ "java/lang/invoke/VarHandle" := by decide +kernel
theorem tb_pn15 : plainName "java/util/Arrays" = true ∧ "java/util/Arrays" ≠ "java/lang/invoke/MethodHandle" ∧ "java/util/Arrays" ≠ "java/lang/invoke/VarHandle" := by decide +kernel
theorem tb_ds0 : (parseMethodDescriptor "()V").map (fun d => d.parameters.length + 1) = some 1 := by decide +kernel
set_option maxRecDepth 100000 in
theorem tb_j1 : am_vJ tb_tbl tb_cl (tb_mt 1) (tb_mj 1).1 (tb_mj 1).2 := am_vJ1 ⟨(tb_i1 (i := 22) rfl rfl), (tb_i1 (i := 1) rfl rfl), tb_pn0.1, tb_pn0.2.1, tb_pn0.2.2⟩ (tb_i1 (i := 21) rfl rfl) rfl rfl tb_ds0
theorem tb_ds1 : (parseMethodDescriptor "(IIIIII)Z").map (fun d => d.parameters.length + 1) = some 7 := by decide +kernel
set_option maxRecDepth 100000 in
theorem tb_j2 : am_vJ tb_tbl tb_cl (tb_mt 2) (tb_mj 2).1 (tb_mj 2).2 := am_vJ2 ⟨(tb_i2 (i := 78) rfl rfl), (tb_i1 (i := 1) rfl rfl), tb_pn0.1, tb_pn0.2.1, tb_pn0.2.2⟩ (tb_i2 (i := 76) rfl rfl) (tb_i2 (i := 77) rfl rfl) tb_ds1 rfl rfl
theorem tb_ds2 : (parseMethodDescriptor "(JJ)Z").map (fun d => d.parameters.length) = some 2 := by decide +kernel
set_option maxRecDepth 100000 in
theorem tb_j3 : am_vJ tb_tbl tb_cl (tb_mt 3) (tb_mj 3).1 (tb_mj 3).2 := am_vJ0 ⟨(tb_i3 (i := 196) rfl rfl), (tb_i1 (i := 1) rfl rfl), tb_pn0.1, tb_pn0.2.1, tb_pn0.2.2⟩ (tb_i3 (i := 195) rfl rfl) tb_ds2
theorem tb_ds3 : (parseMethodDescriptor "(IJ)V").map (fun d => d.parameters.length + 1) = some 3 := by decide +kernel
set_option maxRecDepth 100000 in
theorem tb_j4 : am_vJ tb_tbl tb_cl (tb_mt 4) (tb_mj 4).1 (tb_mj 4).2 := am_vJ2 ⟨(tb_i2 (i := 202) rfl rfl), (tb_i1 (i := 1) rfl rfl), tb_pn0.1, tb_pn0.2.1, tb_pn0.2.2⟩ (tb_i2 (i := 200) rfl rfl) (tb_i2 (i := 201) rfl rfl) tb_ds3 rfl rfl
theorem tb_ds4 : (parseMethodDescriptor "(I)I").map (fun d => d.parameters.length + 1) = some 2 := by decide +kernel
set_option maxRecDepth 100000 in
theorem tb_j5 : am_vJ tb_tbl tb_cl (tb_mt 5) (tb_mj 5).1 (tb_mj 5).2 := am_vJ2 ⟨(tb_i4 (i := 125) rfl rfl), (tb_i1 (i := 1) rfl rfl), tb_pn0.1, tb_pn0.2.1, tb_pn0.2.2⟩ (tb_i4 (i := 124) rfl rfl) (tb_i0 (i := 42) rfl rfl) tb_ds4 rfl rfl
theorem tb_ds5 : (parseMethodDescriptor "(JI)Z").map (fun d => d.parameters.length + 1) = some 3 := by decide +kernel
set_option maxRecDepth 100000 in
theorem tb_j6 : am_vJ tb_tbl tb_cl (tb_mt 6) (tb_mj 6).1 (tb_mj 6).2 := am_vJ2 ⟨(tb_i4 (i := 143) rfl rfl), (tb_i1 (i := 1) rfl rfl), tb_pn0.1, tb_pn0.2.1, tb_pn0.2.2⟩ (tb_i4 (i := 141) rfl rfl) (tb_i4 (i := 142) rfl rfl) tb_ds5 rfl rfl
theorem tb_ds6 : (parseMethodDescriptor "(I)J").map (fun d => d.parameters.length) = some 1 := by decide +kernel
set_option maxRecDepth 100000 in
theorem tb_j7 : am_vJ tb_tbl tb_cl (tb_mt 7) (tb_mj 7).1 (tb_mj 7).2 := am_vJ0 ⟨(tb_i3 (i := 59) rfl rfl), (tb_i1 (i := 1) rfl rfl), tb_pn0.1, tb_pn0.2.1, tb_pn0.2.2⟩ (tb_i3 (i := 58) rfl rfl) tb_ds6
theorem tb_ds7 : (parseMethodDescriptor "(IIII)V").map (fun d => d.parameters.length + 1) = some 5 := by decide +kernel
set_option maxRecDepth 100000 in
theorem tb_j8 : am_vJ tb_tbl tb_cl (tb_mt 8) (tb_mj 8).1 (tb_mj 8).2 := am_vJ2 ⟨(tb_i2 (i := 219) rfl rfl), (tb_i1 (i := 1) rfl rfl), tb_pn0.1, tb_pn0.2.1, tb_pn0.2.2⟩ (tb_i2 (i := 217) rfl rfl) (tb_i2 (i := 218) rfl rfl) tb_ds7 rfl rfl
theorem tb_ds8 : (parseMethodDescriptor "(J)V").map (fun d => d.parameters.length + 1) = some 2 := by decide +kernel
set_option maxRecDepth 100000 in
theorem tb_j9 : am_vJ tb_tbl tb_cl (tb_mt 9) (tb_mj 9).1 (tb_mj 9).2 := am_vJ2 ⟨(tb_i2 (i := 223) rfl rfl), (tb_i1 (i := 1) rfl rfl), tb_pn0.1, tb_pn0.2.1, tb_pn0.2.2⟩ (tb_i2 (i := 221) rfl rfl) (tb_i2 (i := 222) rfl rfl) tb_ds8 rfl rfl
theorem tb_ds9 : (parseMethodDescriptor "(III)V").map (fun d => d.parameters.length + 1) = some 4 := by decide +kernel
set_option maxRecDepth 100000 in
theorem tb_j10 : am_vJ tb_tbl tb_cl (tb_mt 10) (tb_mj 10).1 (tb_mj 10).2 := am_vJ2 ⟨(tb_i2 (i := 211) rfl rfl), (tb_i1 (i := 1) rfl rfl), tb_pn0.1, tb_pn0.2.1, tb_pn0.2.2⟩ (tb_i2 (i := 209) rfl rfl) (tb_i2 (i := 210) rfl rfl) tb_ds9 rfl rfl
theorem tb_ds10 : (parseMethodDescriptor "(III)Z").map (fun d => d.parameters.length + 1) = some 4 := by decide +kernel
set_option maxRecDepth 100000 in
theorem tb_j11 : am_vJ tb_tbl tb_cl (tb_mt 11) (tb_mj 11).1 (tb_mj 11).2 := am_vJ2 ⟨(tb_i2 (i := 215) rfl rfl), (tb_i1 (i := 1) rfl rfl), tb_pn0.1, tb_pn0.2.1, tb_pn0.2.2⟩ (tb_i2 (i := 213) rfl rfl) (tb_i2 (i := 214) rfl rfl) tb_ds10 rfl rfl
set_option maxRecDepth 100000 in
theorem tb_j12 : am_vJ tb_tbl tb_cl (tb_mt 12) (tb_mj 12).1 (tb_mj 12).2 := am_vJ2 ⟨(tb_i4 (i := 151) rfl rfl), (tb_i1 (i := 1) rfl rfl), tb_pn0.1, tb_pn0.2.1, tb_pn0.2.2⟩ (tb_i4 (i := 149) rfl rfl) (tb_i4 (i := 150) rfl rfl) tb_ds4 rfl rfl
theorem tb_ds11 : (parseMethodDescriptor "(J)I").map (fun d => d.parameters.length + 1) = some 2 := by decide +kernel
set_option maxRecDepth 100000 in
theorem tb_j13 : am_vJ tb_tbl tb_cl (tb_mt 13) (tb_mj 13).1 (tb_mj 13).2 := am_vJ2 ⟨(tb_i4 (i := 159) rfl rfl), (tb_i1 (i := 1) rfl rfl), tb_pn0.1, tb_pn0.2.1, tb_pn0.2.2⟩ (tb_i4 (i := 157) rfl rfl) (tb_i4 (i := 158) rfl rfl) tb_ds11 rfl rfl
set_option maxRecDepth 100000 in
theorem tb_j14 : am_vJ tb_tbl tb_cl (tb_mt 14) (tb_mj 14).1 (tb_mj 14).2 := am_vJ2 ⟨(tb_i4 (i := 165) rfl rfl), (tb_i1 (i := 1) rfl rfl), tb_pn0.1, tb_pn0.2.1, tb_pn0.2.2⟩ (tb_i4 (i := 163) rfl rfl) (tb_i4 (i := 164) rfl rfl) tb_ds5 rfl rfl
theorem tb_ds12 : (parseMethodDescriptor "(I)J").map (fun d => d.parameters.length + 1) = some 2 := by decide +kernel
set_option maxRecDepth 100000 in
theorem tb_j15 : am_vJ tb_tbl tb_cl (tb_mt 15) (tb_mj 15).1 (tb_mj 15).2 := am_vJ2 ⟨(tb_i4 (i := 133) rfl rfl), (tb_i1 (i := 1) rfl rfl), tb_pn0.1, tb_pn0.2.1, tb_pn0.2.2⟩ (tb_i4 (i := 131) rfl rfl) (tb_i4 (i := 132) rfl rfl) tb_ds12 rfl rfl
theorem tb_ds13 : (parseMethodDescriptor "(IJ)Z").map (fun d => d.parameters.length + 1) = some 3 := by decide +kernel
set_option maxRecDepth 100000 in
theorem tb_j16 : am_vJ tb_tbl tb_cl (tb_mt 16) (tb_mj 16).1 (tb_mj 16).2 := am_vJ2 ⟨(tb_i4 (i := 139) rfl rfl), (tb_i1 (i := 1) rfl rfl), tb_pn0.1, tb_pn0.2.1, tb_pn0.2.2⟩ (tb_i4 (i := 137) rfl rfl) (tb_i4 (i := 138) rfl rfl) tb_ds13 rfl rfl
theorem tb_ds14 : (parseMethodDescriptor "(JI)J").map (fun d => d.parameters.length) = some 2 := by decide +kernel
set_option maxRecDepth 100000 in
theorem tb_j17 : am_vJ tb_tbl tb_cl (tb_mt 17) (tb_mj 17).1 (tb_mj 17).2 := am_vJ0 ⟨(tb_i3 (i := 31) rfl rfl), (tb_i1 (i := 1) rfl rfl), tb_pn0.1, tb_pn0.2.1, tb_pn0.2.2⟩ (tb_i3 (i := 30) rfl rfl) tb_ds14
set_option maxRecDepth 100000 in
theorem tb_j18 : am_vJ tb_tbl tb_cl (tb_mt 18) (tb_mj 18).1 (tb_mj 18).2 := am_vJ2 ⟨(tb_i2 (i := 227) rfl rfl), (tb_i1 (i := 1) rfl rfl), tb_pn0.1, tb_pn0.2.1, tb_pn0.2.2⟩ (tb_i2 (i := 225) rfl rfl) (tb_i2 (i := 226) rfl rfl) tb_ds4 rfl rfl
set_option maxRecDepth 100000 in
theorem tb_j19 : am_vJ tb_tbl tb_cl (tb_mt 19) (tb_mj 19).1 (tb_mj 19).2 := am_vJ0 ⟨(tb_i3 (i := 121) rfl rfl), (tb_i1 (i := 1) rfl rfl), tb_pn0.1, tb_pn0.2.1, tb_pn0.2.2⟩ (tb_i3 (i := 120) rfl rfl) tb_ds6
theorem tb_ds15 : (parseMethodDescriptor "()J").map (fun d => d.parameters.length + 1) = some 1 := by decide +kernel
set_option maxRecDepth 100000 in
theorem tb_j20 : am_vJ tb_tbl tb_cl (tb_mt 20) (tb_mj 20).1 (tb_mj 20).2 := am_vJ2 ⟨(tb_i4 (i := 129) rfl rfl), (tb_i1 (i := 1) rfl rfl), tb_pn0.1, tb_pn0.2.1, tb_pn0.2.2⟩ (tb_i4 (i := 127) rfl rfl) (tb_i4 (i := 128) rfl rfl) tb_ds15 rfl rfl
theorem tb_ds16 : (parseMethodDescriptor "(LFlagMachine$Core;)V").map (fun d => d.parameters.length + 1) = some 2 := by decide +kernel
set_option maxRecDepth 100000 in
theorem tb_j21 : am_vJ tb_tbl tb_cl (tb_mt 21) (tb_mj 21).1 (tb_mj 21).2 := am_vJ1 ⟨(tb_i2 (i := 22) rfl rfl), (tb_i1 (i := 10) rfl rfl), tb_pn8.1, tb_pn8.2.1, tb_pn8.2.2⟩ (tb_i2 (i := 21) rfl rfl) rfl rfl tb_ds16
theorem tb_ds17 : (parseMethodDescriptor "(J)I").map (fun d => d.parameters.length) = some 1 := by decide +kernel
set_option maxRecDepth 100000 in
theorem tb_j22 : am_vJ tb_tbl tb_cl (tb_mt 22) (tb_mj 22).1 (tb_mj 22).2 := am_vJ0 ⟨(tb_i3 (i := 218) rfl rfl), (tb_i1 (i := 10) rfl rfl), tb_pn8.1, tb_pn8.2.1, tb_pn8.2.2⟩ (tb_i3 (i := 217) rfl rfl) tb_ds17
set_option maxRecDepth 100000 in
theorem tb_j23 : am_vJ tb_tbl tb_cl (tb_mt 23) (tb_mj 23).1 (tb_mj 23).2 := am_vJ0 ⟨(tb_i3 (i := 215) rfl rfl), (tb_i1 (i := 10) rfl rfl), tb_pn8.1, tb_pn8.2.1, tb_pn8.2.2⟩ (tb_i3 (i := 214) rfl rfl) tb_ds17
theorem tb_ds18 : (parseMethodDescriptor "(IJJI)Z").map (fun d => d.parameters.length + 1) = some 5 := by decide +kernel
set_option maxRecDepth 100000 in
theorem tb_j24 : am_vJ tb_tbl tb_cl (tb_mt 24) (tb_mj 24).1 (tb_mj 24).2 := am_vJ2 ⟨(tb_i4 (i := 1) rfl rfl), (tb_i1 (i := 10) rfl rfl), tb_pn8.1, tb_pn8.2.1, tb_pn8.2.2⟩ (tb_i4 (i := 0) rfl rfl) (tb_i0 (i := 26) rfl rfl) tb_ds18 rfl rfl
theorem tb_ds19 : (parseMethodDescriptor "(I)V").map (fun d => d.parameters.length + 1) = some 2 := by decide +kernel
set_option maxRecDepth 100000 in
theorem tb_j25 : am_vJ tb_tbl tb_cl (tb_mt 25) (tb_mj 25).1 (tb_mj 25).2 := am_vJ2 ⟨(tb_i3 (i := 207) rfl rfl), (tb_i1 (i := 10) rfl rfl), tb_pn8.1, tb_pn8.2.1, tb_pn8.2.2⟩ (tb_i3 (i := 205) rfl rfl) (tb_i3 (i := 206) rfl rfl) tb_ds19 rfl rfl
theorem tb_ds20 : (parseMethodDescriptor "(Z)V").map (fun d => d.parameters.length + 1) = some 2 := by decide +kernel
set_option maxRecDepth 100000 in
theorem tb_j26 : am_vJ tb_tbl tb_cl (tb_mt 26) (tb_mj 26).1 (tb_mj 26).2 := am_vJ2 ⟨(tb_i3 (i := 211) rfl rfl), (tb_i1 (i := 10) rfl rfl), tb_pn8.1, tb_pn8.2.1, tb_pn8.2.2⟩ (tb_i3 (i := 210) rfl rfl) (tb_i0 (i := 22) rfl rfl) tb_ds20 rfl rfl
set_option maxRecDepth 100000 in
theorem tb_j27 : am_vJ tb_tbl tb_cl (tb_mt 27) (tb_mj 27).1 (tb_mj 27).2 := am_vJ2 ⟨(tb_i3 (i := 232) rfl rfl), (tb_i1 (i := 10) rfl rfl), tb_pn8.1, tb_pn8.2.1, tb_pn8.2.2⟩ (tb_i3 (i := 231) rfl rfl) (tb_i0 (i := 25) rfl rfl) tb_ds19 rfl rfl
theorem tb_ds21 : (parseMethodDescriptor "(IJI)J").map (fun d => d.parameters.length) = some 3 := by decide +kernel
set_option maxRecDepth 100000 in
theorem tb_j28 : am_vJ tb_tbl tb_cl (tb_mt 28) (tb_mj 28).1 (tb_mj 28).2 := am_vJ0 ⟨(tb_i3 (i := 235) rfl rfl), (tb_i1 (i := 10) rfl rfl), tb_pn8.1, tb_pn8.2.1, tb_pn8.2.2⟩ (tb_i3 (i := 234) rfl rfl) tb_ds21
set_option maxRecDepth 100000 in
theorem tb_j29 : am_vJ tb_tbl tb_cl (tb_mt 29) (tb_mj 29).1 (tb_mj 29).2 := am_vJ2 ⟨(tb_i3 (i := 228) rfl rfl), (tb_i1 (i := 10) rfl rfl), tb_pn8.1, tb_pn8.2.1, tb_pn8.2.2⟩ (tb_i3 (i := 227) rfl rfl) (tb_i0 (i := 24) rfl rfl) tb_ds0 rfl rfl
set_option maxRecDepth 100000 in
theorem tb_j30 : am_vJ tb_tbl tb_cl (tb_mt 30) (tb_mj 30).1 (tb_mj 30).2 := am_vJ2 ⟨(tb_i3 (i := 223) rfl rfl), (tb_i1 (i := 10) rfl rfl), tb_pn8.1, tb_pn8.2.1, tb_pn8.2.2⟩ (tb_i3 (i := 222) rfl rfl) (tb_i0 (i := 23) rfl rfl) tb_ds0 rfl rfl
theorem tb_ds22 : (parseMethodDescriptor "(LFlagMachine$Instruction;)V").map (fun d => d.parameters.length + 1) = some 2 := by decide +kernel
set_option maxRecDepth 100000 in
theorem tb_j31 : am_vJ tb_tbl tb_cl (tb_mt 31) (tb_mj 31).1 (tb_mj 31).2 := am_vJ1 ⟨(tb_i1 (i := 110) rfl rfl), (tb_i1 (i := 5) rfl rfl), tb_pn3.1, tb_pn3.2.1, tb_pn3.2.2⟩ (tb_i1 (i := 109) rfl rfl) rfl rfl tb_ds22
theorem tb_ds23 : (parseMethodDescriptor "(II)J").map (fun d => d.parameters.length + 1) = some 3 := by decide +kernel
set_option maxRecDepth 100000 in
theorem tb_j32 : am_vJ tb_tbl tb_cl (tb_mt 32) (tb_mj 32).1 (tb_mj 32).2 := am_vJ2 ⟨(tb_i3 (i := 52) rfl rfl), (tb_i1 (i := 5) rfl rfl), tb_pn3.1, tb_pn3.2.1, tb_pn3.2.2⟩ (tb_i3 (i := 50) rfl rfl) (tb_i3 (i := 51) rfl rfl) tb_ds23 rfl rfl
theorem tb_ds24 : (parseMethodDescriptor "(JI)J").map (fun d => d.parameters.length + 1) = some 3 := by decide +kernel
set_option maxRecDepth 100000 in
theorem tb_j33 : am_vJ tb_tbl tb_cl (tb_mt 33) (tb_mj 33).1 (tb_mj 33).2 := am_vJ2 ⟨(tb_i3 (i := 64) rfl rfl), (tb_i1 (i := 5) rfl rfl), tb_pn3.1, tb_pn3.2.1, tb_pn3.2.2⟩ (tb_i3 (i := 62) rfl rfl) (tb_i3 (i := 63) rfl rfl) tb_ds24 rfl rfl
set_option maxRecDepth 100000 in
theorem tb_j34 : am_vJ tb_tbl tb_cl (tb_mt 34) (tb_mj 34).1 (tb_mj 34).2 := am_vJ2 ⟨(tb_i3 (i := 40) rfl rfl), (tb_i1 (i := 5) rfl rfl), tb_pn3.1, tb_pn3.2.1, tb_pn3.2.2⟩ (tb_i3 (i := 38) rfl rfl) (tb_i3 (i := 39) rfl rfl) tb_ds15 rfl rfl
set_option maxRecDepth 100000 in
theorem tb_j35 : am_vJ tb_tbl tb_cl (tb_mt 35) (tb_mj 35).1 (tb_mj 35).2 := am_vJ2 ⟨(tb_i3 (i := 56) rfl rfl), (tb_i1 (i := 5) rfl rfl), tb_pn3.1, tb_pn3.2.1, tb_pn3.2.2⟩ (tb_i3 (i := 54) rfl rfl) (tb_i3 (i := 55) rfl rfl) tb_ds23 rfl rfl
set_option maxRecDepth 100000 in
theorem tb_j36 : am_vJ tb_tbl tb_cl (tb_mt 36) (tb_mj 36).1 (tb_mj 36).2 := am_vJ2 ⟨(tb_i3 (i := 35) rfl rfl), (tb_i1 (i := 5) rfl rfl), tb_pn3.1, tb_pn3.2.1, tb_pn3.2.2⟩ (tb_i3 (i := 33) rfl rfl) (tb_i3 (i := 34) rfl rfl) tb_ds19 rfl rfl
theorem tb_ds25 : (parseMethodDescriptor "(IIJ)V").map (fun d => d.parameters.length + 1) = some 4 := by decide +kernel
set_option maxRecDepth 100000 in
theorem tb_j37 : am_vJ tb_tbl tb_cl (tb_mt 37) (tb_mj 37).1 (tb_mj 37).2 := am_vJ2 ⟨(tb_i3 (i := 97) rfl rfl), (tb_i1 (i := 5) rfl rfl), tb_pn3.1, tb_pn3.2.1, tb_pn3.2.2⟩ (tb_i3 (i := 95) rfl rfl) (tb_i3 (i := 96) rfl rfl) tb_ds25 rfl rfl
set_option maxRecDepth 100000 in
theorem tb_j38 : am_vJ tb_tbl tb_cl (tb_mt 38) (tb_mj 38).1 (tb_mj 38).2 := am_vJ2 ⟨(tb_i3 (i := 44) rfl rfl), (tb_i1 (i := 5) rfl rfl), tb_pn3.1, tb_pn3.2.1, tb_pn3.2.2⟩ (tb_i3 (i := 43) rfl rfl) (tb_i0 (i := 12) rfl rfl) tb_ds12 rfl rfl
theorem tb_ds26 : (parseMethodDescriptor "(JIJ)Z").map (fun d => d.parameters.length + 1) = some 4 := by decide +kernel
set_option maxRecDepth 100000 in
theorem tb_j39 : am_vJ tb_tbl tb_cl (tb_mt 39) (tb_mj 39).1 (tb_mj 39).2 := am_vJ2 ⟨(tb_i3 (i := 102) rfl rfl), (tb_i1 (i := 5) rfl rfl), tb_pn3.1, tb_pn3.2.1, tb_pn3.2.2⟩ (tb_i3 (i := 100) rfl rfl) (tb_i3 (i := 101) rfl rfl) tb_ds26 rfl rfl
set_option maxRecDepth 100000 in
theorem tb_j40 : am_vJ tb_tbl tb_cl (tb_mt 40) (tb_mj 40).1 (tb_mj 40).2 := am_vJ2 ⟨(tb_i2 (i := 153) rfl rfl), (tb_i1 (i := 5) rfl rfl), tb_pn3.1, tb_pn3.2.1, tb_pn3.2.2⟩ (tb_i2 (i := 151) rfl rfl) (tb_i2 (i := 152) rfl rfl) tb_ds0 rfl rfl
set_option maxRecDepth 100000 in
theorem tb_j41 : am_vJ tb_tbl tb_cl (tb_mt 41) (tb_mj 41).1 (tb_mj 41).2 := am_vJ2 ⟨(tb_i3 (i := 79) rfl rfl), (tb_i1 (i := 5) rfl rfl), tb_pn3.1, tb_pn3.2.1, tb_pn3.2.2⟩ (tb_i3 (i := 77) rfl rfl) (tb_i3 (i := 78) rfl rfl) tb_ds3 rfl rfl
theorem tb_ds27 : (parseMethodDescriptor "(IIJ)Z").map (fun d => d.parameters.length + 1) = some 4 := by decide +kernel
set_option maxRecDepth 100000 in
theorem tb_j42 : am_vJ tb_tbl tb_cl (tb_mt 42) (tb_mj 42).1 (tb_mj 42).2 := am_vJ2 ⟨(tb_i3 (i := 93) rfl rfl), (tb_i1 (i := 5) rfl rfl), tb_pn3.1, tb_pn3.2.1, tb_pn3.2.2⟩ (tb_i3 (i := 91) rfl rfl) (tb_i3 (i := 92) rfl rfl) tb_ds27 rfl rfl
set_option maxRecDepth 100000 in
theorem tb_j43 : am_vJ tb_tbl tb_cl (tb_mt 43) (tb_mj 43).1 (tb_mj 43).2 := am_vJ1 ⟨(tb_i1 (i := 116) rfl rfl), (tb_i1 (i := 6) rfl rfl), tb_pn4.1, tb_pn4.2.1, tb_pn4.2.2⟩ (tb_i1 (i := 115) rfl rfl) rfl rfl tb_ds0
set_option maxRecDepth 100000 in
theorem tb_j44 : am_vJ tb_tbl tb_cl (tb_mt 44) (tb_mj 44).1 (tb_mj 44).2 := am_vJ2 ⟨(tb_i4 (i := 11) rfl rfl), (tb_i1 (i := 6) rfl rfl), tb_pn4.1, tb_pn4.2.1, tb_pn4.2.2⟩ (tb_i4 (i := 9) rfl rfl) (tb_i4 (i := 10) rfl rfl) tb_ds15 rfl rfl
set_option maxRecDepth 100000 in
theorem tb_j45 : am_vJ tb_tbl tb_cl (tb_mt 45) (tb_mj 45).1 (tb_mj 45).2 := am_vJ2 ⟨(tb_i2 (i := 161) rfl rfl), (tb_i1 (i := 6) rfl rfl), tb_pn4.1, tb_pn4.2.1, tb_pn4.2.2⟩ (tb_i2 (i := 159) rfl rfl) (tb_i2 (i := 160) rfl rfl) tb_ds0 rfl rfl
theorem tb_ds28 : (parseMethodDescriptor "(I)Z").map (fun d => d.parameters.length + 1) = some 2 := by decide +kernel
set_option maxRecDepth 100000 in
theorem tb_j46 : am_vJ tb_tbl tb_cl (tb_mt 46) (tb_mj 46).1 (tb_mj 46).2 := am_vJ2 ⟨(tb_i4 (i := 95) rfl rfl), (tb_i1 (i := 6) rfl rfl), tb_pn4.1, tb_pn4.2.1, tb_pn4.2.2⟩ (tb_i4 (i := 93) rfl rfl) (tb_i4 (i := 94) rfl rfl) tb_ds28 rfl rfl
set_option maxRecDepth 100000 in
theorem tb_j47 : am_vJ tb_tbl tb_cl (tb_mt 47) (tb_mj 47).1 (tb_mj 47).2 := am_vJ2 ⟨(tb_i4 (i := 99) rfl rfl), (tb_i1 (i := 6) rfl rfl), tb_pn4.1, tb_pn4.2.1, tb_pn4.2.2⟩ (tb_i4 (i := 98) rfl rfl) (tb_i0 (i := 36) rfl rfl) tb_ds28 rfl rfl
theorem tb_ds29 : (parseMethodDescriptor "(JI)V").map (fun d => d.parameters.length + 1) = some 3 := by decide +kernel
set_option maxRecDepth 100000 in
theorem tb_j48 : am_vJ tb_tbl tb_cl (tb_mt 48) (tb_mj 48).1 (tb_mj 48).2 := am_vJ2 ⟨(tb_i3 (i := 141) rfl rfl), (tb_i1 (i := 6) rfl rfl), tb_pn4.1, tb_pn4.2.1, tb_pn4.2.2⟩ (tb_i3 (i := 139) rfl rfl) (tb_i3 (i := 140) rfl rfl) tb_ds29 rfl rfl
theorem tb_ds30 : (parseMethodDescriptor "(JJJI)V").map (fun d => d.parameters.length + 1) = some 5 := by decide +kernel
set_option maxRecDepth 100000 in
theorem tb_j49 : am_vJ tb_tbl tb_cl (tb_mt 49) (tb_mj 49).1 (tb_mj 49).2 := am_vJ2 ⟨(tb_i3 (i := 137) rfl rfl), (tb_i1 (i := 6) rfl rfl), tb_pn4.1, tb_pn4.2.1, tb_pn4.2.2⟩ (tb_i3 (i := 135) rfl rfl) (tb_i3 (i := 136) rfl rfl) tb_ds30 rfl rfl
set_option maxRecDepth 100000 in
theorem tb_j50 : am_vJ tb_tbl tb_cl (tb_mt 50) (tb_mj 50).1 (tb_mj 50).2 := am_vJ2 ⟨(tb_i3 (i := 179) rfl rfl), (tb_i1 (i := 6) rfl rfl), tb_pn4.1, tb_pn4.2.1, tb_pn4.2.2⟩ (tb_i3 (i := 177) rfl rfl) (tb_i3 (i := 178) rfl rfl) tb_ds20 rfl rfl
set_option maxRecDepth 100000 in
theorem tb_j51 : am_vJ tb_tbl tb_cl (tb_mt 51) (tb_mj 51).1 (tb_mj 51).2 := am_vJ2 ⟨(tb_i3 (i := 126) rfl rfl), (tb_i1 (i := 6) rfl rfl), tb_pn4.1, tb_pn4.2.1, tb_pn4.2.2⟩ (tb_i3 (i := 124) rfl rfl) (tb_i3 (i := 125) rfl rfl) tb_ds29 rfl rfl
set_option maxRecDepth 100000 in
theorem tb_j52 : am_vJ tb_tbl tb_cl (tb_mt 52) (tb_mj 52).1 (tb_mj 52).2 := am_vJ2 ⟨(tb_i3 (i := 118) rfl rfl), (tb_i1 (i := 6) rfl rfl), tb_pn4.1, tb_pn4.2.1, tb_pn4.2.2⟩ (tb_i3 (i := 116) rfl rfl) (tb_i3 (i := 117) rfl rfl) tb_ds30 rfl rfl
set_option maxRecDepth 100000 in
theorem tb_j53 : am_vJ tb_tbl tb_cl (tb_mt 53) (tb_mj 53).1 (tb_mj 53).2 := am_vJ1 ⟨(tb_i1 (i := 30) rfl rfl), (tb_i1 (i := 2) rfl rfl), tb_pn1.1, tb_pn1.2.1, tb_pn1.2.2⟩ (tb_i1 (i := 29) rfl rfl) rfl rfl tb_ds0
theorem tb_ds31 : (parseMethodDescriptor "()Z").map (fun d => d.parameters.length + 1) = some 1 := by decide +kernel
set_option maxRecDepth 100000 in
theorem tb_j54 : am_vJ tb_tbl tb_cl (tb_mt 54) (tb_mj 54).1 (tb_mj 54).2 := am_vJ2 ⟨(tb_i2 (i := 239) rfl rfl), (tb_i1 (i := 2) rfl rfl), tb_pn1.1, tb_pn1.2.1, tb_pn1.2.2⟩ (tb_i2 (i := 238) rfl rfl) (tb_i0 (i := 6) rfl rfl) tb_ds31 rfl rfl
set_option maxRecDepth 100000 in
theorem tb_j55 : am_vJ tb_tbl tb_cl (tb_mt 55) (tb_mj 55).1 (tb_mj 55).2 := am_vJ2 ⟨(tb_i3 (i := 18) rfl rfl), (tb_i1 (i := 2) rfl rfl), tb_pn1.1, tb_pn1.2.1, tb_pn1.2.2⟩ (tb_i3 (i := 16) rfl rfl) (tb_i3 (i := 17) rfl rfl) tb_ds28 rfl rfl
theorem tb_ds32 : (parseMethodDescriptor "(I)Z").map (fun d => d.parameters.length) = some 1 := by decide +kernel
set_option maxRecDepth 100000 in
theorem tb_j56 : am_vJ tb_tbl tb_cl (tb_mt 56) (tb_mj 56).1 (tb_mj 56).2 := am_vJ0 ⟨(tb_i3 (i := 10) rfl rfl), (tb_i1 (i := 2) rfl rfl), tb_pn1.1, tb_pn1.2.1, tb_pn1.2.2⟩ (tb_i3 (i := 9) rfl rfl) tb_ds32
set_option maxRecDepth 100000 in
theorem tb_j57 : am_vJ tb_tbl tb_cl (tb_mt 57) (tb_mj 57).1 (tb_mj 57).2 := am_vJ2 ⟨(tb_i2 (i := 231) rfl rfl), (tb_i1 (i := 2) rfl rfl), tb_pn1.1, tb_pn1.2.1, tb_pn1.2.2⟩ (tb_i2 (i := 229) rfl rfl) (tb_i2 (i := 230) rfl rfl) tb_ds31 rfl rfl
set_option maxRecDepth 100000 in
theorem tb_j58 : am_vJ tb_tbl tb_cl (tb_mt 58) (tb_mj 58).1 (tb_mj 58).2 := am_vJ2 ⟨(tb_i3 (i := 22) rfl rfl), (tb_i1 (i := 2) rfl rfl), tb_pn1.1, tb_pn1.2.1, tb_pn1.2.2⟩ (tb_i3 (i := 21) rfl rfl) (tb_i0 (i := 10) rfl rfl) tb_ds31 rfl rfl
set_option maxRecDepth 100000 in
theorem tb_j59 : am_vJ tb_tbl tb_cl (tb_mt 59) (tb_mj 59).1 (tb_mj 59).2 := am_vJ2 ⟨(tb_i3 (i := 26) rfl rfl), (tb_i1 (i := 2) rfl rfl), tb_pn1.1, tb_pn1.2.1, tb_pn1.2.2⟩ (tb_i3 (i := 25) rfl rfl) (tb_i0 (i := 11) rfl rfl) tb_ds31 rfl rfl
set_option maxRecDepth 100000 in
theorem tb_j60 : am_vJ tb_tbl tb_cl (tb_mt 60) (tb_mj 60).1 (tb_mj 60).2 := am_vJ2 ⟨(tb_i3 (i := 14) rfl rfl), (tb_i1 (i := 2) rfl rfl), tb_pn1.1, tb_pn1.2.1, tb_pn1.2.2⟩ (tb_i3 (i := 13) rfl rfl) (tb_i0 (i := 9) rfl rfl) tb_ds28 rfl rfl
set_option maxRecDepth 100000 in
theorem tb_j61 : am_vJ tb_tbl tb_cl (tb_mt 61) (tb_mj 61).1 (tb_mj 61).2 := am_vJ2 ⟨(tb_i3 (i := 7) rfl rfl), (tb_i1 (i := 2) rfl rfl), tb_pn1.1, tb_pn1.2.1, tb_pn1.2.2⟩ (tb_i3 (i := 6) rfl rfl) (tb_i0 (i := 8) rfl rfl) tb_ds31 rfl rfl
set_option maxRecDepth 100000 in
theorem tb_j62 : am_vJ tb_tbl tb_cl (tb_mt 62) (tb_mj 62).1 (tb_mj 62).2 := am_vJ2 ⟨(tb_i3 (i := 110) rfl rfl), (tb_i1 (i := 2) rfl rfl), tb_pn1.1, tb_pn1.2.1, tb_pn1.2.2⟩ (tb_i3 (i := 108) rfl rfl) (tb_i3 (i := 109) rfl rfl) tb_ds31 rfl rfl
set_option maxRecDepth 100000 in
theorem tb_j63 : am_vJ tb_tbl tb_cl (tb_mt 63) (tb_mj 63).1 (tb_mj 63).2 := am_vJ2 ⟨(tb_i2 (i := 235) rfl rfl), (tb_i1 (i := 2) rfl rfl), tb_pn1.1, tb_pn1.2.1, tb_pn1.2.2⟩ (tb_i2 (i := 234) rfl rfl) (tb_i0 (i := 5) rfl rfl) tb_ds31 rfl rfl
set_option maxRecDepth 100000 in
theorem tb_j64 : am_vJ tb_tbl tb_cl (tb_mt 64) (tb_mj 64).1 (tb_mj 64).2 := am_vJ2 ⟨(tb_i3 (i := 3) rfl rfl), (tb_i1 (i := 2) rfl rfl), tb_pn1.1, tb_pn1.2.1, tb_pn1.2.2⟩ (tb_i3 (i := 2) rfl rfl) (tb_i0 (i := 7) rfl rfl) tb_ds31 rfl rfl
set_option maxRecDepth 100000 in
theorem tb_j65 : am_vJ tb_tbl tb_cl (tb_mt 65) (tb_mj 65).1 (tb_mj 65).2 := am_vJ1 ⟨(tb_i1 (i := 143) rfl rfl), (tb_i1 (i := 7) rfl rfl), tb_pn5.1, tb_pn5.2.1, tb_pn5.2.2⟩ (tb_i1 (i := 142) rfl rfl) rfl rfl tb_ds0
set_option maxRecDepth 100000 in
theorem tb_j66 : am_vJ tb_tbl tb_cl (tb_mt 66) (tb_mj 66).1 (tb_mj 66).2 := am_vJ2 ⟨(tb_i4 (i := 49) rfl rfl), (tb_i1 (i := 7) rfl rfl), tb_pn5.1, tb_pn5.2.1, tb_pn5.2.2⟩ (tb_i4 (i := 47) rfl rfl) (tb_i4 (i := 48) rfl rfl) tb_ds15 rfl rfl
set_option maxRecDepth 100000 in
theorem tb_j67 : am_vJ tb_tbl tb_cl (tb_mt 67) (tb_mj 67).1 (tb_mj 67).2 := am_vJ2 ⟨(tb_i2 (i := 86) rfl rfl), (tb_i1 (i := 7) rfl rfl), tb_pn5.1, tb_pn5.2.1, tb_pn5.2.2⟩ (tb_i2 (i := 85) rfl rfl) (tb_i0 (i := 0) rfl rfl) tb_ds9 rfl rfl
theorem tb_ds33 : (parseMethodDescriptor "(IIIIII)V").map (fun d => d.parameters.length + 1) = some 7 := by decide +kernel
set_option maxRecDepth 100000 in
theorem tb_j68 : am_vJ tb_tbl tb_cl (tb_mt 68) (tb_mj 68).1 (tb_mj 68).2 := am_vJ2 ⟨(tb_i2 (i := 82) rfl rfl), (tb_i1 (i := 7) rfl rfl), tb_pn5.1, tb_pn5.2.1, tb_pn5.2.2⟩ (tb_i2 (i := 80) rfl rfl) (tb_i2 (i := 81) rfl rfl) tb_ds33 rfl rfl
theorem tb_ds34 : (parseMethodDescriptor "(LFlagMachine$Stretch;I)V").map (fun d => d.parameters.length + 1) = some 3 := by decide +kernel
set_option maxRecDepth 100000 in
theorem tb_j69 : am_vJ tb_tbl tb_cl (tb_mt 69) (tb_mj 69).1 (tb_mj 69).2 := am_vJ2 ⟨(tb_i2 (i := 91) rfl rfl), (tb_i1 (i := 7) rfl rfl), tb_pn5.1, tb_pn5.2.1, tb_pn5.2.2⟩ (tb_i2 (i := 89) rfl rfl) (tb_i2 (i := 90) rfl rfl) tb_ds34 rfl rfl
set_option maxRecDepth 100000 in
theorem tb_j70 : am_vJ tb_tbl tb_cl (tb_mt 70) (tb_mj 70).1 (tb_mj 70).2 := am_vJ2 ⟨(tb_i4 (i := 40) rfl rfl), (tb_i1 (i := 7) rfl rfl), tb_pn5.1, tb_pn5.2.1, tb_pn5.2.2⟩ (tb_i4 (i := 38) rfl rfl) (tb_i4 (i := 39) rfl rfl) tb_ds8 rfl rfl
theorem tb_ds35 : (parseMethodDescriptor "(JII)I").map (fun d => d.parameters.length + 1) = some 4 := by decide +kernel
set_option maxRecDepth 100000 in
theorem tb_j71 : am_vJ tb_tbl tb_cl (tb_mt 71) (tb_mj 71).1 (tb_mj 71).2 := am_vJ2 ⟨(tb_i3 (i := 68) rfl rfl), (tb_i1 (i := 7) rfl rfl), tb_pn5.1, tb_pn5.2.1, tb_pn5.2.2⟩ (tb_i3 (i := 66) rfl rfl) (tb_i3 (i := 67) rfl rfl) tb_ds35 rfl rfl
set_option maxRecDepth 100000 in
theorem tb_j72 : am_vJ tb_tbl tb_cl (tb_mt 72) (tb_mj 72).1 (tb_mj 72).2 := am_vJ0 ⟨(tb_i3 (i := 71) rfl rfl), (tb_i1 (i := 7) rfl rfl), tb_pn5.1, tb_pn5.2.1, tb_pn5.2.2⟩ (tb_i3 (i := 70) rfl rfl) tb_ds17
set_option maxRecDepth 100000 in
theorem tb_j73 : am_vJ tb_tbl tb_cl (tb_mt 73) (tb_mj 73).1 (tb_mj 73).2 := am_vJ1 ⟨(tb_i2 (i := 38) rfl rfl), (tb_i1 (i := 11) rfl rfl), tb_pn9.1, tb_pn9.2.1, tb_pn9.2.2⟩ (tb_i2 (i := 37) rfl rfl) rfl rfl tb_ds16
set_option maxRecDepth 100000 in
theorem tb_j74 : am_vJ tb_tbl tb_cl (tb_mt 74) (tb_mj 74).1 (tb_mj 74).2 := am_vJ2 ⟨(tb_i4 (i := 87) rfl rfl), (tb_i1 (i := 11) rfl rfl), tb_pn9.1, tb_pn9.2.1, tb_pn9.2.2⟩ (tb_i4 (i := 86) rfl rfl) (tb_i0 (i := 34) rfl rfl) tb_ds8 rfl rfl
set_option maxRecDepth 100000 in
theorem tb_j75 : am_vJ tb_tbl tb_cl (tb_mt 75) (tb_mj 75).1 (tb_mj 75).2 := am_vJ2 ⟨(tb_i4 (i := 91) rfl rfl), (tb_i1 (i := 11) rfl rfl), tb_pn9.1, tb_pn9.2.1, tb_pn9.2.2⟩ (tb_i4 (i := 90) rfl rfl) (tb_i0 (i := 35) rfl rfl) tb_ds0 rfl rfl
set_option maxRecDepth 100000 in
theorem tb_j76 : am_vJ tb_tbl tb_cl (tb_mt 76) (tb_mj 76).1 (tb_mj 76).2 := am_vJ2 ⟨(tb_i4 (i := 60) rfl rfl), (tb_i1 (i := 11) rfl rfl), tb_pn9.1, tb_pn9.2.1, tb_pn9.2.2⟩ (tb_i4 (i := 59) rfl rfl) (tb_i0 (i := 29) rfl rfl) tb_ds0 rfl rfl
set_option maxRecDepth 100000 in
theorem tb_j77 : am_vJ tb_tbl tb_cl (tb_mt 77) (tb_mj 77).1 (tb_mj 77).2 := am_vJ2 ⟨(tb_i4 (i := 83) rfl rfl), (tb_i1 (i := 11) rfl rfl), tb_pn9.1, tb_pn9.2.1, tb_pn9.2.2⟩ (tb_i4 (i := 82) rfl rfl) (tb_i0 (i := 33) rfl rfl) tb_ds8 rfl rfl
set_option maxRecDepth 100000 in
theorem tb_j78 : am_vJ tb_tbl tb_cl (tb_mt 78) (tb_mj 78).1 (tb_mj 78).2 := am_vJ2 ⟨(tb_i4 (i := 111) rfl rfl), (tb_i1 (i := 11) rfl rfl), tb_pn9.1, tb_pn9.2.1, tb_pn9.2.2⟩ (tb_i4 (i := 110) rfl rfl) (tb_i0 (i := 39) rfl rfl) tb_ds0 rfl rfl
set_option maxRecDepth 100000 in
theorem tb_j79 : am_vJ tb_tbl tb_cl (tb_mt 79) (tb_mj 79).1 (tb_mj 79).2 := am_vJ2 ⟨(tb_i4 (i := 107) rfl rfl), (tb_i1 (i := 11) rfl rfl), tb_pn9.1, tb_pn9.2.1, tb_pn9.2.2⟩ (tb_i4 (i := 106) rfl rfl) (tb_i0 (i := 38) rfl rfl) tb_ds8 rfl rfl
theorem tb_ds36 : (parseMethodDescriptor "(ZZ)V").map (fun d => d.parameters.length + 1) = some 3 := by decide +kernel
set_option maxRecDepth 100000 in
theorem tb_j80 : am_vJ tb_tbl tb_cl (tb_mt 80) (tb_mj 80).1 (tb_mj 80).2 := am_vJ2 ⟨(tb_i4 (i := 115) rfl rfl), (tb_i1 (i := 11) rfl rfl), tb_pn9.1, tb_pn9.2.1, tb_pn9.2.2⟩ (tb_i4 (i := 114) rfl rfl) (tb_i0 (i := 40) rfl rfl) tb_ds36 rfl rfl
set_option maxRecDepth 100000 in
theorem tb_j81 : am_vJ tb_tbl tb_cl (tb_mt 81) (tb_mj 81).1 (tb_mj 81).2 := am_vJ2 ⟨(tb_i4 (i := 56) rfl rfl), (tb_i1 (i := 11) rfl rfl), tb_pn9.1, tb_pn9.2.1, tb_pn9.2.2⟩ (tb_i4 (i := 54) rfl rfl) (tb_i4 (i := 55) rfl rfl) tb_ds19 rfl rfl
set_option maxRecDepth 100000 in
theorem tb_j82 : am_vJ tb_tbl tb_cl (tb_mt 82) (tb_mj 82).1 (tb_mj 82).2 := am_vJ2 ⟨(tb_i4 (i := 72) rfl rfl), (tb_i1 (i := 11) rfl rfl), tb_pn9.1, tb_pn9.2.1, tb_pn9.2.2⟩ (tb_i4 (i := 71) rfl rfl) (tb_i0 (i := 31) rfl rfl) tb_ds0 rfl rfl
set_option maxRecDepth 100000 in
theorem tb_j83 : am_vJ tb_tbl tb_cl (tb_mt 83) (tb_mj 83).1 (tb_mj 83).2 := am_vJ2 ⟨(tb_i4 (i := 66) rfl rfl), (tb_i1 (i := 11) rfl rfl), tb_pn9.1, tb_pn9.2.1, tb_pn9.2.2⟩ (tb_i4 (i := 65) rfl rfl) (tb_i0 (i := 30) rfl rfl) tb_ds0 rfl rfl
set_option maxRecDepth 100000 in
theorem tb_j84 : am_vJ tb_tbl tb_cl (tb_mt 84) (tb_mj 84).1 (tb_mj 84).2 := am_vJ2 ⟨(tb_i4 (i := 79) rfl rfl), (tb_i1 (i := 11) rfl rfl), tb_pn9.1, tb_pn9.2.1, tb_pn9.2.2⟩ (tb_i4 (i := 78) rfl rfl) (tb_i0 (i := 32) rfl rfl) tb_ds15 rfl rfl
set_option maxRecDepth 100000 in
theorem tb_j85 : am_vJ tb_tbl tb_cl (tb_mt 85) (tb_mj 85).1 (tb_mj 85).2 := am_vJ2 ⟨(tb_i4 (i := 103) rfl rfl), (tb_i1 (i := 11) rfl rfl), tb_pn9.1, tb_pn9.2.1, tb_pn9.2.2⟩ (tb_i4 (i := 102) rfl rfl) (tb_i0 (i := 37) rfl rfl) tb_ds15 rfl rfl
set_option maxRecDepth 100000 in
theorem tb_j86 : am_vJ tb_tbl tb_cl (tb_mt 86) (tb_mj 86).1 (tb_mj 86).2 := am_vJ2 ⟨(tb_i4 (i := 120) rfl rfl), (tb_i1 (i := 11) rfl rfl), tb_pn9.1, tb_pn9.2.1, tb_pn9.2.2⟩ (tb_i4 (i := 119) rfl rfl) (tb_i0 (i := 41) rfl rfl) tb_ds12 rfl rfl
theorem tb_ds37 : (parseMethodDescriptor "(ILFlagMachine$Page;)V").map (fun d => d.parameters.length + 1) = some 3 := by decide +kernel
set_option maxRecDepth 100000 in
theorem tb_j87 : am_vJ tb_tbl tb_cl (tb_mt 87) (tb_mj 87).1 (tb_mj 87).2 := am_vJ1 ⟨(tb_i2 (i := 121) rfl rfl), (tb_i1 (i := 14) rfl rfl), tb_pn11.1, tb_pn11.2.1, tb_pn11.2.2⟩ (tb_i2 (i := 120) rfl rfl) rfl rfl tb_ds37
set_option maxRecDepth 100000 in
theorem tb_j88 : am_vJ tb_tbl tb_cl (tb_mt 88) (tb_mj 88).1 (tb_mj 88).2 := am_vJ1 ⟨(tb_i1 (i := 237) rfl rfl), (tb_i1 (i := 9) rfl rfl), tb_pn7.1, tb_pn7.2.1, tb_pn7.2.2⟩ (tb_i1 (i := 236) rfl rfl) rfl rfl tb_ds16
set_option maxRecDepth 100000 in
theorem tb_j89 : am_vJ tb_tbl tb_cl (tb_mt 89) (tb_mj 89).1 (tb_mj 89).2 := am_vJ2 ⟨(tb_i3 (i := 183) rfl rfl), (tb_i1 (i := 9) rfl rfl), tb_pn7.1, tb_pn7.2.1, tb_pn7.2.2⟩ (tb_i3 (i := 182) rfl rfl) (tb_i0 (i := 18) rfl rfl) tb_ds20 rfl rfl
set_option maxRecDepth 100000 in
theorem tb_j90 : am_vJ tb_tbl tb_cl (tb_mt 90) (tb_mj 90).1 (tb_mj 90).2 := am_vJ2 ⟨(tb_i3 (i := 188) rfl rfl), (tb_i1 (i := 9) rfl rfl), tb_pn7.1, tb_pn7.2.1, tb_pn7.2.2⟩ (tb_i3 (i := 187) rfl rfl) (tb_i0 (i := 19) rfl rfl) tb_ds5 rfl rfl
set_option maxRecDepth 100000 in
theorem tb_j91 : am_vJ tb_tbl tb_cl (tb_mt 91) (tb_mj 91).1 (tb_mj 91).2 := am_vJ2 ⟨(tb_i3 (i := 193) rfl rfl), (tb_i1 (i := 9) rfl rfl), tb_pn7.1, tb_pn7.2.1, tb_pn7.2.2⟩ (tb_i3 (i := 192) rfl rfl) (tb_i0 (i := 20) rfl rfl) tb_ds5 rfl rfl
theorem tb_ds38 : (parseMethodDescriptor "(JJ)J").map (fun d => d.parameters.length) = some 2 := by decide +kernel
set_option maxRecDepth 100000 in
theorem tb_j92 : am_vJ tb_tbl tb_cl (tb_mt 92) (tb_mj 92).1 (tb_mj 92).2 := am_vJ0 ⟨(tb_i3 (i := 165) rfl rfl), (tb_i1 (i := 9) rfl rfl), tb_pn7.1, tb_pn7.2.1, tb_pn7.2.2⟩ (tb_i3 (i := 164) rfl rfl) tb_ds38
theorem tb_ds39 : (parseMethodDescriptor "(JJIZ)V").map (fun d => d.parameters.length + 1) = some 5 := by decide +kernel
set_option maxRecDepth 100000 in
theorem tb_j93 : am_vJ tb_tbl tb_cl (tb_mt 93) (tb_mj 93).1 (tb_mj 93).2 := am_vJ2 ⟨(tb_i3 (i := 161) rfl rfl), (tb_i1 (i := 9) rfl rfl), tb_pn7.1, tb_pn7.2.1, tb_pn7.2.2⟩ (tb_i3 (i := 160) rfl rfl) (tb_i0 (i := 16) rfl rfl) tb_ds39 rfl rfl
set_option maxRecDepth 100000 in
theorem tb_j94 : am_vJ tb_tbl tb_cl (tb_mt 94) (tb_mj 94).1 (tb_mj 94).2 := am_vJ2 ⟨(tb_i3 (i := 202) rfl rfl), (tb_i1 (i := 9) rfl rfl), tb_pn7.1, tb_pn7.2.1, tb_pn7.2.2⟩ (tb_i3 (i := 201) rfl rfl) (tb_i0 (i := 21) rfl rfl) tb_ds0 rfl rfl
set_option maxRecDepth 100000 in
theorem tb_j95 : am_vJ tb_tbl tb_cl (tb_mt 95) (tb_mj 95).1 (tb_mj 95).2 := am_vJ2 ⟨(tb_i3 (i := 155) rfl rfl), (tb_i1 (i := 9) rfl rfl), tb_pn7.1, tb_pn7.2.1, tb_pn7.2.2⟩ (tb_i3 (i := 154) rfl rfl) (tb_i0 (i := 15) rfl rfl) tb_ds20 rfl rfl
set_option maxRecDepth 100000 in
theorem tb_j96 : am_vJ tb_tbl tb_cl (tb_mt 96) (tb_mj 96).1 (tb_mj 96).2 := am_vJ2 ⟨(tb_i3 (i := 151) rfl rfl), (tb_i1 (i := 9) rfl rfl), tb_pn7.1, tb_pn7.2.1, tb_pn7.2.2⟩ (tb_i3 (i := 149) rfl rfl) (tb_i3 (i := 150) rfl rfl) tb_ds19 rfl rfl
theorem tb_ds40 : (parseMethodDescriptor "(JJ)V").map (fun d => d.parameters.length + 1) = some 3 := by decide +kernel
set_option maxRecDepth 100000 in
theorem tb_j97 : am_vJ tb_tbl tb_cl (tb_mt 97) (tb_mj 97).1 (tb_mj 97).2 := am_vJ2 ⟨(tb_i3 (i := 170) rfl rfl), (tb_i1 (i := 9) rfl rfl), tb_pn7.1, tb_pn7.2.1, tb_pn7.2.2⟩ (tb_i3 (i := 169) rfl rfl) (tb_i0 (i := 17) rfl rfl) tb_ds40 rfl rfl
set_option maxRecDepth 100000 in
theorem tb_j98 : am_vJ tb_tbl tb_cl (tb_mt 98) (tb_mj 98).1 (tb_mj 98).2 := am_vJ0 ⟨(tb_i3 (i := 174) rfl rfl), (tb_i1 (i := 9) rfl rfl), tb_pn7.1, tb_pn7.2.1, tb_pn7.2.2⟩ (tb_i3 (i := 173) rfl rfl) tb_ds14
set_option maxRecDepth 100000 in
theorem tb_j99 : am_vJ tb_tbl tb_cl (tb_mt 99) (tb_mj 99).1 (tb_mj 99).2 := am_vJ1 ⟨(tb_i2 (i := 51) rfl rfl), (tb_i1 (i := 12) rfl rfl), tb_pn10.1, tb_pn10.2.1, tb_pn10.2.2⟩ (tb_i2 (i := 50) rfl rfl) rfl rfl tb_ds16
set_option maxRecDepth 100000 in
theorem tb_j100 : am_vJ tb_tbl tb_cl (tb_mt 100) (tb_mj 100).1 (tb_mj 100).2 := am_vJ2 ⟨(tb_i4 (i := 147) rfl rfl), (tb_i1 (i := 12) rfl rfl), tb_pn10.1, tb_pn10.2.1, tb_pn10.2.2⟩ (tb_i4 (i := 145) rfl rfl) (tb_i4 (i := 146) rfl rfl) tb_ds5 rfl rfl
theorem tb_ds41 : (parseMethodDescriptor "(JJ)J").map (fun d => d.parameters.length + 1) = some 3 := by decide +kernel
set_option maxRecDepth 100000 in
theorem tb_j101 : am_vJ tb_tbl tb_cl (tb_mt 101) (tb_mj 101).1 (tb_mj 101).2 := am_vJ2 ⟨(tb_i4 (i := 27) rfl rfl), (tb_i1 (i := 12) rfl rfl), tb_pn10.1, tb_pn10.2.1, tb_pn10.2.2⟩ (tb_i4 (i := 26) rfl rfl) (tb_i0 (i := 28) rfl rfl) tb_ds41 rfl rfl
set_option maxRecDepth 100000 in
theorem tb_j102 : am_vJ tb_tbl tb_cl (tb_mt 102) (tb_mj 102).1 (tb_mj 102).2 := am_vJ2 ⟨(tb_i4 (i := 155) rfl rfl), (tb_i1 (i := 12) rfl rfl), tb_pn10.1, tb_pn10.2.1, tb_pn10.2.2⟩ (tb_i4 (i := 153) rfl rfl) (tb_i4 (i := 154) rfl rfl) tb_ds4 rfl rfl
set_option maxRecDepth 100000 in
theorem tb_j103 : am_vJ tb_tbl tb_cl (tb_mt 103) (tb_mj 103).1 (tb_mj 103).2 := am_vJ2 ⟨(tb_i4 (i := 7) rfl rfl), (tb_i1 (i := 12) rfl rfl), tb_pn10.1, tb_pn10.2.1, tb_pn10.2.2⟩ (tb_i4 (i := 5) rfl rfl) (tb_i4 (i := 6) rfl rfl) tb_ds0 rfl rfl
set_option maxRecDepth 100000 in
theorem tb_j104 : am_vJ tb_tbl tb_cl (tb_mt 104) (tb_mj 104).1 (tb_mj 104).2 := am_vJ2 ⟨(tb_i2 (i := 166) rfl rfl), (tb_i1 (i := 12) rfl rfl), tb_pn10.1, tb_pn10.2.1, tb_pn10.2.2⟩ (tb_i2 (i := 164) rfl rfl) (tb_i2 (i := 165) rfl rfl) tb_ds0 rfl rfl
set_option maxRecDepth 100000 in
theorem tb_j105 : am_vJ tb_tbl tb_cl (tb_mt 105) (tb_mj 105).1 (tb_mj 105).2 := am_vJ2 ⟨(tb_i4 (i := 15) rfl rfl), (tb_i1 (i := 12) rfl rfl), tb_pn10.1, tb_pn10.2.1, tb_pn10.2.2⟩ (tb_i4 (i := 14) rfl rfl) (tb_i0 (i := 27) rfl rfl) tb_ds41 rfl rfl
set_option maxRecDepth 100000 in
theorem tb_j106 : am_vJ tb_tbl tb_cl (tb_mt 106) (tb_mj 106).1 (tb_mj 106).2 := am_vJ1 ⟨(tb_i1 (i := 92) rfl rfl), (tb_i1 (i := 3) rfl rfl), tb_pn2.1, tb_pn2.2.1, tb_pn2.2.2⟩ (tb_i1 (i := 91) rfl rfl) rfl rfl tb_ds19
set_option maxRecDepth 100000 in
theorem tb_j107 : am_vJ tb_tbl tb_cl (tb_mt 107) (tb_mj 107).1 (tb_mj 107).2 := am_vJ2 ⟨(tb_i2 (i := 95) rfl rfl), (tb_i1 (i := 3) rfl rfl), tb_pn2.1, tb_pn2.2.1, tb_pn2.2.2⟩ (tb_i2 (i := 93) rfl rfl) (tb_i2 (i := 94) rfl rfl) tb_ds34 rfl rfl
set_option maxRecDepth 100000 in
theorem tb_j108 : am_vJ tb_tbl tb_cl (tb_mt 108) (tb_mj 108).1 (tb_mj 108).2 := am_vJ2 ⟨(tb_i4 (i := 22) rfl rfl), (tb_i1 (i := 3) rfl rfl), tb_pn2.1, tb_pn2.2.1, tb_pn2.2.2⟩ (tb_i4 (i := 20) rfl rfl) (tb_i4 (i := 21) rfl rfl) tb_ds4 rfl rfl
set_option maxRecDepth 100000 in
theorem tb_j109 : am_vJ tb_tbl tb_cl (tb_mt 109) (tb_mj 109).1 (tb_mj 109).2 := am_vJ2 ⟨(tb_i2 (i := 99) rfl rfl), (tb_i1 (i := 3) rfl rfl), tb_pn2.1, tb_pn2.2.1, tb_pn2.2.2⟩ (tb_i2 (i := 97) rfl rfl) (tb_i2 (i := 98) rfl rfl) tb_ds0 rfl rfl
theorem tb_ds42 : (parseMethodDescriptor "(II)V").map (fun d => d.parameters.length + 1) = some 3 := by decide +kernel
set_option maxRecDepth 100000 in
theorem tb_j110 : am_vJ tb_tbl tb_cl (tb_mt 110) (tb_mj 110).1 (tb_mj 110).2 := am_vJ2 ⟨(tb_i4 (i := 45) rfl rfl), (tb_i1 (i := 3) rfl rfl), tb_pn2.1, tb_pn2.2.1, tb_pn2.2.2⟩ (tb_i4 (i := 43) rfl rfl) (tb_i4 (i := 44) rfl rfl) tb_ds42 rfl rfl
set_option maxRecDepth 100000 in
theorem tb_j111 : am_vJ tb_tbl tb_cl (tb_mt 111) (tb_mj 111).1 (tb_mj 111).2 := am_vJ2 ⟨(tb_i2 (i := 140) rfl rfl), (tb_i1 (i := 3) rfl rfl), tb_pn2.1, tb_pn2.2.1, tb_pn2.2.2⟩ (tb_i2 (i := 139) rfl rfl) (tb_i0 (i := 4) rfl rfl) tb_ds42 rfl rfl
theorem tb_ds43 : (parseMethodDescriptor "(LFlagMachine$Stretch;III)V").map (fun d => d.parameters.length + 1) = some 5 := by decide +kernel
set_option maxRecDepth 100000 in
theorem tb_j112 : am_vJ tb_tbl tb_cl (tb_mt 112) (tb_mj 112).1 (tb_mj 112).2 := am_vJ2 ⟨(tb_i4 (i := 32) rfl rfl), (tb_i1 (i := 3) rfl rfl), tb_pn2.1, tb_pn2.2.1, tb_pn2.2.2⟩ (tb_i4 (i := 30) rfl rfl) (tb_i4 (i := 31) rfl rfl) tb_ds43 rfl rfl
set_option maxRecDepth 100000 in
theorem tb_j113 : am_vJ tb_tbl tb_cl (tb_mt 113) (tb_mj 113).1 (tb_mj 113).2 := am_vJ2 ⟨(tb_i2 (i := 109) rfl rfl), (tb_i1 (i := 3) rfl rfl), tb_pn2.1, tb_pn2.2.1, tb_pn2.2.2⟩ (tb_i2 (i := 108) rfl rfl) (tb_i0 (i := 1) rfl rfl) tb_ds43 rfl rfl
theorem tb_ds44 : (parseMethodDescriptor "(I)LFlagMachine$Page;").map (fun d => d.parameters.length + 1) = some 2 := by decide +kernel
set_option maxRecDepth 100000 in
theorem tb_j114 : am_vJ tb_tbl tb_cl (tb_mt 114) (tb_mj 114).1 (tb_mj 114).2 := am_vJ2 ⟨(tb_i2 (i := 113) rfl rfl), (tb_i1 (i := 3) rfl rfl), tb_pn2.1, tb_pn2.2.1, tb_pn2.2.2⟩ (tb_i2 (i := 112) rfl rfl) (tb_i0 (i := 2) rfl rfl) tb_ds44 rfl rfl
set_option maxRecDepth 100000 in
theorem tb_j115 : am_vJ tb_tbl tb_cl (tb_mt 115) (tb_mj 115).1 (tb_mj 115).2 := am_vJ2 ⟨(tb_i2 (i := 117) rfl rfl), (tb_i1 (i := 3) rfl rfl), tb_pn2.1, tb_pn2.2.1, tb_pn2.2.2⟩ (tb_i2 (i := 116) rfl rfl) (tb_i0 (i := 3) rfl rfl) tb_ds44 rfl rfl
set_option maxRecDepth 100000 in
theorem tb_j116 : am_vJ tb_tbl tb_cl (tb_mt 116) (tb_mj 116).1 (tb_mj 116).2 := am_vJ2 ⟨(tb_i2 (i := 207) rfl rfl), (tb_i1 (i := 3) rfl rfl), tb_pn2.1, tb_pn2.2.1, tb_pn2.2.2⟩ (tb_i2 (i := 205) rfl rfl) (tb_i2 (i := 206) rfl rfl) tb_ds42 rfl rfl
set_option maxRecDepth 100000 in
theorem tb_j117 : am_vJ tb_tbl tb_cl (tb_mt 117) (tb_mj 117).1 (tb_mj 117).2 := am_vJ2 ⟨(tb_i3 (i := 106) rfl rfl), (tb_i1 (i := 3) rfl rfl), tb_pn2.1, tb_pn2.2.1, tb_pn2.2.2⟩ (tb_i3 (i := 104) rfl rfl) (tb_i3 (i := 105) rfl rfl) tb_ds25 rfl rfl
theorem tb_ds45 : (parseMethodDescriptor "(I)I").map (fun d => d.parameters.length) = some 1 := by decide +kernel
set_option maxRecDepth 100000 in
theorem tb_j118 : am_vJ tb_tbl tb_cl (tb_mt 118) (tb_mj 118).1 (tb_mj 118).2 := am_vJ0 ⟨(tb_i4 (i := 35) rfl rfl), (tb_i1 (i := 3) rfl rfl), tb_pn2.1, tb_pn2.2.1, tb_pn2.2.2⟩ (tb_i4 (i := 34) rfl rfl) tb_ds45
set_option maxRecDepth 100000 in
theorem tb_j119 : am_vJ tb_tbl tb_cl (tb_mt 119) (tb_mj 119).1 (tb_mj 119).2 := am_vJ2 ⟨(tb_i3 (i := 83) rfl rfl), (tb_i1 (i := 3) rfl rfl), tb_pn2.1, tb_pn2.2.1, tb_pn2.2.2⟩ (tb_i3 (i := 81) rfl rfl) (tb_i3 (i := 82) rfl rfl) tb_ds23 rfl rfl
set_option maxRecDepth 100000 in
theorem tb_j120 : am_vJ tb_tbl tb_cl (tb_mt 120) (tb_mj 120).1 (tb_mj 120).2 := am_vJ1 ⟨(tb_i1 (i := 221) rfl rfl), (tb_i1 (i := 8) rfl rfl), tb_pn6.1, tb_pn6.2.1, tb_pn6.2.2⟩ (tb_i1 (i := 220) rfl rfl) rfl rfl tb_ds16
set_option maxRecDepth 100000 in
theorem tb_j121 : am_vJ tb_tbl tb_cl (tb_mt 121) (tb_mj 121).1 (tb_mj 121).2 := am_vJ2 ⟨(tb_i3 (i := 145) rfl rfl), (tb_i1 (i := 8) rfl rfl), tb_pn6.1, tb_pn6.2.1, tb_pn6.2.2⟩ (tb_i3 (i := 143) rfl rfl) (tb_i3 (i := 144) rfl rfl) tb_ds0 rfl rfl
set_option maxRecDepth 100000 in
theorem tb_j122 : am_vJ tb_tbl tb_cl (tb_mt 122) (tb_mj 122).1 (tb_mj 122).2 := am_vJ2 ⟨(tb_i3 (i := 48) rfl rfl), (tb_i1 (i := 8) rfl rfl), tb_pn6.1, tb_pn6.2.1, tb_pn6.2.2⟩ (tb_i3 (i := 46) rfl rfl) (tb_i3 (i := 47) rfl rfl) tb_ds19 rfl rfl
theorem tb_ds46 : (parseMethodDescriptor "(IJJ)J").map (fun d => d.parameters.length + 1) = some 4 := by decide +kernel
set_option maxRecDepth 100000 in
theorem tb_j123 : am_vJ tb_tbl tb_cl (tb_mt 123) (tb_mj 123).1 (tb_mj 123).2 := am_vJ2 ⟨(tb_i3 (i := 87) rfl rfl), (tb_i1 (i := 8) rfl rfl), tb_pn6.1, tb_pn6.2.1, tb_pn6.2.2⟩ (tb_i3 (i := 86) rfl rfl) (tb_i0 (i := 13) rfl rfl) tb_ds46 rfl rfl
theorem tb_ds47 : (parseMethodDescriptor "(IJJJ)V").map (fun d => d.parameters.length + 1) = some 5 := by decide +kernel
set_option maxRecDepth 100000 in
theorem tb_j124 : am_vJ tb_tbl tb_cl (tb_mt 124) (tb_mj 124).1 (tb_mj 124).2 := am_vJ2 ⟨(tb_i3 (i := 114) rfl rfl), (tb_i1 (i := 8) rfl rfl), tb_pn6.1, tb_pn6.2.1, tb_pn6.2.2⟩ (tb_i3 (i := 113) rfl rfl) (tb_i0 (i := 14) rfl rfl) tb_ds47 rfl rfl
set_option maxRecDepth 100000 in
theorem tb_j125 : am_vJ tb_tbl tb_cl (tb_mt 125) (tb_mj 125).1 (tb_mj 125).2 := am_vJ1 ⟨(tb_i4 (i := 170) rfl rfl), (tb_i1 (i := 16) rfl rfl), tb_pn12.1, tb_pn12.2.1, tb_pn12.2.2⟩ (tb_i4 (i := 169) rfl rfl) rfl rfl tb_ds0
theorem tb_ds48 : (parseMethodDescriptor "(JJZI)J").map (fun d => d.parameters.length + 1) = some 5 := by decide +kernel
set_option maxRecDepth 100000 in
theorem tb_j126 : am_vJ tb_tbl tb_cl (tb_mt 126) (tb_mj 126).1 (tb_mj 126).2 := am_vJ2 ⟨(tb_i5 (i := 196) rfl rfl), (tb_i1 (i := 16) rfl rfl), tb_pn12.1, tb_pn12.2.1, tb_pn12.2.2⟩ (tb_i5 (i := 195) rfl rfl) (tb_i0 (i := 64) rfl rfl) tb_ds48 rfl rfl
set_option maxRecDepth 100000 in
theorem tb_j127 : am_vJ tb_tbl tb_cl (tb_mt 127) (tb_mj 127).1 (tb_mj 127).2 := am_vJ2 ⟨(tb_i5 (i := 143) rfl rfl), (tb_i1 (i := 16) rfl rfl), tb_pn12.1, tb_pn12.2.1, tb_pn12.2.2⟩ (tb_i5 (i := 142) rfl rfl) (tb_i0 (i := 53) rfl rfl) tb_ds15 rfl rfl
set_option maxRecDepth 100000 in
theorem tb_j128 : am_vJ tb_tbl tb_cl (tb_mt 128) (tb_mj 128).1 (tb_mj 128).2 := am_vJ2 ⟨(tb_i4 (i := 177) rfl rfl), (tb_i1 (i := 16) rfl rfl), tb_pn12.1, tb_pn12.2.1, tb_pn12.2.2⟩ (tb_i4 (i := 176) rfl rfl) (tb_i0 (i := 43) rfl rfl) tb_ds33 rfl rfl
set_option maxRecDepth 100000 in
theorem tb_j129 : am_vJ tb_tbl tb_cl (tb_mt 129) (tb_mj 129).1 (tb_mj 129).2 := am_vJ2 ⟨(tb_i5 (i := 151) rfl rfl), (tb_i1 (i := 16) rfl rfl), tb_pn12.1, tb_pn12.2.1, tb_pn12.2.2⟩ (tb_i5 (i := 150) rfl rfl) (tb_i0 (i := 55) rfl rfl) tb_ds42 rfl rfl
set_option maxRecDepth 100000 in
theorem tb_j130 : am_vJ tb_tbl tb_cl (tb_mt 130) (tb_mj 130).1 (tb_mj 130).2 := am_vJ2 ⟨(tb_i5 (i := 75) rfl rfl), (tb_i1 (i := 16) rfl rfl), tb_pn12.1, tb_pn12.2.1, tb_pn12.2.2⟩ (tb_i5 (i := 73) rfl rfl) (tb_i5 (i := 74) rfl rfl) tb_ds1 rfl rfl
set_option maxRecDepth 100000 in
theorem tb_j131 : am_vJ tb_tbl tb_cl (tb_mt 131) (tb_mj 131).1 (tb_mj 131).2 := am_vJ0 ⟨(tb_i5 (i := 199) rfl rfl), (tb_i1 (i := 16) rfl rfl), tb_pn12.1, tb_pn12.2.1, tb_pn12.2.2⟩ (tb_i5 (i := 198) rfl rfl) tb_ds2
set_option maxRecDepth 100000 in
theorem tb_j132 : am_vJ tb_tbl tb_cl (tb_mt 132) (tb_mj 132).1 (tb_mj 132).2 := am_vJ2 ⟨(tb_i6 (i := 70) rfl rfl), (tb_i1 (i := 16) rfl rfl), tb_pn12.1, tb_pn12.2.1, tb_pn12.2.2⟩ (tb_i6 (i := 69) rfl rfl) (tb_i0 (i := 86) rfl rfl) tb_ds42 rfl rfl
set_option maxRecDepth 100000 in
theorem tb_j133 : am_vJ tb_tbl tb_cl (tb_mt 133) (tb_mj 133).1 (tb_mj 133).2 := am_vJ2 ⟨(tb_i5 (i := 191) rfl rfl), (tb_i1 (i := 16) rfl rfl), tb_pn12.1, tb_pn12.2.1, tb_pn12.2.2⟩ (tb_i5 (i := 190) rfl rfl) (tb_i0 (i := 63) rfl rfl) tb_ds4 rfl rfl
set_option maxRecDepth 100000 in
theorem tb_j134 : am_vJ tb_tbl tb_cl (tb_mt 134) (tb_mj 134).1 (tb_mj 134).2 := am_vJ2 ⟨(tb_i6 (i := 48) rfl rfl), (tb_i1 (i := 16) rfl rfl), tb_pn12.1, tb_pn12.2.1, tb_pn12.2.2⟩ (tb_i6 (i := 47) rfl rfl) (tb_i0 (i := 82) rfl rfl) tb_ds19 rfl rfl
set_option maxRecDepth 100000 in
theorem tb_j135 : am_vJ tb_tbl tb_cl (tb_mt 135) (tb_mj 135).1 (tb_mj 135).2 := am_vJ0 ⟨(tb_i5 (i := 166) rfl rfl), (tb_i1 (i := 16) rfl rfl), tb_pn12.1, tb_pn12.2.1, tb_pn12.2.2⟩ (tb_i5 (i := 165) rfl rfl) tb_ds14
theorem tb_ds49 : (parseMethodDescriptor "(ZI)V").map (fun d => d.parameters.length + 1) = some 3 := by decide +kernel
set_option maxRecDepth 100000 in
theorem tb_j136 : am_vJ tb_tbl tb_cl (tb_mt 136) (tb_mj 136).1 (tb_mj 136).2 := am_vJ2 ⟨(tb_i6 (i := 15) rfl rfl), (tb_i1 (i := 16) rfl rfl), tb_pn12.1, tb_pn12.2.1, tb_pn12.2.2⟩ (tb_i6 (i := 14) rfl rfl) (tb_i0 (i := 74) rfl rfl) tb_ds49 rfl rfl
theorem tb_ds50 : (parseMethodDescriptor "(ZIJ)V").map (fun d => d.parameters.length + 1) = some 4 := by decide +kernel
set_option maxRecDepth 100000 in
theorem tb_j137 : am_vJ tb_tbl tb_cl (tb_mt 137) (tb_mj 137).1 (tb_mj 137).2 := am_vJ2 ⟨(tb_i6 (i := 19) rfl rfl), (tb_i1 (i := 16) rfl rfl), tb_pn12.1, tb_pn12.2.1, tb_pn12.2.2⟩ (tb_i6 (i := 18) rfl rfl) (tb_i0 (i := 75) rfl rfl) tb_ds50 rfl rfl
set_option maxRecDepth 100000 in
theorem tb_j138 : am_vJ tb_tbl tb_cl (tb_mt 138) (tb_mj 138).1 (tb_mj 138).2 := am_vJ2 ⟨(tb_i5 (i := 79) rfl rfl), (tb_i1 (i := 16) rfl rfl), tb_pn12.1, tb_pn12.2.1, tb_pn12.2.2⟩ (tb_i5 (i := 77) rfl rfl) (tb_i5 (i := 78) rfl rfl) tb_ds3 rfl rfl
theorem tb_ds51 : (parseMethodDescriptor "(JZ)I").map (fun d => d.parameters.length + 1) = some 3 := by decide +kernel
set_option maxRecDepth 100000 in
theorem tb_j139 : am_vJ tb_tbl tb_cl (tb_mt 139) (tb_mj 139).1 (tb_mj 139).2 := am_vJ2 ⟨(tb_i5 (i := 175) rfl rfl), (tb_i1 (i := 16) rfl rfl), tb_pn12.1, tb_pn12.2.1, tb_pn12.2.2⟩ (tb_i5 (i := 174) rfl rfl) (tb_i0 (i := 60) rfl rfl) tb_ds51 rfl rfl
set_option maxRecDepth 100000 in
theorem tb_j140 : am_vJ tb_tbl tb_cl (tb_mt 140) (tb_mj 140).1 (tb_mj 140).2 := am_vJ2 ⟨(tb_i5 (i := 138) rfl rfl), (tb_i1 (i := 16) rfl rfl), tb_pn12.1, tb_pn12.2.1, tb_pn12.2.2⟩ (tb_i5 (i := 137) rfl rfl) (tb_i0 (i := 52) rfl rfl) tb_ds15 rfl rfl
set_option maxRecDepth 100000 in
theorem tb_j141 : am_vJ tb_tbl tb_cl (tb_mt 141) (tb_mj 141).1 (tb_mj 141).2 := am_vJ2 ⟨(tb_i6 (i := 31) rfl rfl), (tb_i1 (i := 16) rfl rfl), tb_pn12.1, tb_pn12.2.1, tb_pn12.2.2⟩ (tb_i6 (i := 30) rfl rfl) (tb_i0 (i := 78) rfl rfl) tb_ds19 rfl rfl
set_option maxRecDepth 100000 in
theorem tb_j142 : am_vJ tb_tbl tb_cl (tb_mt 142) (tb_mj 142).1 (tb_mj 142).2 := am_vJ2 ⟨(tb_i5 (i := 179) rfl rfl), (tb_i1 (i := 16) rfl rfl), tb_pn12.1, tb_pn12.2.1, tb_pn12.2.2⟩ (tb_i5 (i := 178) rfl rfl) (tb_i0 (i := 61) rfl rfl) tb_ds15 rfl rfl
set_option maxRecDepth 100000 in
theorem tb_j143 : am_vJ tb_tbl tb_cl (tb_mt 143) (tb_mj 143).1 (tb_mj 143).2 := am_vJ0 ⟨(tb_i6 (i := 8) rfl rfl), (tb_i1 (i := 16) rfl rfl), tb_pn12.1, tb_pn12.2.1, tb_pn12.2.2⟩ (tb_i6 (i := 7) rfl rfl) tb_ds38
set_option maxRecDepth 100000 in
theorem tb_j144 : am_vJ tb_tbl tb_cl (tb_mt 144) (tb_mj 144).1 (tb_mj 144).2 := am_vJ0 ⟨(tb_i6 (i := 11) rfl rfl), (tb_i1 (i := 16) rfl rfl), tb_pn12.1, tb_pn12.2.1, tb_pn12.2.2⟩ (tb_i6 (i := 10) rfl rfl) tb_ds38
set_option maxRecDepth 100000 in
theorem tb_j145 : am_vJ tb_tbl tb_cl (tb_mt 145) (tb_mj 145).1 (tb_mj 145).2 := am_vJ2 ⟨(tb_i6 (i := 94) rfl rfl), (tb_i1 (i := 16) rfl rfl), tb_pn12.1, tb_pn12.2.1, tb_pn12.2.2⟩ (tb_i6 (i := 92) rfl rfl) (tb_i6 (i := 93) rfl rfl) tb_ds5 rfl rfl
set_option maxRecDepth 100000 in
theorem tb_j146 : am_vJ tb_tbl tb_cl (tb_mt 146) (tb_mj 146).1 (tb_mj 146).2 := am_vJ2 ⟨(tb_i5 (i := 116) rfl rfl), (tb_i1 (i := 16) rfl rfl), tb_pn12.1, tb_pn12.2.1, tb_pn12.2.2⟩ (tb_i5 (i := 115) rfl rfl) (tb_i0 (i := 48) rfl rfl) tb_ds28 rfl rfl
set_option maxRecDepth 100000 in
theorem tb_j147 : am_vJ tb_tbl tb_cl (tb_mt 147) (tb_mj 147).1 (tb_mj 147).2 := am_vJ2 ⟨(tb_i6 (i := 44) rfl rfl), (tb_i1 (i := 16) rfl rfl), tb_pn12.1, tb_pn12.2.1, tb_pn12.2.2⟩ (tb_i6 (i := 43) rfl rfl) (tb_i0 (i := 81) rfl rfl) tb_ds28 rfl rfl
theorem tb_ds52 : (parseMethodDescriptor "(IJJ)Z").map (fun d => d.parameters.length + 1) = some 4 := by decide +kernel
set_option maxRecDepth 100000 in
theorem tb_j148 : am_vJ tb_tbl tb_cl (tb_mt 148) (tb_mj 148).1 (tb_mj 148).2 := am_vJ2 ⟨(tb_i5 (i := 126) rfl rfl), (tb_i1 (i := 16) rfl rfl), tb_pn12.1, tb_pn12.2.1, tb_pn12.2.2⟩ (tb_i5 (i := 125) rfl rfl) (tb_i0 (i := 50) rfl rfl) tb_ds52 rfl rfl
set_option maxRecDepth 100000 in
theorem tb_j149 : am_vJ tb_tbl tb_cl (tb_mt 149) (tb_mj 149).1 (tb_mj 149).2 := am_vJ2 ⟨(tb_i5 (i := 120) rfl rfl), (tb_i1 (i := 16) rfl rfl), tb_pn12.1, tb_pn12.2.1, tb_pn12.2.2⟩ (tb_i5 (i := 119) rfl rfl) (tb_i0 (i := 49) rfl rfl) tb_ds28 rfl rfl
set_option maxRecDepth 100000 in
theorem tb_j150 : am_vJ tb_tbl tb_cl (tb_mt 150) (tb_mj 150).1 (tb_mj 150).2 := am_vJ2 ⟨(tb_i5 (i := 104) rfl rfl), (tb_i1 (i := 16) rfl rfl), tb_pn12.1, tb_pn12.2.1, tb_pn12.2.2⟩ (tb_i5 (i := 103) rfl rfl) (tb_i0 (i := 45) rfl rfl) tb_ds31 rfl rfl
set_option maxRecDepth 100000 in
theorem tb_j151 : am_vJ tb_tbl tb_cl (tb_mt 151) (tb_mj 151).1 (tb_mj 151).2 := am_vJ2 ⟨(tb_i5 (i := 159) rfl rfl), (tb_i1 (i := 16) rfl rfl), tb_pn12.1, tb_pn12.2.1, tb_pn12.2.2⟩ (tb_i5 (i := 158) rfl rfl) (tb_i0 (i := 57) rfl rfl) tb_ds4 rfl rfl
set_option maxRecDepth 100000 in
theorem tb_j152 : am_vJ tb_tbl tb_cl (tb_mt 152) (tb_mj 152).1 (tb_mj 152).2 := am_vJ2 ⟨(tb_i5 (i := 171) rfl rfl), (tb_i1 (i := 16) rfl rfl), tb_pn12.1, tb_pn12.2.1, tb_pn12.2.2⟩ (tb_i5 (i := 170) rfl rfl) (tb_i0 (i := 59) rfl rfl) tb_ds24 rfl rfl
theorem tb_ds53 : (parseMethodDescriptor "(JJZ)Z").map (fun d => d.parameters.length + 1) = some 4 := by decide +kernel
set_option maxRecDepth 100000 in
theorem tb_j153 : am_vJ tb_tbl tb_cl (tb_mt 153) (tb_mj 153).1 (tb_mj 153).2 := am_vJ2 ⟨(tb_i6 (i := 60) rfl rfl), (tb_i1 (i := 16) rfl rfl), tb_pn12.1, tb_pn12.2.1, tb_pn12.2.2⟩ (tb_i6 (i := 59) rfl rfl) (tb_i0 (i := 85) rfl rfl) tb_ds53 rfl rfl
set_option maxRecDepth 100000 in
theorem tb_j154 : am_vJ tb_tbl tb_cl (tb_mt 154) (tb_mj 154).1 (tb_mj 154).2 := am_vJ2 ⟨(tb_i5 (i := 92) rfl rfl), (tb_i1 (i := 16) rfl rfl), tb_pn12.1, tb_pn12.2.1, tb_pn12.2.2⟩ (tb_i5 (i := 90) rfl rfl) (tb_i5 (i := 91) rfl rfl) tb_ds7 rfl rfl
set_option maxRecDepth 100000 in
theorem tb_j155 : am_vJ tb_tbl tb_cl (tb_mt 155) (tb_mj 155).1 (tb_mj 155).2 := am_vJ2 ⟨(tb_i5 (i := 134) rfl rfl), (tb_i1 (i := 16) rfl rfl), tb_pn12.1, tb_pn12.2.1, tb_pn12.2.2⟩ (tb_i5 (i := 133) rfl rfl) (tb_i0 (i := 51) rfl rfl) tb_ds31 rfl rfl
set_option maxRecDepth 100000 in
theorem tb_j156 : am_vJ tb_tbl tb_cl (tb_mt 156) (tb_mj 156).1 (tb_mj 156).2 := am_vJ2 ⟨(tb_i5 (i := 232) rfl rfl), (tb_i1 (i := 16) rfl rfl), tb_pn12.1, tb_pn12.2.1, tb_pn12.2.2⟩ (tb_i5 (i := 231) rfl rfl) (tb_i0 (i := 71) rfl rfl) tb_ds42 rfl rfl
set_option maxRecDepth 100000 in
theorem tb_j157 : am_vJ tb_tbl tb_cl (tb_mt 157) (tb_mj 157).1 (tb_mj 157).2 := am_vJ2 ⟨(tb_i6 (i := 4) rfl rfl), (tb_i1 (i := 16) rfl rfl), tb_pn12.1, tb_pn12.2.1, tb_pn12.2.2⟩ (tb_i6 (i := 3) rfl rfl) (tb_i0 (i := 73) rfl rfl) tb_ds49 rfl rfl
set_option maxRecDepth 100000 in
theorem tb_j158 : am_vJ tb_tbl tb_cl (tb_mt 158) (tb_mj 158).1 (tb_mj 158).2 := am_vJ2 ⟨(tb_i5 (i := 96) rfl rfl), (tb_i1 (i := 16) rfl rfl), tb_pn12.1, tb_pn12.2.1, tb_pn12.2.2⟩ (tb_i5 (i := 94) rfl rfl) (tb_i5 (i := 95) rfl rfl) tb_ds8 rfl rfl
set_option maxRecDepth 100000 in
theorem tb_j159 : am_vJ tb_tbl tb_cl (tb_mt 159) (tb_mj 159).1 (tb_mj 159).2 := am_vJ2 ⟨(tb_i5 (i := 84) rfl rfl), (tb_i1 (i := 16) rfl rfl), tb_pn12.1, tb_pn12.2.1, tb_pn12.2.2⟩ (tb_i5 (i := 82) rfl rfl) (tb_i5 (i := 83) rfl rfl) tb_ds9 rfl rfl
set_option maxRecDepth 100000 in
theorem tb_j160 : am_vJ tb_tbl tb_cl (tb_mt 160) (tb_mj 160).1 (tb_mj 160).2 := am_vJ2 ⟨(tb_i5 (i := 88) rfl rfl), (tb_i1 (i := 16) rfl rfl), tb_pn12.1, tb_pn12.2.1, tb_pn12.2.2⟩ (tb_i5 (i := 86) rfl rfl) (tb_i5 (i := 87) rfl rfl) tb_ds10 rfl rfl
set_option maxRecDepth 100000 in
theorem tb_j161 : am_vJ tb_tbl tb_cl (tb_mt 161) (tb_mj 161).1 (tb_mj 161).2 := am_vJ2 ⟨(tb_i5 (i := 112) rfl rfl), (tb_i1 (i := 16) rfl rfl), tb_pn12.1, tb_pn12.2.1, tb_pn12.2.2⟩ (tb_i5 (i := 111) rfl rfl) (tb_i0 (i := 47) rfl rfl) tb_ds31 rfl rfl
set_option maxRecDepth 100000 in
theorem tb_j162 : am_vJ tb_tbl tb_cl (tb_mt 162) (tb_mj 162).1 (tb_mj 162).2 := am_vJ2 ⟨(tb_i6 (i := 98) rfl rfl), (tb_i1 (i := 16) rfl rfl), tb_pn12.1, tb_pn12.2.1, tb_pn12.2.2⟩ (tb_i6 (i := 96) rfl rfl) (tb_i6 (i := 97) rfl rfl) tb_ds4 rfl rfl
set_option maxRecDepth 100000 in
theorem tb_j163 : am_vJ tb_tbl tb_cl (tb_mt 163) (tb_mj 163).1 (tb_mj 163).2 := am_vJ2 ⟨(tb_i6 (i := 102) rfl rfl), (tb_i1 (i := 16) rfl rfl), tb_pn12.1, tb_pn12.2.1, tb_pn12.2.2⟩ (tb_i6 (i := 100) rfl rfl) (tb_i6 (i := 101) rfl rfl) tb_ds11 rfl rfl
set_option maxRecDepth 100000 in
theorem tb_j164 : am_vJ tb_tbl tb_cl (tb_mt 164) (tb_mj 164).1 (tb_mj 164).2 := am_vJ2 ⟨(tb_i5 (i := 147) rfl rfl), (tb_i1 (i := 16) rfl rfl), tb_pn12.1, tb_pn12.2.1, tb_pn12.2.2⟩ (tb_i5 (i := 146) rfl rfl) (tb_i0 (i := 54) rfl rfl) tb_ds0 rfl rfl
set_option maxRecDepth 100000 in
theorem tb_j165 : am_vJ tb_tbl tb_cl (tb_mt 165) (tb_mj 165).1 (tb_mj 165).2 := am_vJ2 ⟨(tb_i6 (i := 106) rfl rfl), (tb_i1 (i := 16) rfl rfl), tb_pn12.1, tb_pn12.2.1, tb_pn12.2.2⟩ (tb_i6 (i := 104) rfl rfl) (tb_i6 (i := 105) rfl rfl) tb_ds5 rfl rfl
set_option maxRecDepth 100000 in
theorem tb_j166 : am_vJ tb_tbl tb_cl (tb_mt 166) (tb_mj 166).1 (tb_mj 166).2 := am_vJ2 ⟨(tb_i6 (i := 40) rfl rfl), (tb_i1 (i := 16) rfl rfl), tb_pn12.1, tb_pn12.2.1, tb_pn12.2.2⟩ (tb_i6 (i := 39) rfl rfl) (tb_i0 (i := 80) rfl rfl) tb_ds15 rfl rfl
set_option maxRecDepth 100000 in
theorem tb_j167 : am_vJ tb_tbl tb_cl (tb_mt 167) (tb_mj 167).1 (tb_mj 167).2 := am_vJ2 ⟨(tb_i6 (i := 23) rfl rfl), (tb_i1 (i := 16) rfl rfl), tb_pn12.1, tb_pn12.2.1, tb_pn12.2.2⟩ (tb_i6 (i := 22) rfl rfl) (tb_i0 (i := 76) rfl rfl) tb_ds19 rfl rfl
set_option maxRecDepth 100000 in
theorem tb_j168 : am_vJ tb_tbl tb_cl (tb_mt 168) (tb_mj 168).1 (tb_mj 168).2 := am_vJ2 ⟨(tb_i6 (i := 35) rfl rfl), (tb_i1 (i := 16) rfl rfl), tb_pn12.1, tb_pn12.2.1, tb_pn12.2.2⟩ (tb_i6 (i := 34) rfl rfl) (tb_i0 (i := 79) rfl rfl) tb_ds8 rfl rfl
set_option maxRecDepth 100000 in
theorem tb_j169 : am_vJ tb_tbl tb_cl (tb_mt 169) (tb_mj 169).1 (tb_mj 169).2 := am_vJ2 ⟨(tb_i5 (i := 215) rfl rfl), (tb_i1 (i := 16) rfl rfl), tb_pn12.1, tb_pn12.2.1, tb_pn12.2.2⟩ (tb_i5 (i := 214) rfl rfl) (tb_i0 (i := 67) rfl rfl) tb_ds25 rfl rfl
set_option maxRecDepth 100000 in
theorem tb_j170 : am_vJ tb_tbl tb_cl (tb_mt 170) (tb_mj 170).1 (tb_mj 170).2 := am_vJ2 ⟨(tb_i6 (i := 86) rfl rfl), (tb_i1 (i := 16) rfl rfl), tb_pn12.1, tb_pn12.2.1, tb_pn12.2.2⟩ (tb_i6 (i := 84) rfl rfl) (tb_i6 (i := 85) rfl rfl) tb_ds12 rfl rfl
set_option maxRecDepth 100000 in
theorem tb_j171 : am_vJ tb_tbl tb_cl (tb_mt 171) (tb_mj 171).1 (tb_mj 171).2 := am_vJ2 ⟨(tb_i5 (i := 163) rfl rfl), (tb_i1 (i := 16) rfl rfl), tb_pn12.1, tb_pn12.2.1, tb_pn12.2.2⟩ (tb_i5 (i := 162) rfl rfl) (tb_i0 (i := 58) rfl rfl) tb_ds4 rfl rfl
set_option maxRecDepth 100000 in
theorem tb_j172 : am_vJ tb_tbl tb_cl (tb_mt 172) (tb_mj 172).1 (tb_mj 172).2 := am_vJ2 ⟨(tb_i6 (i := 56) rfl rfl), (tb_i1 (i := 16) rfl rfl), tb_pn12.1, tb_pn12.2.1, tb_pn12.2.2⟩ (tb_i6 (i := 55) rfl rfl) (tb_i0 (i := 84) rfl rfl) tb_ds0 rfl rfl
set_option maxRecDepth 100000 in
theorem tb_j173 : am_vJ tb_tbl tb_cl (tb_mt 173) (tb_mj 173).1 (tb_mj 173).2 := am_vJ2 ⟨(tb_i6 (i := 90) rfl rfl), (tb_i1 (i := 16) rfl rfl), tb_pn12.1, tb_pn12.2.1, tb_pn12.2.2⟩ (tb_i6 (i := 88) rfl rfl) (tb_i6 (i := 89) rfl rfl) tb_ds13 rfl rfl
set_option maxRecDepth 100000 in
theorem tb_j174 : am_vJ tb_tbl tb_cl (tb_mt 174) (tb_mj 174).1 (tb_mj 174).2 := am_vJ2 ⟨(tb_i4 (i := 182) rfl rfl), (tb_i1 (i := 16) rfl rfl), tb_pn12.1, tb_pn12.2.1, tb_pn12.2.2⟩ (tb_i4 (i := 181) rfl rfl) (tb_i0 (i := 44) rfl rfl) tb_ds8 rfl rfl
set_option maxRecDepth 100000 in
theorem tb_j175 : am_vJ tb_tbl tb_cl (tb_mt 175) (tb_mj 175).1 (tb_mj 175).2 := am_vJ2 ⟨(tb_i5 (i := 228) rfl rfl), (tb_i1 (i := 16) rfl rfl), tb_pn12.1, tb_pn12.2.1, tb_pn12.2.2⟩ (tb_i5 (i := 227) rfl rfl) (tb_i0 (i := 70) rfl rfl) tb_ds42 rfl rfl
set_option maxRecDepth 100000 in
theorem tb_j176 : am_vJ tb_tbl tb_cl (tb_mt 176) (tb_mj 176).1 (tb_mj 176).2 := am_vJ2 ⟨(tb_i5 (i := 219) rfl rfl), (tb_i1 (i := 16) rfl rfl), tb_pn12.1, tb_pn12.2.1, tb_pn12.2.2⟩ (tb_i5 (i := 218) rfl rfl) (tb_i0 (i := 68) rfl rfl) tb_ds25 rfl rfl
set_option maxRecDepth 100000 in
theorem tb_j177 : am_vJ tb_tbl tb_cl (tb_mt 177) (tb_mj 177).1 (tb_mj 177).2 := am_vJ2 ⟨(tb_i6 (i := 27) rfl rfl), (tb_i1 (i := 16) rfl rfl), tb_pn12.1, tb_pn12.2.1, tb_pn12.2.2⟩ (tb_i6 (i := 26) rfl rfl) (tb_i0 (i := 77) rfl rfl) tb_ds42 rfl rfl
set_option maxRecDepth 100000 in
theorem tb_j178 : am_vJ tb_tbl tb_cl (tb_mt 178) (tb_mj 178).1 (tb_mj 178).2 := am_vJ0 ⟨(tb_i5 (i := 235) rfl rfl), (tb_i1 (i := 16) rfl rfl), tb_pn12.1, tb_pn12.2.1, tb_pn12.2.2⟩ (tb_i5 (i := 234) rfl rfl) tb_ds14
set_option maxRecDepth 100000 in
theorem tb_j179 : am_vJ tb_tbl tb_cl (tb_mt 179) (tb_mj 179).1 (tb_mj 179).2 := am_vJ2 ⟨(tb_i5 (i := 239) rfl rfl), (tb_i1 (i := 16) rfl rfl), tb_pn12.1, tb_pn12.2.1, tb_pn12.2.2⟩ (tb_i5 (i := 238) rfl rfl) (tb_i0 (i := 72) rfl rfl) tb_ds42 rfl rfl
set_option maxRecDepth 100000 in
theorem tb_j180 : am_vJ tb_tbl tb_cl (tb_mt 180) (tb_mj 180).1 (tb_mj 180).2 := am_vJ2 ⟨(tb_i5 (i := 108) rfl rfl), (tb_i1 (i := 16) rfl rfl), tb_pn12.1, tb_pn12.2.1, tb_pn12.2.2⟩ (tb_i5 (i := 107) rfl rfl) (tb_i0 (i := 46) rfl rfl) tb_ds31 rfl rfl
set_option maxRecDepth 100000 in
theorem tb_j181 : am_vJ tb_tbl tb_cl (tb_mt 181) (tb_mj 181).1 (tb_mj 181).2 := am_vJ2 ⟨(tb_i6 (i := 52) rfl rfl), (tb_i1 (i := 16) rfl rfl), tb_pn12.1, tb_pn12.2.1, tb_pn12.2.2⟩ (tb_i6 (i := 51) rfl rfl) (tb_i0 (i := 83) rfl rfl) tb_ds42 rfl rfl
set_option maxRecDepth 100000 in
theorem tb_j182 : am_vJ tb_tbl tb_cl (tb_mt 182) (tb_mj 182).1 (tb_mj 182).2 := am_vJ2 ⟨(tb_i5 (i := 100) rfl rfl), (tb_i1 (i := 16) rfl rfl), tb_pn12.1, tb_pn12.2.1, tb_pn12.2.2⟩ (tb_i5 (i := 98) rfl rfl) (tb_i5 (i := 99) rfl rfl) tb_ds4 rfl rfl
set_option maxRecDepth 100000 in
theorem tb_j183 : am_vJ tb_tbl tb_cl (tb_mt 183) (tb_mj 183).1 (tb_mj 183).2 := am_vJ2 ⟨(tb_i5 (i := 187) rfl rfl), (tb_i1 (i := 16) rfl rfl), tb_pn12.1, tb_pn12.2.1, tb_pn12.2.2⟩ (tb_i5 (i := 186) rfl rfl) (tb_i0 (i := 62) rfl rfl) tb_ds3 rfl rfl
theorem tb_ds54 : (parseMethodDescriptor "(JIJ)V").map (fun d => d.parameters.length + 1) = some 4 := by decide +kernel
set_option maxRecDepth 100000 in
theorem tb_j184 : am_vJ tb_tbl tb_cl (tb_mt 184) (tb_mj 184).1 (tb_mj 184).2 := am_vJ2 ⟨(tb_i5 (i := 224) rfl rfl), (tb_i1 (i := 16) rfl rfl), tb_pn12.1, tb_pn12.2.1, tb_pn12.2.2⟩ (tb_i5 (i := 223) rfl rfl) (tb_i0 (i := 69) rfl rfl) tb_ds54 rfl rfl
set_option maxRecDepth 100000 in
theorem tb_j185 : am_vJ tb_tbl tb_cl (tb_mt 185) (tb_mj 185).1 (tb_mj 185).2 := am_vJ2 ⟨(tb_i6 (i := 78) rfl rfl), (tb_i1 (i := 16) rfl rfl), tb_pn12.1, tb_pn12.2.1, tb_pn12.2.2⟩ (tb_i6 (i := 77) rfl rfl) (tb_i0 (i := 88) rfl rfl) tb_ds42 rfl rfl
set_option maxRecDepth 100000 in
theorem tb_j186 : am_vJ tb_tbl tb_cl (tb_mt 186) (tb_mj 186).1 (tb_mj 186).2 := am_vJ2 ⟨(tb_i5 (i := 211) rfl rfl), (tb_i1 (i := 16) rfl rfl), tb_pn12.1, tb_pn12.2.1, tb_pn12.2.2⟩ (tb_i5 (i := 210) rfl rfl) (tb_i0 (i := 66) rfl rfl) tb_ds48 rfl rfl
set_option maxRecDepth 100000 in
theorem tb_j187 : am_vJ tb_tbl tb_cl (tb_mt 187) (tb_mj 187).1 (tb_mj 187).2 := am_vJ2 ⟨(tb_i5 (i := 155) rfl rfl), (tb_i1 (i := 16) rfl rfl), tb_pn12.1, tb_pn12.2.1, tb_pn12.2.2⟩ (tb_i5 (i := 154) rfl rfl) (tb_i0 (i := 56) rfl rfl) tb_ds23 rfl rfl
set_option maxRecDepth 100000 in
theorem tb_j188 : am_vJ tb_tbl tb_cl (tb_mt 188) (tb_mj 188).1 (tb_mj 188).2 := am_vJ2 ⟨(tb_i6 (i := 74) rfl rfl), (tb_i1 (i := 16) rfl rfl), tb_pn12.1, tb_pn12.2.1, tb_pn12.2.2⟩ (tb_i6 (i := 73) rfl rfl) (tb_i0 (i := 87) rfl rfl) tb_ds42 rfl rfl
set_option maxRecDepth 100000 in
theorem tb_j189 : am_vJ tb_tbl tb_cl (tb_mt 189) (tb_mj 189).1 (tb_mj 189).2 := am_vJ0 ⟨(tb_i5 (i := 203) rfl rfl), (tb_i1 (i := 16) rfl rfl), tb_pn12.1, tb_pn12.2.1, tb_pn12.2.2⟩ (tb_i5 (i := 202) rfl rfl) tb_ds14
set_option maxRecDepth 100000 in
theorem tb_j190 : am_vJ tb_tbl tb_cl (tb_mt 190) (tb_mj 190).1 (tb_mj 190).2 := am_vJ2 ⟨(tb_i6 (i := 82) rfl rfl), (tb_i1 (i := 16) rfl rfl), tb_pn12.1, tb_pn12.2.1, tb_pn12.2.2⟩ (tb_i6 (i := 80) rfl rfl) (tb_i6 (i := 81) rfl rfl) tb_ds15 rfl rfl
set_option maxRecDepth 100000 in
theorem tb_j191 : am_vJ tb_tbl tb_cl (tb_mt 191) (tb_mj 191).1 (tb_mj 191).2 := am_vJ2 ⟨(tb_i5 (i := 207) rfl rfl), (tb_i1 (i := 16) rfl rfl), tb_pn12.1, tb_pn12.2.1, tb_pn12.2.2⟩ (tb_i5 (i := 206) rfl rfl) (tb_i0 (i := 65) rfl rfl) tb_ds29 rfl rfl
set_option maxRecDepth 100000 in
theorem tb_j192 : am_vJ tb_tbl tb_cl (tb_mt 192) (tb_mj 192).1 (tb_mj 192).2 := am_vJ0 ⟨(tb_i3 (i := 130) rfl rfl), (tb_i1 (i := 17) rfl rfl), tb_pn14.1, tb_pn14.2.1, tb_pn14.2.2⟩ (tb_i3 (i := 129) rfl rfl) tb_ds17
theorem tb_ds55 : (parseMethodDescriptor "([BB)V").map (fun d => d.parameters.length) = some 2 := by decide +kernel
set_option maxRecDepth 100000 in
theorem tb_j193 : am_vJ tb_tbl tb_cl (tb_mt 193) (tb_mj 193).1 (tb_mj 193).2 := am_vJ0 ⟨(tb_i2 (i := 102) rfl rfl), (tb_i1 (i := 13) rfl rfl), tb_pn15.1, tb_pn15.2.1, tb_pn15.2.2⟩ (tb_i2 (i := 101) rfl rfl) tb_ds55
theorem tb_ds56 : (parseMethodDescriptor "([BIIB)V").map (fun d => d.parameters.length) = some 4 := by decide +kernel
set_option maxRecDepth 100000 in
theorem tb_j194 : am_vJ tb_tbl tb_cl (tb_mt 194) (tb_mj 194).1 (tb_mj 194).2 := am_vJ0 ⟨(tb_i2 (i := 143) rfl rfl), (tb_i1 (i := 13) rfl rfl), tb_pn15.1, tb_pn15.2.1, tb_pn15.2.2⟩ (tb_i2 (i := 142) rfl rfl) tb_ds56
theorem tb_ds57 : (parseMethodDescriptor "([JJ)V").map (fun d => d.parameters.length) = some 2 := by decide +kernel
set_option maxRecDepth 100000 in
theorem tb_j195 : am_vJ tb_tbl tb_cl (tb_mt 195) (tb_mj 195).1 (tb_mj 195).2 := am_vJ0 ⟨(tb_i2 (i := 156) rfl rfl), (tb_i1 (i := 13) rfl rfl), tb_pn15.1, tb_pn15.2.1, tb_pn15.2.2⟩ (tb_i2 (i := 155) rfl rfl) tb_ds57
theorem tb_ds58 : (parseMethodDescriptor "(III)V").map (fun d => d.parameters.length) = some 3 := by decide +kernel
set_option maxRecDepth 100000 in
theorem tb_j196 : am_vJ tb_tbl tb_cl (tb_mt 196) (tb_mj 196).1 (tb_mj 196).2 := am_vJ0 ⟨(tb_i2 (i := 146) rfl rfl), (tb_i1 (i := 13) rfl rfl), tb_pn15.1, tb_pn15.2.1, tb_pn15.2.2⟩ (tb_i2 (i := 145) rfl rfl) tb_ds58
theorem tb_x : am_okx tb_tbl tb_tl := ⟨(tb_i1 (i := 24) rfl rfl), (tb_i1 (i := 25) rfl rfl), fun _ => (tb_i1 (i := 86) rfl rfl), fun _ => (tb_i2 (i := 136) rfl rfl), fun h => absurd h (by decide), fun _ => (tb_i1 (i := 138) rfl rfl)⟩
end
section
/-! PRINTED by wip/tools/gen.py: each row of the table is true to the code -/
abbrev tb_oks : List Nat := [0, 1, 2, 3, 4, 5, 6, 7, 8, 9, 10, 11, 12]
set_option maxRecDepth 100000 in
theorem tb_e0 : (tb_c0).all (fun l => l.all (am_ckE tb_cl tb_aos tb_tl tb_oks tb_mt tb_mj tb_nM tb_k13 0)) = true := by decide +kernel
set_option maxRecDepth 100000 in
theorem tb_e1 : (tb_c1).all (fun l => l.all (am_ckE tb_cl tb_aos tb_tl tb_oks tb_mt tb_mj tb_nM tb_k0 1)) = true := by decide +kernel
set_option maxRecDepth 100000 in
theorem tb_e2 : (tb_c2).all (fun l => l.all (am_ckE tb_cl tb_aos tb_tl tb_oks tb_mt tb_mj tb_nM tb_k0 2)) = true := by decide +kernel
set_option maxRecDepth 100000 in
theorem tb_e3 : (tb_c3).all (fun l => l.all (am_ckE tb_cl tb_aos tb_tl tb_oks tb_mt tb_mj tb_nM tb_k0 3)) = true := by decide +kernel
set_option maxRecDepth 100000 in
theorem tb_e4 : (tb_c4).all (fun l => l.all (am_ckE tb_cl tb_aos tb_tl tb_oks tb_mt tb_mj tb_nM tb_k0 4)) = true := by decide +kernel
set_option maxRecDepth 100000 in
theorem tb_e5 : (tb_c5).all (fun l => l.all (am_ckE tb_cl tb_aos tb_tl tb_oks tb_mt tb_mj tb_nM tb_k0 5)) = true := by decide +kernel
set_option maxRecDepth 100000 in
theorem tb_e6 : (tb_c6).all (fun l => l.all (am_ckE tb_cl tb_aos tb_tl tb_oks tb_mt tb_mj tb_nM tb_k0 6)) = true := by decide +kernel
set_option maxRecDepth 100000 in
theorem tb_e7 : (tb_c7).all (fun l => l.all (am_ckE tb_cl tb_aos tb_tl tb_oks tb_mt tb_mj tb_nM tb_k0 7)) = true := by decide +kernel
set_option maxRecDepth 100000 in
theorem tb_e8 : (tb_c8).all (fun l => l.all (am_ckE tb_cl tb_aos tb_tl tb_oks tb_mt tb_mj tb_nM tb_k0 8)) = true := by decide +kernel
set_option maxRecDepth 100000 in
theorem tb_e9 : (tb_c9).all (fun l => l.all (am_ckE tb_cl tb_aos tb_tl tb_oks tb_mt tb_mj tb_nM tb_k0 9)) = true := by decide +kernel
set_option maxRecDepth 100000 in
theorem tb_e10 : (tb_c10).all (fun l => l.all (am_ckE tb_cl tb_aos tb_tl tb_oks tb_mt tb_mj tb_nM tb_k0 10)) = true := by decide +kernel
set_option maxRecDepth 100000 in
theorem tb_e11 : (tb_c11).all (fun l => l.all (am_ckE tb_cl tb_aos tb_tl tb_oks tb_mt tb_mj tb_nM tb_k0 11)) = true := by decide +kernel
set_option maxRecDepth 100000 in
theorem tb_e12 : (tb_c12).all (fun l => l.all (am_ckE tb_cl tb_aos tb_tl tb_oks tb_mt tb_mj tb_nM tb_k0 12)) = true := by decide +kernel
set_option maxRecDepth 100000 in
theorem tb_e13 : (tb_c13).all (fun l => l.all (am_ckE tb_cl tb_aos tb_tl tb_oks tb_mt tb_mj tb_nM tb_k0 13)) = true := by decide +kernel
set_option maxRecDepth 100000 in
theorem tb_e14 : (tb_c14).all (fun l => l.all (am_ckE tb_cl tb_aos tb_tl tb_oks tb_mt tb_mj tb_nM tb_k0 14)) = true := by decide +kernel
set_option maxRecDepth 100000 in
theorem tb_e15 : (tb_c15).all (fun l => l.all (am_ckE tb_cl tb_aos tb_tl tb_oks tb_mt tb_mj tb_nM tb_k0 15)) = true := by decide +kernel
set_option maxRecDepth 100000 in
theorem tb_e16 : (tb_c16).all (fun l => l.all (am_ckE tb_cl tb_aos tb_tl tb_oks tb_mt tb_mj tb_nM tb_k0 16)) = true := by decide +kernel
set_option maxRecDepth 100000 in
theorem tb_e17 : (tb_c17).all (fun l => l.all (am_ckE tb_cl tb_aos tb_tl tb_oks tb_mt tb_mj tb_nM tb_k0 17)) = true := by decide +kernel
set_option maxRecDepth 100000 in
theorem tb_e18 : (tb_c18).all (fun l => l.all (am_ckE tb_cl tb_aos tb_tl tb_oks tb_mt tb_mj tb_nM tb_k0 18)) = true := by decide +kernel
set_option maxRecDepth 100000 in
theorem tb_e19 : (tb_c19).all (fun l => l.all (am_ckE tb_cl tb_aos tb_tl tb_oks tb_mt tb_mj tb_nM tb_k0 19)) = true := by decide +kernel
set_option maxRecDepth 100000 in
theorem tb_e20 : (tb_c20).all (fun l => l.all (am_ckE tb_cl tb_aos tb_tl tb_oks tb_mt tb_mj tb_nM tb_k0 20)) = true := by decide +kernel
set_option maxRecDepth 100000 in
theorem tb_e21 : (tb_c21).all (fun l => l.all (am_ckE tb_cl tb_aos tb_tl tb_oks tb_mt tb_mj tb_nM tb_k8 21)) = true := by decide +kernel
set_option maxRecDepth 100000 in
theorem tb_e22 : (tb_c22).all (fun l => l.all (am_ckE tb_cl tb_aos tb_tl tb_oks tb_mt tb_mj tb_nM tb_k8 22)) = true := by decide +kernel
set_option maxRecDepth 100000 in
theorem tb_e23 : (tb_c23).all (fun l => l.all (am_ckE tb_cl tb_aos tb_tl tb_oks tb_mt tb_mj tb_nM tb_k8 23)) = true := by decide +kernel
set_option maxRecDepth 100000 in
theorem tb_e24 : (tb_c24).all (fun l => l.all (am_ckE tb_cl tb_aos tb_tl tb_oks tb_mt tb_mj tb_nM tb_k8 24)) = true := by decide +kernel
set_option maxRecDepth 100000 in
theorem tb_e25 : (tb_c25).all (fun l => l.all (am_ckE tb_cl tb_aos tb_tl tb_oks tb_mt tb_mj tb_nM tb_k8 25)) = true := by decide +kernel
set_option maxRecDepth 100000 in
theorem tb_e26 : (tb_c26).all (fun l => l.all (am_ckE tb_cl tb_aos tb_tl tb_oks tb_mt tb_mj tb_nM tb_k8 26)) = true := by decide +kernel
set_option maxRecDepth 100000 in
theorem tb_e27 : (tb_c27).all (fun l => l.all (am_ckE tb_cl tb_aos tb_tl tb_oks tb_mt tb_mj tb_nM tb_k8 27)) = true := by decide +kernel
set_option maxRecDepth 100000 in
theorem tb_e28 : (tb_c28).all (fun l => l.all (am_ckE tb_cl tb_aos tb_tl tb_oks tb_mt tb_mj tb_nM tb_k8 28)) = true := by decide +kernel
set_option maxRecDepth 100000 in
theorem tb_e29 : (tb_c29).all (fun l => l.all (am_ckE tb_cl tb_aos tb_tl tb_oks tb_mt tb_mj tb_nM tb_k8 29)) = true := by decide +kernel
set_option maxRecDepth 100000 in
theorem tb_e30 : (tb_c30).all (fun l => l.all (am_ckE tb_cl tb_aos tb_tl tb_oks tb_mt tb_mj tb_nM tb_k8 30)) = true := by decide +kernel
set_option maxRecDepth 100000 in
theorem tb_e31 : (tb_c31).all (fun l => l.all (am_ckE tb_cl tb_aos tb_tl tb_oks tb_mt tb_mj tb_nM tb_k3 31)) = true := by decide +kernel
set_option maxRecDepth 100000 in
theorem tb_e32 : (tb_c32).all (fun l => l.all (am_ckE tb_cl tb_aos tb_tl tb_oks tb_mt tb_mj tb_nM tb_k3 32)) = true := by decide +kernel
set_option maxRecDepth 100000 in
theorem tb_e33 : (tb_c33).all (fun l => l.all (am_ckE tb_cl tb_aos tb_tl tb_oks tb_mt tb_mj tb_nM tb_k3 33)) = true := by decide +kernel
set_option maxRecDepth 100000 in
theorem tb_e34 : (tb_c34).all (fun l => l.all (am_ckE tb_cl tb_aos tb_tl tb_oks tb_mt tb_mj tb_nM tb_k3 34)) = true := by decide +kernel
set_option maxRecDepth 100000 in
theorem tb_e35 : (tb_c35).all (fun l => l.all (am_ckE tb_cl tb_aos tb_tl tb_oks tb_mt tb_mj tb_nM tb_k3 35)) = true := by decide +kernel
set_option maxRecDepth 100000 in
theorem tb_e36 : (tb_c36).all (fun l => l.all (am_ckE tb_cl tb_aos tb_tl tb_oks tb_mt tb_mj tb_nM tb_k3 36)) = true := by decide +kernel
set_option maxRecDepth 100000 in
theorem tb_e37 : (tb_c37).all (fun l => l.all (am_ckE tb_cl tb_aos tb_tl tb_oks tb_mt tb_mj tb_nM tb_k3 37)) = true := by decide +kernel
set_option maxRecDepth 100000 in
theorem tb_e38 : (tb_c38).all (fun l => l.all (am_ckE tb_cl tb_aos tb_tl tb_oks tb_mt tb_mj tb_nM tb_k3 38)) = true := by decide +kernel
set_option maxRecDepth 100000 in
theorem tb_e39 : (tb_c39).all (fun l => l.all (am_ckE tb_cl tb_aos tb_tl tb_oks tb_mt tb_mj tb_nM tb_k3 39)) = true := by decide +kernel
set_option maxRecDepth 100000 in
theorem tb_e40 : (tb_c40).all (fun l => l.all (am_ckE tb_cl tb_aos tb_tl tb_oks tb_mt tb_mj tb_nM tb_k3 40)) = true := by decide +kernel
set_option maxRecDepth 100000 in
theorem tb_e41 : (tb_c41).all (fun l => l.all (am_ckE tb_cl tb_aos tb_tl tb_oks tb_mt tb_mj tb_nM tb_k3 41)) = true := by decide +kernel
set_option maxRecDepth 100000 in
theorem tb_e42 : (tb_c42).all (fun l => l.all (am_ckE tb_cl tb_aos tb_tl tb_oks tb_mt tb_mj tb_nM tb_k3 42)) = true := by decide +kernel
set_option maxRecDepth 100000 in
theorem tb_e43 : (tb_c43).all (fun l => l.all (am_ckE tb_cl tb_aos tb_tl tb_oks tb_mt tb_mj tb_nM tb_k4 43)) = true := by decide +kernel
set_option maxRecDepth 100000 in
theorem tb_e44 : (tb_c44).all (fun l => l.all (am_ckE tb_cl tb_aos tb_tl tb_oks tb_mt tb_mj tb_nM tb_k4 44)) = true := by decide +kernel
set_option maxRecDepth 100000 in
theorem tb_e45 : (tb_c45).all (fun l => l.all (am_ckE tb_cl tb_aos tb_tl tb_oks tb_mt tb_mj tb_nM tb_k4 45)) = true := by decide +kernel
set_option maxRecDepth 100000 in
theorem tb_e46 : (tb_c46).all (fun l => l.all (am_ckE tb_cl tb_aos tb_tl tb_oks tb_mt tb_mj tb_nM tb_k4 46)) = true := by decide +kernel
set_option maxRecDepth 100000 in
theorem tb_e47 : (tb_c47).all (fun l => l.all (am_ckE tb_cl tb_aos tb_tl tb_oks tb_mt tb_mj tb_nM tb_k4 47)) = true := by decide +kernel
set_option maxRecDepth 100000 in
theorem tb_e48 : (tb_c48).all (fun l => l.all (am_ckE tb_cl tb_aos tb_tl tb_oks tb_mt tb_mj tb_nM tb_k4 48)) = true := by decide +kernel
set_option maxRecDepth 100000 in
theorem tb_e49 : (tb_c49).all (fun l => l.all (am_ckE tb_cl tb_aos tb_tl tb_oks tb_mt tb_mj tb_nM tb_k4 49)) = true := by decide +kernel
set_option maxRecDepth 100000 in
theorem tb_e50 : (tb_c50).all (fun l => l.all (am_ckE tb_cl tb_aos tb_tl tb_oks tb_mt tb_mj tb_nM tb_k4 50)) = true := by decide +kernel
set_option maxRecDepth 100000 in
theorem tb_e51 : (tb_c51).all (fun l => l.all (am_ckE tb_cl tb_aos tb_tl tb_oks tb_mt tb_mj tb_nM tb_k4 51)) = true := by decide +kernel
set_option maxRecDepth 100000 in
theorem tb_e52 : (tb_c52).all (fun l => l.all (am_ckE tb_cl tb_aos tb_tl tb_oks tb_mt tb_mj tb_nM tb_k4 52)) = true := by decide +kernel
set_option maxRecDepth 100000 in
theorem tb_e53 : (tb_c53).all (fun l => l.all (am_ckE tb_cl tb_aos tb_tl tb_oks tb_mt tb_mj tb_nM tb_k1 53)) = true := by decide +kernel
set_option maxRecDepth 100000 in
theorem tb_e54 : (tb_c54).all (fun l => l.all (am_ckE tb_cl tb_aos tb_tl tb_oks tb_mt tb_mj tb_nM tb_k1 54)) = true := by decide +kernel
set_option maxRecDepth 100000 in
theorem tb_e55 : (tb_c55).all (fun l => l.all (am_ckE tb_cl tb_aos tb_tl tb_oks tb_mt tb_mj tb_nM tb_k1 55)) = true := by decide +kernel
set_option maxRecDepth 100000 in
theorem tb_e56 : (tb_c56).all (fun l => l.all (am_ckE tb_cl tb_aos tb_tl tb_oks tb_mt tb_mj tb_nM tb_k1 56)) = true := by decide +kernel
set_option maxRecDepth 100000 in
theorem tb_e57 : (tb_c57).all (fun l => l.all (am_ckE tb_cl tb_aos tb_tl tb_oks tb_mt tb_mj tb_nM tb_k1 57)) = true := by decide +kernel
set_option maxRecDepth 100000 in
theorem tb_e58 : (tb_c58).all (fun l => l.all (am_ckE tb_cl tb_aos tb_tl tb_oks tb_mt tb_mj tb_nM tb_k1 58)) = true := by decide +kernel
set_option maxRecDepth 100000 in
theorem tb_e59 : (tb_c59).all (fun l => l.all (am_ckE tb_cl tb_aos tb_tl tb_oks tb_mt tb_mj tb_nM tb_k1 59)) = true := by decide +kernel
set_option maxRecDepth 100000 in
theorem tb_e60 : (tb_c60).all (fun l => l.all (am_ckE tb_cl tb_aos tb_tl tb_oks tb_mt tb_mj tb_nM tb_k1 60)) = true := by decide +kernel
set_option maxRecDepth 100000 in
theorem tb_e61 : (tb_c61).all (fun l => l.all (am_ckE tb_cl tb_aos tb_tl tb_oks tb_mt tb_mj tb_nM tb_k1 61)) = true := by decide +kernel
set_option maxRecDepth 100000 in
theorem tb_e62 : (tb_c62).all (fun l => l.all (am_ckE tb_cl tb_aos tb_tl tb_oks tb_mt tb_mj tb_nM tb_k1 62)) = true := by decide +kernel
set_option maxRecDepth 100000 in
theorem tb_e63 : (tb_c63).all (fun l => l.all (am_ckE tb_cl tb_aos tb_tl tb_oks tb_mt tb_mj tb_nM tb_k1 63)) = true := by decide +kernel
set_option maxRecDepth 100000 in
theorem tb_e64 : (tb_c64).all (fun l => l.all (am_ckE tb_cl tb_aos tb_tl tb_oks tb_mt tb_mj tb_nM tb_k1 64)) = true := by decide +kernel
set_option maxRecDepth 100000 in
theorem tb_e65 : (tb_c65).all (fun l => l.all (am_ckE tb_cl tb_aos tb_tl tb_oks tb_mt tb_mj tb_nM tb_k5 65)) = true := by decide +kernel
set_option maxRecDepth 100000 in
theorem tb_e66 : (tb_c66).all (fun l => l.all (am_ckE tb_cl tb_aos tb_tl tb_oks tb_mt tb_mj tb_nM tb_k5 66)) = true := by decide +kernel
set_option maxRecDepth 100000 in
theorem tb_e67 : (tb_c67).all (fun l => l.all (am_ckE tb_cl tb_aos tb_tl tb_oks tb_mt tb_mj tb_nM tb_k5 67)) = true := by decide +kernel
set_option maxRecDepth 100000 in
theorem tb_e68 : (tb_c68).all (fun l => l.all (am_ckE tb_cl tb_aos tb_tl tb_oks tb_mt tb_mj tb_nM tb_k5 68)) = true := by decide +kernel
set_option maxRecDepth 100000 in
theorem tb_e69 : (tb_c69).all (fun l => l.all (am_ckE tb_cl tb_aos tb_tl tb_oks tb_mt tb_mj tb_nM tb_k5 69)) = true := by decide +kernel
set_option maxRecDepth 100000 in
theorem tb_e70 : (tb_c70).all (fun l => l.all (am_ckE tb_cl tb_aos tb_tl tb_oks tb_mt tb_mj tb_nM tb_k5 70)) = true := by decide +kernel
set_option maxRecDepth 100000 in
theorem tb_e71 : (tb_c71).all (fun l => l.all (am_ckE tb_cl tb_aos tb_tl tb_oks tb_mt tb_mj tb_nM tb_k5 71)) = true := by decide +kernel
set_option maxRecDepth 100000 in
theorem tb_e72 : (tb_c72).all (fun l => l.all (am_ckE tb_cl tb_aos tb_tl tb_oks tb_mt tb_mj tb_nM tb_k5 72)) = true := by decide +kernel
set_option maxRecDepth 100000 in
theorem tb_e73 : (tb_c73).all (fun l => l.all (am_ckE tb_cl tb_aos tb_tl tb_oks tb_mt tb_mj tb_nM tb_k9 73)) = true := by decide +kernel
set_option maxRecDepth 100000 in
theorem tb_e74 : (tb_c74).all (fun l => l.all (am_ckE tb_cl tb_aos tb_tl tb_oks tb_mt tb_mj tb_nM tb_k9 74)) = true := by decide +kernel
set_option maxRecDepth 100000 in
theorem tb_e75 : (tb_c75).all (fun l => l.all (am_ckE tb_cl tb_aos tb_tl tb_oks tb_mt tb_mj tb_nM tb_k9 75)) = true := by decide +kernel
set_option maxRecDepth 100000 in
theorem tb_e76 : (tb_c76).all (fun l => l.all (am_ckE tb_cl tb_aos tb_tl tb_oks tb_mt tb_mj tb_nM tb_k9 76)) = true := by decide +kernel
set_option maxRecDepth 100000 in
theorem tb_e77 : (tb_c77).all (fun l => l.all (am_ckE tb_cl tb_aos tb_tl tb_oks tb_mt tb_mj tb_nM tb_k9 77)) = true := by decide +kernel
set_option maxRecDepth 100000 in
theorem tb_e78 : (tb_c78).all (fun l => l.all (am_ckE tb_cl tb_aos tb_tl tb_oks tb_mt tb_mj tb_nM tb_k9 78)) = true := by decide +kernel
set_option maxRecDepth 100000 in
theorem tb_e79 : (tb_c79).all (fun l => l.all (am_ckE tb_cl tb_aos tb_tl tb_oks tb_mt tb_mj tb_nM tb_k9 79)) = true := by decide +kernel
set_option maxRecDepth 100000 in
theorem tb_e80 : (tb_c80).all (fun l => l.all (am_ckE tb_cl tb_aos tb_tl tb_oks tb_mt tb_mj tb_nM tb_k9 80)) = true := by decide +kernel
set_option maxRecDepth 100000 in
theorem tb_e81 : (tb_c81).all (fun l => l.all (am_ckE tb_cl tb_aos tb_tl tb_oks tb_mt tb_mj tb_nM tb_k9 81)) = true := by decide +kernel
set_option maxRecDepth 100000 in
theorem tb_e82 : (tb_c82).all (fun l => l.all (am_ckE tb_cl tb_aos tb_tl tb_oks tb_mt tb_mj tb_nM tb_k9 82)) = true := by decide +kernel
set_option maxRecDepth 100000 in
theorem tb_e83 : (tb_c83).all (fun l => l.all (am_ckE tb_cl tb_aos tb_tl tb_oks tb_mt tb_mj tb_nM tb_k9 83)) = true := by decide +kernel
set_option maxRecDepth 100000 in
theorem tb_e84 : (tb_c84).all (fun l => l.all (am_ckE tb_cl tb_aos tb_tl tb_oks tb_mt tb_mj tb_nM tb_k9 84)) = true := by decide +kernel
set_option maxRecDepth 100000 in
theorem tb_e85 : (tb_c85).all (fun l => l.all (am_ckE tb_cl tb_aos tb_tl tb_oks tb_mt tb_mj tb_nM tb_k9 85)) = true := by decide +kernel
set_option maxRecDepth 100000 in
theorem tb_e86 : (tb_c86).all (fun l => l.all (am_ckE tb_cl tb_aos tb_tl tb_oks tb_mt tb_mj tb_nM tb_k9 86)) = true := by decide +kernel
set_option maxRecDepth 100000 in
theorem tb_e87 : (tb_c87).all (fun l => l.all (am_ckE tb_cl tb_aos tb_tl tb_oks tb_mt tb_mj tb_nM tb_k11 87)) = true := by decide +kernel
set_option maxRecDepth 100000 in
theorem tb_e88 : (tb_c88).all (fun l => l.all (am_ckE tb_cl tb_aos tb_tl tb_oks tb_mt tb_mj tb_nM tb_k7 88)) = true := by decide +kernel
set_option maxRecDepth 100000 in
theorem tb_e89 : (tb_c89).all (fun l => l.all (am_ckE tb_cl tb_aos tb_tl tb_oks tb_mt tb_mj tb_nM tb_k7 89)) = true := by decide +kernel
set_option maxRecDepth 100000 in
theorem tb_e90 : (tb_c90).all (fun l => l.all (am_ckE tb_cl tb_aos tb_tl tb_oks tb_mt tb_mj tb_nM tb_k7 90)) = true := by decide +kernel
set_option maxRecDepth 100000 in
theorem tb_e91 : (tb_c91).all (fun l => l.all (am_ckE tb_cl tb_aos tb_tl tb_oks tb_mt tb_mj tb_nM tb_k7 91)) = true := by decide +kernel
set_option maxRecDepth 100000 in
theorem tb_e92 : (tb_c92).all (fun l => l.all (am_ckE tb_cl tb_aos tb_tl tb_oks tb_mt tb_mj tb_nM tb_k7 92)) = true := by decide +kernel
set_option maxRecDepth 100000 in
theorem tb_e93 : (tb_c93).all (fun l => l.all (am_ckE tb_cl tb_aos tb_tl tb_oks tb_mt tb_mj tb_nM tb_k7 93)) = true := by decide +kernel
set_option maxRecDepth 100000 in
theorem tb_e94 : (tb_c94).all (fun l => l.all (am_ckE tb_cl tb_aos tb_tl tb_oks tb_mt tb_mj tb_nM tb_k7 94)) = true := by decide +kernel
set_option maxRecDepth 100000 in
theorem tb_e95 : (tb_c95).all (fun l => l.all (am_ckE tb_cl tb_aos tb_tl tb_oks tb_mt tb_mj tb_nM tb_k7 95)) = true := by decide +kernel
set_option maxRecDepth 100000 in
theorem tb_e96 : (tb_c96).all (fun l => l.all (am_ckE tb_cl tb_aos tb_tl tb_oks tb_mt tb_mj tb_nM tb_k7 96)) = true := by decide +kernel
set_option maxRecDepth 100000 in
theorem tb_e97 : (tb_c97).all (fun l => l.all (am_ckE tb_cl tb_aos tb_tl tb_oks tb_mt tb_mj tb_nM tb_k7 97)) = true := by decide +kernel
set_option maxRecDepth 100000 in
theorem tb_e98 : (tb_c98).all (fun l => l.all (am_ckE tb_cl tb_aos tb_tl tb_oks tb_mt tb_mj tb_nM tb_k7 98)) = true := by decide +kernel
set_option maxRecDepth 100000 in
theorem tb_e99 : (tb_c99).all (fun l => l.all (am_ckE tb_cl tb_aos tb_tl tb_oks tb_mt tb_mj tb_nM tb_k10 99)) = true := by decide +kernel
set_option maxRecDepth 100000 in
theorem tb_e100 : (tb_c100).all (fun l => l.all (am_ckE tb_cl tb_aos tb_tl tb_oks tb_mt tb_mj tb_nM tb_k10 100)) = true := by decide +kernel
set_option maxRecDepth 100000 in
theorem tb_e101 : (tb_c101).all (fun l => l.all (am_ckE tb_cl tb_aos tb_tl tb_oks tb_mt tb_mj tb_nM tb_k10 101)) = true := by decide +kernel
set_option maxRecDepth 100000 in
theorem tb_e102 : (tb_c102).all (fun l => l.all (am_ckE tb_cl tb_aos tb_tl tb_oks tb_mt tb_mj tb_nM tb_k10 102)) = true := by decide +kernel
set_option maxRecDepth 100000 in
theorem tb_e103 : (tb_c103).all (fun l => l.all (am_ckE tb_cl tb_aos tb_tl tb_oks tb_mt tb_mj tb_nM tb_k10 103)) = true := by decide +kernel
set_option maxRecDepth 100000 in
theorem tb_e104 : (tb_c104).all (fun l => l.all (am_ckE tb_cl tb_aos tb_tl tb_oks tb_mt tb_mj tb_nM tb_k10 104)) = true := by decide +kernel
set_option maxRecDepth 100000 in
theorem tb_e105 : (tb_c105).all (fun l => l.all (am_ckE tb_cl tb_aos tb_tl tb_oks tb_mt tb_mj tb_nM tb_k10 105)) = true := by decide +kernel
set_option maxRecDepth 100000 in
theorem tb_e106 : (tb_c106).all (fun l => l.all (am_ckE tb_cl tb_aos tb_tl tb_oks tb_mt tb_mj tb_nM tb_k2 106)) = true := by decide +kernel
set_option maxRecDepth 100000 in
theorem tb_e107 : (tb_c107).all (fun l => l.all (am_ckE tb_cl tb_aos tb_tl tb_oks tb_mt tb_mj tb_nM tb_k2 107)) = true := by decide +kernel
set_option maxRecDepth 100000 in
theorem tb_e108 : (tb_c108).all (fun l => l.all (am_ckE tb_cl tb_aos tb_tl tb_oks tb_mt tb_mj tb_nM tb_k2 108)) = true := by decide +kernel
set_option maxRecDepth 100000 in
theorem tb_e109 : (tb_c109).all (fun l => l.all (am_ckE tb_cl tb_aos tb_tl tb_oks tb_mt tb_mj tb_nM tb_k2 109)) = true := by decide +kernel
set_option maxRecDepth 100000 in
theorem tb_e110 : (tb_c110).all (fun l => l.all (am_ckE tb_cl tb_aos tb_tl tb_oks tb_mt tb_mj tb_nM tb_k2 110)) = true := by decide +kernel
set_option maxRecDepth 100000 in
theorem tb_e111 : (tb_c111).all (fun l => l.all (am_ckE tb_cl tb_aos tb_tl tb_oks tb_mt tb_mj tb_nM tb_k2 111)) = true := by decide +kernel
set_option maxRecDepth 100000 in
theorem tb_e112 : (tb_c112).all (fun l => l.all (am_ckE tb_cl tb_aos tb_tl tb_oks tb_mt tb_mj tb_nM tb_k2 112)) = true := by decide +kernel
set_option maxRecDepth 100000 in
theorem tb_e113 : (tb_c113).all (fun l => l.all (am_ckE tb_cl tb_aos tb_tl tb_oks tb_mt tb_mj tb_nM tb_k2 113)) = true := by decide +kernel
set_option maxRecDepth 100000 in
theorem tb_e114 : (tb_c114).all (fun l => l.all (am_ckE tb_cl tb_aos tb_tl tb_oks tb_mt tb_mj tb_nM tb_k2 114)) = true := by decide +kernel
set_option maxRecDepth 100000 in
theorem tb_e115 : (tb_c115).all (fun l => l.all (am_ckE tb_cl tb_aos tb_tl tb_oks tb_mt tb_mj tb_nM tb_k2 115)) = true := by decide +kernel
set_option maxRecDepth 100000 in
theorem tb_e116 : (tb_c116).all (fun l => l.all (am_ckE tb_cl tb_aos tb_tl tb_oks tb_mt tb_mj tb_nM tb_k2 116)) = true := by decide +kernel
set_option maxRecDepth 100000 in
theorem tb_e117 : (tb_c117).all (fun l => l.all (am_ckE tb_cl tb_aos tb_tl tb_oks tb_mt tb_mj tb_nM tb_k2 117)) = true := by decide +kernel
set_option maxRecDepth 100000 in
theorem tb_e118 : (tb_c118).all (fun l => l.all (am_ckE tb_cl tb_aos tb_tl tb_oks tb_mt tb_mj tb_nM tb_k2 118)) = true := by decide +kernel
set_option maxRecDepth 100000 in
theorem tb_e119 : (tb_c119).all (fun l => l.all (am_ckE tb_cl tb_aos tb_tl tb_oks tb_mt tb_mj tb_nM tb_k2 119)) = true := by decide +kernel
set_option maxRecDepth 100000 in
theorem tb_e120 : (tb_c120).all (fun l => l.all (am_ckE tb_cl tb_aos tb_tl tb_oks tb_mt tb_mj tb_nM tb_k6 120)) = true := by decide +kernel
set_option maxRecDepth 100000 in
theorem tb_e121 : (tb_c121).all (fun l => l.all (am_ckE tb_cl tb_aos tb_tl tb_oks tb_mt tb_mj tb_nM tb_k6 121)) = true := by decide +kernel
set_option maxRecDepth 100000 in
theorem tb_e122 : (tb_c122).all (fun l => l.all (am_ckE tb_cl tb_aos tb_tl tb_oks tb_mt tb_mj tb_nM tb_k6 122)) = true := by decide +kernel
set_option maxRecDepth 100000 in
theorem tb_e123 : (tb_c123).all (fun l => l.all (am_ckE tb_cl tb_aos tb_tl tb_oks tb_mt tb_mj tb_nM tb_k6 123)) = true := by decide +kernel
set_option maxRecDepth 100000 in
theorem tb_e124 : (tb_c124).all (fun l => l.all (am_ckE tb_cl tb_aos tb_tl tb_oks tb_mt tb_mj tb_nM tb_k6 124)) = true := by decide +kernel
set_option maxRecDepth 100000 in
theorem tb_e125 : (tb_c125).all (fun l => l.all (am_ckE tb_cl tb_aos tb_tl tb_oks tb_mt tb_mj tb_nM tb_k12 125)) = true := by decide +kernel
set_option maxRecDepth 100000 in
theorem tb_e126 : (tb_c126).all (fun l => l.all (am_ckE tb_cl tb_aos tb_tl tb_oks tb_mt tb_mj tb_nM tb_k12 126)) = true := by decide +kernel
set_option maxRecDepth 100000 in
theorem tb_e127 : (tb_c127).all (fun l => l.all (am_ckE tb_cl tb_aos tb_tl tb_oks tb_mt tb_mj tb_nM tb_k12 127)) = true := by decide +kernel
set_option maxRecDepth 100000 in
theorem tb_e128 : (tb_c128).all (fun l => l.all (am_ckE tb_cl tb_aos tb_tl tb_oks tb_mt tb_mj tb_nM tb_k12 128)) = true := by decide +kernel
set_option maxRecDepth 100000 in
theorem tb_e129 : (tb_c129).all (fun l => l.all (am_ckE tb_cl tb_aos tb_tl tb_oks tb_mt tb_mj tb_nM tb_k12 129)) = true := by decide +kernel
set_option maxRecDepth 100000 in
theorem tb_e130 : (tb_c130).all (fun l => l.all (am_ckE tb_cl tb_aos tb_tl tb_oks tb_mt tb_mj tb_nM tb_k12 130)) = true := by decide +kernel
set_option maxRecDepth 100000 in
theorem tb_e131 : (tb_c131).all (fun l => l.all (am_ckE tb_cl tb_aos tb_tl tb_oks tb_mt tb_mj tb_nM tb_k12 131)) = true := by decide +kernel
set_option maxRecDepth 100000 in
theorem tb_e132 : (tb_c132).all (fun l => l.all (am_ckE tb_cl tb_aos tb_tl tb_oks tb_mt tb_mj tb_nM tb_k12 132)) = true := by decide +kernel
set_option maxRecDepth 100000 in
theorem tb_e133 : (tb_c133).all (fun l => l.all (am_ckE tb_cl tb_aos tb_tl tb_oks tb_mt tb_mj tb_nM tb_k12 133)) = true := by decide +kernel
set_option maxRecDepth 100000 in
theorem tb_e134 : (tb_c134).all (fun l => l.all (am_ckE tb_cl tb_aos tb_tl tb_oks tb_mt tb_mj tb_nM tb_k12 134)) = true := by decide +kernel
set_option maxRecDepth 100000 in
theorem tb_e135 : (tb_c135).all (fun l => l.all (am_ckE tb_cl tb_aos tb_tl tb_oks tb_mt tb_mj tb_nM tb_k12 135)) = true := by decide +kernel
set_option maxRecDepth 100000 in
theorem tb_e136 : (tb_c136).all (fun l => l.all (am_ckE tb_cl tb_aos tb_tl tb_oks tb_mt tb_mj tb_nM tb_k12 136)) = true := by decide +kernel
set_option maxRecDepth 100000 in
theorem tb_e137 : (tb_c137).all (fun l => l.all (am_ckE tb_cl tb_aos tb_tl tb_oks tb_mt tb_mj tb_nM tb_k12 137)) = true := by decide +kernel
set_option maxRecDepth 100000 in
theorem tb_e138 : (tb_c138).all (fun l => l.all (am_ckE tb_cl tb_aos tb_tl tb_oks tb_mt tb_mj tb_nM tb_k12 138)) = true := by decide +kernel
set_option maxRecDepth 100000 in
theorem tb_e139 : (tb_c139).all (fun l => l.all (am_ckE tb_cl tb_aos tb_tl tb_oks tb_mt tb_mj tb_nM tb_k12 139)) = true := by decide +kernel
set_option maxRecDepth 100000 in
theorem tb_e140 : (tb_c140).all (fun l => l.all (am_ckE tb_cl tb_aos tb_tl tb_oks tb_mt tb_mj tb_nM tb_k12 140)) = true := by decide +kernel
set_option maxRecDepth 100000 in
theorem tb_e141 : (tb_c141).all (fun l => l.all (am_ckE tb_cl tb_aos tb_tl tb_oks tb_mt tb_mj tb_nM tb_k12 141)) = true := by decide +kernel
set_option maxRecDepth 100000 in
theorem tb_e142 : (tb_c142).all (fun l => l.all (am_ckE tb_cl tb_aos tb_tl tb_oks tb_mt tb_mj tb_nM tb_k12 142)) = true := by decide +kernel
set_option maxRecDepth 100000 in
theorem tb_e143 : (tb_c143).all (fun l => l.all (am_ckE tb_cl tb_aos tb_tl tb_oks tb_mt tb_mj tb_nM tb_k12 143)) = true := by decide +kernel
set_option maxRecDepth 100000 in
theorem tb_e144 : (tb_c144).all (fun l => l.all (am_ckE tb_cl tb_aos tb_tl tb_oks tb_mt tb_mj tb_nM tb_k12 144)) = true := by decide +kernel
set_option maxRecDepth 100000 in
theorem tb_e145 : (tb_c145).all (fun l => l.all (am_ckE tb_cl tb_aos tb_tl tb_oks tb_mt tb_mj tb_nM tb_k12 145)) = true := by decide +kernel
set_option maxRecDepth 100000 in
theorem tb_e146 : (tb_c146).all (fun l => l.all (am_ckE tb_cl tb_aos tb_tl tb_oks tb_mt tb_mj tb_nM tb_k12 146)) = true := by decide +kernel
set_option maxRecDepth 100000 in
theorem tb_e147 : (tb_c147).all (fun l => l.all (am_ckE tb_cl tb_aos tb_tl tb_oks tb_mt tb_mj tb_nM tb_k12 147)) = true := by decide +kernel
set_option maxRecDepth 100000 in
theorem tb_e148 : (tb_c148).all (fun l => l.all (am_ckE tb_cl tb_aos tb_tl tb_oks tb_mt tb_mj tb_nM tb_k12 148)) = true := by decide +kernel
set_option maxRecDepth 100000 in
theorem tb_e149 : (tb_c149).all (fun l => l.all (am_ckE tb_cl tb_aos tb_tl tb_oks tb_mt tb_mj tb_nM tb_k12 149)) = true := by decide +kernel
set_option maxRecDepth 100000 in
theorem tb_e150 : (tb_c150).all (fun l => l.all (am_ckE tb_cl tb_aos tb_tl tb_oks tb_mt tb_mj tb_nM tb_k12 150)) = true := by decide +kernel
set_option maxRecDepth 100000 in
theorem tb_e151 : (tb_c151).all (fun l => l.all (am_ckE tb_cl tb_aos tb_tl tb_oks tb_mt tb_mj tb_nM tb_k12 151)) = true := by decide +kernel
set_option maxRecDepth 100000 in
theorem tb_e152 : (tb_c152).all (fun l => l.all (am_ckE tb_cl tb_aos tb_tl tb_oks tb_mt tb_mj tb_nM tb_k12 152)) = true := by decide +kernel
set_option maxRecDepth 100000 in
theorem tb_e153 : (tb_c153).all (fun l => l.all (am_ckE tb_cl tb_aos tb_tl tb_oks tb_mt tb_mj tb_nM tb_k12 153)) = true := by decide +kernel
set_option maxRecDepth 100000 in
theorem tb_e154 : (tb_c154).all (fun l => l.all (am_ckE tb_cl tb_aos tb_tl tb_oks tb_mt tb_mj tb_nM tb_k12 154)) = true := by decide +kernel
set_option maxRecDepth 100000 in
theorem tb_e155 : (tb_c155).all (fun l => l.all (am_ckE tb_cl tb_aos tb_tl tb_oks tb_mt tb_mj tb_nM tb_k12 155)) = true := by decide +kernel
set_option maxRecDepth 100000 in
theorem tb_e156 : (tb_c156).all (fun l => l.all (am_ckE tb_cl tb_aos tb_tl tb_oks tb_mt tb_mj tb_nM tb_k12 156)) = true := by decide +kernel
set_option maxRecDepth 100000 in
theorem tb_e157 : (tb_c157).all (fun l => l.all (am_ckE tb_cl tb_aos tb_tl tb_oks tb_mt tb_mj tb_nM tb_k12 157)) = true := by decide +kernel
set_option maxRecDepth 100000 in
theorem tb_e158 : (tb_c158).all (fun l => l.all (am_ckE tb_cl tb_aos tb_tl tb_oks tb_mt tb_mj tb_nM tb_k12 158)) = true := by decide +kernel
set_option maxRecDepth 100000 in
theorem tb_e159 : (tb_c159).all (fun l => l.all (am_ckE tb_cl tb_aos tb_tl tb_oks tb_mt tb_mj tb_nM tb_k12 159)) = true := by decide +kernel
set_option maxRecDepth 100000 in
theorem tb_e160 : (tb_c160).all (fun l => l.all (am_ckE tb_cl tb_aos tb_tl tb_oks tb_mt tb_mj tb_nM tb_k12 160)) = true := by decide +kernel
set_option maxRecDepth 100000 in
theorem tb_e161 : (tb_c161).all (fun l => l.all (am_ckE tb_cl tb_aos tb_tl tb_oks tb_mt tb_mj tb_nM tb_k12 161)) = true := by decide +kernel
set_option maxRecDepth 100000 in
theorem tb_e162 : (tb_c162).all (fun l => l.all (am_ckE tb_cl tb_aos tb_tl tb_oks tb_mt tb_mj tb_nM tb_k12 162)) = true := by decide +kernel
set_option maxRecDepth 100000 in
theorem tb_e163 : (tb_c163).all (fun l => l.all (am_ckE tb_cl tb_aos tb_tl tb_oks tb_mt tb_mj tb_nM tb_k12 163)) = true := by decide +kernel
set_option maxRecDepth 100000 in
theorem tb_e164 : (tb_c164).all (fun l => l.all (am_ckE tb_cl tb_aos tb_tl tb_oks tb_mt tb_mj tb_nM tb_k12 164)) = true := by decide +kernel
set_option maxRecDepth 100000 in
theorem tb_e165 : (tb_c165).all (fun l => l.all (am_ckE tb_cl tb_aos tb_tl tb_oks tb_mt tb_mj tb_nM tb_k12 165)) = true := by decide +kernel
set_option maxRecDepth 100000 in
theorem tb_e166 : (tb_c166).all (fun l => l.all (am_ckE tb_cl tb_aos tb_tl tb_oks tb_mt tb_mj tb_nM tb_k12 166)) = true := by decide +kernel
set_option maxRecDepth 100000 in
theorem tb_e167 : (tb_c167).all (fun l => l.all (am_ckE tb_cl tb_aos tb_tl tb_oks tb_mt tb_mj tb_nM tb_k12 167)) = true := by decide +kernel
set_option maxRecDepth 100000 in
theorem tb_e168 : (tb_c168).all (fun l => l.all (am_ckE tb_cl tb_aos tb_tl tb_oks tb_mt tb_mj tb_nM tb_k12 168)) = true := by decide +kernel
set_option maxRecDepth 100000 in
theorem tb_e169 : (tb_c169).all (fun l => l.all (am_ckE tb_cl tb_aos tb_tl tb_oks tb_mt tb_mj tb_nM tb_k12 169)) = true := by decide +kernel
set_option maxRecDepth 100000 in
theorem tb_e170 : (tb_c170).all (fun l => l.all (am_ckE tb_cl tb_aos tb_tl tb_oks tb_mt tb_mj tb_nM tb_k12 170)) = true := by decide +kernel
set_option maxRecDepth 100000 in
theorem tb_e171 : (tb_c171).all (fun l => l.all (am_ckE tb_cl tb_aos tb_tl tb_oks tb_mt tb_mj tb_nM tb_k12 171)) = true := by decide +kernel
set_option maxRecDepth 100000 in
theorem tb_e172 : (tb_c172).all (fun l => l.all (am_ckE tb_cl tb_aos tb_tl tb_oks tb_mt tb_mj tb_nM tb_k12 172)) = true := by decide +kernel
set_option maxRecDepth 100000 in
theorem tb_e173 : (tb_c173).all (fun l => l.all (am_ckE tb_cl tb_aos tb_tl tb_oks tb_mt tb_mj tb_nM tb_k12 173)) = true := by decide +kernel
set_option maxRecDepth 100000 in
theorem tb_e174 : (tb_c174).all (fun l => l.all (am_ckE tb_cl tb_aos tb_tl tb_oks tb_mt tb_mj tb_nM tb_k12 174)) = true := by decide +kernel
set_option maxRecDepth 100000 in
theorem tb_e175 : (tb_c175).all (fun l => l.all (am_ckE tb_cl tb_aos tb_tl tb_oks tb_mt tb_mj tb_nM tb_k12 175)) = true := by decide +kernel
set_option maxRecDepth 100000 in
theorem tb_e176 : (tb_c176).all (fun l => l.all (am_ckE tb_cl tb_aos tb_tl tb_oks tb_mt tb_mj tb_nM tb_k12 176)) = true := by decide +kernel
set_option maxRecDepth 100000 in
theorem tb_e177 : (tb_c177).all (fun l => l.all (am_ckE tb_cl tb_aos tb_tl tb_oks tb_mt tb_mj tb_nM tb_k12 177)) = true := by decide +kernel
set_option maxRecDepth 100000 in
theorem tb_e178 : (tb_c178).all (fun l => l.all (am_ckE tb_cl tb_aos tb_tl tb_oks tb_mt tb_mj tb_nM tb_k12 178)) = true := by decide +kernel
set_option maxRecDepth 100000 in
theorem tb_e179 : (tb_c179).all (fun l => l.all (am_ckE tb_cl tb_aos tb_tl tb_oks tb_mt tb_mj tb_nM tb_k12 179)) = true := by decide +kernel
set_option maxRecDepth 100000 in
theorem tb_e180 : (tb_c180).all (fun l => l.all (am_ckE tb_cl tb_aos tb_tl tb_oks tb_mt tb_mj tb_nM tb_k12 180)) = true := by decide +kernel
set_option maxRecDepth 100000 in
theorem tb_e181 : (tb_c181).all (fun l => l.all (am_ckE tb_cl tb_aos tb_tl tb_oks tb_mt tb_mj tb_nM tb_k12 181)) = true := by decide +kernel
set_option maxRecDepth 100000 in
theorem tb_e182 : (tb_c182).all (fun l => l.all (am_ckE tb_cl tb_aos tb_tl tb_oks tb_mt tb_mj tb_nM tb_k12 182)) = true := by decide +kernel
set_option maxRecDepth 100000 in
theorem tb_e183 : (tb_c183).all (fun l => l.all (am_ckE tb_cl tb_aos tb_tl tb_oks tb_mt tb_mj tb_nM tb_k12 183)) = true := by decide +kernel
set_option maxRecDepth 100000 in
theorem tb_e184 : (tb_c184).all (fun l => l.all (am_ckE tb_cl tb_aos tb_tl tb_oks tb_mt tb_mj tb_nM tb_k12 184)) = true := by decide +kernel
set_option maxRecDepth 100000 in
theorem tb_e185 : (tb_c185).all (fun l => l.all (am_ckE tb_cl tb_aos tb_tl tb_oks tb_mt tb_mj tb_nM tb_k12 185)) = true := by decide +kernel
set_option maxRecDepth 100000 in
theorem tb_e186 : (tb_c186).all (fun l => l.all (am_ckE tb_cl tb_aos tb_tl tb_oks tb_mt tb_mj tb_nM tb_k12 186)) = true := by decide +kernel
set_option maxRecDepth 100000 in
theorem tb_e187 : (tb_c187).all (fun l => l.all (am_ckE tb_cl tb_aos tb_tl tb_oks tb_mt tb_mj tb_nM tb_k12 187)) = true := by decide +kernel
set_option maxRecDepth 100000 in
theorem tb_e188 : (tb_c188).all (fun l => l.all (am_ckE tb_cl tb_aos tb_tl tb_oks tb_mt tb_mj tb_nM tb_k12 188)) = true := by decide +kernel
set_option maxRecDepth 100000 in
theorem tb_e189 : (tb_c189).all (fun l => l.all (am_ckE tb_cl tb_aos tb_tl tb_oks tb_mt tb_mj tb_nM tb_k12 189)) = true := by decide +kernel
set_option maxRecDepth 100000 in
theorem tb_e190 : (tb_c190).all (fun l => l.all (am_ckE tb_cl tb_aos tb_tl tb_oks tb_mt tb_mj tb_nM tb_k12 190)) = true := by decide +kernel
set_option maxRecDepth 100000 in
theorem tb_e191 : (tb_c191).all (fun l => l.all (am_ckE tb_cl tb_aos tb_tl tb_oks tb_mt tb_mj tb_nM tb_k12 191)) = true := by decide +kernel
set_option maxRecDepth 100000 in
theorem tb_e192 : (tb_c192).all (fun l => l.all (am_ckE tb_cl tb_aos tb_tl tb_oks tb_mt tb_mj tb_nM tb_k14 192)) = true := by decide +kernel
set_option maxRecDepth 100000 in
theorem tb_e193 : (tb_c193).all (fun l => l.all (am_ckE tb_cl tb_aos tb_tl tb_oks tb_mt tb_mj tb_nM tb_k15 193)) = true := by decide +kernel
set_option maxRecDepth 100000 in
theorem tb_e194 : (tb_c194).all (fun l => l.all (am_ckE tb_cl tb_aos tb_tl tb_oks tb_mt tb_mj tb_nM tb_k15 194)) = true := by decide +kernel
set_option maxRecDepth 100000 in
theorem tb_e195 : (tb_c195).all (fun l => l.all (am_ckE tb_cl tb_aos tb_tl tb_oks tb_mt tb_mj tb_nM tb_k15 195)) = true := by decide +kernel
set_option maxRecDepth 100000 in
theorem tb_e196 : (tb_c196).all (fun l => l.all (am_ckE tb_cl tb_aos tb_tl tb_oks tb_mt tb_mj tb_nM tb_k15 196)) = true := by decide +kernel
theorem tb_okq : am_okq tb_tbl tb_cl tb_P tb_oks := (am_fa1 tb_q0 (am_fa1 tb_q1 (am_fa1 tb_q2 (am_fa1 tb_q3 (am_fa1 tb_q4 (am_fa1 tb_q5 (am_fa1 tb_q6 (am_fa1 tb_q7 (am_fa1 tb_q8 (am_fa1 tb_q9 (am_fa1 tb_q10 (am_fa1 tb_q11 (am_fa1 tb_q12 am_fa0)))))))))))))
theorem tb_okC : am_okC tb_cl tb_tbl tb_P.1 := by
  intro ci q h
  match ci, h with
  | 0, h => cases h; exact ⟨tb_u0, tb_ty0, tb_nm0⟩
  | 1, h => cases h; exact ⟨tb_u1, tb_ty1, tb_nm1⟩
  | 2, h => cases h; exact ⟨tb_u2, tb_ty2, tb_nm2⟩
  | 3, h => cases h; exact ⟨tb_u3, tb_ty3, tb_nm3⟩
  | 4, h => cases h; exact ⟨tb_u4, tb_ty4, tb_nm4⟩
  | 5, h => cases h; exact ⟨tb_u5, tb_ty5, tb_nm5⟩
  | 6, h => cases h; exact ⟨tb_u6, tb_ty6, tb_nm6⟩
  | 7, h => cases h; exact ⟨tb_u7, tb_ty7, tb_nm7⟩
  | 8, h => cases h; exact ⟨tb_u8, tb_ty8, tb_nm8⟩
  | 9, h => cases h; exact ⟨tb_u9, tb_ty9, tb_nm9⟩
  | 10, h => cases h; exact ⟨tb_u10, tb_ty10, tb_nm10⟩
  | 11, h => cases h; exact ⟨tb_u11, tb_ty11, tb_nm11⟩
  | 12, h => cases h; exact ⟨tb_u12, tb_ty12, tb_nm12⟩
  | n + 13, h => simp [tb_cl] at h
theorem tb_okj : am_okj tb_tbl tb_cl tb_mt tb_mj tb_nM := by
  intro j h0 h
  match j, h0, h with
  | 0, h0, _ => exact absurd h0 (by decide)
  | 1, _, _ => exact tb_j1
  | 2, _, _ => exact tb_j2
  | 3, _, _ => exact tb_j3
  | 4, _, _ => exact tb_j4
  | 5, _, _ => exact tb_j5
  | 6, _, _ => exact tb_j6
  | 7, _, _ => exact tb_j7
  | 8, _, _ => exact tb_j8
  | 9, _, _ => exact tb_j9
  | 10, _, _ => exact tb_j10
  | 11, _, _ => exact tb_j11
  | 12, _, _ => exact tb_j12
  | 13, _, _ => exact tb_j13
  | 14, _, _ => exact tb_j14
  | 15, _, _ => exact tb_j15
  | 16, _, _ => exact tb_j16
  | 17, _, _ => exact tb_j17
  | 18, _, _ => exact tb_j18
  | 19, _, _ => exact tb_j19
  | 20, _, _ => exact tb_j20
  | 21, _, _ => exact tb_j21
  | 22, _, _ => exact tb_j22
  | 23, _, _ => exact tb_j23
  | 24, _, _ => exact tb_j24
  | 25, _, _ => exact tb_j25
  | 26, _, _ => exact tb_j26
  | 27, _, _ => exact tb_j27
  | 28, _, _ => exact tb_j28
  | 29, _, _ => exact tb_j29
  | 30, _, _ => exact tb_j30
  | 31, _, _ => exact tb_j31
  | 32, _, _ => exact tb_j32
  | 33, _, _ => exact tb_j33
  | 34, _, _ => exact tb_j34
  | 35, _, _ => exact tb_j35
  | 36, _, _ => exact tb_j36
  | 37, _, _ => exact tb_j37
  | 38, _, _ => exact tb_j38
  | 39, _, _ => exact tb_j39
  | 40, _, _ => exact tb_j40
  | 41, _, _ => exact tb_j41
  | 42, _, _ => exact tb_j42
  | 43, _, _ => exact tb_j43
  | 44, _, _ => exact tb_j44
  | 45, _, _ => exact tb_j45
  | 46, _, _ => exact tb_j46
  | 47, _, _ => exact tb_j47
  | 48, _, _ => exact tb_j48
  | 49, _, _ => exact tb_j49
  | 50, _, _ => exact tb_j50
  | 51, _, _ => exact tb_j51
  | 52, _, _ => exact tb_j52
  | 53, _, _ => exact tb_j53
  | 54, _, _ => exact tb_j54
  | 55, _, _ => exact tb_j55
  | 56, _, _ => exact tb_j56
  | 57, _, _ => exact tb_j57
  | 58, _, _ => exact tb_j58
  | 59, _, _ => exact tb_j59
  | 60, _, _ => exact tb_j60
  | 61, _, _ => exact tb_j61
  | 62, _, _ => exact tb_j62
  | 63, _, _ => exact tb_j63
  | 64, _, _ => exact tb_j64
  | 65, _, _ => exact tb_j65
  | 66, _, _ => exact tb_j66
  | 67, _, _ => exact tb_j67
  | 68, _, _ => exact tb_j68
  | 69, _, _ => exact tb_j69
  | 70, _, _ => exact tb_j70
  | 71, _, _ => exact tb_j71
  | 72, _, _ => exact tb_j72
  | 73, _, _ => exact tb_j73
  | 74, _, _ => exact tb_j74
  | 75, _, _ => exact tb_j75
  | 76, _, _ => exact tb_j76
  | 77, _, _ => exact tb_j77
  | 78, _, _ => exact tb_j78
  | 79, _, _ => exact tb_j79
  | 80, _, _ => exact tb_j80
  | 81, _, _ => exact tb_j81
  | 82, _, _ => exact tb_j82
  | 83, _, _ => exact tb_j83
  | 84, _, _ => exact tb_j84
  | 85, _, _ => exact tb_j85
  | 86, _, _ => exact tb_j86
  | 87, _, _ => exact tb_j87
  | 88, _, _ => exact tb_j88
  | 89, _, _ => exact tb_j89
  | 90, _, _ => exact tb_j90
  | 91, _, _ => exact tb_j91
  | 92, _, _ => exact tb_j92
  | 93, _, _ => exact tb_j93
  | 94, _, _ => exact tb_j94
  | 95, _, _ => exact tb_j95
  | 96, _, _ => exact tb_j96
  | 97, _, _ => exact tb_j97
  | 98, _, _ => exact tb_j98
  | 99, _, _ => exact tb_j99
  | 100, _, _ => exact tb_j100
  | 101, _, _ => exact tb_j101
  | 102, _, _ => exact tb_j102
  | 103, _, _ => exact tb_j103
  | 104, _, _ => exact tb_j104
  | 105, _, _ => exact tb_j105
  | 106, _, _ => exact tb_j106
  | 107, _, _ => exact tb_j107
  | 108, _, _ => exact tb_j108
  | 109, _, _ => exact tb_j109
  | 110, _, _ => exact tb_j110
  | 111, _, _ => exact tb_j111
  | 112, _, _ => exact tb_j112
  | 113, _, _ => exact tb_j113
  | 114, _, _ => exact tb_j114
  | 115, _, _ => exact tb_j115
  | 116, _, _ => exact tb_j116
  | 117, _, _ => exact tb_j117
  | 118, _, _ => exact tb_j118
  | 119, _, _ => exact tb_j119
  | 120, _, _ => exact tb_j120
  | 121, _, _ => exact tb_j121
  | 122, _, _ => exact tb_j122
  | 123, _, _ => exact tb_j123
  | 124, _, _ => exact tb_j124
  | 125, _, _ => exact tb_j125
  | 126, _, _ => exact tb_j126
  | 127, _, _ => exact tb_j127
  | 128, _, _ => exact tb_j128
  | 129, _, _ => exact tb_j129
  | 130, _, _ => exact tb_j130
  | 131, _, _ => exact tb_j131
  | 132, _, _ => exact tb_j132
  | 133, _, _ => exact tb_j133
  | 134, _, _ => exact tb_j134
  | 135, _, _ => exact tb_j135
  | 136, _, _ => exact tb_j136
  | 137, _, _ => exact tb_j137
  | 138, _, _ => exact tb_j138
  | 139, _, _ => exact tb_j139
  | 140, _, _ => exact tb_j140
  | 141, _, _ => exact tb_j141
  | 142, _, _ => exact tb_j142
  | 143, _, _ => exact tb_j143
  | 144, _, _ => exact tb_j144
  | 145, _, _ => exact tb_j145
  | 146, _, _ => exact tb_j146
  | 147, _, _ => exact tb_j147
  | 148, _, _ => exact tb_j148
  | 149, _, _ => exact tb_j149
  | 150, _, _ => exact tb_j150
  | 151, _, _ => exact tb_j151
  | 152, _, _ => exact tb_j152
  | 153, _, _ => exact tb_j153
  | 154, _, _ => exact tb_j154
  | 155, _, _ => exact tb_j155
  | 156, _, _ => exact tb_j156
  | 157, _, _ => exact tb_j157
  | 158, _, _ => exact tb_j158
  | 159, _, _ => exact tb_j159
  | 160, _, _ => exact tb_j160
  | 161, _, _ => exact tb_j161
  | 162, _, _ => exact tb_j162
  | 163, _, _ => exact tb_j163
  | 164, _, _ => exact tb_j164
  | 165, _, _ => exact tb_j165
  | 166, _, _ => exact tb_j166
  | 167, _, _ => exact tb_j167
  | 168, _, _ => exact tb_j168
  | 169, _, _ => exact tb_j169
  | 170, _, _ => exact tb_j170
  | 171, _, _ => exact tb_j171
  | 172, _, _ => exact tb_j172
  | 173, _, _ => exact tb_j173
  | 174, _, _ => exact tb_j174
  | 175, _, _ => exact tb_j175
  | 176, _, _ => exact tb_j176
  | 177, _, _ => exact tb_j177
  | 178, _, _ => exact tb_j178
  | 179, _, _ => exact tb_j179
  | 180, _, _ => exact tb_j180
  | 181, _, _ => exact tb_j181
  | 182, _, _ => exact tb_j182
  | 183, _, _ => exact tb_j183
  | 184, _, _ => exact tb_j184
  | 185, _, _ => exact tb_j185
  | 186, _, _ => exact tb_j186
  | 187, _, _ => exact tb_j187
  | 188, _, _ => exact tb_j188
  | 189, _, _ => exact tb_j189
  | 190, _, _ => exact tb_j190
  | 191, _, _ => exact tb_j191
  | 192, _, _ => exact tb_j192
  | 193, _, _ => exact tb_j193
  | 194, _, _ => exact tb_j194
  | 195, _, _ => exact tb_j195
  | 196, _, _ => exact tb_j196
  | n + 197, _, h => exact absurd h (by simp [tb_nM])
theorem tb_okL : ∀ mi, mi < tb_nM → ∃ K, am_vK tb_tbl tb_nst tb_cl tb_tl tb_mt (tb_mt mi).1.cls K ∧ (tb_code mi).all (fun l => l.all (am_ckE tb_cl tb_aos tb_tl tb_oks tb_mt tb_mj tb_nM K mi)) = true := by
  intro mi h
  match mi, h with
  | 0, _ => exact ⟨tb_k13, tb_v13, tb_e0⟩
  | 1, _ => exact ⟨tb_k0, tb_v0, tb_e1⟩
  | 2, _ => exact ⟨tb_k0, tb_v0, tb_e2⟩
  | 3, _ => exact ⟨tb_k0, tb_v0, tb_e3⟩
  | 4, _ => exact ⟨tb_k0, tb_v0, tb_e4⟩
  | 5, _ => exact ⟨tb_k0, tb_v0, tb_e5⟩
  | 6, _ => exact ⟨tb_k0, tb_v0, tb_e6⟩
  | 7, _ => exact ⟨tb_k0, tb_v0, tb_e7⟩
  | 8, _ => exact ⟨tb_k0, tb_v0, tb_e8⟩
  | 9, _ => exact ⟨tb_k0, tb_v0, tb_e9⟩
  | 10, _ => exact ⟨tb_k0, tb_v0, tb_e10⟩
  | 11, _ => exact ⟨tb_k0, tb_v0, tb_e11⟩
  | 12, _ => exact ⟨tb_k0, tb_v0, tb_e12⟩
  | 13, _ => exact ⟨tb_k0, tb_v0, tb_e13⟩
  | 14, _ => exact ⟨tb_k0, tb_v0, tb_e14⟩
  | 15, _ => exact ⟨tb_k0, tb_v0, tb_e15⟩
  | 16, _ => exact ⟨tb_k0, tb_v0, tb_e16⟩
  | 17, _ => exact ⟨tb_k0, tb_v0, tb_e17⟩
  | 18, _ => exact ⟨tb_k0, tb_v0, tb_e18⟩
  | 19, _ => exact ⟨tb_k0, tb_v0, tb_e19⟩
  | 20, _ => exact ⟨tb_k0, tb_v0, tb_e20⟩
  | 21, _ => exact ⟨tb_k8, tb_v8, tb_e21⟩
  | 22, _ => exact ⟨tb_k8, tb_v8, tb_e22⟩
  | 23, _ => exact ⟨tb_k8, tb_v8, tb_e23⟩
  | 24, _ => exact ⟨tb_k8, tb_v8, tb_e24⟩
  | 25, _ => exact ⟨tb_k8, tb_v8, tb_e25⟩
  | 26, _ => exact ⟨tb_k8, tb_v8, tb_e26⟩
  | 27, _ => exact ⟨tb_k8, tb_v8, tb_e27⟩
  | 28, _ => exact ⟨tb_k8, tb_v8, tb_e28⟩
  | 29, _ => exact ⟨tb_k8, tb_v8, tb_e29⟩
  | 30, _ => exact ⟨tb_k8, tb_v8, tb_e30⟩
  | 31, _ => exact ⟨tb_k3, tb_v3, tb_e31⟩
  | 32, _ => exact ⟨tb_k3, tb_v3, tb_e32⟩
  | 33, _ => exact ⟨tb_k3, tb_v3, tb_e33⟩
  | 34, _ => exact ⟨tb_k3, tb_v3, tb_e34⟩
  | 35, _ => exact ⟨tb_k3, tb_v3, tb_e35⟩
  | 36, _ => exact ⟨tb_k3, tb_v3, tb_e36⟩
  | 37, _ => exact ⟨tb_k3, tb_v3, tb_e37⟩
  | 38, _ => exact ⟨tb_k3, tb_v3, tb_e38⟩
  | 39, _ => exact ⟨tb_k3, tb_v3, tb_e39⟩
  | 40, _ => exact ⟨tb_k3, tb_v3, tb_e40⟩
  | 41, _ => exact ⟨tb_k3, tb_v3, tb_e41⟩
  | 42, _ => exact ⟨tb_k3, tb_v3, tb_e42⟩
  | 43, _ => exact ⟨tb_k4, tb_v4, tb_e43⟩
  | 44, _ => exact ⟨tb_k4, tb_v4, tb_e44⟩
  | 45, _ => exact ⟨tb_k4, tb_v4, tb_e45⟩
  | 46, _ => exact ⟨tb_k4, tb_v4, tb_e46⟩
  | 47, _ => exact ⟨tb_k4, tb_v4, tb_e47⟩
  | 48, _ => exact ⟨tb_k4, tb_v4, tb_e48⟩
  | 49, _ => exact ⟨tb_k4, tb_v4, tb_e49⟩
  | 50, _ => exact ⟨tb_k4, tb_v4, tb_e50⟩
  | 51, _ => exact ⟨tb_k4, tb_v4, tb_e51⟩
  | 52, _ => exact ⟨tb_k4, tb_v4, tb_e52⟩
  | 53, _ => exact ⟨tb_k1, tb_v1, tb_e53⟩
  | 54, _ => exact ⟨tb_k1, tb_v1, tb_e54⟩
  | 55, _ => exact ⟨tb_k1, tb_v1, tb_e55⟩
  | 56, _ => exact ⟨tb_k1, tb_v1, tb_e56⟩
  | 57, _ => exact ⟨tb_k1, tb_v1, tb_e57⟩
  | 58, _ => exact ⟨tb_k1, tb_v1, tb_e58⟩
  | 59, _ => exact ⟨tb_k1, tb_v1, tb_e59⟩
  | 60, _ => exact ⟨tb_k1, tb_v1, tb_e60⟩
  | 61, _ => exact ⟨tb_k1, tb_v1, tb_e61⟩
  | 62, _ => exact ⟨tb_k1, tb_v1, tb_e62⟩
  | 63, _ => exact ⟨tb_k1, tb_v1, tb_e63⟩
  | 64, _ => exact ⟨tb_k1, tb_v1, tb_e64⟩
  | 65, _ => exact ⟨tb_k5, tb_v5, tb_e65⟩
  | 66, _ => exact ⟨tb_k5, tb_v5, tb_e66⟩
  | 67, _ => exact ⟨tb_k5, tb_v5, tb_e67⟩
  | 68, _ => exact ⟨tb_k5, tb_v5, tb_e68⟩
  | 69, _ => exact ⟨tb_k5, tb_v5, tb_e69⟩
  | 70, _ => exact ⟨tb_k5, tb_v5, tb_e70⟩
  | 71, _ => exact ⟨tb_k5, tb_v5, tb_e71⟩
  | 72, _ => exact ⟨tb_k5, tb_v5, tb_e72⟩
  | 73, _ => exact ⟨tb_k9, tb_v9, tb_e73⟩
  | 74, _ => exact ⟨tb_k9, tb_v9, tb_e74⟩
  | 75, _ => exact ⟨tb_k9, tb_v9, tb_e75⟩
  | 76, _ => exact ⟨tb_k9, tb_v9, tb_e76⟩
  | 77, _ => exact ⟨tb_k9, tb_v9, tb_e77⟩
  | 78, _ => exact ⟨tb_k9, tb_v9, tb_e78⟩
  | 79, _ => exact ⟨tb_k9, tb_v9, tb_e79⟩
  | 80, _ => exact ⟨tb_k9, tb_v9, tb_e80⟩
  | 81, _ => exact ⟨tb_k9, tb_v9, tb_e81⟩
  | 82, _ => exact ⟨tb_k9, tb_v9, tb_e82⟩
  | 83, _ => exact ⟨tb_k9, tb_v9, tb_e83⟩
  | 84, _ => exact ⟨tb_k9, tb_v9, tb_e84⟩
  | 85, _ => exact ⟨tb_k9, tb_v9, tb_e85⟩
  | 86, _ => exact ⟨tb_k9, tb_v9, tb_e86⟩
  | 87, _ => exact ⟨tb_k11, tb_v11, tb_e87⟩
  | 88, _ => exact ⟨tb_k7, tb_v7, tb_e88⟩
  | 89, _ => exact ⟨tb_k7, tb_v7, tb_e89⟩
  | 90, _ => exact ⟨tb_k7, tb_v7, tb_e90⟩
  | 91, _ => exact ⟨tb_k7, tb_v7, tb_e91⟩
  | 92, _ => exact ⟨tb_k7, tb_v7, tb_e92⟩
  | 93, _ => exact ⟨tb_k7, tb_v7, tb_e93⟩
  | 94, _ => exact ⟨tb_k7, tb_v7, tb_e94⟩
  | 95, _ => exact ⟨tb_k7, tb_v7, tb_e95⟩
  | 96, _ => exact ⟨tb_k7, tb_v7, tb_e96⟩
  | 97, _ => exact ⟨tb_k7, tb_v7, tb_e97⟩
  | 98, _ => exact ⟨tb_k7, tb_v7, tb_e98⟩
  | 99, _ => exact ⟨tb_k10, tb_v10, tb_e99⟩
  | 100, _ => exact ⟨tb_k10, tb_v10, tb_e100⟩
  | 101, _ => exact ⟨tb_k10, tb_v10, tb_e101⟩
  | 102, _ => exact ⟨tb_k10, tb_v10, tb_e102⟩
  | 103, _ => exact ⟨tb_k10, tb_v10, tb_e103⟩
  | 104, _ => exact ⟨tb_k10, tb_v10, tb_e104⟩
  | 105, _ => exact ⟨tb_k10, tb_v10, tb_e105⟩
  | 106, _ => exact ⟨tb_k2, tb_v2, tb_e106⟩
  | 107, _ => exact ⟨tb_k2, tb_v2, tb_e107⟩
  | 108, _ => exact ⟨tb_k2, tb_v2, tb_e108⟩
  | 109, _ => exact ⟨tb_k2, tb_v2, tb_e109⟩
  | 110, _ => exact ⟨tb_k2, tb_v2, tb_e110⟩
  | 111, _ => exact ⟨tb_k2, tb_v2, tb_e111⟩
  | 112, _ => exact ⟨tb_k2, tb_v2, tb_e112⟩
  | 113, _ => exact ⟨tb_k2, tb_v2, tb_e113⟩
  | 114, _ => exact ⟨tb_k2, tb_v2, tb_e114⟩
  | 115, _ => exact ⟨tb_k2, tb_v2, tb_e115⟩
  | 116, _ => exact ⟨tb_k2, tb_v2, tb_e116⟩
  | 117, _ => exact ⟨tb_k2, tb_v2, tb_e117⟩
  | 118, _ => exact ⟨tb_k2, tb_v2, tb_e118⟩
  | 119, _ => exact ⟨tb_k2, tb_v2, tb_e119⟩
  | 120, _ => exact ⟨tb_k6, tb_v6, tb_e120⟩
  | 121, _ => exact ⟨tb_k6, tb_v6, tb_e121⟩
  | 122, _ => exact ⟨tb_k6, tb_v6, tb_e122⟩
  | 123, _ => exact ⟨tb_k6, tb_v6, tb_e123⟩
  | 124, _ => exact ⟨tb_k6, tb_v6, tb_e124⟩
  | 125, _ => exact ⟨tb_k12, tb_v12, tb_e125⟩
  | 126, _ => exact ⟨tb_k12, tb_v12, tb_e126⟩
  | 127, _ => exact ⟨tb_k12, tb_v12, tb_e127⟩
  | 128, _ => exact ⟨tb_k12, tb_v12, tb_e128⟩
  | 129, _ => exact ⟨tb_k12, tb_v12, tb_e129⟩
  | 130, _ => exact ⟨tb_k12, tb_v12, tb_e130⟩
  | 131, _ => exact ⟨tb_k12, tb_v12, tb_e131⟩
  | 132, _ => exact ⟨tb_k12, tb_v12, tb_e132⟩
  | 133, _ => exact ⟨tb_k12, tb_v12, tb_e133⟩
  | 134, _ => exact ⟨tb_k12, tb_v12, tb_e134⟩
  | 135, _ => exact ⟨tb_k12, tb_v12, tb_e135⟩
  | 136, _ => exact ⟨tb_k12, tb_v12, tb_e136⟩
  | 137, _ => exact ⟨tb_k12, tb_v12, tb_e137⟩
  | 138, _ => exact ⟨tb_k12, tb_v12, tb_e138⟩
  | 139, _ => exact ⟨tb_k12, tb_v12, tb_e139⟩
  | 140, _ => exact ⟨tb_k12, tb_v12, tb_e140⟩
  | 141, _ => exact ⟨tb_k12, tb_v12, tb_e141⟩
  | 142, _ => exact ⟨tb_k12, tb_v12, tb_e142⟩
  | 143, _ => exact ⟨tb_k12, tb_v12, tb_e143⟩
  | 144, _ => exact ⟨tb_k12, tb_v12, tb_e144⟩
  | 145, _ => exact ⟨tb_k12, tb_v12, tb_e145⟩
  | 146, _ => exact ⟨tb_k12, tb_v12, tb_e146⟩
  | 147, _ => exact ⟨tb_k12, tb_v12, tb_e147⟩
  | 148, _ => exact ⟨tb_k12, tb_v12, tb_e148⟩
  | 149, _ => exact ⟨tb_k12, tb_v12, tb_e149⟩
  | 150, _ => exact ⟨tb_k12, tb_v12, tb_e150⟩
  | 151, _ => exact ⟨tb_k12, tb_v12, tb_e151⟩
  | 152, _ => exact ⟨tb_k12, tb_v12, tb_e152⟩
  | 153, _ => exact ⟨tb_k12, tb_v12, tb_e153⟩
  | 154, _ => exact ⟨tb_k12, tb_v12, tb_e154⟩
  | 155, _ => exact ⟨tb_k12, tb_v12, tb_e155⟩
  | 156, _ => exact ⟨tb_k12, tb_v12, tb_e156⟩
  | 157, _ => exact ⟨tb_k12, tb_v12, tb_e157⟩
  | 158, _ => exact ⟨tb_k12, tb_v12, tb_e158⟩
  | 159, _ => exact ⟨tb_k12, tb_v12, tb_e159⟩
  | 160, _ => exact ⟨tb_k12, tb_v12, tb_e160⟩
  | 161, _ => exact ⟨tb_k12, tb_v12, tb_e161⟩
  | 162, _ => exact ⟨tb_k12, tb_v12, tb_e162⟩
  | 163, _ => exact ⟨tb_k12, tb_v12, tb_e163⟩
  | 164, _ => exact ⟨tb_k12, tb_v12, tb_e164⟩
  | 165, _ => exact ⟨tb_k12, tb_v12, tb_e165⟩
  | 166, _ => exact ⟨tb_k12, tb_v12, tb_e166⟩
  | 167, _ => exact ⟨tb_k12, tb_v12, tb_e167⟩
  | 168, _ => exact ⟨tb_k12, tb_v12, tb_e168⟩
  | 169, _ => exact ⟨tb_k12, tb_v12, tb_e169⟩
  | 170, _ => exact ⟨tb_k12, tb_v12, tb_e170⟩
  | 171, _ => exact ⟨tb_k12, tb_v12, tb_e171⟩
  | 172, _ => exact ⟨tb_k12, tb_v12, tb_e172⟩
  | 173, _ => exact ⟨tb_k12, tb_v12, tb_e173⟩
  | 174, _ => exact ⟨tb_k12, tb_v12, tb_e174⟩
  | 175, _ => exact ⟨tb_k12, tb_v12, tb_e175⟩
  | 176, _ => exact ⟨tb_k12, tb_v12, tb_e176⟩
  | 177, _ => exact ⟨tb_k12, tb_v12, tb_e177⟩
  | 178, _ => exact ⟨tb_k12, tb_v12, tb_e178⟩
  | 179, _ => exact ⟨tb_k12, tb_v12, tb_e179⟩
  | 180, _ => exact ⟨tb_k12, tb_v12, tb_e180⟩
  | 181, _ => exact ⟨tb_k12, tb_v12, tb_e181⟩
  | 182, _ => exact ⟨tb_k12, tb_v12, tb_e182⟩
  | 183, _ => exact ⟨tb_k12, tb_v12, tb_e183⟩
  | 184, _ => exact ⟨tb_k12, tb_v12, tb_e184⟩
  | 185, _ => exact ⟨tb_k12, tb_v12, tb_e185⟩
  | 186, _ => exact ⟨tb_k12, tb_v12, tb_e186⟩
  | 187, _ => exact ⟨tb_k12, tb_v12, tb_e187⟩
  | 188, _ => exact ⟨tb_k12, tb_v12, tb_e188⟩
  | 189, _ => exact ⟨tb_k12, tb_v12, tb_e189⟩
  | 190, _ => exact ⟨tb_k12, tb_v12, tb_e190⟩
  | 191, _ => exact ⟨tb_k12, tb_v12, tb_e191⟩
  | 192, _ => exact ⟨tb_k14, tb_v14, tb_e192⟩
  | 193, _ => exact ⟨tb_k15, tb_v15, tb_e193⟩
  | 194, _ => exact ⟨tb_k15, tb_v15, tb_e194⟩
  | 195, _ => exact ⟨tb_k15, tb_v15, tb_e195⟩
  | 196, _ => exact ⟨tb_k15, tb_v15, tb_e196⟩
  | n + 197, h => exact absurd h (by simp [tb_nM])
end
section
/-! THE CLAIM OUT OF ONE WALK OF THE LAW'S BODY. Your part is whole_start (and what it stands on); all else here is the same for every law, but numbers. -/
def R_law : String := "FlagMachineLaw"
def lw_P (b : Addr) (xs : List Int32) (args : Array Value) (s : State) : Prop := args = #[.ref b] ∧ s.IntsAt b xs ∧ xs.length ≤ 3584 ∧ (Jvm.Cond.and given_1 narrow_1).before args s = true
def lw_Q (_ : Array Value) (s : State) (o : Outcome) (t : State) : Prop := o = .returned (some (.int 1)) ∧ Framed s o t [] 600000 7302250
def lw_Z (below : List Frame) (a : Array Value) (s : State) : State → Prop := fun t => ∃ o, t.status = .running ∧ Ended t below o ∧ lw_Q a s o t
/-- the law's own end, with 1 on the stack, nothing written that was there before, its room as the claim has it -/
theorem lw_ret {p : Program} {l : Launch} {e : Env} {s : State} {m : MethodId} {below : List Frame} {meth : Method} {c : Code} {b : Nat} (hx : p.tables.exec = Jvm.exec) (hb : c.code = code) (hr : meth.sig.returnType = ret) (hlocks : meth.locks = false) {pc : Nat} {H : Heap} {ls : Array Slot} (hdg : decode code pc = .ok (.ireturn, 1)) : W p l e room_1 s m #[Value.ref b] below meth c H [] 600000 7302250 (lw_Z below #[Value.ref b] s) (F0 m pc ls [.int 1]) := by
  intro T hT X
  obtain ⟨fs, hret, hrun, hended, hW, hframe⟩ := X.leave (v := some (.int 1)) (hlocks := hlocks) (fun h => by rw [hr] at h; cases h)
  have hmeth' : T.vm.method? m = some meth := X.method'
  refine ⟨T.setFrames fs, ?_, .returned (some (.int 1)), hrun, hended, rfl, ⟨_, rfl⟩, hW, hframe⟩
  jvm_step X.here [X.here.top, hx, hb, hdg, hmeth', hr, ret, narrow_b1]
  (try refine ⟨rfl, ?_⟩); (try refine ⟨rfl, ?_⟩)
  first | (intro acts; rw [hret _ acts rfl rfl rfl]) | rw [hret _ _ rfl rfl rfl]
  exact Steps.refl _
/-- what holds at the law's entry: the machine, the code, the tables' words (any of lw_tbl by 'hts w (by decide +kernel)'), the script of L ints xs at the cell b, what the Statement gives of the start (any of its parts by flat_of_before) -/
def lw_At (p : Program) (s : State) (m : MethodId) (meth : Method) (c : Code) (b L : Nat) (xs : Nat → Int32) : Prop :=
  p.tables.exec = Jvm.exec ∧ c.code = code ∧ meth.sig.returnType = ret ∧ c.maxLocals = 4 ∧ s.vm.findClass R_law = some m.cls ∧ (∀ w ∈ lw_tbl, w.before #[Value.ref b] s = true) ∧ va_X b L xs s s.heap ∧ b < s.heap.size ∧ meth.locks = false ∧ (Jvm.Cond.and given_1 narrow_1).before #[Value.ref b] s = true
abbrev tb_cells : Nat := 600000
abbrev tb_slots : Nat := 7302250
abbrev tb_wp := am_wp tb_P tb_T tb_mt
abbrev tb_ev := am_ev tb_P tb_T tb_mt
theorem tb_ao : ∀ C ∈ tb_aos, Cond.arrayOver (.object C) ∈ lw_tbl := (am_fa1 (tb_t1_in (i := 98) rfl) am_fa0)
theorem tb_tlw : ∀ t ∈ tb_tl, (t < 4 ∧ Cond.arrayClass (am_aty tb_cl t) ∈ tb_tbl) ∨ (∃ C, am_aty tb_cl t = .object C ∧ C ∈ tb_aos) := (am_fa1 (Or.inl ⟨by decide, (tb_i1 (i := 86) rfl rfl)⟩) (am_fa1 (Or.inl ⟨by decide, (tb_i2 (i := 136) rfl rfl)⟩) (am_fa1 (Or.inl ⟨by decide, (tb_i1 (i := 138) rfl rfl)⟩) (am_fa1 (Or.inr ⟨_, rfl, by decide⟩) am_fa0))))
theorem tb_lt : ∀ (ci : Nat) (q : vw_C), tb_cl[ci]? = some q → ci ∈ tb_oks := by
  intro ci q h
  have h1 := (List.getElem?_eq_some_iff.mp h).1
  simp [tb_cl] at h1
  simp [tb_oks]
  omega
abbrev tb_law (L : Nat) (xs : Nat → Int32) : Prop := ∃ h' : am_H, tb_ev L xs 0 [.ref 0] [] (some (.int 1)) h' ∧ h'.length ≤ tb_cells ∧ am_sl h' ≤ tb_slots
end
section
/-! FROM THE FUNCTION TO THE CLAIM: if the abstract run of the law answers 1 within the room, the law's walk does -/
theorem tb_okA : am_okA tb_cl tb_tbl tb_nst tb_aos tb_tl tb_P tb_T tb_mt := by
  refine ⟨fun mi pc en h => ?_, tb_okC, fun w hw => good_of_word (List.mem_filter.mp hw).2, fun w hw => (List.mem_filter.mp hw).2⟩
  unfold tb_T at h
  cases hb : Nat.blt mi tb_nM with
  | false => rw [hb] at h; cases h
  | true =>
    rw [hb] at h
    have hlt : mi < tb_nM := Nat.le_of_ble_eq_true hb
    obtain ⟨K, hK, hA⟩ := tb_okL mi hlt
    have hm := am_find_mem (show am_find pc ((tb_code mi).getD (pc / 32) []) = some en from h)
    have hbk : (tb_code mi).getD (pc / 32) [] ∈ tb_code mi := by
      rw [List.getD_eq_getElem?_getD] at hm ⊢
      cases hz : (tb_code mi)[pc / 32]? with
      | none => rw [hz] at hm; exact absurd hm List.not_mem_nil
      | some bk => exact List.mem_of_getElem? hz
    have h1 := List.all_eq_true.mp (List.all_eq_true.mp hA _ hbk) _ hm
    refine am_ckE_ok hK (fun hk => ?_) tb_okq tb_x tb_okj h1
    rcases Nat.eq_zero_or_pos mi with z | z
    · subst z
      exact absurd hk (by decide)
    · have h2 := (tb_okj mi z hlt).2
      rw [hk] at h2
      exact h2.2.1
set_option maxHeartbeats 4000000 in
theorem tb_start {p : Program} {e : Env} {s : State} {m : MethodId} {below : List Frame} {meth : Method} {c : Code} (l : Launch) {b L : Nat} {xs : Nat → Int32} (C0 : lw_At p s m meth c b L xs) (hrun : tb_law L xs) : W p l e room_1 s m #[Value.ref b] below meth c s.heap [] 0 0 (lw_Z below #[Value.ref b] s) (entryFrame m ([Value.ref b] : List Value).toArray 4) := by
  obtain ⟨hx, hb, hr, hml, hown, hts0, hX, hbl, hlocks, hgv⟩ := C0
  have hts : ∀ w ∈ tb_tbl, w.before #[Value.ref b] s = true := fun w hw => hts0 w (List.mem_filter.mp hw).1
  -- the kinds
  have hk : ∀ ci : Nat, ∃ (cC : ClassId), ∃ (iS : Nat → Nat), ∀ q : vw_C, tb_cl[ci]? = some q → u_Kn s q.1 q.2.1 q.2.2 cC iS := by
    intro ci
    cases hq : tb_cl[ci]? with
    | none => exact ⟨0, fun _ => 0, fun q h => by cases h⟩
    | some q =>
      obtain ⟨q', g1, g2, -⟩ := tb_okq ci (tb_lt ci q hq)
      have e1 : q' = q := Option.some.inj (g1.symm.trans hq)
      subst e1
      obtain ⟨cC, iS, hu⟩ := u_known (n := q'.2.2) hts (tb_okC ci q' hq).1 (hts _ g2)
      exact ⟨cC, iS, fun z hz => by cases hz; exact hu⟩
  obtain ⟨dC, hdC⟩ := Classical.axiomOfChoice hk
  obtain ⟨dI, hdI⟩ := Classical.axiomOfChoice hdC
  -- the arrays
  have ha : ∀ t : Nat, ∃ cA : ClassId, t ∈ tb_tl → ArrOfT s cA (am_aty tb_cl t) ∧ va_RA s cA (am_aty tb_cl t) := by
    intro t
    by_cases ht : t ∈ tb_tl
    · rcases tb_tlw t ht with ⟨h4, hw⟩ | ⟨C, hC, hao⟩
      · obtain ⟨cA, k, comp, g1, g2, g3⟩ := Cond.arrayClass_spec (hts _ hw)
        refine ⟨cA, fun _ => ⟨fun n z => ⟨fun k h => (by cases h), k, g2, comp, g3⟩, ?_⟩⟩
        match t, h4, g1 with
        | 0, _, g1 => exact g1
        | 1, _, g1 => exact g1
        | 2, _, g1 => exact g1
        | 3, _, g1 => exact g1
      · obtain ⟨comp, cA, k, g1, g2, g3, g4, g5⟩ := Cond.arrayOver_spec (hts0 _ (tb_ao C hao))
        exact ⟨cA, fun _ => by rw [hC]; exact ⟨fun n z => ⟨fun k h => (by cases h), k, g3, comp, g4⟩, k, comp, g3, g4, g1, g5⟩⟩
    · exact ⟨0, fun h => absurd h ht⟩
  obtain ⟨dA, hdA⟩ := Classical.axiomOfChoice ha
  have hE : am_env dC dI dA tb_cl tb_tl tb_nst tb_aos s := by
    refine ⟨⟨fun ci q hq => hdI ci q hq, fun k q hq => ?_⟩, fun w hw => ?_, fun C hC => va_AO.of (hts0 _ (tb_ao C hC))⟩
    · rw [am_tys, List.getElem?_map] at hq
      cases ht : tb_tl[k]? with
      | none => rw [ht] at hq; cases hq
      | some t =>
        rw [ht] at hq
        cases hq
        exact hdA t (List.mem_of_getElem? ht)
    · have h1 := hts0 w (List.mem_filter.mp hw).1
      have h2 := (List.mem_filter.mp hw).2
      cases w <;> first | exact va_Nw.of rfl h1 | (simp [am_isN] at h2)
  obtain ⟨h', ⟨N, hN⟩, hc, hsl⟩ := hrun
  have hl := lv_entry ([.ref b]) (n := 4) (Nat.le_of_ble_eq_true rfl)
  rw [lg_entry_eq]
  generalize (lg_sl ([.ref b]) ++ List.replicate (4 - (lg_sl ([.ref b])).length) Slot.unset).toArray = ls at hl ⊢
  have hl : lv_has ls 4 (am_lvT b s.heap.size (lv_args 0 [.ref 0])) := hl
  have hP : va_P (dC, dI) tb_cl (am_ws b s.heap.size dA []) s.heap := fun k q h => by simp [am_wsF] at h
  refine am_W_all (L := L) (xs := xs) hbl tb_okA N 0 0 (lv_args 0 [.ref 0]) [] [] (some (.int 1)) h' (hN N (Nat.le_refl N)) p e room_1 s m #[Value.ref b] below meth c s.heap [] 0 0 _ ls hx hb hml hown (fun z => absurd z (by decide)) hts hE hX (Nat.le_refl _) hP va_S.rf rfl hl (Nat.le_of_ble_eq_true rfl) (Nat.le_of_ble_eq_true rfl) ?_ ?_ ?_
  · show 0 + (h'.length - 0) ≤ tb_cells
    omega
  · show 0 + (am_sl h' - 0) ≤ tb_slots
    omega
  · intro pc' ins ls' H' locs' hd hret hP' hS'
    refine va_forget (fun q hq => hS'.2.2 q hq) ?_
    refine W.widen (k := tb_cells) (n := tb_slots) ?_ ?_ ?_
    · show 0 + (h'.length - 0) ≤ tb_cells
      omega
    · show 0 + (am_sl h' - 0) ≤ tb_slots
      omega
    · have hins : ins = .ireturn := by
        cases ins <;> first | rfl | (simp [am_ret] at hret)
      subst hins
      exact lw_ret hx hb hr hlocks hd
end
section
/-! PRINTED by wip/tools/sx.py: the state of the class as a tuple, its cells -/
abbrev cs_fm : Type := (Int32) × (Int64)
abbrev cs_hd : Type := (Int32) × (Int32) × (Int32) × (Nat → Int32) × (Nat → Int32) × (Int32) × (Int32) × (Int32) × (Int32) × (Int64)
abbrev cs_sf : Type := (Nat → Option Nat) × (Option Nat)
abbrev cs_co : Type := (Nat → Int64) × (Int64) × (Int64) × (Int64) × (Int32) × (Int64)
abbrev cs_fl : Type := (Int32) × (Int32) × (Int32) × (Int32) × (Int32)
abbrev cs_sm : Type := (Nat → Option Nat) × (Option Nat)
abbrev cs_me : Type := (Nat → Int32) × (Nat → Int32)
abbrev cs_pr : Type := (Int64) × (Int64) × (Int64) × (Int64)
abbrev cs_sv : Type := (Int32) × (Int32) × (Int32)
abbrev cs_si : Type := (Nat → Option Nat) × (Option Nat)
abbrev cs_so : Type := (Nat → Option Nat) × (Option Nat)
abbrev cs : Type := cs_fm × cs_hd × cs_sf × cs_co × cs_fl × cs_sm × cs_me × cs_pr × cs_sv × cs_si × cs_so
abbrev g_ended (s : cs) : Int32 := s.1.1
abbrev g_steps (s : cs) : Int64 := s.1.2
abbrev g_op (s : cs) : Int32 := s.2.1.1
abbrev g_size (s : cs) : Int32 := s.2.1.2.1
abbrev g_condition (s : cs) : Int32 := s.2.1.2.2.1
abbrev g_kinds (s : cs) : Nat → Int32 := s.2.1.2.2.2.1
abbrev g_hregs (s : cs) : Nat → Int32 := s.2.1.2.2.2.2.1
abbrev g_base (s : cs) : Int32 := s.2.1.2.2.2.2.2.1
abbrev g_index (s : cs) : Int32 := s.2.1.2.2.2.2.2.2.1
abbrev g_scale (s : cs) : Int32 := s.2.1.2.2.2.2.2.2.2.1
abbrev g_disp (s : cs) : Int32 := s.2.1.2.2.2.2.2.2.2.2.1
abbrev g_number (s : cs) : Int64 := s.2.1.2.2.2.2.2.2.2.2.2
abbrev g_fpages (s : cs) : Nat → Option Nat := s.2.2.1.1
abbrev g_fnew (s : cs) : Option Nat := s.2.2.1.2
abbrev g_regs (s : cs) : Nat → Int64 := s.2.2.2.1.1
abbrev g_ip (s : cs) : Int64 := s.2.2.2.1.2.1
abbrev g_next (s : cs) : Int64 := s.2.2.2.1.2.2.1
abbrev g_address (s : cs) : Int64 := s.2.2.2.1.2.2.2.1
abbrev g_stop (s : cs) : Int32 := s.2.2.2.1.2.2.2.2.1
abbrev g_stopv (s : cs) : Int64 := s.2.2.2.1.2.2.2.2.2
abbrev g_carry (s : cs) : Int32 := s.2.2.2.2.1.1
abbrev g_parity (s : cs) : Int32 := s.2.2.2.2.1.2.1
abbrev g_zero (s : cs) : Int32 := s.2.2.2.2.1.2.2.1
abbrev g_sign (s : cs) : Int32 := s.2.2.2.2.1.2.2.2.1
abbrev g_over (s : cs) : Int32 := s.2.2.2.2.1.2.2.2.2
abbrev g_mpages (s : cs) : Nat → Option Nat := s.2.2.2.2.2.1.1
abbrev g_mnew (s : cs) : Option Nat := s.2.2.2.2.2.1.2
abbrev g_starts (s : cs) : Nat → Int32 := s.2.2.2.2.2.2.1.1
abbrev g_ends (s : cs) : Nat → Int32 := s.2.2.2.2.2.2.1.2
abbrev g_lower (s : cs) : Int64 := s.2.2.2.2.2.2.2.1.1
abbrev g_upper (s : cs) : Int64 := s.2.2.2.2.2.2.2.1.2.1
abbrev g_quot (s : cs) : Int64 := s.2.2.2.2.2.2.2.1.2.2.1
abbrev g_rest (s : cs) : Int64 := s.2.2.2.2.2.2.2.1.2.2.2
abbrev g_first (s : cs) : Int32 := s.2.2.2.2.2.2.2.2.1.1
abbrev g_waiting (s : cs) : Int32 := s.2.2.2.2.2.2.2.2.1.2.1
abbrev g_sent (s : cs) : Int32 := s.2.2.2.2.2.2.2.2.1.2.2
abbrev g_ipages (s : cs) : Nat → Option Nat := s.2.2.2.2.2.2.2.2.2.1.1
abbrev g_inew (s : cs) : Option Nat := s.2.2.2.2.2.2.2.2.2.1.2
abbrev g_opages (s : cs) : Nat → Option Nat := s.2.2.2.2.2.2.2.2.2.2.1
abbrev g_onew (s : cs) : Option Nat := s.2.2.2.2.2.2.2.2.2.2.2
abbrev s_ended (s : cs) (v : Int32) : cs := ((v, s.1.2), s.2.1, s.2.2.1, s.2.2.2.1, s.2.2.2.2.1, s.2.2.2.2.2.1, s.2.2.2.2.2.2.1, s.2.2.2.2.2.2.2.1, s.2.2.2.2.2.2.2.2.1, s.2.2.2.2.2.2.2.2.2.1, s.2.2.2.2.2.2.2.2.2.2)
abbrev s_steps (s : cs) (v : Int64) : cs := ((s.1.1, v), s.2.1, s.2.2.1, s.2.2.2.1, s.2.2.2.2.1, s.2.2.2.2.2.1, s.2.2.2.2.2.2.1, s.2.2.2.2.2.2.2.1, s.2.2.2.2.2.2.2.2.1, s.2.2.2.2.2.2.2.2.2.1, s.2.2.2.2.2.2.2.2.2.2)
abbrev s_op (s : cs) (v : Int32) : cs := (s.1, (v, s.2.1.2.1, s.2.1.2.2.1, s.2.1.2.2.2.1, s.2.1.2.2.2.2.1, s.2.1.2.2.2.2.2.1, s.2.1.2.2.2.2.2.2.1, s.2.1.2.2.2.2.2.2.2.1, s.2.1.2.2.2.2.2.2.2.2.1, s.2.1.2.2.2.2.2.2.2.2.2), s.2.2.1, s.2.2.2.1, s.2.2.2.2.1, s.2.2.2.2.2.1, s.2.2.2.2.2.2.1, s.2.2.2.2.2.2.2.1, s.2.2.2.2.2.2.2.2.1, s.2.2.2.2.2.2.2.2.2.1, s.2.2.2.2.2.2.2.2.2.2)
abbrev s_size (s : cs) (v : Int32) : cs := (s.1, (s.2.1.1, v, s.2.1.2.2.1, s.2.1.2.2.2.1, s.2.1.2.2.2.2.1, s.2.1.2.2.2.2.2.1, s.2.1.2.2.2.2.2.2.1, s.2.1.2.2.2.2.2.2.2.1, s.2.1.2.2.2.2.2.2.2.2.1, s.2.1.2.2.2.2.2.2.2.2.2), s.2.2.1, s.2.2.2.1, s.2.2.2.2.1, s.2.2.2.2.2.1, s.2.2.2.2.2.2.1, s.2.2.2.2.2.2.2.1, s.2.2.2.2.2.2.2.2.1, s.2.2.2.2.2.2.2.2.2.1, s.2.2.2.2.2.2.2.2.2.2)
abbrev s_condition (s : cs) (v : Int32) : cs := (s.1, (s.2.1.1, s.2.1.2.1, v, s.2.1.2.2.2.1, s.2.1.2.2.2.2.1, s.2.1.2.2.2.2.2.1, s.2.1.2.2.2.2.2.2.1, s.2.1.2.2.2.2.2.2.2.1, s.2.1.2.2.2.2.2.2.2.2.1, s.2.1.2.2.2.2.2.2.2.2.2), s.2.2.1, s.2.2.2.1, s.2.2.2.2.1, s.2.2.2.2.2.1, s.2.2.2.2.2.2.1, s.2.2.2.2.2.2.2.1, s.2.2.2.2.2.2.2.2.1, s.2.2.2.2.2.2.2.2.2.1, s.2.2.2.2.2.2.2.2.2.2)
abbrev s_kinds (s : cs) (v : Nat → Int32) : cs := (s.1, (s.2.1.1, s.2.1.2.1, s.2.1.2.2.1, v, s.2.1.2.2.2.2.1, s.2.1.2.2.2.2.2.1, s.2.1.2.2.2.2.2.2.1, s.2.1.2.2.2.2.2.2.2.1, s.2.1.2.2.2.2.2.2.2.2.1, s.2.1.2.2.2.2.2.2.2.2.2), s.2.2.1, s.2.2.2.1, s.2.2.2.2.1, s.2.2.2.2.2.1, s.2.2.2.2.2.2.1, s.2.2.2.2.2.2.2.1, s.2.2.2.2.2.2.2.2.1, s.2.2.2.2.2.2.2.2.2.1, s.2.2.2.2.2.2.2.2.2.2)
abbrev s_hregs (s : cs) (v : Nat → Int32) : cs := (s.1, (s.2.1.1, s.2.1.2.1, s.2.1.2.2.1, s.2.1.2.2.2.1, v, s.2.1.2.2.2.2.2.1, s.2.1.2.2.2.2.2.2.1, s.2.1.2.2.2.2.2.2.2.1, s.2.1.2.2.2.2.2.2.2.2.1, s.2.1.2.2.2.2.2.2.2.2.2), s.2.2.1, s.2.2.2.1, s.2.2.2.2.1, s.2.2.2.2.2.1, s.2.2.2.2.2.2.1, s.2.2.2.2.2.2.2.1, s.2.2.2.2.2.2.2.2.1, s.2.2.2.2.2.2.2.2.2.1, s.2.2.2.2.2.2.2.2.2.2)
abbrev s_base (s : cs) (v : Int32) : cs := (s.1, (s.2.1.1, s.2.1.2.1, s.2.1.2.2.1, s.2.1.2.2.2.1, s.2.1.2.2.2.2.1, v, s.2.1.2.2.2.2.2.2.1, s.2.1.2.2.2.2.2.2.2.1, s.2.1.2.2.2.2.2.2.2.2.1, s.2.1.2.2.2.2.2.2.2.2.2), s.2.2.1, s.2.2.2.1, s.2.2.2.2.1, s.2.2.2.2.2.1, s.2.2.2.2.2.2.1, s.2.2.2.2.2.2.2.1, s.2.2.2.2.2.2.2.2.1, s.2.2.2.2.2.2.2.2.2.1, s.2.2.2.2.2.2.2.2.2.2)
abbrev s_index (s : cs) (v : Int32) : cs := (s.1, (s.2.1.1, s.2.1.2.1, s.2.1.2.2.1, s.2.1.2.2.2.1, s.2.1.2.2.2.2.1, s.2.1.2.2.2.2.2.1, v, s.2.1.2.2.2.2.2.2.2.1, s.2.1.2.2.2.2.2.2.2.2.1, s.2.1.2.2.2.2.2.2.2.2.2), s.2.2.1, s.2.2.2.1, s.2.2.2.2.1, s.2.2.2.2.2.1, s.2.2.2.2.2.2.1, s.2.2.2.2.2.2.2.1, s.2.2.2.2.2.2.2.2.1, s.2.2.2.2.2.2.2.2.2.1, s.2.2.2.2.2.2.2.2.2.2)
abbrev s_scale (s : cs) (v : Int32) : cs := (s.1, (s.2.1.1, s.2.1.2.1, s.2.1.2.2.1, s.2.1.2.2.2.1, s.2.1.2.2.2.2.1, s.2.1.2.2.2.2.2.1, s.2.1.2.2.2.2.2.2.1, v, s.2.1.2.2.2.2.2.2.2.2.1, s.2.1.2.2.2.2.2.2.2.2.2), s.2.2.1, s.2.2.2.1, s.2.2.2.2.1, s.2.2.2.2.2.1, s.2.2.2.2.2.2.1, s.2.2.2.2.2.2.2.1, s.2.2.2.2.2.2.2.2.1, s.2.2.2.2.2.2.2.2.2.1, s.2.2.2.2.2.2.2.2.2.2)
abbrev s_disp (s : cs) (v : Int32) : cs := (s.1, (s.2.1.1, s.2.1.2.1, s.2.1.2.2.1, s.2.1.2.2.2.1, s.2.1.2.2.2.2.1, s.2.1.2.2.2.2.2.1, s.2.1.2.2.2.2.2.2.1, s.2.1.2.2.2.2.2.2.2.1, v, s.2.1.2.2.2.2.2.2.2.2.2), s.2.2.1, s.2.2.2.1, s.2.2.2.2.1, s.2.2.2.2.2.1, s.2.2.2.2.2.2.1, s.2.2.2.2.2.2.2.1, s.2.2.2.2.2.2.2.2.1, s.2.2.2.2.2.2.2.2.2.1, s.2.2.2.2.2.2.2.2.2.2)
abbrev s_number (s : cs) (v : Int64) : cs := (s.1, (s.2.1.1, s.2.1.2.1, s.2.1.2.2.1, s.2.1.2.2.2.1, s.2.1.2.2.2.2.1, s.2.1.2.2.2.2.2.1, s.2.1.2.2.2.2.2.2.1, s.2.1.2.2.2.2.2.2.2.1, s.2.1.2.2.2.2.2.2.2.2.1, v), s.2.2.1, s.2.2.2.1, s.2.2.2.2.1, s.2.2.2.2.2.1, s.2.2.2.2.2.2.1, s.2.2.2.2.2.2.2.1, s.2.2.2.2.2.2.2.2.1, s.2.2.2.2.2.2.2.2.2.1, s.2.2.2.2.2.2.2.2.2.2)
abbrev s_fpages (s : cs) (v : Nat → Option Nat) : cs := (s.1, s.2.1, (v, s.2.2.1.2), s.2.2.2.1, s.2.2.2.2.1, s.2.2.2.2.2.1, s.2.2.2.2.2.2.1, s.2.2.2.2.2.2.2.1, s.2.2.2.2.2.2.2.2.1, s.2.2.2.2.2.2.2.2.2.1, s.2.2.2.2.2.2.2.2.2.2)
abbrev s_fnew (s : cs) (v : Option Nat) : cs := (s.1, s.2.1, (s.2.2.1.1, v), s.2.2.2.1, s.2.2.2.2.1, s.2.2.2.2.2.1, s.2.2.2.2.2.2.1, s.2.2.2.2.2.2.2.1, s.2.2.2.2.2.2.2.2.1, s.2.2.2.2.2.2.2.2.2.1, s.2.2.2.2.2.2.2.2.2.2)
abbrev s_regs (s : cs) (v : Nat → Int64) : cs := (s.1, s.2.1, s.2.2.1, (v, s.2.2.2.1.2.1, s.2.2.2.1.2.2.1, s.2.2.2.1.2.2.2.1, s.2.2.2.1.2.2.2.2.1, s.2.2.2.1.2.2.2.2.2), s.2.2.2.2.1, s.2.2.2.2.2.1, s.2.2.2.2.2.2.1, s.2.2.2.2.2.2.2.1, s.2.2.2.2.2.2.2.2.1, s.2.2.2.2.2.2.2.2.2.1, s.2.2.2.2.2.2.2.2.2.2)
abbrev s_ip (s : cs) (v : Int64) : cs := (s.1, s.2.1, s.2.2.1, (s.2.2.2.1.1, v, s.2.2.2.1.2.2.1, s.2.2.2.1.2.2.2.1, s.2.2.2.1.2.2.2.2.1, s.2.2.2.1.2.2.2.2.2), s.2.2.2.2.1, s.2.2.2.2.2.1, s.2.2.2.2.2.2.1, s.2.2.2.2.2.2.2.1, s.2.2.2.2.2.2.2.2.1, s.2.2.2.2.2.2.2.2.2.1, s.2.2.2.2.2.2.2.2.2.2)
abbrev s_next (s : cs) (v : Int64) : cs := (s.1, s.2.1, s.2.2.1, (s.2.2.2.1.1, s.2.2.2.1.2.1, v, s.2.2.2.1.2.2.2.1, s.2.2.2.1.2.2.2.2.1, s.2.2.2.1.2.2.2.2.2), s.2.2.2.2.1, s.2.2.2.2.2.1, s.2.2.2.2.2.2.1, s.2.2.2.2.2.2.2.1, s.2.2.2.2.2.2.2.2.1, s.2.2.2.2.2.2.2.2.2.1, s.2.2.2.2.2.2.2.2.2.2)
abbrev s_address (s : cs) (v : Int64) : cs := (s.1, s.2.1, s.2.2.1, (s.2.2.2.1.1, s.2.2.2.1.2.1, s.2.2.2.1.2.2.1, v, s.2.2.2.1.2.2.2.2.1, s.2.2.2.1.2.2.2.2.2), s.2.2.2.2.1, s.2.2.2.2.2.1, s.2.2.2.2.2.2.1, s.2.2.2.2.2.2.2.1, s.2.2.2.2.2.2.2.2.1, s.2.2.2.2.2.2.2.2.2.1, s.2.2.2.2.2.2.2.2.2.2)
abbrev s_stop (s : cs) (v : Int32) : cs := (s.1, s.2.1, s.2.2.1, (s.2.2.2.1.1, s.2.2.2.1.2.1, s.2.2.2.1.2.2.1, s.2.2.2.1.2.2.2.1, v, s.2.2.2.1.2.2.2.2.2), s.2.2.2.2.1, s.2.2.2.2.2.1, s.2.2.2.2.2.2.1, s.2.2.2.2.2.2.2.1, s.2.2.2.2.2.2.2.2.1, s.2.2.2.2.2.2.2.2.2.1, s.2.2.2.2.2.2.2.2.2.2)
abbrev s_stopv (s : cs) (v : Int64) : cs := (s.1, s.2.1, s.2.2.1, (s.2.2.2.1.1, s.2.2.2.1.2.1, s.2.2.2.1.2.2.1, s.2.2.2.1.2.2.2.1, s.2.2.2.1.2.2.2.2.1, v), s.2.2.2.2.1, s.2.2.2.2.2.1, s.2.2.2.2.2.2.1, s.2.2.2.2.2.2.2.1, s.2.2.2.2.2.2.2.2.1, s.2.2.2.2.2.2.2.2.2.1, s.2.2.2.2.2.2.2.2.2.2)
abbrev s_carry (s : cs) (v : Int32) : cs := (s.1, s.2.1, s.2.2.1, s.2.2.2.1, (v, s.2.2.2.2.1.2.1, s.2.2.2.2.1.2.2.1, s.2.2.2.2.1.2.2.2.1, s.2.2.2.2.1.2.2.2.2), s.2.2.2.2.2.1, s.2.2.2.2.2.2.1, s.2.2.2.2.2.2.2.1, s.2.2.2.2.2.2.2.2.1, s.2.2.2.2.2.2.2.2.2.1, s.2.2.2.2.2.2.2.2.2.2)
abbrev s_parity (s : cs) (v : Int32) : cs := (s.1, s.2.1, s.2.2.1, s.2.2.2.1, (s.2.2.2.2.1.1, v, s.2.2.2.2.1.2.2.1, s.2.2.2.2.1.2.2.2.1, s.2.2.2.2.1.2.2.2.2), s.2.2.2.2.2.1, s.2.2.2.2.2.2.1, s.2.2.2.2.2.2.2.1, s.2.2.2.2.2.2.2.2.1, s.2.2.2.2.2.2.2.2.2.1, s.2.2.2.2.2.2.2.2.2.2)
abbrev s_zero (s : cs) (v : Int32) : cs := (s.1, s.2.1, s.2.2.1, s.2.2.2.1, (s.2.2.2.2.1.1, s.2.2.2.2.1.2.1, v, s.2.2.2.2.1.2.2.2.1, s.2.2.2.2.1.2.2.2.2), s.2.2.2.2.2.1, s.2.2.2.2.2.2.1, s.2.2.2.2.2.2.2.1, s.2.2.2.2.2.2.2.2.1, s.2.2.2.2.2.2.2.2.2.1, s.2.2.2.2.2.2.2.2.2.2)
abbrev s_sign (s : cs) (v : Int32) : cs := (s.1, s.2.1, s.2.2.1, s.2.2.2.1, (s.2.2.2.2.1.1, s.2.2.2.2.1.2.1, s.2.2.2.2.1.2.2.1, v, s.2.2.2.2.1.2.2.2.2), s.2.2.2.2.2.1, s.2.2.2.2.2.2.1, s.2.2.2.2.2.2.2.1, s.2.2.2.2.2.2.2.2.1, s.2.2.2.2.2.2.2.2.2.1, s.2.2.2.2.2.2.2.2.2.2)
abbrev s_over (s : cs) (v : Int32) : cs := (s.1, s.2.1, s.2.2.1, s.2.2.2.1, (s.2.2.2.2.1.1, s.2.2.2.2.1.2.1, s.2.2.2.2.1.2.2.1, s.2.2.2.2.1.2.2.2.1, v), s.2.2.2.2.2.1, s.2.2.2.2.2.2.1, s.2.2.2.2.2.2.2.1, s.2.2.2.2.2.2.2.2.1, s.2.2.2.2.2.2.2.2.2.1, s.2.2.2.2.2.2.2.2.2.2)
abbrev s_mpages (s : cs) (v : Nat → Option Nat) : cs := (s.1, s.2.1, s.2.2.1, s.2.2.2.1, s.2.2.2.2.1, (v, s.2.2.2.2.2.1.2), s.2.2.2.2.2.2.1, s.2.2.2.2.2.2.2.1, s.2.2.2.2.2.2.2.2.1, s.2.2.2.2.2.2.2.2.2.1, s.2.2.2.2.2.2.2.2.2.2)
abbrev s_mnew (s : cs) (v : Option Nat) : cs := (s.1, s.2.1, s.2.2.1, s.2.2.2.1, s.2.2.2.2.1, (s.2.2.2.2.2.1.1, v), s.2.2.2.2.2.2.1, s.2.2.2.2.2.2.2.1, s.2.2.2.2.2.2.2.2.1, s.2.2.2.2.2.2.2.2.2.1, s.2.2.2.2.2.2.2.2.2.2)
abbrev s_starts (s : cs) (v : Nat → Int32) : cs := (s.1, s.2.1, s.2.2.1, s.2.2.2.1, s.2.2.2.2.1, s.2.2.2.2.2.1, (v, s.2.2.2.2.2.2.1.2), s.2.2.2.2.2.2.2.1, s.2.2.2.2.2.2.2.2.1, s.2.2.2.2.2.2.2.2.2.1, s.2.2.2.2.2.2.2.2.2.2)
abbrev s_ends (s : cs) (v : Nat → Int32) : cs := (s.1, s.2.1, s.2.2.1, s.2.2.2.1, s.2.2.2.2.1, s.2.2.2.2.2.1, (s.2.2.2.2.2.2.1.1, v), s.2.2.2.2.2.2.2.1, s.2.2.2.2.2.2.2.2.1, s.2.2.2.2.2.2.2.2.2.1, s.2.2.2.2.2.2.2.2.2.2)
abbrev s_lower (s : cs) (v : Int64) : cs := (s.1, s.2.1, s.2.2.1, s.2.2.2.1, s.2.2.2.2.1, s.2.2.2.2.2.1, s.2.2.2.2.2.2.1, (v, s.2.2.2.2.2.2.2.1.2.1, s.2.2.2.2.2.2.2.1.2.2.1, s.2.2.2.2.2.2.2.1.2.2.2), s.2.2.2.2.2.2.2.2.1, s.2.2.2.2.2.2.2.2.2.1, s.2.2.2.2.2.2.2.2.2.2)
abbrev s_upper (s : cs) (v : Int64) : cs := (s.1, s.2.1, s.2.2.1, s.2.2.2.1, s.2.2.2.2.1, s.2.2.2.2.2.1, s.2.2.2.2.2.2.1, (s.2.2.2.2.2.2.2.1.1, v, s.2.2.2.2.2.2.2.1.2.2.1, s.2.2.2.2.2.2.2.1.2.2.2), s.2.2.2.2.2.2.2.2.1, s.2.2.2.2.2.2.2.2.2.1, s.2.2.2.2.2.2.2.2.2.2)
abbrev s_quot (s : cs) (v : Int64) : cs := (s.1, s.2.1, s.2.2.1, s.2.2.2.1, s.2.2.2.2.1, s.2.2.2.2.2.1, s.2.2.2.2.2.2.1, (s.2.2.2.2.2.2.2.1.1, s.2.2.2.2.2.2.2.1.2.1, v, s.2.2.2.2.2.2.2.1.2.2.2), s.2.2.2.2.2.2.2.2.1, s.2.2.2.2.2.2.2.2.2.1, s.2.2.2.2.2.2.2.2.2.2)
abbrev s_rest (s : cs) (v : Int64) : cs := (s.1, s.2.1, s.2.2.1, s.2.2.2.1, s.2.2.2.2.1, s.2.2.2.2.2.1, s.2.2.2.2.2.2.1, (s.2.2.2.2.2.2.2.1.1, s.2.2.2.2.2.2.2.1.2.1, s.2.2.2.2.2.2.2.1.2.2.1, v), s.2.2.2.2.2.2.2.2.1, s.2.2.2.2.2.2.2.2.2.1, s.2.2.2.2.2.2.2.2.2.2)
abbrev s_first (s : cs) (v : Int32) : cs := (s.1, s.2.1, s.2.2.1, s.2.2.2.1, s.2.2.2.2.1, s.2.2.2.2.2.1, s.2.2.2.2.2.2.1, s.2.2.2.2.2.2.2.1, (v, s.2.2.2.2.2.2.2.2.1.2.1, s.2.2.2.2.2.2.2.2.1.2.2), s.2.2.2.2.2.2.2.2.2.1, s.2.2.2.2.2.2.2.2.2.2)
abbrev s_waiting (s : cs) (v : Int32) : cs := (s.1, s.2.1, s.2.2.1, s.2.2.2.1, s.2.2.2.2.1, s.2.2.2.2.2.1, s.2.2.2.2.2.2.1, s.2.2.2.2.2.2.2.1, (s.2.2.2.2.2.2.2.2.1.1, v, s.2.2.2.2.2.2.2.2.1.2.2), s.2.2.2.2.2.2.2.2.2.1, s.2.2.2.2.2.2.2.2.2.2)
abbrev s_sent (s : cs) (v : Int32) : cs := (s.1, s.2.1, s.2.2.1, s.2.2.2.1, s.2.2.2.2.1, s.2.2.2.2.2.1, s.2.2.2.2.2.2.1, s.2.2.2.2.2.2.2.1, (s.2.2.2.2.2.2.2.2.1.1, s.2.2.2.2.2.2.2.2.1.2.1, v), s.2.2.2.2.2.2.2.2.2.1, s.2.2.2.2.2.2.2.2.2.2)
abbrev s_ipages (s : cs) (v : Nat → Option Nat) : cs := (s.1, s.2.1, s.2.2.1, s.2.2.2.1, s.2.2.2.2.1, s.2.2.2.2.2.1, s.2.2.2.2.2.2.1, s.2.2.2.2.2.2.2.1, s.2.2.2.2.2.2.2.2.1, (v, s.2.2.2.2.2.2.2.2.2.1.2), s.2.2.2.2.2.2.2.2.2.2)
abbrev s_inew (s : cs) (v : Option Nat) : cs := (s.1, s.2.1, s.2.2.1, s.2.2.2.1, s.2.2.2.2.1, s.2.2.2.2.2.1, s.2.2.2.2.2.2.1, s.2.2.2.2.2.2.2.1, s.2.2.2.2.2.2.2.2.1, (s.2.2.2.2.2.2.2.2.2.1.1, v), s.2.2.2.2.2.2.2.2.2.2)
abbrev s_opages (s : cs) (v : Nat → Option Nat) : cs := (s.1, s.2.1, s.2.2.1, s.2.2.2.1, s.2.2.2.2.1, s.2.2.2.2.2.1, s.2.2.2.2.2.2.1, s.2.2.2.2.2.2.2.1, s.2.2.2.2.2.2.2.2.1, s.2.2.2.2.2.2.2.2.2.1, (v, s.2.2.2.2.2.2.2.2.2.2.2))
abbrev s_onew (s : cs) (v : Option Nat) : cs := (s.1, s.2.1, s.2.2.1, s.2.2.2.1, s.2.2.2.2.1, s.2.2.2.2.2.1, s.2.2.2.2.2.2.1, s.2.2.2.2.2.2.2.1, s.2.2.2.2.2.2.2.2.1, s.2.2.2.2.2.2.2.2.2.1, (s.2.2.2.2.2.2.2.2.2.2.1, v))
def CH (s : cs) (tl : am_H) : am_H := .inr (0, [.ref 2, .ref 5, .ref 7, .ref 15, .ref 16, .ref 17, .ref 18, .ref 19, .int (g_ended s), .long (g_steps s)]) :: .inr (1, [.int (g_op s), .int (g_size s), .int (g_condition s), .ref 3, .ref 4, .int (g_base s), .int (g_index s), .int (g_scale s), .int (g_disp s), .long (g_number s)]) :: .inl (0, 3, .inl (g_kinds s)) :: .inl (0, 3, .inl (g_hregs s)) :: .inr (2, [.ref 6, am_rf (g_fnew s)]) :: .inl (15, 1024, .inr (.inr (g_fpages s))) :: .inr (3, [.ref 8, .ref 9, .ref 10, .ref 2, .long (g_ip s), .long (g_next s), .long (g_address s), .int (g_stop s), .long (g_stopv s)]) :: .inl (3, 16, .inr (.inl (g_regs s))) :: .inr (4, [.int (g_carry s), .int (g_parity s), .int (g_zero s), .int (g_sign s), .int (g_over s)]) :: .inr (5, [.ref 11, .ref 13, .ref 14]) :: .inr (2, [.ref 12, am_rf (g_mnew s)]) :: .inl (15, 1537, .inr (.inr (g_mpages s))) :: .inl (0, 5, .inl (g_starts s)) :: .inl (0, 5, .inl (g_ends s)) :: .inr (6, [.ref 7, .ref 9, .ref 2]) :: .inr (7, [.ref 7, .ref 2, .long (g_lower s), .long (g_upper s), .long (g_quot s), .long (g_rest s)]) :: .inr (8, [.ref 7, .ref 9, .ref 2]) :: .inr (9, [.ref 7, .ref 2]) :: .inr (10, [.ref 7, .ref 20, .ref 22, .int (g_first s), .int (g_waiting s), .int (g_sent s)]) :: .inr (2, [.ref 21, am_rf (g_inew s)]) :: .inl (15, 256, .inr (.inr (g_ipages s))) :: .inr (2, [.ref 23, am_rf (g_onew s)]) :: .inl (15, 256, .inr (.inr (g_opages s))) :: tl
end
section
/-! SAFETY of the class: what holds of its cells between instructions (J), and what a method that was called leaves (SV, SI, SZ, SJ) -/
abbrev pgT : Type := Int32 × Option Nat × (Nat → Int32)
/-- pages: b cells stand between the class's and them -/
def pgF (b : Nat) : Nat → List pgT → am_H
  | _, [] => []
  | j, p :: r => .inr (11, [.int p.1, am_rf p.2.1, .ref (25 + b + 2 * j)]) :: .inl (1, 256, .inl p.2.2) :: pgF b (j + 1) r
def HH (s : cs) (mc : am_H) (D : List pgT) : am_H := CH s (mc ++ pgF mc.length 0 D)
def okp (b len : Nat) (o : Option Nat) : Prop := ∀ q, o = some q → ∃ j, j < len ∧ q = 24 + b + 2 * j
def cnt (T : Nat → Option Nat) : Nat → Nat
  | 0 => 0
  | n + 1 => cnt T n + (if T n = none then 0 else 1)
def b01 (x : Int32) : Prop := x = 0 ∨ x = 1
/-- the four stretches -/
def sR (i : Nat) : Nat := match i with
  | 0 => 5
  | 1 => 11
  | 2 => 20
  | _ => 22
def sN (i : Nat) : Nat := match i with
  | 0 => 1024
  | 1 => 1537
  | _ => 256
def sT (s : cs) (i : Nat) : Nat → Option Nat := match i with
  | 0 => g_fpages s
  | 1 => g_mpages s
  | 2 => g_ipages s
  | _ => g_opages s
def sW (s : cs) (i : Nat) : Option Nat := match i with
  | 0 => g_fnew s
  | 1 => g_mnew s
  | 2 => g_inew s
  | _ => g_onew s
def sT' (s : cs) (i : Nat) (v : Nat → Option Nat) : cs := match i with
  | 0 => s_fpages s v
  | 1 => s_mpages s v
  | 2 => s_ipages s v
  | _ => s_opages s v
def sW' (s : cs) (i : Nat) (v : Option Nat) : cs := match i with
  | 0 => s_fnew s v
  | 1 => s_mnew s v
  | 2 => s_inew s v
  | _ => s_onew s v
/-- the pages -/
def JP (s : cs) (mc : am_H) (D : List pgT) : Prop := (∀ i k, i < 4 → k < sN i → okp mc.length D.length (sT s i k)) ∧ (∀ i, i < 4 → okp mc.length D.length (sW s i)) ∧ (∀ (j : Nat) (p : pgT), D[j]? = some p → okp mc.length j p.2.1 ∧ (∃ k, k < 1537 ∧ p.1 = nI k) ∧ ∀ i, fits .byte (.int (p.2.2 i)) = true) ∧ D.length = cnt (sT s 0) 1024 + cnt (sT s 1) 1537 + cnt (sT s 2) 256 + cnt (sT s 3) 256
def J (s : cs) (mc : am_H) (D : List pgT) : Prop := b01 (g_ended s) ∧ b01 (g_carry s) ∧ b01 (g_parity s) ∧ b01 (g_zero s) ∧ b01 (g_sign s) ∧ b01 (g_over s) ∧ (∀ i, i < 3 → am_in (g_hregs s i) 16 = true) ∧ JP s mc D
theorem J_ended {s : cs} {mc : am_H} {D : List pgT} {v : Int32} (h : J s mc D) (hv : b01 v) : J (s_ended s v) mc D := ⟨hv, h.2⟩
theorem J_carry {s : cs} {mc : am_H} {D : List pgT} {v : Int32} (h : J s mc D) (hv : b01 v) : J (s_carry s v) mc D := ⟨h.1, hv, h.2.2⟩
theorem J_parity {s : cs} {mc : am_H} {D : List pgT} {v : Int32} (h : J s mc D) (hv : b01 v) : J (s_parity s v) mc D := ⟨h.1, h.2.1, hv, h.2.2.2⟩
theorem J_zero {s : cs} {mc : am_H} {D : List pgT} {v : Int32} (h : J s mc D) (hv : b01 v) : J (s_zero s v) mc D := ⟨h.1, h.2.1, h.2.2.1, hv, h.2.2.2.2⟩
theorem J_sign {s : cs} {mc : am_H} {D : List pgT} {v : Int32} (h : J s mc D) (hv : b01 v) : J (s_sign s v) mc D := ⟨h.1, h.2.1, h.2.2.1, h.2.2.2.1, hv, h.2.2.2.2.2⟩
theorem J_over {s : cs} {mc : am_H} {D : List pgT} {v : Int32} (h : J s mc D) (hv : b01 v) : J (s_over s v) mc D := ⟨h.1, h.2.1, h.2.2.1, h.2.2.2.1, h.2.2.2.2.1, hv, h.2.2.2.2.2.2⟩
theorem J_hregs {s : cs} {mc : am_H} {D : List pgT} {k v : Int32} (h : J s mc D) (hv : am_in v 16 = true) : J (s_hregs s (upd (g_hregs s) k.toNatClampNeg v)) mc D := ⟨h.1, h.2.1, h.2.2.1, h.2.2.2.1, h.2.2.2.2.1, h.2.2.2.2.2.1, fun i hi => by
  show am_in (upd (g_hregs s) k.toNatClampNeg v i) 16 = true
  unfold upd
  split
  · exact hv
  · exact h.2.2.2.2.2.2.1 i hi, h.2.2.2.2.2.2.2⟩
theorem am_in_lt {j : Int32} {n : Nat} (h : am_in j n = true) : j.toNatClampNeg < n := by
  simp only [am_in, Bool.and_eq_true, decide_eq_true_eq] at h
  exact h.2
theorem J_hreg {s : cs} {mc : am_H} {D : List pgT} {k : Int32} (h : J s mc D) (hk : am_in k 3 = true) : am_in (g_hregs s k.toNatClampNeg) 16 = true := h.2.2.2.2.2.2.1 _ (am_in_lt hk)
theorem am_in_of {j : Int32} {n : Nat} (h1 : 0 ≤ j.toInt) (h2 : j.toInt < n) : am_in j n = true := by
  have e : ¬ j < 0 := fun z => by
    have := Int32.lt_iff_toInt_lt.mp z
    have e0 : (0 : Int32).toInt = 0 := rfl
    omega
  have e2 : j.toNatClampNeg < n := by
    show j.toInt.toNat < n
    omega
  simp [am_in, e, e2]
def SV (mc : am_H) (v : Option Value) (h : am_H) : Prop := ∃ (s : cs) (D : List pgT), J s mc D ∧ h = HH s mc D ∧ v = none
def SI (mc : am_H) (v : Option Value) (h : am_H) : Prop := ∃ (s : cs) (D : List pgT), J s mc D ∧ h = HH s mc D ∧ ∃ x : Int32, v = some (.int x)
def SZ (mc : am_H) (v : Option Value) (h : am_H) : Prop := ∃ (s : cs) (D : List pgT), J s mc D ∧ h = HH s mc D ∧ ∃ x : Int32, v = some (.int x) ∧ b01 x
def SJ (mc : am_H) (v : Option Value) (h : am_H) : Prop := ∃ (s : cs) (D : List pgT), J s mc D ∧ h = HH s mc D ∧ ∃ x : Int64, v = some (.long x)
theorem b0 : b01 0 := Or.inl rfl
theorem b1 : b01 1 := Or.inr rfl
theorem b01_nar {x : Int32} (h : b01 x) : narrow .boolean (.int x) = .int x := by rcases h with rfl | rfl <;> rfl
theorem b01_fit {x : Int32} (h : b01 x) : fits .boolean (.int x) = true := by rcases h with rfl | rfl <;> rfl
section SAFE
variable {P : am_P} {T : Nat → Nat → Option am_I} {mt : Nat → am_M} {L : Nat} {xs : Nat → Int32} {mi pc : Nat} {lv : am_L} {st st' : List Value} {h h' : am_H} {Q : Option Value → am_H → Prop} {ins : Jvm.ClassFile.Instr} {len a1 a2 : Nat} {v : Value} {sw : List (Int32 × Nat)} {lm : Option (List Nat)}
theorem wpH (e : h = h') (k : am_wp P T mt L xs mi pc lv st h' Q) : am_wp P T mt L xs mi pc lv st h Q := e ▸ k
theorem wpV {lv' : am_L} (e : lv = lv') (k : am_wp P T mt L xs mi pc lv' st h Q) : am_wp P T mt L xs mi pc lv st h Q := e ▸ k
theorem wpS (e : st = st') (k : am_wp P T mt L xs mi pc lv st' h Q) : am_wp P T mt L xs mi pc lv st h Q := e ▸ k
theorem wpTi {x : Int32} (k : ∀ y : Int32, x = y → am_wp P T mt L xs mi pc lv (.int y :: st) h Q) : am_wp P T mt L xs mi pc lv (.int x :: st) h Q := k x rfl
theorem wpTl {x : Int64} (k : ∀ y : Int64, x = y → am_wp P T mt L xs mi pc lv (.long y :: st) h Q) : am_wp P T mt L xs mi pc lv (.long x :: st) h Q := k x rfl
theorem wp5i {x : Int32} (hT : T mi pc = some (5, .ireturn, len, a1, a2, v, sw, lm)) (hr : (mt mi).2.2.2.1 = some .int) (q : Q (some (.int x)) h) : am_wp P T mt L xs mi pc lv [.int x] h Q := wp5 hT (by rw [hr]; simp [am_ret, narrow]) q
theorem wp5z {x : Int32} (hT : T mi pc = some (5, .ireturn, len, a1, a2, v, sw, lm)) (hr : (mt mi).2.2.2.1 = some .boolean) (hx : b01 x) (q : Q (some (.int x)) h) : am_wp P T mt L xs mi pc lv [.int x] h Q := wp5 hT (by rw [hr]; simp [am_ret, b01_nar hx]) q
theorem am_sw_in (d : Nat) (x : Int32) (tg : List Nat) : ∀ sw : List (Int32 × Nat), tg.contains d = true → sw.all (fun q => tg.contains q.2) = true → am_sw d x sw ∈ tg
  | [], h1, _ => by simpa [am_sw] using h1
  | q :: r, h1, h2 => by
    simp only [List.all_cons, Bool.and_eq_true] at h2
    unfold am_sw
    split
    · simpa using h2.1
    · exact am_sw_in d x tg r h1 h2.2
theorem i32_up {i b : Int32} {n : Nat} (h : ¬ b ≤ i) (hm : (b.toInt - i.toInt).toNat < n + 1) : (b.toInt - (i + 1).toInt).toNat < n := by
  have h1 : ¬ b.toInt ≤ i.toInt := fun z => h (Int32.le_iff_toInt_le.mpr z)
  have h2 := Int32.toInt_lt b
  have h3 := Int32.le_toInt i
  have e : (i + 1).toInt = i.toInt + 1 := by
    rw [Int32.toInt_add]
    have e1 : (1 : Int32).toInt = 1 := rfl
    rw [e1]
    exact Int.bmod_eq_of_le (by omega) (by omega)
  omega
theorem i32_upp {i b : Int32} (h : ¬ b ≤ i) (h0 : 0 ≤ i.toInt) : 0 ≤ (i + 1).toInt := by
  have h1 : ¬ b.toInt ≤ i.toInt := fun z => h (Int32.le_iff_toInt_le.mpr z)
  have h2 := Int32.toInt_lt b
  have e : (i + 1).toInt = i.toInt + 1 := by
    rw [Int32.toInt_add]
    have e1 : (1 : Int32).toInt = 1 := rfl
    rw [e1]
    exact Int.bmod_eq_of_le (by omega) (by omega)
  omega
theorem b01_nn {x : Int32} (h : b01 x) : 0 ≤ x.toInt := by rcases h with rfl | rfl <;> decide
theorem i32_down {i : Int32} {n : Nat} (h : ¬ i < 0) (hm : (i.toInt + 1).toNat < n + 1) : ((i + -1).toInt + 1).toNat < n := by
  have h1 : ¬ i.toInt < 0 := fun z => h (Int32.lt_iff_toInt_lt.mpr z)
  have h2 := Int32.toInt_lt i
  have e : (i + -1).toInt = i.toInt - 1 := by
    rw [Int32.toInt_add]
    have e1 : (-1 : Int32).toInt = -1 := rfl
    rw [e1]
    exact Int.bmod_eq_of_le (by omega) (by omega)
  omega
theorem i32_downe {i : Int32} {n : Nat} (h : ¬ i ≤ 0) (hm : (i.toInt + 1).toNat < n + 1) : ((i + -1).toInt + 1).toNat < n := i32_down (fun z => h (Int32.le_iff_toInt_le.mpr (by
  have := Int32.lt_iff_toInt_lt.mp z
  omega))) hm
/-- a switch: each of its targets -/
theorem wp2s {x : Int32} (tg : List Nat) (hT : T mi pc = some (2, ins, len, a1, a2, v, sw, lm)) (hp : am_jump ins a1 (pc + len) sw (.int x :: st) = some (am_sw a1 x sw, st)) (h1 : tg.contains a1 = true) (h2 : sw.all (fun q => tg.contains q.2) = true) (k : ∀ q ∈ tg, am_wp P T mt L xs mi q (am_live lm lv) st h Q) : am_wp P T mt L xs mi pc lv (.int x :: st) h Q := wp2 hT hp (k _ (am_sw_in a1 x tg sw h1 h2))
end SAFE
end
section
/-! PAGES: the stretches' methods, by hand -/
theorem pg_get0 (b : Nat) : ∀ (D : List pgT) (j0 j : Nat), (pgF b j0 D)[2 * j]? = D[j]?.map (fun p => (.inr (11, [.int p.1, am_rf p.2.1, .ref (25 + b + 2 * (j0 + j))]) : am_C))
  | [], j0, j => by simp [pgF]
  | p :: r, j0, 0 => by simp [pgF]
  | p :: r, j0, j + 1 => by
    rw [show 2 * (j + 1) = 2 * j + 1 + 1 by omega]
    simp only [pgF, List.getElem?_cons_succ]
    rw [pg_get0 b r (j0 + 1) j, show j0 + 1 + j = j0 + (j + 1) by omega]
theorem pg_get1 (b : Nat) : ∀ (D : List pgT) (j0 j : Nat), (pgF b j0 D)[2 * j + 1]? = D[j]?.map (fun p => (.inl (1, 256, .inl p.2.2) : am_C))
  | [], j0, j => by simp [pgF]
  | p :: r, j0, 0 => by simp [pgF]
  | p :: r, j0, j + 1 => by
    rw [show 2 * (j + 1) + 1 = 2 * j + 1 + 1 + 1 by omega]
    simp only [pgF, List.getElem?_cons_succ]
    exact pg_get1 b r (j0 + 1) j
theorem pg_set (b : Nat) (f : Nat → Int32) : ∀ (D : List pgT) (j0 j : Nat) (p : pgT), D[j]? = some p → (pgF b j0 D).set (2 * j + 1) (.inl (1, 256, .inl f)) = pgF b j0 (D.set j (p.1, p.2.1, f))
  | [], j0, j, p, h => by simp at h
  | q :: r, j0, 0, p, h => by
    rw [List.getElem?_cons_zero] at h
    cases h
    simp [pgF]
  | q :: r, j0, j + 1, p, h => by
    rw [List.getElem?_cons_succ] at h
    rw [show 2 * (j + 1) + 1 = 2 * j + 1 + 1 + 1 by omega]
    simp only [pgF, List.set_cons_succ]
    rw [pg_set b f r (j0 + 1) j p h]
theorem pg_app (b : Nat) (p : pgT) : ∀ (D : List pgT) (j0 : Nat), pgF b j0 (D ++ [p]) = pgF b j0 D ++ [.inr (11, [.int p.1, am_rf p.2.1, .ref (25 + b + 2 * (j0 + D.length))]), .inl (1, 256, .inl p.2.2)]
  | [], j0 => by simp [pgF]
  | q :: r, j0 => by
    simp only [List.cons_append, pgF, List.length_cons]
    rw [pg_app b p r (j0 + 1), show j0 + 1 + r.length = j0 + (r.length + 1) by omega]
theorem pg_len (b : Nat) : ∀ (D : List pgT) (j0 : Nat), (pgF b j0 D).length = 2 * D.length
  | [], j0 => rfl
  | q :: r, j0 => by
    simp only [pgF, List.length_cons, pg_len b r (j0 + 1)]
    omega
section PAGES
variable {s : cs} {mc : am_H} {D : List pgT}
theorem hh_at (m : Nat) : am_get (HH s mc D) (m + 24) = (mc ++ pgF mc.length 0 D)[m]? := rfl
theorem hh_len : (HH s mc D).length = 23 + mc.length + 2 * D.length := by
  have e : (HH s mc D).length = (mc ++ pgF mc.length 0 D).length + 23 := rfl
  rw [e, List.length_append, pg_len]
  omega
theorem hh_pg {j : Nat} {p : pgT} (h : D[j]? = some p) : am_get (HH s mc D) (24 + mc.length + 2 * j) = some (.inr (11, [.int p.1, am_rf p.2.1, .ref (25 + mc.length + 2 * j)])) := by
  rw [show 24 + mc.length + 2 * j = (mc.length + 2 * j) + 24 by omega, hh_at, List.getElem?_append_right (by omega), show mc.length + 2 * j - mc.length = 2 * j by omega, pg_get0, h]
  simp
theorem hh_pc {j : Nat} {p : pgT} (h : D[j]? = some p) : am_get (HH s mc D) (25 + mc.length + 2 * j) = some (.inl (1, 256, .inl p.2.2)) := by
  rw [show 25 + mc.length + 2 * j = (mc.length + (2 * j + 1)) + 24 by omega, hh_at, List.getElem?_append_right (by omega), show mc.length + (2 * j + 1) - mc.length = 2 * j + 1 by omega, pg_get1, h]
  rfl
theorem hh_ps {j : Nat} {p : pgT} {f : Nat → Int32} (h : D[j]? = some p) : am_set (HH s mc D) (25 + mc.length + 2 * j) (.inl (1, 256, .inl f)) = HH s mc (D.set j (p.1, p.2.1, f)) := by
  rw [show 25 + mc.length + 2 * j = (mc.length + (2 * j + 1)) + 24 by omega]
  have e : am_set (HH s mc D) ((mc.length + (2 * j + 1)) + 24) (.inl (1, 256, .inl f)) = CH s ((mc ++ pgF mc.length 0 D).set (mc.length + (2 * j + 1)) (.inl (1, 256, .inl f))) := rfl
  rw [e, List.set_append_right _ _ (by omega), show mc.length + (2 * j + 1) - mc.length = 2 * j + 1 by omega, pg_set _ _ _ _ _ _ h]
  rfl
theorem hh_app {p : pgT} : HH s mc D ++ [.inr (11, [.int p.1, am_rf p.2.1, .ref (25 + mc.length + 2 * D.length)]), .inl (1, 256, .inl p.2.2)] = HH s mc (D ++ [p]) := by
  have e : HH s mc D ++ [.inr (11, [.int p.1, am_rf p.2.1, .ref (25 + mc.length + 2 * D.length)]), .inl (1, 256, .inl p.2.2)] = CH s ((mc ++ pgF mc.length 0 D) ++ [.inr (11, [.int p.1, am_rf p.2.1, .ref (25 + mc.length + 2 * D.length)]), .inl (1, 256, .inl p.2.2)]) := rfl
  rw [e, List.append_assoc]
  show _ = CH s (mc ++ pgF mc.length 0 (D ++ [p]))
  rw [pg_app]
  simp
variable {i : Nat}
theorem st_obj (hi : i < 4) : am_get (HH s mc D) (sR i) = some (.inr (2, [.ref (sR i + 1), am_rf (sW s i)])) := by
  match i, hi with
  | 0, _ => rfl
  | 1, _ => rfl
  | 2, _ => rfl
  | 3, _ => rfl
theorem st_arr (hi : i < 4) : am_get (HH s mc D) (sR i + 1) = some (.inl (15, sN i, .inr (.inr (sT s i)))) := by
  match i, hi with
  | 0, _ => rfl
  | 1, _ => rfl
  | 2, _ => rfl
  | 3, _ => rfl
theorem st_new (hi : i < 4) (o : Option Nat) : am_set (HH s mc D) (sR i) (.inr (2, [.ref (sR i + 1), am_rf o])) = HH (sW' s i o) mc D := by
  match i, hi with
  | 0, _ => rfl
  | 1, _ => rfl
  | 2, _ => rfl
  | 3, _ => rfl
theorem st_tab (hi : i < 4) (T : Nat → Option Nat) : am_set (HH s mc D) (sR i + 1) (.inl (15, sN i, .inr (.inr T))) = HH (sT' s i T) mc D := by
  match i, hi with
  | 0, _ => rfl
  | 1, _ => rfl
  | 2, _ => rfl
  | 3, _ => rfl
theorem okp_mono {b n m : Nat} {o : Option Nat} (h : okp b n o) (hm : n ≤ m) : okp b m o := fun q hq => by
  obtain ⟨j, h1, h2⟩ := h q hq
  exact ⟨j, by omega, h2⟩
theorem okp_none {b n : Nat} : okp b n none := fun q h => by cases h
theorem sN_lt (i : Nat) : sN i < 2000 := by
  unfold sN
  split <;> decide
theorem i32_div (x : Int32) (h : ¬ x < 0) : 0 ≤ (x / 256).toInt := by
  obtain ⟨j, hj, rfl⟩ := nI_of h
  rw [show (256 : Int32) = nI 256 from rfl, pk_div hj (by decide) (by decide), nI_toInt (by omega)]
  omega
theorem in_tab {k : Int32} (h0 : 0 ≤ k.toInt) (h1 : k < Int32.ofNat (sN i)) : am_in k (sN i) = true := by
  have h2 := Int32.lt_iff_toInt_lt.mp h1
  have h3 : (Int32.ofNat (sN i)).toInt = (sN i : Int) := nI_toInt (by have := sN_lt i; omega)
  exact am_in_of h0 (by omega)
def SP (mc : am_H) (n : Nat) (v : Option Value) (h : am_H) : Prop := ∃ (s : cs) (D : List pgT), J s mc D ∧ h = HH s mc D ∧ n ≤ D.length ∧ ∃ o : Option Nat, v = some (am_rf o) ∧ okp mc.length D.length o
variable {L : Nat} {xs : Nat → Int32}
theorem wp5r {mi pc : Nat} {lv : am_L} {h : am_H} {Q : Option Value → am_H → Prop} {len a1 a2 : Nat} {v : Value} {sw : List (Int32 × Nat)} {lm : Option (List Nat)} {c : String} {o : Option Nat} (hT : tb_T mi pc = some (5, .areturn, len, a1, a2, v, sw, lm)) (hr : (tb_mt mi).2.2.2.1 = some (.object c)) (q : Q (some (am_rf o)) h) : tb_wp L xs mi pc lv [am_rf o] h Q := by
  cases o with
  | none => exact wp5 hT (by rw [hr]; rfl) q
  | some r => exact wp5 hT (by rw [hr]; rfl) q
set_option maxRecDepth 20000 in
theorem pg_at (hi : i < 4) (hJ : J s mc D) (x : Int32) : tb_wp L xs 114 0 (lv_args 0 [.ref (sR i), .int x]) [] (HH s mc D) (fun v h => h = HH s mc D ∧ ∃ o, v = some (am_rf o) ∧ okp mc.length D.length o) := by
  have fin : ∀ (o : Option Nat) (lv : am_L), okp mc.length D.length o → tb_wp L xs 114 29 lv [am_rf o] (HH s mc D) (fun v h => h = HH s mc D ∧ ∃ o, v = some (am_rf o) ∧ okp mc.length D.length o) := fun o lv ho => wp5r rfl rfl ⟨rfl, o, rfl, ho⟩
  refine wp1 rfl rfl ?_
  refine wp0 rfl rfl ?_
  refine wp0 rfl rfl ?_
  refine wpTi (fun k ek => ?_)
  refine wp1 rfl rfl ?_
  refine wpV (lv' := [(0, .ref (sR i)), (1, .int x), (2, .int k)]) rfl ?_
  refine wp1 rfl rfl ?_
  refine wp2b rfl rfl (fun c1 => ?_) (fun c1 => ?_)
  · refine wp0 rfl rfl ?_
    refine wp2 rfl rfl ?_
    exact fin none _ okp_none
  · refine wp1 rfl rfl ?_
    refine wp1 rfl rfl ?_
    refine wp3 rfl (am_getf (st_obj hi) rfl) ?_
    refine wp3 rfl (am_alen (st_arr hi)) ?_
    refine wp2b rfl rfl (fun c2 => ?_) (fun c2 => ?_)
    · refine wp1 rfl rfl ?_
      refine wp3 rfl (am_getf (st_obj hi) rfl) ?_
      refine wp1 rfl rfl ?_
      have hin : am_in k (sN i) = true := in_tab (by rw [← ek]; exact i32_div x c1) c2
      refine wp3 rfl (am_aald (st_arr hi) hin) ?_
      exact fin _ _ (hJ.2.2.2.2.2.2.2.1 i _ hi (am_in_lt hin))
    · refine wp0 rfl rfl ?_
      refine wp2 rfl rfl ?_
      exact fin none _ okp_none
end PAGES
end
section
/-! pages are made -/
theorem ap_get {h0 r : am_H} {a : am_C} : am_get (h0 ++ a :: r) (h0.length + 1) = some a := by simp [am_get]
theorem ap_set {h0 r : am_H} {a c : am_C} : am_set (h0 ++ a :: r) (h0.length + 1) c = h0 ++ c :: r := by simp [am_set]
section PAGES2
variable {L : Nat} {xs : Nat → Int32}
set_option maxRecDepth 20000 in
theorem pg_init (h0 : am_H) (k : Int32) (o : Option Nat) : tb_ev L xs 87 [.ref (h0.length + 1), .int k, am_rf o] (h0 ++ [.inr (11, [.int 0, .null, .null])]) none (h0 ++ [.inr (11, [.int k, am_rf o, .ref (h0.length + 2)]), .inl (1, 256, .inl (fun _ => 0))]) := by
  refine am_wp_ev ?_
  refine wpV (lv' := [(0, .ref (h0.length + 1)), (1, .int k), (2, am_rf o)]) (by cases o <;> rfl) ?_
  refine wp1 rfl rfl ?_
  refine wp3 rfl rfl ?_
  refine wp1 rfl rfl ?_
  refine wp0 rfl rfl ?_
  refine wp3 rfl rfl ?_
  refine wpH (h' := h0 ++ [.inr (11, [.int 0, .null, .null]), .inl (1, 256, .inl (fun _ => 0))]) (by simp) ?_
  refine wpS (st' := [.ref (h0.length + 2), .ref (h0.length + 1)]) (by simp) ?_
  refine wp3 rfl (am_putf ap_get (Nat.le_of_ble_eq_true rfl) rfl rfl) ?_
  refine wpH (h' := h0 ++ [.inr (11, [.int 0, .null, .ref (h0.length + 2)]), .inl (1, 256, .inl (fun _ => 0))]) ap_set ?_
  refine wp1 rfl rfl ?_
  refine wp1 rfl rfl ?_
  refine wp3 rfl (am_putf ap_get (Nat.le_of_ble_eq_true rfl) rfl rfl) ?_
  refine wpH (h' := h0 ++ [.inr (11, [.int k, .null, .ref (h0.length + 2)]), .inl (1, 256, .inl (fun _ => 0))]) ap_set ?_
  refine wp1 rfl rfl ?_
  refine wp1 (lv' := [(0, .ref (h0.length + 1)), (1, .int k), (2, am_rf o)]) (st' := [am_rf o, .ref (h0.length + 1)]) rfl (by cases o <;> rfl) ?_
  refine wp3 rfl (am_putf ap_get (Nat.le_of_ble_eq_true rfl) (by cases o <;> rfl) (by cases o <;> rfl)) ?_
  refine wpH (h' := h0 ++ [.inr (11, [.int k, am_rf o, .ref (h0.length + 2)]), .inl (1, 256, .inl (fun _ => 0))]) ap_set ?_
  exact wp5 rfl rfl ⟨rfl, rfl⟩
end PAGES2
section PAGES3
variable {s : cs} {mc : am_H} {D : List pgT} {i : Nat}
theorem sT_W (hi : i < 4) (o : Option Nat) (j : Nat) : sT (sW' s i o) j = sT s j := by
  match i, hi with
  | 0, _ => rfl
  | 1, _ => rfl
  | 2, _ => rfl
  | 3, _ => rfl
theorem sW_T (hi : i < 4) (T : Nat → Option Nat) (j : Nat) : sW (sT' s i T) j = sW s j := by
  match i, hi with
  | 0, _ => rfl
  | 1, _ => rfl
  | 2, _ => rfl
  | 3, _ => rfl
theorem sT_T (hi : i < 4) (T : Nat → Option Nat) {j : Nat} (hj : j < 4) : sT (sT' s i T) j = if j = i then T else sT s j := by
  match i, hi, j, hj with
  | 0, _, 0, _ => rfl
  | 0, _, 1, _ => rfl
  | 0, _, 2, _ => rfl
  | 0, _, 3, _ => rfl
  | 1, _, 0, _ => rfl
  | 1, _, 1, _ => rfl
  | 1, _, 2, _ => rfl
  | 1, _, 3, _ => rfl
  | 2, _, 0, _ => rfl
  | 2, _, 1, _ => rfl
  | 2, _, 2, _ => rfl
  | 2, _, 3, _ => rfl
  | 3, _, 0, _ => rfl
  | 3, _, 1, _ => rfl
  | 3, _, 2, _ => rfl
  | 3, _, 3, _ => rfl
theorem sW_W (hi : i < 4) (o : Option Nat) {j : Nat} (hj : j < 4) : sW (sW' s i o) j = if j = i then o else sW s j := by
  match i, hi, j, hj with
  | 0, _, 0, _ => rfl
  | 0, _, 1, _ => rfl
  | 0, _, 2, _ => rfl
  | 0, _, 3, _ => rfl
  | 1, _, 0, _ => rfl
  | 1, _, 1, _ => rfl
  | 1, _, 2, _ => rfl
  | 1, _, 3, _ => rfl
  | 2, _, 0, _ => rfl
  | 2, _, 1, _ => rfl
  | 2, _, 2, _ => rfl
  | 2, _, 3, _ => rfl
  | 3, _, 0, _ => rfl
  | 3, _, 1, _ => rfl
  | 3, _, 2, _ => rfl
  | 3, _, 3, _ => rfl
theorem cnt_out {T : Nat → Option Nat} {k : Nat} {v : Option Nat} : ∀ n, n ≤ k → cnt (va_up T k v) n = cnt T n
  | 0, _ => rfl
  | n + 1, h => by
    simp only [cnt]
    rw [cnt_out n (by omega), show va_up T k v n = T n from if_neg (by omega)]
theorem cnt_up {T : Nat → Option Nat} {k q : Nat} (hk : T k = none) : ∀ n, k < n → cnt (va_up T k (some q)) n = cnt T n + 1
  | 0, h => by omega
  | n + 1, h => by
    simp only [cnt]
    by_cases e : k = n
    · subst e
      rw [cnt_out k (Nat.le_refl k), show va_up T k (some q) k = some q from if_pos rfl, hk]
      simp
    · rw [cnt_up hk n (by omega), show va_up T k (some q) n = T n from if_neg (by omega)]
      omega
theorem cnt_le (T : Nat → Option Nat) : ∀ n, cnt T n ≤ n
  | 0 => Nat.le_refl 0
  | n + 1 => by
    simp only [cnt]
    have := cnt_le T n
    split <;> omega
theorem J_W {o : Option Nat} (hi : i < 4) (hJ : J s mc D) (ho : okp mc.length D.length o) : J (sW' s i o) mc D := by
  have hp : JP (sW' s i o) mc D := by
    obtain ⟨h1, h2, h3, h4⟩ := hJ.2.2.2.2.2.2.2
    refine ⟨fun i' k' a b => by rw [sT_W hi]; exact h1 i' k' a b, fun i' a => ?_, h3, by rw [sT_W hi, sT_W hi, sT_W hi, sT_W hi]; exact h4⟩
    rw [sW_W hi o a]
    split
    · exact ho
    · exact h2 i' a
  match i, hi with
  | 0, _ => exact ⟨hJ.1, hJ.2.1, hJ.2.2.1, hJ.2.2.2.1, hJ.2.2.2.2.1, hJ.2.2.2.2.2.1, hJ.2.2.2.2.2.2.1, hp⟩
  | 1, _ => exact ⟨hJ.1, hJ.2.1, hJ.2.2.1, hJ.2.2.2.1, hJ.2.2.2.2.1, hJ.2.2.2.2.2.1, hJ.2.2.2.2.2.2.1, hp⟩
  | 2, _ => exact ⟨hJ.1, hJ.2.1, hJ.2.2.1, hJ.2.2.2.1, hJ.2.2.2.2.1, hJ.2.2.2.2.2.1, hJ.2.2.2.2.2.2.1, hp⟩
  | 3, _ => exact ⟨hJ.1, hJ.2.1, hJ.2.2.1, hJ.2.2.2.1, hJ.2.2.2.2.1, hJ.2.2.2.2.2.1, hJ.2.2.2.2.2.2.1, hp⟩
set_option maxHeartbeats 4000000 in
/-- a page more -/
theorem J_page {k : Nat} (hi : i < 4) (hk : k < sN i) (hz : sT s i k = none) (hJ : J s mc D) : J (sT' (sW' s i (some (24 + mc.length + 2 * D.length))) i (va_up (sT s i) k (some (24 + mc.length + 2 * D.length)))) mc (D ++ [(nI k, sW s i, fun _ => 0)]) := by
  have hq : okp mc.length (D.length + 1) (some (24 + mc.length + 2 * D.length)) := fun q h => by cases h; exact ⟨D.length, by omega, rfl⟩
  have hp : JP (sT' (sW' s i (some (24 + mc.length + 2 * D.length))) i (va_up (sT s i) k (some (24 + mc.length + 2 * D.length)))) mc (D ++ [(nI k, sW s i, fun _ => 0)]) := by
    obtain ⟨h1, h2, h3, h4⟩ := hJ.2.2.2.2.2.2.2
    have hl : (D ++ [((nI k, sW s i, fun _ => 0) : pgT)]).length = D.length + 1 := by simp
    refine ⟨fun i' k' a b => ?_, fun i' a => ?_, fun j p hj => ?_, ?_⟩
    · rw [hl, sT_T hi _ a]
      split
      · rename_i e
        subst e
        unfold va_up
        split
        · exact hq
        · exact okp_mono (h1 i' k' a b) (by omega)
      · rw [sT_W hi]
        exact okp_mono (h1 i' k' a b) (by omega)
    · rw [hl, sW_T hi, sW_W hi _ a]
      split
      · exact hq
      · exact okp_mono (h2 i' a) (by omega)
    · by_cases hlt : j < D.length
      · rw [List.getElem?_append_left hlt] at hj
        exact h3 j p hj
      · rw [List.getElem?_append_right (by omega)] at hj
        have hz : j - D.length < 1 := (List.getElem?_eq_some_iff.mp hj).1
        have e0 : j = D.length := by omega
        subst e0
        rw [Nat.sub_self] at hj
        cases hj
        refine ⟨h2 i hi, ⟨k, ?_, rfl⟩, fun _ => by show fits .byte (.int 0) = true; rfl⟩
        have : sN i ≤ 1537 := by unfold sN; split <;> decide
        omega
    · rw [hl]
      have up := cnt_up (q := 24 + mc.length + 2 * D.length) hz (sN i) hk
      rw [sT_T hi _ (j := 0) (by decide), sT_T hi _ (j := 1) (by decide), sT_T hi _ (j := 2) (by decide), sT_T hi _ (j := 3) (by decide), sT_W hi, sT_W hi, sT_W hi, sT_W hi]
      have h5 : i = 0 ∨ i = 1 ∨ i = 2 ∨ i = 3 := by omega
      have e0 : sN 0 = 1024 := rfl
      have e1 : sN 1 = 1537 := rfl
      have e2 : sN 2 = 256 := rfl
      have e3 : sN 3 = 256 := rfl
      rcases h5 with rfl | rfl | rfl | rfl
      · rw [e0] at up
        rw [if_pos rfl, if_neg (by decide), if_neg (by decide), if_neg (by decide), up]
        omega
      · rw [e1] at up
        rw [if_neg (by decide), if_pos rfl, if_neg (by decide), if_neg (by decide), up]
        omega
      · rw [e2] at up
        rw [if_neg (by decide), if_neg (by decide), if_pos rfl, if_neg (by decide), up]
        omega
      · rw [e3] at up
        rw [if_neg (by decide), if_neg (by decide), if_neg (by decide), if_pos rfl, up]
        omega
  match i, hi, hp with
  | 0, _, hp => exact ⟨hJ.1, hJ.2.1, hJ.2.2.1, hJ.2.2.2.1, hJ.2.2.2.2.1, hJ.2.2.2.2.2.1, hJ.2.2.2.2.2.2.1, hp⟩
  | 1, _, hp => exact ⟨hJ.1, hJ.2.1, hJ.2.2.1, hJ.2.2.2.1, hJ.2.2.2.2.1, hJ.2.2.2.2.2.1, hJ.2.2.2.2.2.2.1, hp⟩
  | 2, _, hp => exact ⟨hJ.1, hJ.2.1, hJ.2.2.1, hJ.2.2.2.1, hJ.2.2.2.2.1, hJ.2.2.2.2.2.1, hJ.2.2.2.2.2.2.1, hp⟩
  | 3, _, hp => exact ⟨hJ.1, hJ.2.1, hJ.2.2.1, hJ.2.2.2.1, hJ.2.2.2.2.1, hJ.2.2.2.2.2.1, hJ.2.2.2.2.2.2.1, hp⟩
/-- a page's bytes change -/
theorem J_byte {j : Nat} {p : pgT} {f : Nat → Int32} (hJ : J s mc D) (hj : D[j]? = some p) (hf : ∀ i, fits .byte (.int (f i)) = true) : J s mc (D.set j (p.1, p.2.1, f)) := by
  obtain ⟨h1, h2, h3, h4⟩ := hJ.2.2.2.2.2.2.2
  have hp : JP s mc (D.set j (p.1, p.2.1, f)) := by
    refine ⟨by rw [List.length_set]; exact h1, by rw [List.length_set]; exact h2, fun j' p' hj' => ?_, by rw [List.length_set]; exact h4⟩
    by_cases e : j' = j
    · subst e
      rw [List.getElem?_set_self (List.getElem?_eq_some_iff.mp hj).1] at hj'
      cases hj'
      exact ⟨(h3 j' p hj).1, (h3 j' p hj).2.1, hf⟩
    · rw [List.getElem?_set_ne (Ne.symm e)] at hj'
      exact h3 j' p' hj'
  exact ⟨hJ.1, hJ.2.1, hJ.2.2.1, hJ.2.2.2.1, hJ.2.2.2.2.1, hJ.2.2.2.2.2.1, hJ.2.2.2.2.2.2.1, hp⟩
end PAGES3
end
section
/-! pageFor, and the reads and writes of bytes -/
section PAGES4
variable {s : cs} {mc : am_H} {D : List pgT} {i : Nat} {L : Nat} {xs : Nat → Int32}
theorem div_nI {x : Int32} (h : ¬ x < 0) : ∃ k : Nat, k < 2 ^ 31 ∧ x / 256 = nI k := by
  obtain ⟨j, hj, rfl⟩ := nI_of h
  exact ⟨j / 256, by omega, by rw [show (256 : Int32) = nI 256 from rfl, pk_div hj (by decide) (by decide)]⟩
theorem D_at {len : Nat} (hl : len = D.length) {j : Nat} (h : j < len) : ∃ p : pgT, D[j]? = some p := ⟨D[j]'(by omega), List.getElem?_eq_getElem (by omega)⟩
set_option maxRecDepth 20000 in
set_option maxHeartbeats 4000000 in
theorem pg_for (hi : i < 4) (hJ : J s mc D) (x : Int32) : tb_wp L xs 115 0 (lv_args 0 [.ref (sR i), .int x]) [] (HH s mc D) (SP mc D.length) := by
  refine wp1 rfl rfl ?_
  refine wp0 rfl rfl ?_
  refine wp0 rfl rfl ?_
  refine wpTi (fun k ek => ?_)
  refine wp1 rfl rfl ?_
  refine wpV (lv' := [(0, .ref (sR i)), (1, .int x), (2, .int k)]) rfl ?_
  refine wp1 rfl rfl ?_
  have nul : ∀ lv : am_L, tb_wp L xs 115 19 lv [] (HH s mc D) (SP mc D.length) := fun lv => by
    refine wp0 rfl rfl ?_
    exact wp5r (o := none) rfl rfl ⟨s, D, hJ, rfl, Nat.le_refl _, none, rfl, okp_none⟩
  refine wp2b rfl rfl (fun c1 => ?_) (fun c1 => ?_)
  · exact nul _
  · refine wp1 rfl rfl ?_
    refine wp1 rfl rfl ?_
    refine wp3 rfl (am_getf (st_obj hi) rfl) ?_
    refine wp3 rfl (am_alen (st_arr hi)) ?_
    refine wp2b rfl rfl (fun c2 => ?_) (fun c2 => ?_)
    · have hin : am_in k (sN i) = true := in_tab (by rw [← ek]; exact i32_div x c1) c2
      have hlt := am_in_lt hin
      obtain ⟨kn, hkn, ekn⟩ := div_nI c1
      have hk2 : k = nI kn := by rw [← ek]; exact ekn
      have hcl : k.toNatClampNeg = kn := by rw [hk2]; exact nI_clamp hkn
      refine wp1 rfl rfl ?_
      refine wp3 rfl (am_getf (st_obj hi) rfl) ?_
      refine wp1 rfl rfl ?_
      refine wp3 rfl (am_aald (st_arr hi) hin) ?_
      -- the end: at 56 with a page there
      have fin : ∀ (s' : cs) (D' : List pgT) (q : Nat), J s' mc D' → D.length ≤ D'.length → sT s' i k.toNatClampNeg = some q → tb_wp L xs 115 56 [(0, .ref (sR i)), (2, .int k)] [] (HH s' mc D') (SP mc D.length) := by
        intro s' D' q hJ' hle hq
        refine wp1 rfl rfl ?_
        refine wp3 rfl (am_getf (st_obj hi) rfl) ?_
        refine wp1 rfl rfl ?_
        refine wp3 rfl (am_aald (st_arr hi) hin) ?_
        exact wp5r rfl rfl ⟨s', D', hJ', rfl, hle, _, rfl, hJ'.2.2.2.2.2.2.2.1 i _ hi hlt⟩
      cases hT : sT s i k.toNatClampNeg with
      | some q =>
        refine wp2 rfl rfl ?_
        exact wpL rfl rfl (fin s D q hJ (Nat.le_refl _) hT)
      | none =>
        refine wp2 rfl rfl ?_
        refine wp1 rfl rfl ?_
        refine wp3 rfl rfl ?_
        refine wpS (st' := [.ref ((HH s mc D).length + 1), .ref (sR i)]) rfl ?_
        refine wp0 rfl rfl ?_
        refine wp1 rfl rfl ?_
        refine wp1 rfl rfl ?_
        have hg : am_get (HH s mc D ++ [(.inr (11, [.int 0, .null, .null]) : am_C)]) (sR i) = some (.inr (2, [.ref (sR i + 1), am_rf (sW s i)])) := by
          have h1 := st_obj (s := s) (mc := mc) (D := D) hi
          have hp : 1 ≤ sR i := by unfold sR; split <;> decide
          obtain ⟨r, hr⟩ : ∃ r, sR i = r + 1 := ⟨sR i - 1, by omega⟩
          rw [hr] at h1 ⊢
          have h2 : (HH s mc D)[r]? = _ := h1
          show (HH s mc D ++ _)[r]? = _
          rw [List.getElem?_append_left (List.getElem?_eq_some_iff.mp h2).1, h2]
        refine wp3 rfl (am_getf hg rfl) ?_
        refine am_ev_at (as := [.ref ((HH s mc D).length + 1), .int k, am_rf (sW s i)]) (rest := [.ref ((HH s mc D).length + 1), .ref (sR i)]) rfl (by cases sW s i <;> rfl) (pg_init (HH s mc D) k (sW s i)) ?_
        have hq : (HH s mc D).length + 1 = 24 + mc.length + 2 * D.length := by rw [hh_len]; omega
        refine wpH (h' := HH s mc (D ++ [(nI kn, sW s i, fun _ => 0)])) (by rw [← hh_app, hk2, show (HH s mc D).length + 2 = 25 + mc.length + 2 * D.length by omega]) ?_
        refine wpS (st' := [.ref (24 + mc.length + 2 * D.length), .ref (sR i)]) (by show [Value.ref _, _] = _; rw [hq]) ?_
        refine wp3 rfl (am_putf (st_obj hi) (Nat.le_of_ble_eq_true rfl) rfl rfl) ?_
        refine wpH (h' := HH (sW' s i (some (24 + mc.length + 2 * D.length))) mc (D ++ [(nI kn, sW s i, fun _ => 0)])) (st_new hi (some (24 + mc.length + 2 * D.length))) ?_
        refine wp1 rfl rfl ?_
        refine wp3 rfl (am_getf (st_obj hi) rfl) ?_
        refine wp1 rfl rfl ?_
        refine wp1 rfl rfl ?_
        refine wp3 rfl (am_getf (st_obj hi) rfl) ?_
        refine wpS (st' := [.ref (24 + mc.length + 2 * D.length), .int k, .ref (sR i + 1)]) (by rw [sW_W hi _ hi, if_pos rfl]; rfl) ?_
        have hpg : am_get (HH (sW' s i (some (24 + mc.length + 2 * D.length))) mc (D ++ [(nI kn, sW s i, fun _ => 0)])) (24 + mc.length + 2 * D.length) = some (.inr (11, [.int (nI kn), am_rf (sW s i), .ref (25 + mc.length + 2 * D.length)])) := hh_pg (p := (nI kn, sW s i, fun _ => 0)) (by simp)
        refine wp3 rfl (am_aast (st_arr hi) hpg hin) ?_
        refine wpH (st_tab hi _) ?_
        have hJ2 := J_page (k := kn) hi (by rw [← hcl]; exact hlt) (by rw [← hcl]; exact hT) hJ
        rw [hcl, sT_W hi]
        refine wpL rfl rfl (fin _ _ (24 + mc.length + 2 * D.length) hJ2 (by simp) ?_)
        rw [sT_T hi _ hi, if_pos rfl, hcl]
        exact if_pos rfl
    · exact nul _
end PAGES4
end
section
/-! bytes are read and written -/
theorem call_v {k ci mL a2 q : Nat} {fs : List Value} {h : am_H} {st as rest : List Value} (hs : st = as.reverse ++ .ref q :: rest) (hl : as.length + 1 = a2) (h8 : (rest.map fun v => v.category).sum ≤ 8) (hm : ((Value.ref q :: as).map fun v => v.category).sum ≤ mL) (hg : am_get h q = some (.inr (ci, fs))) : am_call (.invokevirtual k) ci mL a2 st h = some (.ref q :: as, rest) := by
  subst hs
  subst hl
  have e1 : (as.reverse ++ .ref q :: rest).take (as.length + 1) = as.reverse ++ [.ref q] := by
    rw [show as.reverse ++ Value.ref q :: rest = (as.reverse ++ [.ref q]) ++ rest by simp]
    exact List.take_left' (by simp)
  have e2 : (as.reverse ++ .ref q :: rest).drop (as.length + 1) = rest := by
    rw [show as.reverse ++ Value.ref q :: rest = (as.reverse ++ [.ref q]) ++ rest by simp]
    exact List.drop_left' (by simp)
  have e3 : (as.reverse ++ [Value.ref q]).reverse = .ref q :: as := by simp
  unfold am_call
  rw [e1, e2, e3, if_pos ⟨by simp, h8, hm⟩]
  simp [hg]
theorem and255_in (x : Int32) : am_in (x &&& 255) 256 = true := by
  obtain ⟨j, hj, e⟩ := pk_andE x (m := 255) 8 rfl
  rw [e]
  exact am_in_of (by rw [nI_toInt (by omega)]; omega) (by rw [nI_toInt (by omega)]; omega)
theorem fit_upd {f : Nat → Int32} (hf : ∀ i, fits .byte (.int (f i)) = true) (k : Nat) (x : Int32) : ∀ i, fits .byte (.int (upd f k (vp_nar .byte x) i)) = true := fun i => by
  unfold upd
  split
  · rw [vp_nar_byte]
    exact pk_fb x
  · exact hf i
section PAGES5
variable {s : cs} {mc : am_H} {D : List pgT} {i : Nat} {L : Nat} {xs : Nat → Int32}
theorem J_pg {j : Nat} {p : pgT} (hJ : J s mc D) (h : D[j]? = some p) : okp mc.length j p.2.1 ∧ (∃ k, k < 1537 ∧ p.1 = nI k) ∧ ∀ i, fits .byte (.int (p.2.2 i)) = true := hJ.2.2.2.2.2.2.2.2.2.1 j p h
set_option maxRecDepth 20000 in
theorem pg_byteAt (hi : i < 4) (hJ : J s mc D) (x : Int32) : tb_wp L xs 108 0 (lv_args 0 [.ref (sR i), .int x]) [] (HH s mc D) (SI mc) := by
  refine wp1 rfl rfl ?_
  refine wp1 rfl rfl ?_
  refine wp4 rfl (call_v (as := [.int x]) (rest := []) rfl rfl (Nat.zero_le _) (Nat.le_of_ble_eq_true rfl) (st_obj hi)) (pg_at hi hJ x) (fun rv h1 hq => ?_)
  obtain ⟨rfl, o, rfl, ho⟩ := hq
  cases o with
  | none =>
    refine wp1 rfl rfl ?_
    refine wp1 rfl rfl ?_
    refine wp2 rfl rfl ?_
    refine wp0 rfl rfl ?_
    refine wp2 rfl rfl ?_
    exact wp5i rfl rfl ⟨_, _, hJ, rfl, _, rfl⟩
  | some q =>
    obtain ⟨j, hj, rfl⟩ := ho q rfl
    obtain ⟨p, hp⟩ := D_at rfl hj
    refine wp1 rfl rfl ?_
    refine wp1 rfl rfl ?_
    refine wp2 rfl rfl ?_
    refine wp1 rfl rfl ?_
    refine wp3 rfl (am_getf (hh_pg hp) rfl) ?_
    refine wp1 rfl rfl ?_
    refine wp0 rfl rfl ?_
    refine wp0 rfl rfl ?_
    refine wp3 rfl (am_bald (hh_pc hp) (and255_in _)) ?_
    refine wp0 rfl rfl ?_
    refine wp0 rfl rfl ?_
    exact wp5i rfl rfl ⟨_, _, hJ, rfl, _, rfl⟩
/-- at a page's bytes: the store of putByte, putWord -/
theorem pg_store {mi pc : Nat} {lv : am_L} {st : List Value} {Q : Option Value → am_H → Prop} {len a2 : Nat} {v : Value} {sw : List (Int32 × Nat)} {lm : Option (List Nat)} {j : Nat} {p : pgT} {x y : Int32} (hJ : J s mc D) (hp : D[j]? = some p) (hT : tb_T mi pc = some (3, .bastore, len, 1, a2, v, sw, lm)) (k : ∀ D' : List pgT, J s mc D' → D'.length = D.length → tb_wp L xs mi (pc + len) (am_live lm lv) st (HH s mc D') Q) : tb_wp L xs mi pc lv (.int y :: .int (x &&& 255) :: .ref (25 + mc.length + 2 * j) :: st) (HH s mc D) Q := by
  refine wp3 hT (am_bast (hh_pc hp) (and255_in x)) ?_
  rw [hh_ps hp]
  exact k _ (J_byte hJ hp (fit_upd (J_pg hJ hp).2.2 _ _)) (by rw [List.length_set])
set_option maxRecDepth 20000 in
theorem pg_putByte (hi : i < 4) (hJ : J s mc D) (x y : Int32) : tb_wp L xs 116 0 (lv_args 0 [.ref (sR i), .int x, .int y]) [] (HH s mc D) (SV mc) := by
  have fin : ∀ (s : cs) (D : List pgT) (o : Option Nat), J s mc D → okp mc.length D.length o → tb_wp L xs 116 17 [(1, .int x), (2, .int y)] [am_rf o] (HH s mc D) (SV mc) := by
    intro s D o hJ ho
    cases o with
    | none =>
      refine wp1 rfl rfl ?_
      refine wp1 rfl rfl ?_
      refine wp2 rfl rfl ?_
      exact wp5 rfl rfl ⟨_, _, hJ, rfl, rfl⟩
    | some q =>
      obtain ⟨j, hj, rfl⟩ := ho q rfl
      obtain ⟨p, hp⟩ := D_at rfl hj
      refine wp1 rfl rfl ?_
      refine wp1 rfl rfl ?_
      refine wp2 rfl rfl ?_
      refine wp1 rfl rfl ?_
      refine wp3 rfl (am_getf (hh_pg hp) rfl) ?_
      refine wp1 rfl rfl ?_
      refine wp0 rfl rfl ?_
      refine wp0 rfl rfl ?_
      refine wp1 rfl rfl ?_
      refine wp0 rfl rfl ?_
      refine pg_store hJ hp rfl (fun D' hJ' _ => ?_)
      exact wp5 rfl rfl ⟨_, _, hJ', rfl, rfl⟩
  refine wp1 rfl rfl ?_
  refine wp2b rfl rfl (fun c1 => ?_) (fun c1 => ?_)
  · refine wp1 rfl rfl ?_
    refine wp1 rfl rfl ?_
    refine wp4 rfl (call_v (as := [.int x]) (rest := []) rfl rfl (Nat.zero_le _) (Nat.le_of_ble_eq_true rfl) (st_obj hi)) (pg_at hi hJ x) (fun rv h1 hq => ?_)
    obtain ⟨rfl, o, rfl, ho⟩ := hq
    refine wp2 rfl rfl ?_
    exact wpL rfl rfl (fin s D o hJ ho)
  · refine wp1 rfl rfl ?_
    refine wp1 rfl rfl ?_
    refine wp4 rfl (call_v (as := [.int x]) (rest := []) rfl rfl (Nat.zero_le _) (Nat.le_of_ble_eq_true rfl) (st_obj hi)) (pg_for hi hJ x) (fun rv h1 hq => ?_)
    obtain ⟨s', D', hJ', rfl, hle, o, rfl, ho⟩ := hq
    exact wpL rfl rfl (fin s' D' o hJ' ho)
set_option maxRecDepth 20000 in
theorem pg_word_loop (hi : i < 4) (n : Nat) : ∀ {s : cs} {D : List pgT} (hJ : J s mc D) (x z : Int32) (v : Int64) (hm : (z.toInt + 1).toNat < n), tb_wp L xs 119 7 [(0, .ref (sR i)), (1, .int x), (3, .long v), (5, .int z)] [] (HH s mc D) (SJ mc) := by
  induction n with
  | zero => intro s D hJ x z v hm; exact absurd hm (Nat.not_lt_zero _)
  | succ n ih =>
    intro s D hJ x z v hm
    refine wp1 rfl rfl ?_
    refine wp2b rfl rfl (fun c1 => ?_) (fun c1 => ?_)
    · refine wp1 rfl rfl ?_
      exact wp5 rfl rfl ⟨_, _, hJ, rfl, _, rfl⟩
    · have fin : ∀ (y : Int32) (w : Int64), tb_wp L xs 119 53 [(0, .ref (sR i)), (1, .int x), (5, .int z)] [.int y, .long w] (HH s mc D) (SJ mc) := by
        intro y w
        refine wp0 rfl rfl ?_
        refine wp0 rfl rfl ?_
        refine wpTl (fun u _ => ?_)
        refine wp1 rfl rfl ?_
        refine wp1 rfl rfl ?_
        refine wp2 rfl rfl ?_
        exact wpL rfl rfl (ih hJ x (z + -1) u (i32_down c1 hm))
      refine wp1 rfl rfl ?_
      refine wp1 rfl rfl ?_
      refine wp1 rfl rfl ?_
      refine wp0 rfl rfl ?_
      refine wp4 rfl (call_v (as := [.int (x + z)]) (rest := []) rfl rfl (Nat.zero_le _) (Nat.le_of_ble_eq_true rfl) (st_obj hi)) (pg_at hi hJ (x + z)) (fun rv h1 hq => ?_)
      obtain ⟨rfl, o, rfl, ho⟩ := hq
      cases o with
      | none =>
        refine wp1 rfl rfl ?_
        refine wp1 rfl rfl ?_
        refine wp0 rfl rfl ?_
        refine wp0 rfl rfl ?_
        refine wp1 rfl rfl ?_
        refine wp2 rfl rfl ?_
        refine wp0 rfl rfl ?_
        refine wp2 rfl rfl ?_
        exact wpL rfl rfl (fin _ _)
      | some q =>
        obtain ⟨j, hj, rfl⟩ := ho q rfl
        obtain ⟨p, hp⟩ := D_at rfl hj
        refine wp1 rfl rfl ?_
        refine wp1 rfl rfl ?_
        refine wp0 rfl rfl ?_
        refine wp0 rfl rfl ?_
        refine wp1 rfl rfl ?_
        refine wp2 rfl rfl ?_
        refine wp1 rfl rfl ?_
        refine wp3 rfl (am_getf (hh_pg hp) rfl) ?_
        refine wp1 rfl rfl ?_
        refine wp1 rfl rfl ?_
        refine wp0 rfl rfl ?_
        refine wp0 rfl rfl ?_
        refine wp0 rfl rfl ?_
        refine wp3 rfl (am_bald (hh_pc hp) (and255_in _)) ?_
        refine wp0 rfl rfl ?_
        refine wp0 rfl rfl ?_
        exact wpL rfl rfl (fin _ _)
set_option maxRecDepth 20000 in
theorem pg_wordAt (hi : i < 4) (hJ : J s mc D) (x n : Int32) : tb_wp L xs 119 0 (lv_args 0 [.ref (sR i), .int x, .int n]) [] (HH s mc D) (SJ mc) := by
  refine wp0 rfl rfl ?_
  refine wp1 rfl rfl ?_
  refine wp1 rfl rfl ?_
  refine wp0 rfl rfl ?_
  refine wp0 rfl rfl ?_
  refine wp1 rfl rfl ?_
  exact wpL rfl rfl (pg_word_loop hi _ hJ x (n - 1) 0 (Nat.lt_succ_self _))
set_option maxRecDepth 20000 in
theorem pg_putWord_loop (hi : i < 4) (n : Nat) : ∀ {s : cs} {D : List pgT} (hJ : J s mc D) (x m z : Int32) (v : Int64) (hm : (m.toInt - z.toInt).toNat < n), tb_wp L xs 117 3 [(0, .ref (sR i)), (1, .int x), (2, .int m), (3, .long v), (5, .int z)] [] (HH s mc D) (SV mc) := by
  induction n with
  | zero => intro s D hJ x m z v hm; exact absurd hm (Nat.not_lt_zero _)
  | succ n ih =>
    intro s D hJ x m z v hm
    refine wp1 rfl rfl ?_
    refine wp1 rfl rfl ?_
    refine wp2b rfl rfl (fun c1 => ?_) (fun c1 => ?_)
    · exact wp5 rfl rfl ⟨_, _, hJ, rfl, rfl⟩
    · have fin : ∀ (s : cs) (D : List pgT), J s mc D → tb_wp L xs 117 47 [(0, .ref (sR i)), (1, .int x), (2, .int m), (3, .long v), (5, .int z)] [] (HH s mc D) (SV mc) := by
        intro s D hJ
        refine wp1 rfl rfl ?_
        refine wp2 rfl rfl ?_
        exact wpL rfl rfl (ih hJ x m (z + 1) v (i32_up c1 hm))
      refine wp1 rfl rfl ?_
      refine wp1 rfl rfl ?_
      refine wp1 rfl rfl ?_
      refine wp0 rfl rfl ?_
      refine wp4 rfl (call_v (as := [.int (x + z)]) (rest := []) rfl rfl (Nat.zero_le _) (Nat.le_of_ble_eq_true rfl) (st_obj hi)) (pg_for hi hJ (x + z)) (fun rv h1 hq => ?_)
      obtain ⟨s', D', hJ', rfl, hle, o, rfl, ho⟩ := hq
      cases o with
      | none =>
        refine wp1 rfl rfl ?_
        refine wp1 rfl rfl ?_
        refine wp2 rfl rfl ?_
        exact wpL rfl rfl (fin s' D' hJ')
      | some q =>
        obtain ⟨j, hj, rfl⟩ := ho q rfl
        obtain ⟨p, hp⟩ := D_at rfl hj
        refine wp1 rfl rfl ?_
        refine wp1 rfl rfl ?_
        refine wp2 rfl rfl ?_
        refine wp1 rfl rfl ?_
        refine wp3 rfl (am_getf (hh_pg hp) rfl) ?_
        refine wp1 rfl rfl ?_
        refine wp1 rfl rfl ?_
        refine wp0 rfl rfl ?_
        refine wp0 rfl rfl ?_
        refine wp0 rfl rfl ?_
        refine wp1 rfl rfl ?_
        refine wp0 rfl rfl ?_
        refine wp1 rfl rfl ?_
        refine wp0 rfl rfl ?_
        refine wp0 rfl rfl ?_
        refine wp0 rfl rfl ?_
        refine wp0 rfl rfl ?_
        refine pg_store hJ' hp rfl (fun D2 hJ2 _ => ?_)
        exact wpL rfl rfl (fin s' D2 hJ2)
set_option maxRecDepth 20000 in
theorem pg_putWord (hi : i < 4) (hJ : J s mc D) (x n : Int32) (v : Int64) : tb_wp L xs 117 0 (lv_args 0 [.ref (sR i), .int x, .int n, .long v]) [] (HH s mc D) (SV mc) := by
  refine wp0 rfl rfl ?_
  refine wp1 rfl rfl ?_
  exact wpL rfl rfl (pg_putWord_loop hi _ hJ x n 0 v (Nat.lt_succ_self _))
end PAGES5
end
section
/-! bytes are cleared and copied -/
theorem call_s {k ci mL a2 : Nat} {h : am_H} {st as rest : List Value} (hs : st = as.reverse ++ rest) (hl : as.length = a2) (h8 : (rest.map fun v => v.category).sum ≤ 8) (hm : (as.map fun v => v.category).sum ≤ mL) : am_call (.invokestatic k) ci mL a2 st h = some (as, rest) := by
  subst hs
  subst hl
  have e1 : (as.reverse ++ rest).take as.length = as.reverse := List.take_left' (by simp)
  have e2 : (as.reverse ++ rest).drop as.length = rest := List.drop_left' (by simp)
  unfold am_call
  rw [e1, e2, List.reverse_reverse, if_pos ⟨by simp, h8, hm⟩]
theorem fit_upd2 {f : Nat → Int32} (hf : ∀ i, fits .byte (.int (f i)) = true) (k : Nat) (x : Int32) : ∀ i, fits .byte (.int (upd f k (vp_nar .byte x) i)) = true := fit_upd hf k x
theorem fit_cpy {f g : Nat → Int32} (hf : ∀ i, fits .byte (.int (f i)) = true) (hg : ∀ i, fits .byte (.int (g i)) = true) (a b n : Nat) : ∀ i, fits .byte (.int (va_cpy f g a b n i)) = true := fun i => by
  unfold va_cpy
  split
  · exact hf _
  · exact hg _
section PAGES6
variable {s : cs} {mc : am_H} {D : List pgT} {i : Nat} {L : Nat} {xs : Nat → Int32}
/-- the bytes of a page are written: what is left -/
def SB (s : cs) (mc : am_H) (n : Nat) (v : Option Value) (h : am_H) : Prop := v = none ∧ ∃ D' : List pgT, J s mc D' ∧ D'.length = n ∧ h = HH s mc D'
set_option maxRecDepth 20000 in
theorem ar_fill_loop (j m : Nat) (y : Int32) (n : Nat) : ∀ {D : List pgT} (hJ : J s mc D) (hl : D.length = m) (hj : j < m) (z : Int32) (hz : 0 ≤ z.toInt) (hm : ((256 : Int32).toInt - z.toInt).toNat < n), tb_wp L xs 193 5 [(0, .ref (25 + mc.length + 2 * j)), (1, .int y), (2, .int z), (3, .int 256)] [] (HH s mc D) (SB s mc m) := by
  induction n with
  | zero => intro D hJ hl hj z hz hm; exact absurd hm (Nat.not_lt_zero _)
  | succ n ih =>
    intro D hJ hl hj z hz hm
    obtain ⟨p, hp⟩ := D_at hl.symm hj
    refine wp1 rfl rfl ?_
    refine wp1 rfl rfl ?_
    refine wp2b rfl rfl (fun c1 => ?_) (fun c1 => ?_)
    · exact wp5 rfl rfl ⟨rfl, D, hJ, hl, rfl⟩
    · refine wp1 rfl rfl ?_
      refine wp1 rfl rfl ?_
      refine wp1 rfl rfl ?_
      have hin : am_in z 256 = true := by
        have h1 : ¬ (256 : Int32).toInt ≤ z.toInt := fun q => c1 (Int32.le_iff_toInt_le.mpr q)
        have e1 : (256 : Int32).toInt = 256 := rfl
        exact am_in_of hz (by omega)
      refine wp3 rfl (am_bast (hh_pc hp) hin) ?_
      refine wpH (hh_ps hp) ?_
      refine wp1 rfl rfl ?_
      refine wp2 rfl rfl ?_
      exact wpL rfl rfl (ih (J_byte hJ hp (fit_upd (J_pg hJ hp).2.2 _ _)) (by rw [List.length_set]; exact hl) hj (z + 1) (i32_upp c1 hz) (i32_up c1 hm))
set_option maxRecDepth 20000 in
theorem ar_fill {j : Nat} (hJ : J s mc D) (hj : j < D.length) (y : Int32) : tb_wp L xs 193 0 (lv_args 0 [.ref (25 + mc.length + 2 * j), .int y]) [] (HH s mc D) (SB s mc D.length) := by
  obtain ⟨p, hp⟩ := D_at rfl hj
  refine wp0 rfl rfl ?_
  refine wp1 rfl rfl ?_
  refine wp1 rfl rfl ?_
  refine wp3 rfl (am_alen (hh_pc hp)) ?_
  refine wp1 rfl rfl ?_
  exact wpL rfl rfl (ar_fill_loop j D.length y _ hJ rfl hj 0 (by decide) (Nat.lt_succ_self _))
set_option maxRecDepth 20000 in
theorem ar_range {a b c : Int32} (h1 : b ≤ c) (h2 : 0 ≤ b) (h3 : c ≤ a) {h : am_H} : tb_ev L xs 196 [.int a, .int b, .int c] h none h := by
  refine am_wp_ev ?_
  refine wp1 rfl rfl ?_
  refine wp1 rfl rfl ?_
  refine wp2b rfl rfl (fun c1 => ?_) (fun c1 => absurd h1 c1)
  refine wp1 rfl rfl ?_
  refine wp2b rfl rfl (fun c2 => ?_) (fun c2 => absurd h2 c2)
  refine wp1 rfl rfl ?_
  refine wp1 rfl rfl ?_
  refine wp2b rfl rfl (fun c3 => ?_) (fun c3 => absurd h3 c3)
  exact wp5 rfl rfl ⟨rfl, rfl⟩
set_option maxRecDepth 20000 in
theorem ar_fillr_loop (j m : Nat) (y b : Int32) (hb : b.toInt ≤ 256) (n : Nat) : ∀ {D : List pgT} (hJ : J s mc D) (hl : D.length = m) (hj : j < m) (z : Int32) (hz : 0 ≤ z.toInt) (hm : (b.toInt - z.toInt).toNat < n), tb_wp L xs 194 10 [(0, .ref (25 + mc.length + 2 * j)), (2, .int b), (3, .int y), (4, .int z)] [] (HH s mc D) (SB s mc m) := by
  induction n with
  | zero => intro D hJ hl hj z hz hm; exact absurd hm (Nat.not_lt_zero _)
  | succ n ih =>
    intro D hJ hl hj z hz hm
    obtain ⟨p, hp⟩ := D_at hl.symm hj
    refine wp1 rfl rfl ?_
    refine wp1 rfl rfl ?_
    refine wp2b rfl rfl (fun c1 => ?_) (fun c1 => ?_)
    · exact wp5 rfl rfl ⟨rfl, D, hJ, hl, rfl⟩
    · refine wp1 rfl rfl ?_
      refine wp1 rfl rfl ?_
      refine wp1 rfl rfl ?_
      have hin : am_in z 256 = true := by
        have h1 : ¬ b.toInt ≤ z.toInt := fun q => c1 (Int32.le_iff_toInt_le.mpr q)
        exact am_in_of hz (by omega)
      refine wp3 rfl (am_bast (hh_pc hp) hin) ?_
      refine wpH (hh_ps hp) ?_
      refine wp1 rfl rfl ?_
      refine wp2 rfl rfl ?_
      exact wpL rfl rfl (ih (J_byte hJ hp (fit_upd (J_pg hJ hp).2.2 _ _)) (by rw [List.length_set]; exact hl) hj (z + 1) (i32_upp c1 hz) (i32_up c1 hm))
set_option maxRecDepth 20000 in
theorem ar_fillr {j : Nat} (hJ : J s mc D) (hj : j < D.length) (a b y : Int32) (h0 : 0 ≤ a.toInt) (h1 : a.toInt ≤ b.toInt) (h2 : b.toInt ≤ 256) : tb_wp L xs 194 0 (lv_args 0 [.ref (25 + mc.length + 2 * j), .int a, .int b, .int y]) [] (HH s mc D) (SB s mc D.length) := by
  obtain ⟨p, hp⟩ := D_at rfl hj
  refine wp1 rfl rfl ?_
  refine wp3 rfl (am_alen (hh_pc hp)) ?_
  refine wp1 rfl rfl ?_
  refine wp1 rfl rfl ?_
  refine am_ev_at rfl (call_s (as := [.int 256, .int a, .int b]) (rest := []) rfl rfl (Nat.zero_le _) (Nat.le_of_ble_eq_true rfl)) (ar_range (Int32.le_iff_toInt_le.mpr h1) (Int32.le_iff_toInt_le.mpr (by exact h0)) (Int32.le_iff_toInt_le.mpr (by exact h2))) ?_
  refine wp1 rfl rfl ?_
  refine wp1 rfl rfl ?_
  exact wpL rfl rfl (ar_fillr_loop j D.length y b h2 _ hJ rfl hj a h0 (Nat.lt_succ_self _))
set_option maxRecDepth 20000 in
/-- clear(): the chain falls -/
theorem pg_clear_loop (m n : Nat) : ∀ {D : List pgT} (hJ : J s mc D) (hl : D.length = m) (b : Nat) (o : Option Nat) (ho : okp mc.length b o) (hb : b ≤ m) (hn : b < n), tb_wp L xs 109 5 [(1, am_rf o)] [] (HH s mc D) (SB s mc m) := by
  induction n with
  | zero => intro D hJ hl b o ho hb hn; omega
  | succ n ih =>
    intro D hJ hl b o ho hb hn
    cases o with
    | none =>
      refine wp1 rfl rfl ?_
      refine wp2 rfl rfl ?_
      exact wp5 rfl rfl ⟨rfl, D, hJ, hl, rfl⟩
    | some q =>
      obtain ⟨j, hj, rfl⟩ := ho q rfl
      obtain ⟨p, hp⟩ := D_at hl.symm (show j < m by omega)
      refine wp1 rfl rfl ?_
      refine wp2 rfl rfl ?_
      refine wp1 rfl rfl ?_
      refine wp3 rfl (am_getf (hh_pg hp) rfl) ?_
      refine wp0 rfl rfl ?_
      refine wp4 rfl (call_s (as := [.ref (25 + mc.length + 2 * j), .int 0]) (rest := []) rfl rfl (Nat.zero_le _) (Nat.le_of_ble_eq_true rfl)) (ar_fill hJ (by omega) 0) (fun rv h1 hq => ?_)
      obtain ⟨rfl, D', hJ', hl', rfl⟩ := hq
      obtain ⟨p', hp'⟩ := D_at (show m = D'.length by omega) (show j < m by omega)
      have ho' := (J_pg hJ' hp').1
      refine wp1 rfl rfl ?_
      refine wp3 rfl (am_getf (hh_pg hp') rfl) ?_
      generalize hoe : p'.2.1 = o' at ho'
      refine wp1 (lv' := [(1, am_rf o')]) (st' := []) rfl (by cases o' <;> rfl) ?_
      refine wp2 rfl rfl ?_
      exact wpL rfl rfl (ih hJ' (by omega) j o' ho' (by omega) (by omega))
set_option maxRecDepth 20000 in
theorem pg_clear (hi : i < 4) (hJ : J s mc D) : tb_wp L xs 109 0 (lv_args 0 [.ref (sR i)]) [] (HH s mc D) (SB s mc D.length) := by
  have ho := hJ.2.2.2.2.2.2.2.2.1 i hi
  refine wp1 rfl rfl ?_
  refine wp3 rfl (am_getf (st_obj hi) rfl) ?_
  generalize sW s i = o at ho
  refine wp1 (lv' := [(0, .ref (sR i)), (1, am_rf o)]) (st' := []) rfl (by cases o <;> rfl) ?_
  exact wpL rfl rfl (pg_clear_loop D.length _ hJ rfl D.length o ho (Nat.le_refl _) (Nat.lt_succ_self _))
theorem and255 (x : Int32) : ∃ a : Nat, a < 256 ∧ x &&& 255 = nI a := pk_andE x (m := 255) 8 rfl
set_option maxRecDepth 20000 in
theorem pg_clearPiece (hi : i < 4) (hJ : J s mc D) (x n : Int32) (h0 : 0 ≤ n.toInt) (h1 : (x &&& 255).toInt + n.toInt ≤ 256) : tb_wp L xs 111 0 (lv_args 0 [.ref (sR i), .int x, .int n]) [] (HH s mc D) (SB s mc D.length) := by
  refine wp1 rfl rfl ?_
  refine wp1 rfl rfl ?_
  refine wp4 rfl (call_v (as := [.int x]) (rest := []) rfl rfl (Nat.zero_le _) (Nat.le_of_ble_eq_true rfl) (st_obj hi)) (pg_at hi hJ x) (fun rv h1 hq => ?_)
  obtain ⟨rfl, o, rfl, ho⟩ := hq
  cases o with
  | none =>
    refine wp1 rfl rfl ?_
    refine wp1 rfl rfl ?_
    refine wp2 rfl rfl ?_
    exact wp5 rfl rfl ⟨rfl, D, hJ, rfl, rfl⟩
  | some q =>
    obtain ⟨j, hj, rfl⟩ := ho q rfl
    obtain ⟨p, hp⟩ := D_at rfl hj
    refine wp1 rfl rfl ?_
    refine wp1 rfl rfl ?_
    refine wp2 rfl rfl ?_
    refine wp1 rfl rfl ?_
    refine wp0 rfl rfl ?_
    refine wp0 rfl rfl ?_
    refine wpTi (fun a ea => ?_)
    refine wp1 rfl rfl ?_
    refine wpV (lv' := [(0, .ref (sR i)), (1, .int x), (2, .int n), (3, .ref (24 + mc.length + 2 * j)), (4, .int a)]) rfl ?_
    refine wp1 rfl rfl ?_
    refine wp3 rfl (am_getf (hh_pg hp) rfl) ?_
    refine wp1 rfl rfl ?_
    refine wp1 rfl rfl ?_
    refine wp1 rfl rfl ?_
    refine wp0 rfl rfl ?_
    refine wp0 rfl rfl ?_
    obtain ⟨an, han, ean⟩ := and255 x
    have e1 : a.toInt = (an : Int) := by rw [← ea, ean, nI_toInt (by omega)]
    have e2 : (x &&& 255).toInt = (an : Int) := by rw [ean, nI_toInt (by omega)]
    have e3 : (a + n).toInt = a.toInt + n.toInt := by
      rw [Int32.toInt_add]
      exact Int.bmod_eq_of_le (by omega) (by omega)
    refine wp4 rfl (call_s (as := [.ref (25 + mc.length + 2 * j), .int a, .int (a + n), .int 0]) (rest := []) rfl rfl (Nat.zero_le _) (Nat.le_of_ble_eq_true rfl)) (ar_fillr hJ hj a (a + n) 0 (by omega) (by omega) (by omega)) (fun rv h2 hq => ?_)
    obtain ⟨rfl, D', hJ', hl', rfl⟩ := hq
    exact wp5 rfl rfl ⟨rfl, D', hJ', hl', rfl⟩
end PAGES6
end
section
/-! stretches: pieces cleared and copied, an image taken over -/
theorem i32_nle {a b : Int32} (h : ¬ b ≤ a) : a.toInt < b.toInt := by
  have h1 : ¬ b.toInt ≤ a.toInt := fun z => h (Int32.le_iff_toInt_le.mpr z)
  omega
theorem i32_addI {a b : Int32} (h1 : -2147483648 ≤ a.toInt + b.toInt) (h2 : a.toInt + b.toInt < 2147483648) : (a + b).toInt = a.toInt + b.toInt := by
  rw [Int32.toInt_add]
  exact Int.bmod_eq_of_le (by omega) (by omega)
theorem i32_subI {a b : Int32} (h1 : -2147483648 ≤ a.toInt - b.toInt) (h2 : a.toInt - b.toInt < 2147483648) : (a - b).toInt = a.toInt - b.toInt := by
  rw [Int32.toInt_sub]
  exact Int.bmod_eq_of_le (by omega) (by omega)
theorem and255I (x : Int32) : 0 ≤ (x &&& 255).toInt ∧ (x &&& 255).toInt < 256 := by
  obtain ⟨a, ha, e⟩ := and255 x
  rw [e, nI_toInt (by omega)]
  omega
theorem restI (x : Int32) : (256 - (x &&& 255)).toInt = 256 - (x &&& 255).toInt := by
  have h := and255I x
  have e : (256 : Int32).toInt = 256 := rfl
  rw [i32_subI (by omega) (by omega), e]
section PAGES7
variable {s : cs} {mc : am_H} {D : List pgT} {i i2 : Nat} {L : Nat} {xs : Nat → Int32}
theorem rest_ev (x : Int32) {h : am_H} : tb_ev L xs 118 [.int x] h (some (.int (256 - (x &&& 255)))) h := by
  refine am_wp_ev ?_
  refine wp0 rfl rfl ?_
  refine wp1 rfl rfl ?_
  refine wp0 rfl rfl ?_
  refine wp0 rfl rfl ?_
  refine wp0 rfl rfl ?_
  exact wp5i rfl rfl ⟨rfl, rfl⟩
theorem minI (a b : Int32) : (if a < b then a else b).toInt = if a.toInt < b.toInt then a.toInt else b.toInt := by
  by_cases h : a < b
  · rw [if_pos h, if_pos (Int32.lt_iff_toInt_lt.mp h)]
  · rw [if_neg h, if_neg (fun z => h (Int32.lt_iff_toInt_lt.mpr z))]
set_option maxRecDepth 20000 in
theorem pg_clearFrom_loop (hi : i < 4) (m : Nat) (n : Nat) : ∀ {D : List pgT} (hJ : J s mc D) (hl : D.length = m) (x k z : Int32) (hz : 0 ≤ z.toInt) (hm : (k.toInt - z.toInt).toNat < n), tb_wp L xs 110 2 [(0, .ref (sR i)), (1, .int x), (2, .int k), (3, .int z)] [] (HH s mc D) (SB s mc m) := by
  induction n with
  | zero => intro D hJ hl x k z hz hm; exact absurd hm (Nat.not_lt_zero _)
  | succ n ih =>
    intro D hJ hl x k z hz hm
    refine wp1 rfl rfl ?_
    refine wp1 rfl rfl ?_
    refine wp2b rfl rfl (fun c1 => ?_) (fun c1 => ?_)
    · exact wp5 rfl rfl ⟨rfl, D, hJ, hl, rfl⟩
    · have hlt : z.toInt < k.toInt := i32_nle c1
      have hk := Int32.toInt_lt k
      refine wp1 rfl rfl ?_
      refine wp1 rfl rfl ?_
      refine wp0 rfl rfl ?_
      refine wp1 rfl rfl ?_
      refine wp1 rfl rfl ?_
      refine wp0 rfl rfl ?_
      refine am_ev_at rfl (call_s (as := [.int (x + z)]) (rest := [.int (k - z)]) rfl rfl (Nat.le_of_ble_eq_true rfl) (Nat.le_of_ble_eq_true rfl)) (rest_ev (x + z)) ?_
      refine wp3 rfl (am_mmin (Nat.le_of_ble_eq_true rfl)) ?_
      refine wpTi (fun w ew => ?_)
      have e1 : (k - z).toInt = k.toInt - z.toInt := i32_subI (by omega) (by omega)
      have e2 := restI (x + z)
      have e3 := and255I (x + z)
      have e4 := (minI _ _).symm.trans (congrArg Int32.toInt ew)
      rw [e1, e2] at e4
      have e5 : 1 ≤ w.toInt ∧ w.toInt ≤ k.toInt - z.toInt ∧ (x + z &&& 255).toInt + w.toInt ≤ 256 := by
        split at e4 <;> omega
      refine wp1 rfl rfl ?_
      refine wpV (lv' := [(0, .ref (sR i)), (1, .int x), (2, .int k), (3, .int z), (4, .int w)]) rfl ?_
      refine wp1 rfl rfl ?_
      refine wp1 rfl rfl ?_
      refine wp1 rfl rfl ?_
      refine wp0 rfl rfl ?_
      refine wp1 rfl rfl ?_
      refine wp4 rfl (call_v (as := [.int (x + z), .int w]) (rest := []) rfl rfl (Nat.zero_le _) (Nat.le_of_ble_eq_true rfl) (st_obj hi)) (pg_clearPiece hi hJ (x + z) w (by omega) e5.2.2) (fun rv h1 hq => ?_)
      obtain ⟨rfl, D', hJ', hl', rfl⟩ := hq
      refine wp1 rfl rfl ?_
      refine wp1 rfl rfl ?_
      refine wp0 rfl rfl ?_
      refine wp1 rfl rfl ?_
      refine wp2 rfl rfl ?_
      have e6 : (z + w).toInt = z.toInt + w.toInt := i32_addI (by omega) (by omega)
      exact wpL rfl rfl (ih hJ' (by omega) x k (z + w) (by omega) (by omega))
set_option maxRecDepth 20000 in
theorem pg_clearFrom (hi : i < 4) (hJ : J s mc D) (x k : Int32) : tb_wp L xs 110 0 (lv_args 0 [.ref (sR i), .int x, .int k]) [] (HH s mc D) (SV mc) := by
  refine wp0 rfl rfl ?_
  refine wp1 rfl rfl ?_
  refine am_wp_mono (wpL rfl rfl (pg_clearFrom_loop hi D.length _ hJ rfl x k 0 (by decide) (Nat.lt_succ_self _))) (fun v h hq => ?_)
  obtain ⟨rfl, D', hJ', -, rfl⟩ := hq
  exact ⟨_, _, hJ', rfl, rfl⟩
def SG (mc : am_H) (n : Nat) (v : Option Value) (h : am_H) : Prop := v = none ∧ ∃ (s : cs) (D : List pgT), J s mc D ∧ n ≤ D.length ∧ h = HH s mc D
set_option maxRecDepth 20000 in
set_option maxHeartbeats 4000000 in
theorem pg_copyPiece (hi : i < 4) (hi2 : i2 < 4) (hJ : J s mc D) (a x n : Int32) (h0 : 0 ≤ n.toInt) (h1 : (a &&& 255).toInt + n.toInt ≤ 256) (h2 : (x &&& 255).toInt + n.toInt ≤ 256) : tb_wp L xs 113 0 (lv_args 0 [.ref (sR i), .ref (sR i2), .int a, .int x, .int n]) [] (HH s mc D) (SG mc D.length) := by
  have clr : ∀ (s : cs) (D' : List pgT), J s mc D' → D.length ≤ D'.length → tb_wp L xs 113 33 [(0, .ref (sR i)), (3, .int x), (4, .int n)] [] (HH s mc D') (SG mc D.length) := by
    intro s D' hJ' hle
    refine wp1 rfl rfl ?_
    refine wp1 rfl rfl ?_
    refine wp1 rfl rfl ?_
    refine wp4 rfl (call_v (as := [.int x, .int n]) (rest := []) rfl rfl (Nat.zero_le _) (Nat.le_of_ble_eq_true rfl) (st_obj hi)) (pg_clearPiece hi hJ' x n h0 h2) (fun rv h1 hq => ?_)
    obtain ⟨rfl, D2, hJ2, hl2, rfl⟩ := hq
    exact wp5 rfl rfl ⟨rfl, s, D2, hJ2, by omega, rfl⟩
  refine wp1 rfl rfl ?_
  refine wp1 rfl rfl ?_
  refine wp4 rfl (call_v (as := [.int a]) (rest := []) rfl rfl (Nat.zero_le _) (Nat.le_of_ble_eq_true rfl) (st_obj hi2)) (pg_at hi2 hJ a) (fun rv h1 hq => ?_)
  obtain ⟨rfl, o, rfl, ho⟩ := hq
  cases o with
  | none =>
    refine wp1 rfl rfl ?_
    refine wp1 rfl rfl ?_
    refine wp2 rfl rfl ?_
    refine wp0 rfl rfl ?_
    refine wp2 rfl rfl ?_
    refine wp1 rfl rfl ?_
    refine wp1 rfl rfl ?_
    refine wp2 rfl rfl ?_
    exact wpL rfl rfl (clr s D hJ (Nat.le_refl _))
  | some q =>
    obtain ⟨j, hj, rfl⟩ := ho q rfl
    refine wp1 rfl rfl ?_
    refine wp1 rfl rfl ?_
    refine wp2 rfl rfl ?_
    refine wp1 rfl rfl ?_
    refine wp1 rfl rfl ?_
    refine wp4 rfl (call_v (as := [.int x]) (rest := []) rfl rfl (Nat.zero_le _) (Nat.le_of_ble_eq_true rfl) (st_obj hi)) (pg_for hi hJ x) (fun rv h1 hq => ?_)
    obtain ⟨s', D', hJ', rfl, hle, o', rfl, ho'⟩ := hq
    cases o' with
    | none =>
      refine wp1 rfl rfl ?_
      refine wp1 rfl rfl ?_
      refine wp2 rfl rfl ?_
      refine wp1 rfl rfl ?_
      refine wp2 rfl rfl ?_
      exact wpL rfl rfl (clr s' D' hJ' hle)
    | some q' =>
      obtain ⟨j', hj', rfl⟩ := ho' q' rfl
      obtain ⟨p, hp⟩ := D_at (show D'.length = D'.length from rfl) (show j < D'.length by omega)
      obtain ⟨p', hp'⟩ := D_at (show D'.length = D'.length from rfl) hj'
      refine wp1 rfl rfl ?_
      refine wp1 rfl rfl ?_
      refine wp2 rfl rfl ?_
      refine wp1 rfl rfl ?_
      refine wp2 rfl rfl ?_
      refine wp0 rfl rfl ?_
      refine wp1 rfl rfl ?_
      refine wp1 rfl rfl ?_
      refine wp3 rfl (am_getf (hh_pg hp) rfl) ?_
      refine wp1 rfl rfl ?_
      refine wp1 rfl rfl ?_
      refine wp0 rfl rfl ?_
      refine wp1 rfl rfl ?_
      refine wp3 rfl (am_getf (hh_pg hp') rfl) ?_
      refine wp1 rfl rfl ?_
      refine wp1 rfl rfl ?_
      refine wp0 rfl rfl ?_
      refine wp1 rfl rfl ?_
      have ea := and255I a
      have ex := and255I x
      have nn : ∀ w : Int32, 0 ≤ w.toInt → ¬ w < 0 := fun w hw z => by
        have := Int32.lt_iff_toInt_lt.mp z
        have e0 : (0 : Int32).toInt = 0 := rfl
        omega
      have tn : ∀ w : Int32, 0 ≤ w.toInt → (w.toNatClampNeg : Int) = w.toInt := fun w hw => by
        show (w.toInt.toNat : Int) = w.toInt
        omega
      have t1 := tn (a &&& 255) ea.1
      have t2 := tn (x &&& 255) ex.1
      have t3 := tn n h0
      refine wp3 rfl (am_acpy (hh_pc hp) (hh_pc hp') (nn _ ea.1) (nn _ ex.1) (nn _ h0) (by omega) (by omega) (Nat.zero_le _) (fun z _ => (J_pg hJ' hp).2.2 _)) ?_
      refine wpH (hh_ps hp') ?_
      exact wp5 rfl rfl ⟨rfl, s', _, J_byte hJ' hp' (fit_cpy (J_pg hJ' hp).2.2 (J_pg hJ' hp').2.2 _ _ _), by rw [List.length_set]; exact hle, rfl⟩
set_option maxRecDepth 20000 in
theorem pg_copyFrom_loop (hi : i < 4) (hi2 : i2 < 4) (n : Nat) : ∀ {s : cs} {D : List pgT} (hJ : J s mc D) (a x k z : Int32) (hz : 0 ≤ z.toInt) (hm : (k.toInt - z.toInt).toNat < n), tb_wp L xs 112 3 [(0, .ref (sR i)), (1, .ref (sR i2)), (2, .int a), (3, .int x), (4, .int k), (5, .int z)] [] (HH s mc D) (SV mc) := by
  induction n with
  | zero => intro s D hJ a x k z hz hm; exact absurd hm (Nat.not_lt_zero _)
  | succ n ih =>
    intro s D hJ a x k z hz hm
    refine wp1 rfl rfl ?_
    refine wp1 rfl rfl ?_
    refine wp2b rfl rfl (fun c1 => ?_) (fun c1 => ?_)
    · exact wp5 rfl rfl ⟨_, _, hJ, rfl, rfl⟩
    · have hlt : z.toInt < k.toInt := i32_nle c1
      have hk := Int32.toInt_lt k
      refine wp1 rfl rfl ?_
      refine wp1 rfl rfl ?_
      refine wp0 rfl rfl ?_
      refine am_ev_at rfl (call_s (as := [.int (a + z)]) (rest := []) rfl rfl (Nat.le_of_ble_eq_true rfl) (Nat.le_of_ble_eq_true rfl)) (rest_ev (a + z)) ?_
      refine wp1 rfl rfl ?_
      refine wp1 rfl rfl ?_
      refine wp0 rfl rfl ?_
      refine am_ev_at rfl (call_s (as := [.int (x + z)]) (rest := [.int (256 - (a + z &&& 255))]) rfl rfl (Nat.le_of_ble_eq_true rfl) (Nat.le_of_ble_eq_true rfl)) (rest_ev (x + z)) ?_
      refine wp3 rfl (am_mmin (Nat.le_of_ble_eq_true rfl)) ?_
      refine wpTi (fun r er => ?_)
      refine wp1 rfl rfl ?_
      refine wpV (lv' := [(0, .ref (sR i)), (1, .ref (sR i2)), (2, .int a), (3, .int x), (4, .int k), (5, .int z), (6, .int r)]) rfl ?_
      refine wp1 rfl rfl ?_
      refine wp1 rfl rfl ?_
      refine wp0 rfl rfl ?_
      refine wp1 rfl rfl ?_
      refine wp3 rfl (am_mmin (Nat.le_of_ble_eq_true rfl)) ?_
      refine wpTi (fun w ew => ?_)
      have e1 : (k - z).toInt = k.toInt - z.toInt := i32_subI (by omega) (by omega)
      have e2 := restI (x + z)
      have e3 := and255I (x + z)
      have e2a := restI (a + z)
      have e3a := and255I (a + z)
      have e4 := (minI _ _).symm.trans (congrArg Int32.toInt er)
      rw [e2, e2a] at e4
      have e5 := (minI _ _).symm.trans (congrArg Int32.toInt ew)
      rw [e1] at e5
      have e6 : 1 ≤ w.toInt ∧ w.toInt ≤ k.toInt - z.toInt ∧ (x + z &&& 255).toInt + w.toInt ≤ 256 ∧ (a + z &&& 255).toInt + w.toInt ≤ 256 := by
        split at e4 <;> split at e5 <;> omega
      refine wp1 rfl rfl ?_
      refine wpV (lv' := [(0, .ref (sR i)), (1, .ref (sR i2)), (2, .int a), (3, .int x), (4, .int k), (5, .int z), (6, .int r), (7, .int w)]) rfl ?_
      refine wp1 rfl rfl ?_
      refine wp1 rfl rfl ?_
      refine wp1 rfl rfl ?_
      refine wp1 rfl rfl ?_
      refine wp0 rfl rfl ?_
      refine wp1 rfl rfl ?_
      refine wp1 rfl rfl ?_
      refine wp0 rfl rfl ?_
      refine wp1 rfl rfl ?_
      refine wp4 rfl (call_v (as := [.ref (sR i2), .int (a + z), .int (x + z), .int w]) (rest := []) rfl rfl (Nat.zero_le _) (Nat.le_of_ble_eq_true rfl) (st_obj hi)) (pg_copyPiece hi hi2 hJ (a + z) (x + z) w (by omega) e6.2.2.2 e6.2.2.1) (fun rv h1 hq => ?_)
      obtain ⟨rfl, s', D', hJ', hl', rfl⟩ := hq
      refine wp1 rfl rfl ?_
      refine wp1 rfl rfl ?_
      refine wp0 rfl rfl ?_
      refine wp1 rfl rfl ?_
      refine wp2 rfl rfl ?_
      have e7 : (z + w).toInt = z.toInt + w.toInt := i32_addI (by omega) (by omega)
      exact wpL rfl rfl (ih hJ' a x k (z + w) (by omega) (by omega))
set_option maxRecDepth 20000 in
theorem pg_copyFrom (hi : i < 4) (hi2 : i2 < 4) (hJ : J s mc D) (a x k : Int32) : tb_wp L xs 112 0 (lv_args 0 [.ref (sR i), .ref (sR i2), .int a, .int x, .int k]) [] (HH s mc D) (SV mc) := by
  refine wp0 rfl rfl ?_
  refine wp1 rfl rfl ?_
  exact wpL rfl rfl (pg_copyFrom_loop hi hi2 _ hJ a x k 0 (by decide) (Nat.lt_succ_self _))
set_option maxRecDepth 20000 in
set_option maxHeartbeats 4000000 in
theorem pg_become_loop (hi : i < 4) (hi2 : i2 < 4) (n : Nat) : ∀ {s : cs} {D : List pgT} (hJ : J s mc D) (k : Int32) (b : Nat) (o : Option Nat) (ho : okp mc.length b o) (hb : b ≤ D.length) (hn : b < n), tb_wp L xs 107 9 [(0, .ref (sR i)), (1, .ref (sR i2)), (2, .int k), (3, am_rf o)] [] (HH s mc D) (SV mc) := by
  induction n with
  | zero => intro s D hJ k b o ho hb hn; omega
  | succ n ih =>
    intro s D hJ k b o ho hb hn
    cases o with
    | none =>
      refine wp1 rfl rfl ?_
      refine wp2 rfl rfl ?_
      exact wp5 rfl rfl ⟨_, _, hJ, rfl, rfl⟩
    | some q =>
      obtain ⟨j, hj, rfl⟩ := ho q rfl
      have fin : ∀ (s' : cs) (D' : List pgT), J s' mc D' → D.length ≤ D'.length → tb_wp L xs 107 48 [(0, .ref (sR i)), (1, .ref (sR i2)), (2, .int k), (3, .ref (24 + mc.length + 2 * j))] [] (HH s' mc D') (SV mc) := by
        intro s' D' hJ' hle
        obtain ⟨p', hp'⟩ := D_at (show D'.length = D'.length from rfl) (show j < D'.length by omega)
        have ho' := (J_pg hJ' hp').1
        refine wp1 rfl rfl ?_
        refine wp3 rfl (am_getf (hh_pg hp') rfl) ?_
        generalize hoe : p'.2.1 = o' at ho'
        refine wp1 (lv' := [(0, .ref (sR i)), (1, .ref (sR i2)), (2, .int k), (3, am_rf o')]) (st' := []) rfl (by cases o' <;> rfl) ?_
        refine wp2 rfl rfl ?_
        exact wpL rfl (by cases o' <;> rfl) (ih hJ' k j o' ho' (by omega) (by omega))
      obtain ⟨p, hp⟩ := D_at (show D.length = D.length from rfl) (show j < D.length by omega)
      obtain ⟨kn, hkn, ekn⟩ := (J_pg hJ hp).2.1
      refine wp1 rfl rfl ?_
      refine wp2 rfl rfl ?_
      refine wp1 rfl rfl ?_
      refine wp3 rfl (am_getf (hh_pg hp) rfl) ?_
      refine wp0 rfl rfl ?_
      refine wp0 rfl rfl ?_
      refine wpTi (fun a ea => ?_)
      have ea2 : a = nI (kn * 256) := by rw [← ea, ekn, show (256 : Int32) = nI 256 from rfl, pk_mul]
      have ea3 : a.toInt = ((kn * 256 : Nat) : Int) := by rw [ea2, nI_toInt (by omega)]
      have ea4 : (a &&& 255).toInt = 0 := by
        rw [ea2, pk_andN (by omega) 8 rfl, show kn * 256 % 2 ^ 8 = 0 by omega]
        rfl
      refine wp1 rfl rfl ?_
      refine wpV (lv' := [(0, .ref (sR i)), (1, .ref (sR i2)), (2, .int k), (3, .ref (24 + mc.length + 2 * j)), (4, .int a)]) rfl ?_
      refine wp1 rfl rfl ?_
      refine wp1 rfl rfl ?_
      refine wp2b rfl rfl (fun c1 => ?_) (fun c1 => ?_)
      · exact wpL rfl rfl (fin s D hJ (Nat.le_refl _))
      · have hlt : a.toInt < k.toInt := i32_nle c1
        have hk := Int32.toInt_lt k
        refine wp1 rfl rfl ?_
        refine wp1 rfl rfl ?_
        refine wp1 rfl rfl ?_
        refine wp1 rfl rfl ?_
        refine wp0 rfl rfl ?_
        refine wp1 rfl rfl ?_
        refine wp1 rfl rfl ?_
        refine wp0 rfl rfl ?_
        refine wp3 rfl (am_mmin (Nat.le_of_ble_eq_true rfl)) ?_
        refine wpTi (fun w ew => ?_)
        have e1 : (k - a).toInt = k.toInt - a.toInt := i32_subI (by omega) (by omega)
        have e5 := (minI _ _).symm.trans (congrArg Int32.toInt ew)
        have e0 : (256 : Int32).toInt = 256 := rfl
        rw [e1, e0] at e5
        have e6 : 0 ≤ w.toInt ∧ w.toInt ≤ 256 := by split at e5 <;> omega
        refine wp4 rfl (call_v (as := [.ref (sR i2), .int a, .int a, .int w]) (rest := []) rfl rfl (Nat.zero_le _) (Nat.le_of_ble_eq_true rfl) (st_obj hi)) (pg_copyPiece hi hi2 hJ a a w e6.1 (by omega) (by omega)) (fun rv h1 hq => ?_)
        obtain ⟨rfl, s', D', hJ', hl', rfl⟩ := hq
        exact wpL rfl rfl (fin s' D' hJ' hl')
set_option maxRecDepth 20000 in
theorem pg_become (hi : i < 4) (hi2 : i2 < 4) (hJ : J s mc D) (k : Int32) : tb_wp L xs 107 0 (lv_args 0 [.ref (sR i), .ref (sR i2), .int k]) [] (HH s mc D) (SV mc) := by
  refine wp1 rfl rfl ?_
  refine wp4 rfl (call_v (as := []) (rest := []) rfl rfl (Nat.zero_le _) (Nat.le_of_ble_eq_true rfl) (st_obj hi)) (pg_clear hi hJ) (fun rv h1 hq => ?_)
  obtain ⟨rfl, D', hJ', hl', rfl⟩ := hq
  have ho := hJ'.2.2.2.2.2.2.2.2.1 i2 hi2
  refine wp1 rfl rfl ?_
  refine wp3 rfl (am_getf (st_obj hi2) rfl) ?_
  generalize sW s i2 = o at ho
  refine wp1 (lv' := [(0, .ref (sR i)), (1, .ref (sR i2)), (2, .int k), (3, am_rf o)]) (st' := []) rfl (by cases o <;> rfl) ?_
  exact wpL rfl (by cases o <;> rfl) (pg_become_loop hi hi2 _ hJ' k D'.length o ho (Nat.le_refl _) (Nat.lt_succ_self _))
end PAGES7
end
