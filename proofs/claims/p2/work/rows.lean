section
-- ===== PART A: goes FIRST, ahead of the names: the tables' words, and 'selects' of the private methods out of them =====
/-- a private method of a class that the tables say can be made, by its rows of tables_1 -/
def lw_okq (q : MethodName × Nat) : Prop := (q.1.cls ≠ "java/lang/invoke/MethodHandle" ∧ q.1.cls ≠ "java/lang/invoke/VarHandle") ∧ Cond.instantiable q.1.cls q.2 ∈ tables_1 ∧ Cond.privateMethod q.1 ∈ tables_1 ∧ Cond.instanceMethod q.1 ∈ tables_1
theorem lw_p0 : lw_okq (⟨"FlagMachine$Memory", "layRow", "(III)V"⟩, 3) := ⟨⟨by decide +kernel, by decide +kernel⟩, List.mem_of_getElem? (i := 140) (by decide +kernel), List.mem_of_getElem? (i := 324) (by decide +kernel), List.mem_of_getElem? (i := 325) (by decide +kernel)⟩
theorem lw_p1 : lw_okq (⟨"FlagMachine$Stretch", "copyPiece", "(LFlagMachine$Stretch;III)V"⟩, 2) := ⟨⟨by decide +kernel, by decide +kernel⟩, List.mem_of_getElem? (i := 88) (by decide +kernel), List.mem_of_getElem? (i := 347) (by decide +kernel), List.mem_of_getElem? (i := 348) (by decide +kernel)⟩
theorem lw_p2 : lw_okq (⟨"FlagMachine$Stretch", "pageAt", "(I)LFlagMachine$Page;"⟩, 2) := ⟨⟨by decide +kernel, by decide +kernel⟩, List.mem_of_getElem? (i := 88) (by decide +kernel), List.mem_of_getElem? (i := 351) (by decide +kernel), List.mem_of_getElem? (i := 352) (by decide +kernel)⟩
theorem lw_p3 : lw_okq (⟨"FlagMachine$Stretch", "pageFor", "(I)LFlagMachine$Page;"⟩, 2) := ⟨⟨by decide +kernel, by decide +kernel⟩, List.mem_of_getElem? (i := 88) (by decide +kernel), List.mem_of_getElem? (i := 355) (by decide +kernel), List.mem_of_getElem? (i := 356) (by decide +kernel)⟩
theorem lw_p4 : lw_okq (⟨"FlagMachine$Stretch", "clearPiece", "(II)V"⟩, 2) := ⟨⟨by decide +kernel, by decide +kernel⟩, List.mem_of_getElem? (i := 88) (by decide +kernel), List.mem_of_getElem? (i := 378) (by decide +kernel), List.mem_of_getElem? (i := 379) (by decide +kernel)⟩
theorem lw_p5 : lw_okq (⟨"FlagMachine$Instruction", "sizeFits", "()Z"⟩, 10) := ⟨⟨by decide +kernel, by decide +kernel⟩, List.mem_of_getElem? (i := 27) (by decide +kernel), List.mem_of_getElem? (i := 473) (by decide +kernel), List.mem_of_getElem? (i := 474) (by decide +kernel)⟩
theorem lw_p6 : lw_okq (⟨"FlagMachine$Instruction", "conditionFits", "()Z"⟩, 10) := ⟨⟨by decide +kernel, by decide +kernel⟩, List.mem_of_getElem? (i := 27) (by decide +kernel), List.mem_of_getElem? (i := 477) (by decide +kernel), List.mem_of_getElem? (i := 478) (by decide +kernel)⟩
theorem lw_p7 : lw_okq (⟨"FlagMachine$Instruction", "thirdFits", "()Z"⟩, 10) := ⟨⟨by decide +kernel, by decide +kernel⟩, List.mem_of_getElem? (i := 27) (by decide +kernel), List.mem_of_getElem? (i := 481) (by decide +kernel), List.mem_of_getElem? (i := 482) (by decide +kernel)⟩
theorem lw_p8 : lw_okq (⟨"FlagMachine$Instruction", "operandsFit", "()Z"⟩, 10) := ⟨⟨by decide +kernel, by decide +kernel⟩, List.mem_of_getElem? (i := 27) (by decide +kernel), List.mem_of_getElem? (i := 485) (by decide +kernel), List.mem_of_getElem? (i := 486) (by decide +kernel)⟩
theorem lw_p9 : lw_okq (⟨"FlagMachine$Instruction", "onlyOperandFits", "(I)Z"⟩, 10) := ⟨⟨by decide +kernel, by decide +kernel⟩, List.mem_of_getElem? (i := 27) (by decide +kernel), List.mem_of_getElem? (i := 492) (by decide +kernel), List.mem_of_getElem? (i := 493) (by decide +kernel)⟩
theorem lw_p10 : lw_okq (⟨"FlagMachine$Instruction", "memoryFits", "()Z"⟩, 10) := ⟨⟨by decide +kernel, by decide +kernel⟩, List.mem_of_getElem? (i := 27) (by decide +kernel), List.mem_of_getElem? (i := 500) (by decide +kernel), List.mem_of_getElem? (i := 501) (by decide +kernel)⟩
theorem lw_p11 : lw_okq (⟨"FlagMachine$Instruction", "numberFits", "()Z"⟩, 10) := ⟨⟨by decide +kernel, by decide +kernel⟩, List.mem_of_getElem? (i := 27) (by decide +kernel), List.mem_of_getElem? (i := 504) (by decide +kernel), List.mem_of_getElem? (i := 505) (by decide +kernel)⟩
theorem lw_p12 : lw_okq (⟨"FlagMachine$Core", "registerOrZero", "(I)J"⟩, 9) := ⟨⟨by decide +kernel, by decide +kernel⟩, List.mem_of_getElem? (i := 107) (by decide +kernel), List.mem_of_getElem? (i := 522) (by decide +kernel), List.mem_of_getElem? (i := 523) (by decide +kernel)⟩
theorem lw_p13 : lw_okq (⟨"FlagMachine$Sums", "resultOf", "(IJJ)J"⟩, 3) := ⟨⟨by decide +kernel, by decide +kernel⟩, List.mem_of_getElem? (i := 218) (by decide +kernel), List.mem_of_getElem? (i := 565) (by decide +kernel), List.mem_of_getElem? (i := 566) (by decide +kernel)⟩
theorem lw_p14 : lw_okq (⟨"FlagMachine$Sums", "tellFlags", "(IJJJ)V"⟩, 3) := ⟨⟨by decide +kernel, by decide +kernel⟩, List.mem_of_getElem? (i := 218) (by decide +kernel), List.mem_of_getElem? (i := 592) (by decide +kernel), List.mem_of_getElem? (i := 593) (by decide +kernel)⟩
theorem lw_p15 : lw_okq (⟨"FlagMachine$Products", "multiplyWide", "(Z)V"⟩, 6) := ⟨⟨by decide +kernel, by decide +kernel⟩, List.mem_of_getElem? (i := 234) (by decide +kernel), List.mem_of_getElem? (i := 633) (by decide +kernel), List.mem_of_getElem? (i := 634) (by decide +kernel)⟩
def lw_privs_1 : List (MethodName × Nat) := [(⟨"FlagMachine$Memory", "layRow", "(III)V"⟩, 3), (⟨"FlagMachine$Stretch", "copyPiece", "(LFlagMachine$Stretch;III)V"⟩, 2), (⟨"FlagMachine$Stretch", "pageAt", "(I)LFlagMachine$Page;"⟩, 2), (⟨"FlagMachine$Stretch", "pageFor", "(I)LFlagMachine$Page;"⟩, 2), (⟨"FlagMachine$Stretch", "clearPiece", "(II)V"⟩, 2), (⟨"FlagMachine$Instruction", "sizeFits", "()Z"⟩, 10), (⟨"FlagMachine$Instruction", "conditionFits", "()Z"⟩, 10), (⟨"FlagMachine$Instruction", "thirdFits", "()Z"⟩, 10), (⟨"FlagMachine$Instruction", "operandsFit", "()Z"⟩, 10), (⟨"FlagMachine$Instruction", "onlyOperandFits", "(I)Z"⟩, 10), (⟨"FlagMachine$Instruction", "memoryFits", "()Z"⟩, 10), (⟨"FlagMachine$Instruction", "numberFits", "()Z"⟩, 10), (⟨"FlagMachine$Core", "registerOrZero", "(I)J"⟩, 9), (⟨"FlagMachine$Sums", "resultOf", "(IJJ)J"⟩, 3), (⟨"FlagMachine$Sums", "tellFlags", "(IJJJ)V"⟩, 3), (⟨"FlagMachine$Products", "multiplyWide", "(Z)V"⟩, 6)]
theorem lw_r1 : ∀ q ∈ lw_privs_1, lw_okq q := List.forall_mem_cons.mpr ⟨lw_p0, List.forall_mem_cons.mpr ⟨lw_p1, List.forall_mem_cons.mpr ⟨lw_p2, List.forall_mem_cons.mpr ⟨lw_p3, List.forall_mem_cons.mpr ⟨lw_p4, List.forall_mem_cons.mpr ⟨lw_p5, List.forall_mem_cons.mpr ⟨lw_p6, List.forall_mem_cons.mpr ⟨lw_p7, List.forall_mem_cons.mpr ⟨lw_p8, List.forall_mem_cons.mpr ⟨lw_p9, List.forall_mem_cons.mpr ⟨lw_p10, List.forall_mem_cons.mpr ⟨lw_p11, List.forall_mem_cons.mpr ⟨lw_p12, List.forall_mem_cons.mpr ⟨lw_p13, List.forall_mem_cons.mpr ⟨lw_p14, List.forall_mem_cons.mpr ⟨lw_p15, fun _ h => absurd h List.not_mem_nil⟩⟩⟩⟩⟩⟩⟩⟩⟩⟩⟩⟩⟩⟩⟩⟩
theorem lw_p16 : lw_okq (⟨"FlagMachine$Products", "multiply", "(JJIZ)V"⟩, 6) := ⟨⟨by decide +kernel, by decide +kernel⟩, List.mem_of_getElem? (i := 234) (by decide +kernel), List.mem_of_getElem? (i := 639) (by decide +kernel), List.mem_of_getElem? (i := 640) (by decide +kernel)⟩
theorem lw_p17 : lw_okq (⟨"FlagMachine$Products", "putPair", "(JJ)V"⟩, 6) := ⟨⟨by decide +kernel, by decide +kernel⟩, List.mem_of_getElem? (i := 234) (by decide +kernel), List.mem_of_getElem? (i := 648) (by decide +kernel), List.mem_of_getElem? (i := 649) (by decide +kernel)⟩
theorem lw_p18 : lw_okq (⟨"FlagMachine$Products", "divide", "(Z)V"⟩, 6) := ⟨⟨by decide +kernel, by decide +kernel⟩, List.mem_of_getElem? (i := 234) (by decide +kernel), List.mem_of_getElem? (i := 661) (by decide +kernel), List.mem_of_getElem? (i := 662) (by decide +kernel)⟩
theorem lw_p19 : lw_okq (⟨"FlagMachine$Products", "divideSigned", "(JI)Z"⟩, 6) := ⟨⟨by decide +kernel, by decide +kernel⟩, List.mem_of_getElem? (i := 234) (by decide +kernel), List.mem_of_getElem? (i := 666) (by decide +kernel), List.mem_of_getElem? (i := 667) (by decide +kernel)⟩
theorem lw_p20 : lw_okq (⟨"FlagMachine$Products", "divideUnsigned", "(JI)Z"⟩, 6) := ⟨⟨by decide +kernel, by decide +kernel⟩, List.mem_of_getElem? (i := 234) (by decide +kernel), List.mem_of_getElem? (i := 671) (by decide +kernel), List.mem_of_getElem? (i := 672) (by decide +kernel)⟩
theorem lw_p21 : lw_okq (⟨"FlagMachine$Products", "multiplyNarrow", "()V"⟩, 6) := ⟨⟨by decide +kernel, by decide +kernel⟩, List.mem_of_getElem? (i := 234) (by decide +kernel), List.mem_of_getElem? (i := 680) (by decide +kernel), List.mem_of_getElem? (i := 681) (by decide +kernel)⟩
theorem lw_p22 : lw_okq (⟨"FlagMachine$Bits", "search", "(Z)V"⟩, 3) := ⟨⟨by decide +kernel, by decide +kernel⟩, List.mem_of_getElem? (i := 259) (by decide +kernel), List.mem_of_getElem? (i := 689) (by decide +kernel), List.mem_of_getElem? (i := 690) (by decide +kernel)⟩
theorem lw_p23 : lw_okq (⟨"FlagMachine$Bits", "turnBytes", "()V"⟩, 3) := ⟨⟨by decide +kernel, by decide +kernel⟩, List.mem_of_getElem? (i := 259) (by decide +kernel), List.mem_of_getElem? (i := 701) (by decide +kernel), List.mem_of_getElem? (i := 702) (by decide +kernel)⟩
theorem lw_p24 : lw_okq (⟨"FlagMachine$Bits", "testBit", "()V"⟩, 3) := ⟨⟨by decide +kernel, by decide +kernel⟩, List.mem_of_getElem? (i := 259) (by decide +kernel), List.mem_of_getElem? (i := 706) (by decide +kernel), List.mem_of_getElem? (i := 707) (by decide +kernel)⟩
theorem lw_p25 : lw_okq (⟨"FlagMachine$Bits", "shift", "(I)V"⟩, 3) := ⟨⟨by decide +kernel, by decide +kernel⟩, List.mem_of_getElem? (i := 259) (by decide +kernel), List.mem_of_getElem? (i := 710) (by decide +kernel), List.mem_of_getElem? (i := 711) (by decide +kernel)⟩
theorem lw_p26 : lw_okq (⟨"FlagMachine$Bits", "overflowOfOne", "(IJJI)Z"⟩, 3) := ⟨⟨by decide +kernel, by decide +kernel⟩, List.mem_of_getElem? (i := 259) (by decide +kernel), List.mem_of_getElem? (i := 719) (by decide +kernel), List.mem_of_getElem? (i := 720) (by decide +kernel)⟩
theorem lw_p27 : lw_okq (⟨"FlagMachine$Services", "takeInput", "(JJ)J"⟩, 6) := ⟨⟨by decide +kernel, by decide +kernel⟩, List.mem_of_getElem? (i := 288) (by decide +kernel), List.mem_of_getElem? (i := 733) (by decide +kernel), List.mem_of_getElem? (i := 734) (by decide +kernel)⟩
theorem lw_p28 : lw_okq (⟨"FlagMachine$Services", "giveOutput", "(JJ)J"⟩, 6) := ⟨⟨by decide +kernel, by decide +kernel⟩, List.mem_of_getElem? (i := 288) (by decide +kernel), List.mem_of_getElem? (i := 745) (by decide +kernel), List.mem_of_getElem? (i := 746) (by decide +kernel)⟩
theorem lw_p29 : lw_okq (⟨"FlagMachine$Moves", "exchange", "()V"⟩, 2) := ⟨⟨by decide +kernel, by decide +kernel⟩, List.mem_of_getElem? (i := 275) (by decide +kernel), List.mem_of_getElem? (i := 778) (by decide +kernel), List.mem_of_getElem? (i := 779) (by decide +kernel)⟩
theorem lw_p30 : lw_okq (⟨"FlagMachine$Moves", "pushOperand", "()V"⟩, 2) := ⟨⟨by decide +kernel, by decide +kernel⟩, List.mem_of_getElem? (i := 275) (by decide +kernel), List.mem_of_getElem? (i := 784) (by decide +kernel), List.mem_of_getElem? (i := 785) (by decide +kernel)⟩
theorem lw_p31 : lw_okq (⟨"FlagMachine$Moves", "popOperand", "()V"⟩, 2) := ⟨⟨by decide +kernel, by decide +kernel⟩, List.mem_of_getElem? (i := 275) (by decide +kernel), List.mem_of_getElem? (i := 790) (by decide +kernel), List.mem_of_getElem? (i := 791) (by decide +kernel)⟩
def lw_privs_2 : List (MethodName × Nat) := [(⟨"FlagMachine$Products", "multiply", "(JJIZ)V"⟩, 6), (⟨"FlagMachine$Products", "putPair", "(JJ)V"⟩, 6), (⟨"FlagMachine$Products", "divide", "(Z)V"⟩, 6), (⟨"FlagMachine$Products", "divideSigned", "(JI)Z"⟩, 6), (⟨"FlagMachine$Products", "divideUnsigned", "(JI)Z"⟩, 6), (⟨"FlagMachine$Products", "multiplyNarrow", "()V"⟩, 6), (⟨"FlagMachine$Bits", "search", "(Z)V"⟩, 3), (⟨"FlagMachine$Bits", "turnBytes", "()V"⟩, 3), (⟨"FlagMachine$Bits", "testBit", "()V"⟩, 3), (⟨"FlagMachine$Bits", "shift", "(I)V"⟩, 3), (⟨"FlagMachine$Bits", "overflowOfOne", "(IJJI)Z"⟩, 3), (⟨"FlagMachine$Services", "takeInput", "(JJ)J"⟩, 6), (⟨"FlagMachine$Services", "giveOutput", "(JJ)J"⟩, 6), (⟨"FlagMachine$Moves", "exchange", "()V"⟩, 2), (⟨"FlagMachine$Moves", "pushOperand", "()V"⟩, 2), (⟨"FlagMachine$Moves", "popOperand", "()V"⟩, 2)]
theorem lw_r2 : ∀ q ∈ lw_privs_2, lw_okq q := List.forall_mem_cons.mpr ⟨lw_p16, List.forall_mem_cons.mpr ⟨lw_p17, List.forall_mem_cons.mpr ⟨lw_p18, List.forall_mem_cons.mpr ⟨lw_p19, List.forall_mem_cons.mpr ⟨lw_p20, List.forall_mem_cons.mpr ⟨lw_p21, List.forall_mem_cons.mpr ⟨lw_p22, List.forall_mem_cons.mpr ⟨lw_p23, List.forall_mem_cons.mpr ⟨lw_p24, List.forall_mem_cons.mpr ⟨lw_p25, List.forall_mem_cons.mpr ⟨lw_p26, List.forall_mem_cons.mpr ⟨lw_p27, List.forall_mem_cons.mpr ⟨lw_p28, List.forall_mem_cons.mpr ⟨lw_p29, List.forall_mem_cons.mpr ⟨lw_p30, List.forall_mem_cons.mpr ⟨lw_p31, fun _ h => absurd h List.not_mem_nil⟩⟩⟩⟩⟩⟩⟩⟩⟩⟩⟩⟩⟩⟩⟩⟩
theorem lw_p32 : lw_okq (⟨"FlagMachine$Moves", "target", "()J"⟩, 2) := ⟨⟨by decide +kernel, by decide +kernel⟩, List.mem_of_getElem? (i := 275) (by decide +kernel), List.mem_of_getElem? (i := 797) (by decide +kernel), List.mem_of_getElem? (i := 798) (by decide +kernel)⟩
theorem lw_p33 : lw_okq (⟨"FlagMachine$Moves", "jump", "(J)V"⟩, 2) := ⟨⟨by decide +kernel, by decide +kernel⟩, List.mem_of_getElem? (i := 275) (by decide +kernel), List.mem_of_getElem? (i := 801) (by decide +kernel), List.mem_of_getElem? (i := 802) (by decide +kernel)⟩
theorem lw_p34 : lw_okq (⟨"FlagMachine$Moves", "call", "(J)V"⟩, 2) := ⟨⟨by decide +kernel, by decide +kernel⟩, List.mem_of_getElem? (i := 275) (by decide +kernel), List.mem_of_getElem? (i := 805) (by decide +kernel), List.mem_of_getElem? (i := 806) (by decide +kernel)⟩
theorem lw_p35 : lw_okq (⟨"FlagMachine$Moves", "comeBack", "()V"⟩, 2) := ⟨⟨by decide +kernel, by decide +kernel⟩, List.mem_of_getElem? (i := 275) (by decide +kernel), List.mem_of_getElem? (i := 809) (by decide +kernel), List.mem_of_getElem? (i := 810) (by decide +kernel)⟩
theorem lw_p36 : lw_okq (⟨"FlagMachine$Flags", "pairHolds", "(I)Z"⟩, 5) := ⟨⟨by decide +kernel, by decide +kernel⟩, List.mem_of_getElem? (i := 113) (by decide +kernel), List.mem_of_getElem? (i := 817) (by decide +kernel), List.mem_of_getElem? (i := 818) (by decide +kernel)⟩
theorem lw_p37 : lw_okq (⟨"FlagMachine$Moves", "valueIfCondition", "()J"⟩, 2) := ⟨⟨by decide +kernel, by decide +kernel⟩, List.mem_of_getElem? (i := 275) (by decide +kernel), List.mem_of_getElem? (i := 821) (by decide +kernel), List.mem_of_getElem? (i := 822) (by decide +kernel)⟩
theorem lw_p38 : lw_okq (⟨"FlagMachine$Moves", "move", "(J)V"⟩, 2) := ⟨⟨by decide +kernel, by decide +kernel⟩, List.mem_of_getElem? (i := 275) (by decide +kernel), List.mem_of_getElem? (i := 825) (by decide +kernel), List.mem_of_getElem? (i := 826) (by decide +kernel)⟩
theorem lw_p39 : lw_okq (⟨"FlagMachine$Moves", "leaveFrame", "()V"⟩, 2) := ⟨⟨by decide +kernel, by decide +kernel⟩, List.mem_of_getElem? (i := 275) (by decide +kernel), List.mem_of_getElem? (i := 829) (by decide +kernel), List.mem_of_getElem? (i := 830) (by decide +kernel)⟩
theorem lw_p40 : lw_okq (⟨"FlagMachine$Moves", "moveString", "(ZZ)V"⟩, 2) := ⟨⟨by decide +kernel, by decide +kernel⟩, List.mem_of_getElem? (i := 275) (by decide +kernel), List.mem_of_getElem? (i := 833) (by decide +kernel), List.mem_of_getElem? (i := 834) (by decide +kernel)⟩
theorem lw_p41 : lw_okq (⟨"FlagMachine$Moves", "valueOfMove", "(I)J"⟩, 2) := ⟨⟨by decide +kernel, by decide +kernel⟩, List.mem_of_getElem? (i := 275) (by decide +kernel), List.mem_of_getElem? (i := 838) (by decide +kernel), List.mem_of_getElem? (i := 839) (by decide +kernel)⟩
theorem lw_p42 : lw_okq (⟨"FlagMachine", "finish", "(I)I"⟩, 10) := ⟨⟨by decide +kernel, by decide +kernel⟩, List.mem_of_getElem? (i := 19) (by decide +kernel), List.mem_of_getElem? (i := 843) (by decide +kernel), List.mem_of_getElem? (i := 844) (by decide +kernel)⟩
theorem lw_p43 : lw_okq (⟨"FlagMachineModel", "anew", "(IIIIII)V"⟩, 41) := ⟨⟨by decide +kernel, by decide +kernel⟩, List.mem_of_getElem? (i := 887) (by decide +kernel), List.mem_of_getElem? (i := 895) (by decide +kernel), List.mem_of_getElem? (i := 896) (by decide +kernel)⟩
theorem lw_p44 : lw_okq (⟨"FlagMachineModel", "setFlags", "(J)V"⟩, 41) := ⟨⟨by decide +kernel, by decide +kernel⟩, List.mem_of_getElem? (i := 887) (by decide +kernel), List.mem_of_getElem? (i := 900) (by decide +kernel), List.mem_of_getElem? (i := 901) (by decide +kernel)⟩
theorem lw_p45 : lw_okq (⟨"FlagMachineModel", "isSound", "()Z"⟩, 41) := ⟨⟨by decide +kernel, by decide +kernel⟩, List.mem_of_getElem? (i := 887) (by decide +kernel), List.mem_of_getElem? (i := 1062) (by decide +kernel), List.mem_of_getElem? (i := 1063) (by decide +kernel)⟩
theorem lw_p46 : lw_okq (⟨"FlagMachineModel", "sizeFits", "()Z"⟩, 41) := ⟨⟨by decide +kernel, by decide +kernel⟩, List.mem_of_getElem? (i := 887) (by decide +kernel), List.mem_of_getElem? (i := 1066) (by decide +kernel), List.mem_of_getElem? (i := 1067) (by decide +kernel)⟩
theorem lw_p47 : lw_okq (⟨"FlagMachineModel", "operandsFit", "()Z"⟩, 41) := ⟨⟨by decide +kernel, by decide +kernel⟩, List.mem_of_getElem? (i := 887) (by decide +kernel), List.mem_of_getElem? (i := 1070) (by decide +kernel), List.mem_of_getElem? (i := 1071) (by decide +kernel)⟩
def lw_privs_3 : List (MethodName × Nat) := [(⟨"FlagMachine$Moves", "target", "()J"⟩, 2), (⟨"FlagMachine$Moves", "jump", "(J)V"⟩, 2), (⟨"FlagMachine$Moves", "call", "(J)V"⟩, 2), (⟨"FlagMachine$Moves", "comeBack", "()V"⟩, 2), (⟨"FlagMachine$Flags", "pairHolds", "(I)Z"⟩, 5), (⟨"FlagMachine$Moves", "valueIfCondition", "()J"⟩, 2), (⟨"FlagMachine$Moves", "move", "(J)V"⟩, 2), (⟨"FlagMachine$Moves", "leaveFrame", "()V"⟩, 2), (⟨"FlagMachine$Moves", "moveString", "(ZZ)V"⟩, 2), (⟨"FlagMachine$Moves", "valueOfMove", "(I)J"⟩, 2), (⟨"FlagMachine", "finish", "(I)I"⟩, 10), (⟨"FlagMachineModel", "anew", "(IIIIII)V"⟩, 41), (⟨"FlagMachineModel", "setFlags", "(J)V"⟩, 41), (⟨"FlagMachineModel", "isSound", "()Z"⟩, 41), (⟨"FlagMachineModel", "sizeFits", "()Z"⟩, 41), (⟨"FlagMachineModel", "operandsFit", "()Z"⟩, 41)]
theorem lw_r3 : ∀ q ∈ lw_privs_3, lw_okq q := List.forall_mem_cons.mpr ⟨lw_p32, List.forall_mem_cons.mpr ⟨lw_p33, List.forall_mem_cons.mpr ⟨lw_p34, List.forall_mem_cons.mpr ⟨lw_p35, List.forall_mem_cons.mpr ⟨lw_p36, List.forall_mem_cons.mpr ⟨lw_p37, List.forall_mem_cons.mpr ⟨lw_p38, List.forall_mem_cons.mpr ⟨lw_p39, List.forall_mem_cons.mpr ⟨lw_p40, List.forall_mem_cons.mpr ⟨lw_p41, List.forall_mem_cons.mpr ⟨lw_p42, List.forall_mem_cons.mpr ⟨lw_p43, List.forall_mem_cons.mpr ⟨lw_p44, List.forall_mem_cons.mpr ⟨lw_p45, List.forall_mem_cons.mpr ⟨lw_p46, List.forall_mem_cons.mpr ⟨lw_p47, fun _ h => absurd h List.not_mem_nil⟩⟩⟩⟩⟩⟩⟩⟩⟩⟩⟩⟩⟩⟩⟩⟩
theorem lw_p48 : lw_okq (⟨"FlagMachineModel", "isEither", "(I)Z"⟩, 41) := ⟨⟨by decide +kernel, by decide +kernel⟩, List.mem_of_getElem? (i := 887) (by decide +kernel), List.mem_of_getElem? (i := 1074) (by decide +kernel), List.mem_of_getElem? (i := 1075) (by decide +kernel)⟩
theorem lw_p49 : lw_okq (⟨"FlagMachineModel", "isPlain", "(I)Z"⟩, 41) := ⟨⟨by decide +kernel, by decide +kernel⟩, List.mem_of_getElem? (i := 887) (by decide +kernel), List.mem_of_getElem? (i := 1078) (by decide +kernel), List.mem_of_getElem? (i := 1079) (by decide +kernel)⟩
theorem lw_p50 : lw_okq (⟨"FlagMachineModel", "isNumber", "(IJJ)Z"⟩, 41) := ⟨⟨by decide +kernel, by decide +kernel⟩, List.mem_of_getElem? (i := 887) (by decide +kernel), List.mem_of_getElem? (i := 1084) (by decide +kernel), List.mem_of_getElem? (i := 1085) (by decide +kernel)⟩
theorem lw_p51 : lw_okq (⟨"FlagMachineModel", "memoryFits", "()Z"⟩, 41) := ⟨⟨by decide +kernel, by decide +kernel⟩, List.mem_of_getElem? (i := 887) (by decide +kernel), List.mem_of_getElem? (i := 1092) (by decide +kernel), List.mem_of_getElem? (i := 1093) (by decide +kernel)⟩
theorem lw_p52 : lw_okq (⟨"FlagMachineModel", "flags", "()J"⟩, 41) := ⟨⟨by decide +kernel, by decide +kernel⟩, List.mem_of_getElem? (i := 887) (by decide +kernel), List.mem_of_getElem? (i := 1096) (by decide +kernel), List.mem_of_getElem? (i := 1097) (by decide +kernel)⟩
theorem lw_p53 : lw_okq (⟨"FlagMachineModel", "addressNow", "()J"⟩, 41) := ⟨⟨by decide +kernel, by decide +kernel⟩, List.mem_of_getElem? (i := 887) (by decide +kernel), List.mem_of_getElem? (i := 1101) (by decide +kernel), List.mem_of_getElem? (i := 1102) (by decide +kernel)⟩
theorem lw_p54 : lw_okq (⟨"FlagMachineModel", "perform", "()V"⟩, 41) := ⟨⟨by decide +kernel, by decide +kernel⟩, List.mem_of_getElem? (i := 887) (by decide +kernel), List.mem_of_getElem? (i := 1105) (by decide +kernel), List.mem_of_getElem? (i := 1106) (by decide +kernel)⟩
theorem lw_p55 : lw_okq (⟨"FlagMachineModel", "arithmetic", "(II)V"⟩, 41) := ⟨⟨by decide +kernel, by decide +kernel⟩, List.mem_of_getElem? (i := 887) (by decide +kernel), List.mem_of_getElem? (i := 1109) (by decide +kernel), List.mem_of_getElem? (i := 1110) (by decide +kernel)⟩
theorem lw_p56 : lw_okq (⟨"FlagMachineModel", "take", "(II)J"⟩, 41) := ⟨⟨by decide +kernel, by decide +kernel⟩, List.mem_of_getElem? (i := 887) (by decide +kernel), List.mem_of_getElem? (i := 1113) (by decide +kernel), List.mem_of_getElem? (i := 1114) (by decide +kernel)⟩
theorem lw_p57 : lw_okq (⟨"FlagMachineModel", "kindAt", "(I)I"⟩, 41) := ⟨⟨by decide +kernel, by decide +kernel⟩, List.mem_of_getElem? (i := 887) (by decide +kernel), List.mem_of_getElem? (i := 1117) (by decide +kernel), List.mem_of_getElem? (i := 1118) (by decide +kernel)⟩
theorem lw_p58 : lw_okq (⟨"FlagMachineModel", "registerAt", "(I)I"⟩, 41) := ⟨⟨by decide +kernel, by decide +kernel⟩, List.mem_of_getElem? (i := 887) (by decide +kernel), List.mem_of_getElem? (i := 1121) (by decide +kernel), List.mem_of_getElem? (i := 1122) (by decide +kernel)⟩
theorem lw_p59 : lw_okq (⟨"FlagMachineModel", "load", "(JI)J"⟩, 41) := ⟨⟨by decide +kernel, by decide +kernel⟩, List.mem_of_getElem? (i := 887) (by decide +kernel), List.mem_of_getElem? (i := 1129) (by decide +kernel), List.mem_of_getElem? (i := 1130) (by decide +kernel)⟩
theorem lw_p60 : lw_okq (⟨"FlagMachineModel", "find", "(JZ)I"⟩, 41) := ⟨⟨by decide +kernel, by decide +kernel⟩, List.mem_of_getElem? (i := 887) (by decide +kernel), List.mem_of_getElem? (i := 1133) (by decide +kernel), List.mem_of_getElem? (i := 1134) (by decide +kernel)⟩
theorem lw_p61 : lw_okq (⟨"FlagMachineModel", "heapBegin", "()J"⟩, 41) := ⟨⟨by decide +kernel, by decide +kernel⟩, List.mem_of_getElem? (i := 887) (by decide +kernel), List.mem_of_getElem? (i := 1137) (by decide +kernel), List.mem_of_getElem? (i := 1138) (by decide +kernel)⟩
theorem lw_p62 : lw_okq (⟨"FlagMachineModel", "stopWith", "(IJ)V"⟩, 41) := ⟨⟨by decide +kernel, by decide +kernel⟩, List.mem_of_getElem? (i := 887) (by decide +kernel), List.mem_of_getElem? (i := 1145) (by decide +kernel), List.mem_of_getElem? (i := 1146) (by decide +kernel)⟩
theorem lw_p63 : lw_okq (⟨"FlagMachineModel", "byteAtPlace", "(I)I"⟩, 41) := ⟨⟨by decide +kernel, by decide +kernel⟩, List.mem_of_getElem? (i := 887) (by decide +kernel), List.mem_of_getElem? (i := 1149) (by decide +kernel), List.mem_of_getElem? (i := 1150) (by decide +kernel)⟩
def lw_privs_4 : List (MethodName × Nat) := [(⟨"FlagMachineModel", "isEither", "(I)Z"⟩, 41), (⟨"FlagMachineModel", "isPlain", "(I)Z"⟩, 41), (⟨"FlagMachineModel", "isNumber", "(IJJ)Z"⟩, 41), (⟨"FlagMachineModel", "memoryFits", "()Z"⟩, 41), (⟨"FlagMachineModel", "flags", "()J"⟩, 41), (⟨"FlagMachineModel", "addressNow", "()J"⟩, 41), (⟨"FlagMachineModel", "perform", "()V"⟩, 41), (⟨"FlagMachineModel", "arithmetic", "(II)V"⟩, 41), (⟨"FlagMachineModel", "take", "(II)J"⟩, 41), (⟨"FlagMachineModel", "kindAt", "(I)I"⟩, 41), (⟨"FlagMachineModel", "registerAt", "(I)I"⟩, 41), (⟨"FlagMachineModel", "load", "(JI)J"⟩, 41), (⟨"FlagMachineModel", "find", "(JZ)I"⟩, 41), (⟨"FlagMachineModel", "heapBegin", "()J"⟩, 41), (⟨"FlagMachineModel", "stopWith", "(IJ)V"⟩, 41), (⟨"FlagMachineModel", "byteAtPlace", "(I)I"⟩, 41)]
theorem lw_r4 : ∀ q ∈ lw_privs_4, lw_okq q := List.forall_mem_cons.mpr ⟨lw_p48, List.forall_mem_cons.mpr ⟨lw_p49, List.forall_mem_cons.mpr ⟨lw_p50, List.forall_mem_cons.mpr ⟨lw_p51, List.forall_mem_cons.mpr ⟨lw_p52, List.forall_mem_cons.mpr ⟨lw_p53, List.forall_mem_cons.mpr ⟨lw_p54, List.forall_mem_cons.mpr ⟨lw_p55, List.forall_mem_cons.mpr ⟨lw_p56, List.forall_mem_cons.mpr ⟨lw_p57, List.forall_mem_cons.mpr ⟨lw_p58, List.forall_mem_cons.mpr ⟨lw_p59, List.forall_mem_cons.mpr ⟨lw_p60, List.forall_mem_cons.mpr ⟨lw_p61, List.forall_mem_cons.mpr ⟨lw_p62, List.forall_mem_cons.mpr ⟨lw_p63, fun _ h => absurd h List.not_mem_nil⟩⟩⟩⟩⟩⟩⟩⟩⟩⟩⟩⟩⟩⟩⟩⟩
theorem lw_p64 : lw_okq (⟨"FlagMachineModel", "add", "(JJZI)J"⟩, 41) := ⟨⟨by decide +kernel, by decide +kernel⟩, List.mem_of_getElem? (i := 887) (by decide +kernel), List.mem_of_getElem? (i := 1154) (by decide +kernel), List.mem_of_getElem? (i := 1155) (by decide +kernel)⟩
theorem lw_p65 : lw_okq (⟨"FlagMachineModel", "zsp", "(JI)V"⟩, 41) := ⟨⟨by decide +kernel, by decide +kernel⟩, List.mem_of_getElem? (i := 887) (by decide +kernel), List.mem_of_getElem? (i := 1165) (by decide +kernel), List.mem_of_getElem? (i := 1166) (by decide +kernel)⟩
theorem lw_p66 : lw_okq (⟨"FlagMachineModel", "subtract", "(JJZI)J"⟩, 41) := ⟨⟨by decide +kernel, by decide +kernel⟩, List.mem_of_getElem? (i := 887) (by decide +kernel), List.mem_of_getElem? (i := 1169) (by decide +kernel), List.mem_of_getElem? (i := 1170) (by decide +kernel)⟩
theorem lw_p67 : lw_okq (⟨"FlagMachineModel", "put", "(IIJ)V"⟩, 41) := ⟨⟨by decide +kernel, by decide +kernel⟩, List.mem_of_getElem? (i := 887) (by decide +kernel), List.mem_of_getElem? (i := 1173) (by decide +kernel), List.mem_of_getElem? (i := 1174) (by decide +kernel)⟩
theorem lw_p68 : lw_okq (⟨"FlagMachineModel", "setRegister", "(IIJ)V"⟩, 41) := ⟨⟨by decide +kernel, by decide +kernel⟩, List.mem_of_getElem? (i := 887) (by decide +kernel), List.mem_of_getElem? (i := 1177) (by decide +kernel), List.mem_of_getElem? (i := 1178) (by decide +kernel)⟩
theorem lw_p69 : lw_okq (⟨"FlagMachineModel", "store", "(JIJ)V"⟩, 41) := ⟨⟨by decide +kernel, by decide +kernel⟩, List.mem_of_getElem? (i := 887) (by decide +kernel), List.mem_of_getElem? (i := 1182) (by decide +kernel), List.mem_of_getElem? (i := 1183) (by decide +kernel)⟩
theorem lw_p70 : lw_okq (⟨"FlagMachineModel", "setPlace", "(II)V"⟩, 41) := ⟨⟨by decide +kernel, by decide +kernel⟩, List.mem_of_getElem? (i := 887) (by decide +kernel), List.mem_of_getElem? (i := 1186) (by decide +kernel), List.mem_of_getElem? (i := 1187) (by decide +kernel)⟩
theorem lw_p71 : lw_okq (⟨"FlagMachineModel", "moves", "(II)V"⟩, 41) := ⟨⟨by decide +kernel, by decide +kernel⟩, List.mem_of_getElem? (i := 887) (by decide +kernel), List.mem_of_getElem? (i := 1190) (by decide +kernel), List.mem_of_getElem? (i := 1191) (by decide +kernel)⟩
theorem lw_p72 : lw_okq (⟨"FlagMachineModel", "single", "(II)V"⟩, 41) := ⟨⟨by decide +kernel, by decide +kernel⟩, List.mem_of_getElem? (i := 887) (by decide +kernel), List.mem_of_getElem? (i := 1197) (by decide +kernel), List.mem_of_getElem? (i := 1198) (by decide +kernel)⟩
theorem lw_p73 : lw_okq (⟨"FlagMachineModel", "multiply", "(ZI)V"⟩, 41) := ⟨⟨by decide +kernel, by decide +kernel⟩, List.mem_of_getElem? (i := 887) (by decide +kernel), List.mem_of_getElem? (i := 1202) (by decide +kernel), List.mem_of_getElem? (i := 1203) (by decide +kernel)⟩
theorem lw_p74 : lw_okq (⟨"FlagMachineModel", "divide", "(ZI)V"⟩, 41) := ⟨⟨by decide +kernel, by decide +kernel⟩, List.mem_of_getElem? (i := 887) (by decide +kernel), List.mem_of_getElem? (i := 1213) (by decide +kernel), List.mem_of_getElem? (i := 1214) (by decide +kernel)⟩
theorem lw_p75 : lw_okq (⟨"FlagMachineModel", "divideSmall", "(ZIJ)V"⟩, 41) := ⟨⟨by decide +kernel, by decide +kernel⟩, List.mem_of_getElem? (i := 887) (by decide +kernel), List.mem_of_getElem? (i := 1217) (by decide +kernel), List.mem_of_getElem? (i := 1218) (by decide +kernel)⟩
theorem lw_p76 : lw_okq (⟨"FlagMachineModel", "product", "(I)V"⟩, 41) := ⟨⟨by decide +kernel, by decide +kernel⟩, List.mem_of_getElem? (i := 887) (by decide +kernel), List.mem_of_getElem? (i := 1221) (by decide +kernel), List.mem_of_getElem? (i := 1222) (by decide +kernel)⟩
theorem lw_p77 : lw_okq (⟨"FlagMachineModel", "shift", "(II)V"⟩, 41) := ⟨⟨by decide +kernel, by decide +kernel⟩, List.mem_of_getElem? (i := 887) (by decide +kernel), List.mem_of_getElem? (i := 1225) (by decide +kernel), List.mem_of_getElem? (i := 1226) (by decide +kernel)⟩
theorem lw_p78 : lw_okq (⟨"FlagMachineModel", "goes", "(I)V"⟩, 41) := ⟨⟨by decide +kernel, by decide +kernel⟩, List.mem_of_getElem? (i := 887) (by decide +kernel), List.mem_of_getElem? (i := 1229) (by decide +kernel), List.mem_of_getElem? (i := 1230) (by decide +kernel)⟩
theorem lw_p79 : lw_okq (⟨"FlagMachineModel", "push", "(J)V"⟩, 41) := ⟨⟨by decide +kernel, by decide +kernel⟩, List.mem_of_getElem? (i := 887) (by decide +kernel), List.mem_of_getElem? (i := 1233) (by decide +kernel), List.mem_of_getElem? (i := 1234) (by decide +kernel)⟩
def lw_privs_5 : List (MethodName × Nat) := [(⟨"FlagMachineModel", "add", "(JJZI)J"⟩, 41), (⟨"FlagMachineModel", "zsp", "(JI)V"⟩, 41), (⟨"FlagMachineModel", "subtract", "(JJZI)J"⟩, 41), (⟨"FlagMachineModel", "put", "(IIJ)V"⟩, 41), (⟨"FlagMachineModel", "setRegister", "(IIJ)V"⟩, 41), (⟨"FlagMachineModel", "store", "(JIJ)V"⟩, 41), (⟨"FlagMachineModel", "setPlace", "(II)V"⟩, 41), (⟨"FlagMachineModel", "moves", "(II)V"⟩, 41), (⟨"FlagMachineModel", "single", "(II)V"⟩, 41), (⟨"FlagMachineModel", "multiply", "(ZI)V"⟩, 41), (⟨"FlagMachineModel", "divide", "(ZI)V"⟩, 41), (⟨"FlagMachineModel", "divideSmall", "(ZIJ)V"⟩, 41), (⟨"FlagMachineModel", "product", "(I)V"⟩, 41), (⟨"FlagMachineModel", "shift", "(II)V"⟩, 41), (⟨"FlagMachineModel", "goes", "(I)V"⟩, 41), (⟨"FlagMachineModel", "push", "(J)V"⟩, 41)]
theorem lw_r5 : ∀ q ∈ lw_privs_5, lw_okq q := List.forall_mem_cons.mpr ⟨lw_p64, List.forall_mem_cons.mpr ⟨lw_p65, List.forall_mem_cons.mpr ⟨lw_p66, List.forall_mem_cons.mpr ⟨lw_p67, List.forall_mem_cons.mpr ⟨lw_p68, List.forall_mem_cons.mpr ⟨lw_p69, List.forall_mem_cons.mpr ⟨lw_p70, List.forall_mem_cons.mpr ⟨lw_p71, List.forall_mem_cons.mpr ⟨lw_p72, List.forall_mem_cons.mpr ⟨lw_p73, List.forall_mem_cons.mpr ⟨lw_p74, List.forall_mem_cons.mpr ⟨lw_p75, List.forall_mem_cons.mpr ⟨lw_p76, List.forall_mem_cons.mpr ⟨lw_p77, List.forall_mem_cons.mpr ⟨lw_p78, List.forall_mem_cons.mpr ⟨lw_p79, fun _ h => absurd h List.not_mem_nil⟩⟩⟩⟩⟩⟩⟩⟩⟩⟩⟩⟩⟩⟩⟩⟩
theorem lw_p80 : lw_okq (⟨"FlagMachineModel", "pop", "()J"⟩, 41) := ⟨⟨by decide +kernel, by decide +kernel⟩, List.mem_of_getElem? (i := 887) (by decide +kernel), List.mem_of_getElem? (i := 1238) (by decide +kernel), List.mem_of_getElem? (i := 1239) (by decide +kernel)⟩
theorem lw_p81 : lw_okq (⟨"FlagMachineModel", "isMet", "(I)Z"⟩, 41) := ⟨⟨by decide +kernel, by decide +kernel⟩, List.mem_of_getElem? (i := 887) (by decide +kernel), List.mem_of_getElem? (i := 1242) (by decide +kernel), List.mem_of_getElem? (i := 1243) (by decide +kernel)⟩
theorem lw_p82 : lw_okq (⟨"FlagMachineModel", "choose", "(I)V"⟩, 41) := ⟨⟨by decide +kernel, by decide +kernel⟩, List.mem_of_getElem? (i := 887) (by decide +kernel), List.mem_of_getElem? (i := 1246) (by decide +kernel), List.mem_of_getElem? (i := 1247) (by decide +kernel)⟩
theorem lw_p83 : lw_okq (⟨"FlagMachineModel", "spread", "(II)V"⟩, 41) := ⟨⟨by decide +kernel, by decide +kernel⟩, List.mem_of_getElem? (i := 887) (by decide +kernel), List.mem_of_getElem? (i := 1250) (by decide +kernel), List.mem_of_getElem? (i := 1251) (by decide +kernel)⟩
theorem lw_p84 : lw_okq (⟨"FlagMachineModel", "service", "()V"⟩, 41) := ⟨⟨by decide +kernel, by decide +kernel⟩, List.mem_of_getElem? (i := 887) (by decide +kernel), List.mem_of_getElem? (i := 1254) (by decide +kernel), List.mem_of_getElem? (i := 1255) (by decide +kernel)⟩
theorem lw_p85 : lw_okq (⟨"FlagMachineModel", "may", "(JJZ)Z"⟩, 41) := ⟨⟨by decide +kernel, by decide +kernel⟩, List.mem_of_getElem? (i := 887) (by decide +kernel), List.mem_of_getElem? (i := 1258) (by decide +kernel), List.mem_of_getElem? (i := 1259) (by decide +kernel)⟩
theorem lw_p86 : lw_okq (⟨"FlagMachineModel", "bits", "(II)V"⟩, 41) := ⟨⟨by decide +kernel, by decide +kernel⟩, List.mem_of_getElem? (i := 887) (by decide +kernel), List.mem_of_getElem? (i := 1268) (by decide +kernel), List.mem_of_getElem? (i := 1269) (by decide +kernel)⟩
theorem lw_p87 : lw_okq (⟨"FlagMachineModel", "together", "(II)V"⟩, 41) := ⟨⟨by decide +kernel, by decide +kernel⟩, List.mem_of_getElem? (i := 887) (by decide +kernel), List.mem_of_getElem? (i := 1272) (by decide +kernel), List.mem_of_getElem? (i := 1273) (by decide +kernel)⟩
theorem lw_p88 : lw_okq (⟨"FlagMachineModel", "strings", "(II)V"⟩, 41) := ⟨⟨by decide +kernel, by decide +kernel⟩, List.mem_of_getElem? (i := 887) (by decide +kernel), List.mem_of_getElem? (i := 1276) (by decide +kernel), List.mem_of_getElem? (i := 1277) (by decide +kernel)⟩
def lw_privs_6 : List (MethodName × Nat) := [(⟨"FlagMachineModel", "pop", "()J"⟩, 41), (⟨"FlagMachineModel", "isMet", "(I)Z"⟩, 41), (⟨"FlagMachineModel", "choose", "(I)V"⟩, 41), (⟨"FlagMachineModel", "spread", "(II)V"⟩, 41), (⟨"FlagMachineModel", "service", "()V"⟩, 41), (⟨"FlagMachineModel", "may", "(JJZ)Z"⟩, 41), (⟨"FlagMachineModel", "bits", "(II)V"⟩, 41), (⟨"FlagMachineModel", "together", "(II)V"⟩, 41), (⟨"FlagMachineModel", "strings", "(II)V"⟩, 41)]
theorem lw_r6 : ∀ q ∈ lw_privs_6, lw_okq q := List.forall_mem_cons.mpr ⟨lw_p80, List.forall_mem_cons.mpr ⟨lw_p81, List.forall_mem_cons.mpr ⟨lw_p82, List.forall_mem_cons.mpr ⟨lw_p83, List.forall_mem_cons.mpr ⟨lw_p84, List.forall_mem_cons.mpr ⟨lw_p85, List.forall_mem_cons.mpr ⟨lw_p86, List.forall_mem_cons.mpr ⟨lw_p87, List.forall_mem_cons.mpr ⟨lw_p88, fun _ h => absurd h List.not_mem_nil⟩⟩⟩⟩⟩⟩⟩⟩⟩
def lw_privs : List (MethodName × Nat) := lw_privs_1 ++ (lw_privs_2 ++ (lw_privs_3 ++ (lw_privs_4 ++ (lw_privs_5 ++ (lw_privs_6)))))
def lw_tbl : List Cond := k2_sels lw_privs ++ tables_1
theorem lw_privs_ok : ∀ q ∈ lw_privs, lw_okq q := by
  show ∀ q ∈ lw_privs_1 ++ (lw_privs_2 ++ (lw_privs_3 ++ (lw_privs_4 ++ (lw_privs_5 ++ (lw_privs_6))))), lw_okq q
  exact List.forall_mem_append.mpr ⟨lw_r1, List.forall_mem_append.mpr ⟨lw_r2, List.forall_mem_append.mpr ⟨lw_r3, List.forall_mem_append.mpr ⟨lw_r4, List.forall_mem_append.mpr ⟨lw_r5, lw_r6⟩⟩⟩⟩⟩
end
section
/-! AN ABSTRACT MACHINE. Cells in a list, references are places in it (0: the script; i + 1: cell i); a method's run is a FUNCTION (am_run). Part 03 proves once that what it answers, the machine does (W). All else is said of am_run alone. -/
/-- a cell: an array (tag: 0 int, 1 byte, 2 boolean, 3 long, c + 4 of references to kind c; length; contents), or an object (kind, fields) -/
abbrev am_C : Type := (Nat × Nat × ((Nat → Int32) ⊕ ((Nat → Int64) ⊕ (Nat → Option Nat)))) ⊕ (Nat × List Value)
abbrev am_H : Type := List am_C
abbrev am_L : Type := List (Nat × Value)
/-- an entry of the table: kind, instruction, length, two numbers, a constant, a switch's rows, the locals that live here -/
abbrev am_I : Type := Nat × Jvm.ClassFile.Instr × Nat × Nat × Nat × Value × List (Int32 × Nat) × Option (List Nat)
/-- a method: name, bytes, locals, what it returns, the room that its calls take (frames, words), the number of its kind -/
abbrev am_M : Type := MethodName × ByteArray × Nat × Option FieldType × (Nat × Nat) × Nat
/-- the fields' types by kind and place; the fields of a new object -/
abbrev am_P : Type := (Nat → Nat → FieldType) × (Nat → List Value)
def am_get (h : am_H) (i : Nat) : Option am_C := match i with
  | 0 => none
  | i + 1 => h[i]?
def am_set (h : am_H) (i : Nat) (c : am_C) : am_H := match i with
  | 0 => h
  | i + 1 => h.set i c
def am_rf (r : Option Nat) : Value := match r with
  | none => .null
  | some q => .ref q
def am_ld (lv : am_L) (i : Nat) : Option Value := match lv with
  | [] => none
  | q :: l => bif Nat.beq q.1 i then some q.2 else am_ld l i
def am_ins (i : Nat) (v : Value) : am_L → am_L
  | [] => [(i, v)]
  | q :: l => bif Nat.ble i q.1 then (i, v) :: q :: l else q :: am_ins i v l
def am_st1 (lv : am_L) (i : Nat) (v : Value) : am_L := am_ins i v (lv.filter (fun q => !(q.1 == i) && !(q.1 + 1 == i && q.2.category == 2)))
def am_st2 (lv : am_L) (i : Nat) (v : Value) : am_L := am_ins i v (lv.filter (fun q => !(q.1 == i) && (!(q.1 == i + 1) && !(q.1 + 1 == i && q.2.category == 2))))
def am_live (lm : Option (List Nat)) (lv : am_L) : am_L := match lm with
  | none => lv
  | some m => lv.filter (fun q => m.contains q.1)
/-- values from the stack alone -/
def am_pure (ins : Jvm.ClassFile.Instr) (v : Value) (st : List Value) : Option (List Value) := match ins, st with
  | .aconst_null, st => some (.null :: st)
  | .iconst _, st => some (v :: st)
  | .bipush _, st => some (v :: st)
  | .sipush _, st => some (v :: st)
  | .lconst _, st => some (v :: st)
  | .ldc _, st => some (v :: st)
  | .ldc2_w _, st => some (v :: st)
  | .iadd, .int y :: .int x :: st => some (.int (x + y) :: st)
  | .isub, .int y :: .int x :: st => some (.int (x - y) :: st)
  | .imul, .int y :: .int x :: st => some (.int (x * y) :: st)
  | .iand, .int y :: .int x :: st => some (.int (x &&& y) :: st)
  | .ior, .int y :: .int x :: st => some (.int (x ||| y) :: st)
  | .ixor, .int y :: .int x :: st => some (.int (x ^^^ y) :: st)
  | .idiv, .int y :: .int x :: st => if y = 0 then none else some (.int (x / y) :: st)
  | .irem, .int y :: .int x :: st => if y = 0 then none else some (.int (x - x / y * y) :: st)
  | .ineg, .int x :: st => some (.int (-x) :: st)
  | .ishl, .int y :: .int x :: st => some (.int (x <<< (y &&& 31)) :: st)
  | .ishr, .int y :: .int x :: st => some (.int (x >>> (y &&& 31)) :: st)
  | .iushr, .int y :: .int x :: st => some (.int ((x.toUInt32 >>> (y.toUInt32 &&& Int32.toUInt32 31)).toInt32) :: st)
  | .ladd, .long y :: .long x :: st => some (.long (x + y) :: st)
  | .lsub, .long y :: .long x :: st => some (.long (x - y) :: st)
  | .lmul, .long y :: .long x :: st => some (.long (x * y) :: st)
  | .land, .long y :: .long x :: st => some (.long (x &&& y) :: st)
  | .lor, .long y :: .long x :: st => some (.long (x ||| y) :: st)
  | .lxor, .long y :: .long x :: st => some (.long (x ^^^ y) :: st)
  | .ldiv, .long y :: .long x :: st => if y = 0 then none else some (.long (x / y) :: st)
  | .lrem, .long y :: .long x :: st => if y = 0 then none else some (.long (x - x / y * y) :: st)
  | .lneg, .long x :: st => some (.long (-x) :: st)
  | .lshl, .int y :: .long x :: st => some (.long (x <<< (y.toInt64 &&& 63)) :: st)
  | .lshr, .int y :: .long x :: st => some (.long (x >>> (y.toInt64 &&& 63)) :: st)
  | .lushr, .int y :: .long x :: st => some (.long ((x.toUInt64 >>> (y.toInt64.toUInt64 &&& Int64.toUInt64 63)).toInt64) :: st)
  | .lcmp, .long y :: .long x :: st => some (.int (lg_cmp x y) :: st)
  | .i2l, .int x :: st => some (.long x.toInt64 :: st)
  | .l2i, .long x :: st => some (.int x.toInt32 :: st)
  | .i2b, .int x :: st => some (.int x.toInt8.toInt32 :: st)
  | .i2s, .int x :: st => some (.int x.toInt16.toInt32 :: st)
  | .i2c, .int x :: st => some (.int (x.toUInt32 % 65536).toInt32 :: st)
  | .pop, a :: st => if a.category = 1 then some st else none
  | .dup, a :: st => if a.category = 1 then some (a :: a :: st) else none
  | .dup_x1, a :: b :: st => if a.category = 1 ∧ b.category = 1 then some (a :: b :: a :: st) else none
  | .dup_x2, a :: b :: d :: st => if a.category = 1 ∧ b.category = 1 ∧ d.category = 1 then some (a :: b :: d :: a :: st) else none
  | .pop2, a :: st => if a.category = 2 then some st else none
  | .dup2, a :: st => if a.category = 2 then some (a :: a :: st) else match st with
    | b :: st => if a.category = 1 ∧ b.category = 1 then some (a :: b :: a :: b :: st) else none
    | [] => none
  | .dup2_x1, a :: b :: st => if a.category = 2 ∧ b.category = 1 then some (a :: b :: a :: st) else none
  | .dup2_x2, a :: b :: d :: st => if a.category = 2 ∧ b.category = 1 ∧ d.category = 1 then some (a :: b :: d :: a :: st) else none
  | _, _ => none
/-- locals; nL: how many there are -/
def am_loc (ins : Jvm.ClassFile.Instr) (v : Value) (nL : Nat) (lv : am_L) (st : List Value) : Option (am_L × List Value) := match ins, st with
  | .iload_n k, st => match am_ld lv k with
    | some (.int x) => some (lv, .int x :: st)
    | _ => none
  | .iload k, st => match am_ld lv k with
    | some (.int x) => some (lv, .int x :: st)
    | _ => none
  | .lload_n k, st => match am_ld lv k with
    | some (.long x) => some (lv, .long x :: st)
    | _ => none
  | .lload k, st => match am_ld lv k with
    | some (.long x) => some (lv, .long x :: st)
    | _ => none
  | .aload_n k, st => match am_ld lv k with
    | some (.ref x) => some (lv, .ref x :: st)
    | some .null => some (lv, .null :: st)
    | _ => none
  | .aload k, st => match am_ld lv k with
    | some (.ref x) => some (lv, .ref x :: st)
    | some .null => some (lv, .null :: st)
    | _ => none
  | .istore_n k, .int x :: st => if k < nL then some (am_st1 lv k (.int x), st) else none
  | .istore k, .int x :: st => if k < nL then some (am_st1 lv k (.int x), st) else none
  | .lstore_n k, .long x :: st => if k + 1 < nL then some (am_st2 lv k (.long x), st) else none
  | .lstore k, .long x :: st => if k + 1 < nL then some (am_st2 lv k (.long x), st) else none
  | .astore_n k, .ref x :: st => if k < nL then some (am_st1 lv k (.ref x), st) else none
  | .astore_n k, .null :: st => if k < nL then some (am_st1 lv k .null, st) else none
  | .astore k, .ref x :: st => if k < nL then some (am_st1 lv k (.ref x), st) else none
  | .astore k, .null :: st => if k < nL then some (am_st1 lv k .null, st) else none
  | .iinc k _, st => match v, am_ld lv k with
    | .int d, some (.int x) => if k < nL then some (am_st1 lv k (.int (x + d)), st) else none
    | _, _ => none
  | _, _ => none
def am_sw (d : Nat) (x : Int32) : List (Int32 × Nat) → Nat
  | [] => d
  | q :: r => if x = q.1 then q.2 else am_sw d x r
/-- jumps: t the place named, nx the next one -/
def am_jump (ins : Jvm.ClassFile.Instr) (t nx : Nat) (sw : List (Int32 × Nat)) (st : List Value) : Option (Nat × List Value) := match ins, st with
  | .goto _, st => some (t, st)
  | .ifCond .eq _, .int x :: st => some (if x = 0 then t else nx, st)
  | .ifCond .ne _, .int x :: st => some (if x = 0 then nx else t, st)
  | .ifCond .lt _, .int x :: st => some (if x < 0 then t else nx, st)
  | .ifCond .ge _, .int x :: st => some (if 0 ≤ x then t else nx, st)
  | .ifCond .gt _, .int x :: st => some (if 0 < x then t else nx, st)
  | .ifCond .le _, .int x :: st => some (if x ≤ 0 then t else nx, st)
  | .if_icmp .eq _, .int y :: .int x :: st => some (if x = y then t else nx, st)
  | .if_icmp .ne _, .int y :: .int x :: st => some (if x = y then nx else t, st)
  | .if_icmp .lt _, .int y :: .int x :: st => some (if x < y then t else nx, st)
  | .if_icmp .ge _, .int y :: .int x :: st => some (if y ≤ x then t else nx, st)
  | .if_icmp .gt _, .int y :: .int x :: st => some (if y < x then t else nx, st)
  | .if_icmp .le _, .int y :: .int x :: st => some (if x ≤ y then t else nx, st)
  | .ifnull _, .null :: st => some (t, st)
  | .ifnull _, .ref _ :: st => some (nx, st)
  | .ifnonnull _, .null :: st => some (nx, st)
  | .ifnonnull _, .ref _ :: st => some (t, st)
  | .tableswitch _ _ _ _, .int x :: st => some (am_sw t x sw, st)
  | .lookupswitch _ _, .int x :: st => some (am_sw t x sw, st)
  | _, _ => none
def am_in (j : Int32) (n : Nat) : Bool := !(decide (j < 0)) && decide (j.toNatClampNeg < n)
/-- the heap -/
def am_heap (P : am_P) (L : Nat) (xs : Nat → Int32) (ins : Jvm.ClassFile.Instr) (a1 a2 : Nat) (st : List Value) (h : am_H) : Option (List Value × am_H) := match ins, st with
  | .getfield _, .ref i :: st => match am_get h i with
    | some (.inr (ci, fs)) => if ci = a1 then match fs[a2]? with
      | some v => some (v :: st, h)
      | none => none
      else none
    | _ => none
  | .putfield _, v :: .ref i :: st => match am_get h i with
    | some (.inr (ci, fs)) => if ci = a1 ∧ a2 < fs.length ∧ narrow (P.1 a1 a2) v = v ∧ fits (P.1 a1 a2) v = true then some (st, am_set h i (.inr (ci, fs.set a2 v))) else none
    | _ => none
  | .new _, st => some (.ref (h.length + 1) :: st, h ++ [.inr (a1, P.2 a1)])
  | .newarray .int, .int n :: st => if n < 0 ∨ 1048576 < n.toNatClampNeg then none else some (.ref (h.length + 1) :: st, h ++ [.inl (0, n.toNatClampNeg, .inl (fun _ => 0))])
  | .newarray .byte, .int n :: st => if n < 0 ∨ 1048576 < n.toNatClampNeg then none else some (.ref (h.length + 1) :: st, h ++ [.inl (1, n.toNatClampNeg, .inl (fun _ => 0))])
  | .newarray .boolean, .int n :: st => if n < 0 ∨ 1048576 < n.toNatClampNeg then none else some (.ref (h.length + 1) :: st, h ++ [.inl (2, n.toNatClampNeg, .inl (fun _ => 0))])
  | .newarray .long, .int n :: st => if n < 0 ∨ 1048576 < n.toNatClampNeg then none else some (.ref (h.length + 1) :: st, h ++ [.inl (3, n.toNatClampNeg, .inr (.inl (fun _ => 0)))])
  | .anewarray _, .int n :: st => if n < 0 ∨ 1048576 < n.toNatClampNeg then none else some (.ref (h.length + 1) :: st, h ++ [.inl (a1 + 4, n.toNatClampNeg, .inr (.inr (fun _ => none)))])
  | .arraylength, .ref i :: st => if i = 0 then some (.int (Int32.ofNat L) :: st, h) else match am_get h i with
    | some (.inl (t, n, _)) => if t = a1 then some (.int (Int32.ofNat n) :: st, h) else none
    | _ => none
  | .iaload, .int j :: .ref i :: st => if i = 0 then (if am_in j L = true then some (.int (xs j.toNatClampNeg) :: st, h) else none) else match am_get h i with
    | some (.inl (t, n, .inl f)) => if t = 0 ∧ am_in j n = true then some (.int (f j.toNatClampNeg) :: st, h) else none
    | _ => none
  | .baload, .int j :: .ref i :: st => match am_get h i with
    | some (.inl (t, n, .inl f)) => if t = a1 ∧ am_in j n = true then some (.int (f j.toNatClampNeg) :: st, h) else none
    | _ => none
  | .laload, .int j :: .ref i :: st => match am_get h i with
    | some (.inl (t, n, .inr (.inl f))) => if t = 3 ∧ am_in j n = true then some (.long (f j.toNatClampNeg) :: st, h) else none
    | _ => none
  | .aaload, .int j :: .ref i :: st => match am_get h i with
    | some (.inl (t, n, .inr (.inr f))) => if t = a1 + 4 ∧ am_in j n = true then some (am_rf (f j.toNatClampNeg) :: st, h) else none
    | _ => none
  | .iastore, .int x :: .int j :: .ref i :: st => match am_get h i with
    | some (.inl (t, n, .inl f)) => if t = 0 ∧ am_in j n = true then some (st, am_set h i (.inl (t, n, .inl (upd f j.toNatClampNeg x)))) else none
    | _ => none
  | .bastore, .int x :: .int j :: .ref i :: st => match am_get h i with
    | some (.inl (t, n, .inl f)) => if t = a1 ∧ am_in j n = true then some (st, am_set h i (.inl (t, n, .inl (upd f j.toNatClampNeg (vp_nar (if a1 = 1 then .byte else .boolean) x))))) else none
    | _ => none
  | .lastore, .long x :: .int j :: .ref i :: st => match am_get h i with
    | some (.inl (t, n, .inr (.inl f))) => if t = 3 ∧ am_in j n = true then some (st, am_set h i (.inl (t, n, .inr (.inl (vp_updL f j.toNatClampNeg x))))) else none
    | _ => none
  | .aastore, .ref w :: .int j :: .ref i :: st => match am_get h i, am_get h w with
    | some (.inl (t, n, .inr (.inr f))), some (.inr (ci, _)) => if t = ci + 4 ∧ ci = a1 ∧ am_in j n = true then some (st, am_set h i (.inl (t, n, .inr (.inr (va_up f j.toNatClampNeg (some w)))))) else none
    | _, _ => none
  | .invokespecial _, .ref _ :: st => if (st.map fun v => v.category).sum ≤ 8 then some (st, h) else none
  | .invokestatic _, .int n :: .int dp :: st => if a1 = 1 then (if (st.map fun v => v.category).sum ≤ 8 then some (.int (if dp < n then n else dp) :: st, h) else none) else if a1 = 2 then (if (st.map fun v => v.category).sum ≤ 8 then some (.int (if n < dp then n else dp) :: st, h) else none) else match st with
    | .ref d :: .int sp :: .ref sr :: st => match am_get h sr, am_get h d with
      | some (.inl (t0, n0, .inl f)), some (.inl (t1, n1, .inl g)) => if t0 = 1 ∧ t1 = 1 ∧ ¬ sp < 0 ∧ ¬ dp < 0 ∧ ¬ n < 0 ∧ sp.toNatClampNeg + n.toNatClampNeg ≤ n0 ∧ dp.toNatClampNeg + n.toNatClampNeg ≤ n1 ∧ (st.map fun v => v.category).sum ≤ 8 ∧ (∀ i, i < n.toNatClampNeg → fits .byte (.int (f (sp.toNatClampNeg + i))) = true) then some (st, am_set h d (.inl (t1, n1, .inl (va_cpy f g sp.toNatClampNeg dp.toNatClampNeg n.toNatClampNeg)))) else none
      | _, _ => none
    | _ => none
  | _, _ => none
/-- a call: the arguments, the rest of the stack -/
def am_call (ins : Jvm.ClassFile.Instr) (ci mL a2 : Nat) (st : List Value) (h : am_H) : Option (List Value × List Value) :=
  if a2 ≤ st.length ∧ ((st.drop a2).map fun v => v.category).sum ≤ 8 ∧ (((st.take a2).reverse).map fun v => v.category).sum ≤ mL then match ins, (st.take a2).reverse with
    | .invokestatic _, as => some (as, st.drop a2)
    | .invokespecial _, .ref i :: as => some (.ref i :: as, st.drop a2)
    | .invokevirtual _, .ref i :: as => match am_get h i with
      | some (.inr (cj, _)) => if cj = ci then some (.ref i :: as, st.drop a2) else none
      | _ => none
    | _, _ => none
  else none
def am_ret (ins : Jvm.ClassFile.Instr) (rt : Option FieldType) (st : List Value) : Option (Option Value) := match ins, rt, st with
  | .ireturn, some ty, [.int v] => if narrow ty (.int v) = .int v then some (some (.int v)) else none
  | .lreturn, some .long, [.long v] => some (some (.long v))
  | .areturn, some (.object _), [.ref v] => some (some (.ref v))
  | .areturn, some (.object _), [.null] => some (some .null)
  | .areturn, some (.array _), [.ref v] => some (some (.ref v))
  | .areturn, some (.array _), [.null] => some (some .null)
  | .return_, none, [] => some none
  | _, _, _ => none
/-- THE RUN of a method from a place on, with fuel -/
def am_run (P : am_P) (T : Nat → Nat → Option am_I) (mt : Nat → am_M) (L : Nat) (xs : Nat → Int32) : Nat → Nat → Nat → am_L → List Value → am_H → Option (Option Value × am_H)
  | 0, _, _, _, _, _ => none
  | n + 1, mi, pc, lv, st, h => match T mi pc with
    | none => none
    | some (k, ins, len, a1, a2, v, sw, lm) => match k with
      | 0 => match am_pure ins v st with
        | none => none
        | some st' => am_run P T mt L xs n mi (pc + len) (am_live lm lv) st' h
      | 1 => match am_loc ins v (mt mi).2.2.1 (am_live lm lv) st with
        | none => none
        | some (lv', st') => am_run P T mt L xs n mi (pc + len) lv' st' h
      | 2 => match am_jump ins a1 (pc + len) sw st with
        | none => none
        | some (pc', st') => am_run P T mt L xs n mi pc' (am_live lm lv) st' h
      | 3 => match am_heap P L xs ins a1 a2 st h with
        | none => none
        | some (st', h') => am_run P T mt L xs n mi (pc + len) (am_live lm lv) st' h'
      | 4 => match am_call ins (mt a1).2.2.2.2.2 (mt a1).2.2.1 a2 st h with
        | none => none
        | some (as, st') => match am_run P T mt L xs n a1 0 (lv_args 0 as) [] h with
          | none => none
          | some (rv, h') => am_run P T mt L xs n mi (pc + len) (am_live lm lv) (rv.toList ++ st') h'
      | _ => match am_ret ins (mt mi).2.2.2.1 st with
        | none => none
        | some rv => some (rv, h)
end
section
/-! THE ABSTRACT MACHINE IS SOUND: what am_run answers, the machine does (W). b: the script's cell, sz: the heap's size when the law began, dA: the id of each kind of array -/
def am_ad (b sz : Nat) : Nat → Nat
  | 0 => b
  | i + 1 => sz + i
def am_tv (b sz : Nat) (v : Value) : Value := match v with
  | .ref i => .ref (am_ad b sz i)
  | v => v
def am_enc (b sz : Nat) (dA : Nat → ClassId) (c : am_C) : va_E := match c with
  | .inl (t, n, .inl f) => .inl (dA t, n, .inl f)
  | .inl (t, n, .inr (.inl f)) => .inl (dA t, n, .inr (.inl f))
  | .inl (t, n, .inr (.inr f)) => .inl (dA t, n, .inr (.inr (.inr (.inr (fun k => (f k).map (am_ad b sz))))))
  | .inr (ci, fs) => .inr (ci, fs.map (am_tv b sz))
def am_wsF (b sz : Nat) (dA : Nat → ClassId) : Nat → am_H → va_W
  | _, [] => []
  | k, c :: r => (k, am_enc b sz dA c) :: am_wsF b sz dA (k + 1) r
abbrev am_ws (b sz : Nat) (dA : Nat → ClassId) (h : am_H) : va_W := am_wsF b sz dA sz h
section AMW
variable {b sz : Nat} {dA : Nat → ClassId}
theorem am_wsF_get (h : am_H) : ∀ (k i : Nat), (am_wsF b sz dA k h)[i]? = h[i]?.map (fun c => (k + i, am_enc b sz dA c)) := by
  induction h with
  | nil => intro k i; simp [am_wsF]
  | cons c r ih =>
    intro k i
    cases i with
    | zero => simp [am_wsF]
    | succ i =>
      simp only [am_wsF, List.getElem?_cons_succ]
      rw [ih (k + 1) i, show k + 1 + i = k + (i + 1) by omega]
theorem am_ws_get {h : am_H} {i : Nat} {c : am_C} (hc : h[i]? = some c) : (am_ws b sz dA h)[i]? = some (sz + i, am_enc b sz dA c) := by
  rw [am_wsF_get, hc]; rfl
theorem am_wsF_set (h : am_H) (c : am_C) : ∀ (k i : Nat), am_wsF b sz dA k (h.set i c) = (am_wsF b sz dA k h).set i (k + i, am_enc b sz dA c) := by
  induction h with
  | nil => intro k i; simp [am_wsF]
  | cons d r ih =>
    intro k i
    cases i with
    | zero => simp [am_wsF]
    | succ i =>
      simp only [List.set_cons_succ, am_wsF]
      rw [ih (k + 1) i, show k + 1 + i = k + (i + 1) by omega]
theorem am_wsF_app (h : am_H) (c : am_C) : ∀ k : Nat, am_wsF b sz dA k (h ++ [c]) = am_wsF b sz dA k h ++ [(k + h.length, am_enc b sz dA c)] := by
  induction h with
  | nil => intro k; simp [am_wsF]
  | cons d r ih =>
    intro k
    simp only [List.cons_append, am_wsF, List.length_cons]
    rw [ih (k + 1), show k + 1 + r.length = k + (r.length + 1) by omega]
theorem am_ws_D (h : am_H) : va_D (fun q : Nat => sz ≤ q) (am_ws b sz dA h) := by
  have key : ∀ (i : Nat) (q : Nat × va_E), (am_ws b sz dA h)[i]? = some q → q.1 = sz + i := by
    intro i q hq
    rw [am_wsF_get] at hq
    cases hc : h[i]? with
    | none => rw [hc] at hq; cases hq
    | some c => rw [hc] at hq; cases hq; rfl
  refine ⟨fun i j p q hi hj hpq => ?_, fun k q hk => ?_⟩
  · have h1 := key i p hi
    have h2 := key j q hj
    omega
  · have h1 := key k q hk
    show sz ≤ q.1
    omega
theorem am_ws_len (h : am_H) : ∀ k, (am_wsF b sz dA k h).length = h.length := by
  induction h with
  | nil => intro k; rfl
  | cons c r ih => intro k; simp [am_wsF, ih]
theorem am_tv_cat (v : Value) : (am_tv b sz v).category = v.category := by cases v <;> rfl
theorem am_tv_nar {ty : FieldType} {v : Value} (h : narrow ty v = v) : narrow ty (am_tv b sz v) = am_tv b sz v := by
  cases v with
  | ref i => cases ty <;> rfl
  | _ => exact h
theorem am_tv_fits {ty : FieldType} {v : Value} (h : fits ty v = true) : fits ty (am_tv b sz v) = true := by
  cases v with
  | ref i => cases ty <;> first | exact h | (simp [fits] at h)
  | _ => exact h
theorem am_tv_rf (r : Option Nat) : am_tv b sz (am_rf r) = va_rf (r.map (am_ad b sz)) := by cases r <;> rfl
theorem am_sum_tv (st : List Value) : ((st.map (am_tv b sz)).map fun v => v.category).sum = (st.map fun v => v.category).sum := by
  rw [List.map_map]
  congr 1
  apply List.map_congr_left
  intro v _
  exact am_tv_cat v
/-- locals -/
abbrev am_lvT (b sz : Nat) (lv : am_L) : am_L := lv.map (fun q => (q.1, am_tv b sz q.2))
theorem am_ld_mem : ∀ {lv : am_L} {i : Nat} {v : Value}, am_ld lv i = some v → (i, v) ∈ lv
  | [], i, v, h => by simp [am_ld] at h
  | q :: l, i, v, h => by
    unfold am_ld at h
    cases hb : Nat.beq q.1 i with
    | true =>
      rw [hb] at h
      have e := Nat.eq_of_beq_eq_true hb
      simp at h
      rw [← e, ← h]
      exact List.mem_cons_self
    | false =>
      rw [hb] at h
      exact List.mem_cons_of_mem _ (am_ld_mem h)
theorem am_ins_mem {i : Nat} {v : Value} : ∀ {l : am_L} {q : Nat × Value}, q ∈ am_ins i v l → q ∈ (i, v) :: l
  | [], q, h => h
  | p :: l, q, h => by
    unfold am_ins at h
    cases hb : Nat.ble i p.1 with
    | true => rw [hb] at h; exact h
    | false =>
      rw [hb] at h
      rcases List.mem_cons.mp h with h | h
      · rw [h]; exact List.mem_cons_of_mem _ List.mem_cons_self
      · rcases List.mem_cons.mp (am_ins_mem h) with h | h
        · rw [h]; exact List.mem_cons_self
        · exact List.mem_cons_of_mem _ (List.mem_cons_of_mem _ h)
theorem am_has_of {ls : Array Slot} {nL : Nat} {l l' : am_L} (h : lv_has ls nL l) (hs : ∀ q ∈ l', q ∈ l) : lv_has ls nL l' := ⟨h.1, h.2.1, fun q hq => h.2.2 q (hs q hq)⟩
theorem am_has_ld {ls : Array Slot} {nL : Nat} {lv : am_L} {i : Nat} {v : Value} (h : lv_has ls nL (am_lvT b sz lv)) (hl : am_ld lv i = some v) : ls[i]? = some (.val (am_tv b sz v)) :=
  h.2.2 (i, am_tv b sz v) (List.mem_map.mpr ⟨(i, v), am_ld_mem hl, rfl⟩)
theorem am_has_live {ls : Array Slot} {nL : Nat} {lv : am_L} {lm : Option (List Nat)} (h : lv_has ls nL (am_lvT b sz lv)) : lv_has ls nL (am_lvT b sz (am_live lm lv)) := by
  cases lm with
  | none => exact h
  | some m =>
    refine am_has_of h fun q hq => ?_
    obtain ⟨z, hz, e⟩ := List.mem_map.mp hq
    exact List.mem_map.mpr ⟨z, (List.mem_filter.mp hz).1, e⟩
theorem am_has_st1 {ls : Array Slot} {nL i : Nat} {lv : am_L} {v : Value} (h : lv_has ls nL ((i, am_tv b sz v) :: (am_lvT b sz lv).filter (fun q => !(q.1 == i) && !(q.1 + 1 == i && q.2.category == 2)))) : lv_has ls nL (am_lvT b sz (am_st1 lv i v)) := by
  refine am_has_of h fun q hq => ?_
  obtain ⟨z, hz, e⟩ := List.mem_map.mp hq
  rcases List.mem_cons.mp (am_ins_mem hz) with hz | hz
  · rw [← e, hz]; exact List.mem_cons_self
  · obtain ⟨h1, h2⟩ := List.mem_filter.mp hz
    refine List.mem_cons_of_mem _ (List.mem_filter.mpr ⟨List.mem_map.mpr ⟨z, h1, e⟩, ?_⟩)
    rw [← e]
    simpa [am_tv_cat] using h2
theorem am_has_st2 {ls : Array Slot} {nL i : Nat} {lv : am_L} {v : Value} (h : lv_has ls nL ((i, am_tv b sz v) :: (am_lvT b sz lv).filter (fun q => !(q.1 == i) && (!(q.1 == i + 1) && !(q.1 + 1 == i && q.2.category == 2))))) : lv_has ls nL (am_lvT b sz (am_st2 lv i v)) := by
  refine am_has_of h fun q hq => ?_
  obtain ⟨z, hz, e⟩ := List.mem_map.mp hq
  rcases List.mem_cons.mp (am_ins_mem hz) with hz | hz
  · rw [← e, hz]; exact List.mem_cons_self
  · obtain ⟨h1, h2⟩ := List.mem_filter.mp hz
    refine List.mem_cons_of_mem _ (List.mem_filter.mpr ⟨List.mem_map.mpr ⟨z, h1, e⟩, ?_⟩)
    rw [← e]
    simpa [am_tv_cat] using h2
theorem am_args_tv (as : List Value) : ∀ i : Nat, lv_args i (as.map (am_tv b sz)) = am_lvT b sz (lv_args i as) := by
  induction as with
  | nil => intro i; rfl
  | cons v vs ih => intro i; simp only [List.map_cons, lv_args, am_tv_cat, ih]
theorem am_sl_len (vs : List Value) : (lg_sl vs).length = (vs.map fun v => v.category).sum := by
  induction vs with
  | nil => rfl
  | cons v vs ih =>
    have e : lg_sl (v :: vs) = (if v.category = 2 then [Slot.val v, .second] else [.val v]) ++ lg_sl vs := by simp [lg_sl]
    rw [e, List.length_append, ih, List.map_cons, List.sum_cons]
    rcases lv_cat v with h | h <;> simp [h]
theorem am_get_eq {h : am_H} {i : Nat} {c : am_C} (hc : am_get h i = some c) : ∃ j, i = j + 1 ∧ h[j]? = some c := by
  cases i with
  | zero => simp [am_get] at hc
  | succ j => exact ⟨j, rfl, hc⟩
theorem am_in_vp {j : Int32} {n : Nat} (h : am_in j n = true) : vp_in j n := by
  simp only [am_in, Bool.and_eq_true, Bool.not_eq_true', decide_eq_false_iff_not, decide_eq_true_eq] at h
  rintro (q | q)
  · exact h.1 q
  · omega
end AMW
/-- lengths of the instructions that have one -/
def am_len : Jvm.ClassFile.Instr → Nat
  | .bipush _ => 2
  | .sipush _ => 3
  | .ldc _ => 2
  | .ldc2_w _ => 3
  | .iload _ => 2
  | .lload _ => 2
  | .aload _ => 2
  | .istore _ => 2
  | .lstore _ => 2
  | .astore _ => 2
  | .iinc _ _ => 3
  | .goto _ => 3
  | .ifCond _ _ => 3
  | .if_icmp _ _ => 3
  | .ifnull _ => 3
  | .ifnonnull _ => 3
  | .getfield _ => 3
  | .putfield _ => 3
  | .new _ => 3
  | .newarray _ => 2
  | .anewarray _ => 3
  | .invokespecial _ => 3
  | .invokestatic _ => 3
  | .invokevirtual _ => 3
  | _ => 1
def am_isSw : Jvm.ClassFile.Instr → Bool
  | .tableswitch _ _ _ _ => true
  | .lookupswitch _ _ => true
  | _ => false
/-- constants -/
def am_ok0 (tbl : List Cond) (own : String) (ins : Jvm.ClassFile.Instr) (v : Value) : Prop := match ins with
  | .iconst n => v = .int (Int32.ofInt n)
  | .bipush n => v = .int ((Int8.ofInt n).toInt32)
  | .sipush n => v = .int ((Int16.ofInt n).toInt32)
  | .lconst n => v = .long (Int64.ofNat n)
  | .ldc i => ∃ x : Int32, v = .int x ∧ Cond.constant own i x ∈ tbl
  | .ldc2_w i => ∃ x : Int64, v = .long x ∧ Cond.constantLong own i x ∈ tbl
  | _ => True
section AMS
variable {p : Program} {l : Launch} {e : Env} {R : Room} {s : State} {m : MethodId} {args : Array Value} {below : List Frame} {meth : Method} {c : Code} {H : Heap} {locs : List Loc} {cells slots : Nat} {Q : State → Prop}
variable {cc : ByteArray} {pc len : Nat} {ls : Array Slot} {b sz : Nat} {tbl : List Cond} {own : String} {ins : Jvm.ClassFile.Instr} {v : Value} {st st' : List Value}
set_option maxHeartbeats 4000000 in
theorem am_pure_W (hx : p.tables.exec = Jvm.exec) (hb : c.code = cc) (hown : s.vm.findClass own = some m.cls) (hts : ∀ w ∈ tbl, w.before args s = true) (hd : decode cc pc = .ok (ins, len)) (hn : len = am_len ins) (hok : am_ok0 tbl own ins v) (hp : am_pure ins v st = some st')
    (k : W p l e R s m args below meth c H locs cells slots Q (F0 m (pc + len) ls (st'.map (am_tv b sz)))) : W p l e R s m args below meth c H locs cells slots Q (F0 m pc ls (st.map (am_tv b sz))) := by
  subst hn
  unfold am_pure at hp
  split at hp
  · cases hp; exact lv_null hx hb hd k
  · cases hp; cases (show v = _ from hok); exact lv_iconst hx hb hd rfl k
  · cases hp; cases (show v = _ from hok); exact lv_bipush hx hb hd rfl k
  · cases hp; cases (show v = _ from hok); exact lv_sipush hx hb hd rfl k
  · cases hp; cases (show v = _ from hok); exact lv_lconst hx hb hd rfl k
  · cases hp; obtain ⟨x, rfl, hw⟩ := hok; exact lv_ldc hx hb hown (hts _ hw) hd k
  · cases hp; obtain ⟨x, rfl, hw⟩ := hok; exact lv_ldc2 hx hb hown (hts _ hw) hd k
  · cases hp; exact lv_iadd hx hb hd k
  · cases hp; exact lv_isub hx hb hd k
  · cases hp; exact lv_imul hx hb hd k
  · cases hp; exact lv_iand hx hb hd k
  · cases hp; exact lv_ior hx hb hd k
  · cases hp; exact lv_ixor hx hb hd k
  · split at hp
    · cases hp
    · cases hp; rename_i hz; exact lv_idiv hx hb hd hz k
  · split at hp
    · cases hp
    · cases hp; rename_i hz; exact lv_irem hx hb hd hz k
  · cases hp; exact lv_ineg hx hb hd k
  · cases hp; exact lv_ishl hx hb hd k
  · cases hp; exact lv_ishr hx hb hd k
  · cases hp; exact lv_iushr hx hb hd rfl k
  · cases hp; exact lv_ladd hx hb hd k
  · cases hp; exact lv_lsub hx hb hd k
  · cases hp; exact lv_lmul hx hb hd k
  · cases hp; exact lv_land hx hb hd k
  · cases hp; exact lv_lor hx hb hd k
  · cases hp; exact lv_lxor hx hb hd k
  · split at hp
    · cases hp
    · cases hp; rename_i hz; exact lv_ldiv hx hb hd hz k
  · split at hp
    · cases hp
    · cases hp; rename_i hz; exact lv_lrem hx hb hd hz k
  · cases hp; exact lv_lneg hx hb hd k
  · cases hp; exact lv_lshl hx hb hd rfl k
  · cases hp; exact lv_lshr hx hb hd rfl k
  · cases hp; exact lv_lushr hx hb hd rfl k
  · cases hp; exact W.lcmp hx hb hd k
  · cases hp; exact lv_i2l hx hb hd rfl k
  · cases hp; exact lv_l2i hx hb hd rfl k
  · cases hp; exact lv_i2b hx hb hd rfl k
  · cases hp; exact lv_i2s hx hb hd rfl k
  · cases hp; exact lv_i2c hx hb hd rfl k
  · split at hp
    · rename_i hc; cases hp; exact lv_pop hx hb hd (by rw [am_tv_cat]; exact hc) k
    · cases hp
  · split at hp
    · rename_i hc; cases hp; exact lv_dup hx hb hd (by rw [am_tv_cat]; exact hc) k
    · cases hp
  · split at hp
    · rename_i hc; cases hp; exact lv_dup_x1 hx hb hd (by rw [am_tv_cat]; exact hc.1) (by rw [am_tv_cat]; exact hc.2) k
    · cases hp
  · split at hp
    · rename_i hc; cases hp; exact lv_dup_x2 hx hb hd (by rw [am_tv_cat]; exact hc.1) (by rw [am_tv_cat]; exact hc.2.1) (by rw [am_tv_cat]; exact hc.2.2) k
    · cases hp
  · split at hp
    · rename_i hc; cases hp; exact lv_pop2_2 hx hb hd (by rw [am_tv_cat]; exact hc) k
    · cases hp
  · split at hp
    · rename_i hc; cases hp; exact lv_dup2_2 hx hb hd (by rw [am_tv_cat]; exact hc) k
    · split at hp
      · split at hp
        · rename_i hc; cases hp; exact lv_dup2_11 hx hb hd (by rw [am_tv_cat]; exact hc.1) (by rw [am_tv_cat]; exact hc.2) k
        · cases hp
      · cases hp
  · split at hp
    · rename_i hc; cases hp; exact lv_dup2_x1_2 hx hb hd (by rw [am_tv_cat]; exact hc.1) (by rw [am_tv_cat]; exact hc.2) k
    · cases hp
  · split at hp
    · rename_i hc; cases hp; exact lv_dup2_x2_2 hx hb hd (by rw [am_tv_cat]; exact hc.1) (by rw [am_tv_cat]; exact hc.2.1) (by rw [am_tv_cat]; exact hc.2.2) k
    · cases hp
  · cases hp
/-- iinc's constant -/
def am_ok1 (ins : Jvm.ClassFile.Instr) (v : Value) : Prop := match ins with
  | .iinc _ n => v = .int (Int32.ofInt n)
  | _ => True
variable {nL : Nat} {lv lv' : am_L}
set_option maxHeartbeats 4000000 in
theorem am_loc_W (hx : p.tables.exec = Jvm.exec) (hb : c.code = cc) (hd : decode cc pc = .ok (ins, len)) (hn : len = am_len ins) (hok : am_ok1 ins v) (hl : lv_has ls nL (am_lvT b sz lv)) (hp : am_loc ins v nL lv st = some (lv', st'))
    (k : ∀ ls' : Array Slot, lv_has ls' nL (am_lvT b sz lv') → W p l e R s m args below meth c H locs cells slots Q (F0 m (pc + len) ls' (st'.map (am_tv b sz)))) : W p l e R s m args below meth c H locs cells slots Q (F0 m pc ls (st.map (am_tv b sz))) := by
  subst hn
  unfold am_loc at hp
  split at hp
  · split at hp
    · rename_i hg; cases hp; exact lv_iload_n hx hb hd rfl (am_has_ld hl hg) (k _ hl)
    · cases hp
  · split at hp
    · rename_i hg; cases hp; exact lv_iload hx hb hd (am_has_ld hl hg) (k _ hl)
    · cases hp
  · split at hp
    · rename_i hg; cases hp; exact lv_lload_n hx hb hd rfl (am_has_ld hl hg) (k _ hl)
    · cases hp
  · split at hp
    · rename_i hg; cases hp; exact lv_lload hx hb hd (am_has_ld hl hg) (k _ hl)
    · cases hp
  · split at hp
    · rename_i hg; cases hp; exact lv_aload_n hx hb hd rfl (am_has_ld hl hg) (k _ hl)
    · rename_i hg; cases hp; exact lv_aload_nN hx hb hd rfl (am_has_ld hl hg) (k _ hl)
    · cases hp
  · split at hp
    · rename_i hg; cases hp; exact lv_aload hx hb hd (am_has_ld hl hg) (k _ hl)
    · rename_i hg; cases hp; exact lv_aloadN hx hb hd (am_has_ld hl hg) (k _ hl)
    · cases hp
  · split at hp
    · rename_i hg; cases hp; exact lv_istore_n hx hb hd rfl hl hg rfl (fun ls' h' => k ls' (am_has_st1 h'))
    · cases hp
  · split at hp
    · rename_i hg; cases hp; exact lv_istore hx hb hd hl hg rfl (fun ls' h' => k ls' (am_has_st1 h'))
    · cases hp
  · split at hp
    · rename_i hg; cases hp; exact lv_lstore_n hx hb hd rfl hl hg rfl (fun ls' h' => k ls' (am_has_st2 h'))
    · cases hp
  · split at hp
    · rename_i hg; cases hp; exact lv_lstore hx hb hd hl hg rfl (fun ls' h' => k ls' (am_has_st2 h'))
    · cases hp
  · split at hp
    · rename_i hg; cases hp; exact lv_astore_n hx hb hd rfl hl hg rfl (fun ls' h' => k ls' (am_has_st1 h'))
    · cases hp
  · split at hp
    · rename_i hg; cases hp; exact lv_astore_nN hx hb hd rfl hl hg rfl (fun ls' h' => k ls' (am_has_st1 h'))
    · cases hp
  · split at hp
    · rename_i hg; cases hp; exact lv_astore hx hb hd hl hg rfl (fun ls' h' => k ls' (am_has_st1 h'))
    · cases hp
  · split at hp
    · rename_i hg; cases hp; exact lv_astoreN hx hb hd hl hg rfl (fun ls' h' => k ls' (am_has_st1 h'))
    · cases hp
  · split at hp
    · split at hp
      · rename_i x hg hk
        cases hp
        cases (show Value.int _ = _ from hok)
        obtain ⟨kk, hkk⟩ := List.getElem?_of_mem (show (_, am_tv b sz (.int x)) ∈ am_lvT b sz lv from List.mem_map.mpr ⟨_, am_ld_mem hg, rfl⟩)
        exact lv_iinc hx hb hd hl hkk rfl hk rfl (fun ls' h' => k ls' (am_has_st1 h'))
      · cases hp
    · cases hp
  · cases hp
/-- where jumps go -/
def am_ok2 (ins : Jvm.ClassFile.Instr) (pc t : Nat) (sw : List (Int32 × Nat)) : Prop := match ins with
  | .goto o => (pc : Int) + o = (t : Int)
  | .ifCond _ o => (pc : Int) + o = (t : Int)
  | .if_icmp _ o => (pc : Int) + o = (t : Int)
  | .ifnull o => (pc : Int) + o = (t : Int)
  | .ifnonnull o => (pc : Int) + o = (t : Int)
  | .tableswitch d lo hi offs => (pc : Int) + d = (t : Int) ∧ hi - lo + 1 = (sw.length : Int) ∧ offs.toList.map (fun o => (pc : Int) + o) = sw.map (fun q => (q.2 : Int)) ∧ sw.map (fun q => q.1.toInt) = (List.range sw.length).map (fun j : Nat => lo + (j : Int))
  | .lookupswitch d ps => (pc : Int) + d = (t : Int) ∧ (ps.toList.zip (ps.toList.drop 1)).all (fun (a, next) => a.1 < next.1) = true ∧ ps.toList.map (fun q => (q.1, (pc : Int) + q.2)) = sw.map (fun q => (q.1.toInt, (q.2 : Int)))
  | _ => True
theorem am_sw_look {pc t : Nat} {d : Int} (hd : (pc : Int) + d = (t : Int)) (x : Int32) : ∀ (ps : List (Int × Int)) (sw : List (Int32 × Nat)), ps.map (fun q => (q.1, (pc : Int) + q.2)) = sw.map (fun q => (q.1.toInt, (q.2 : Int))) → (pc : Int) + Op.lookupswitch.offset ps d x.toInt = (am_sw t x sw : Int)
  | [], [], _ => by simpa [Op.lookupswitch.offset, am_sw] using hd
  | [], q :: r, h => by simp at h
  | p :: ps, [], h => by simp at h
  | p :: ps, q :: r, h => by
    simp only [List.map_cons, List.cons.injEq, Prod.mk.injEq] at h
    obtain ⟨a, o⟩ := p
    obtain ⟨⟨h1, h2⟩, h3⟩ := h
    rw [Op.lookupswitch.offset_cons]
    unfold am_sw
    by_cases hq : x = q.1
    · rw [if_pos hq, if_pos (by rw [hq]; exact h1)]
      exact h2
    · rw [if_neg hq, if_neg (fun z => hq (Int32.toInt_inj.mp (by rw [← h1]; exact z.symm)))]
      exact am_sw_look hd x ps r h3
theorem am_sw_tab (t : Nat) (x : Int32) : ∀ (sw : List (Int32 × Nat)) (lo : Int), sw.map (fun q => q.1.toInt) = (List.range sw.length).map (fun j : Nat => lo + (j : Int)) →
    ((x.toInt < lo ∨ lo + sw.length ≤ x.toInt) ∧ am_sw t x sw = t) ∨ (lo ≤ x.toInt ∧ x.toInt < lo + sw.length ∧ ∃ q, sw[(x.toInt - lo).toNat]? = some q ∧ am_sw t x sw = q.2)
  | [], lo, _ => by
    left
    refine ⟨?_, rfl⟩
    simp only [List.length_nil]
    omega
  | q :: r, lo, h => by
    rw [List.length_cons, List.range_succ_eq_map, List.map_cons, List.map_cons, List.map_map] at h
    simp only [List.cons.injEq] at h
    obtain ⟨h1, h2⟩ := h
    have h2' : r.map (fun q => q.1.toInt) = (List.range r.length).map (fun j : Nat => (lo + 1) + (j : Int)) := by
      rw [h2]
      apply List.map_congr_left
      intro j _
      simp only [Function.comp]
      omega
    have e0 : q.1.toInt = lo := by rw [h1]; simp
    unfold am_sw
    by_cases hq : x = q.1
    · right
      rw [if_pos hq]
      have ex : x.toInt = lo := by rw [hq]; exact e0
      refine ⟨by omega, by simp only [List.length_cons]; omega, q, ?_, rfl⟩
      rw [show (x.toInt - lo).toNat = 0 by omega]
      rfl
    · have hne : x.toInt ≠ lo := fun z => hq (Int32.toInt_inj.mp (by rw [e0]; exact z))
      rw [if_neg hq]
      rcases am_sw_tab t x r (lo + 1) h2' with ⟨h3, h4⟩ | ⟨h3, h4, q', h5, h6⟩
      · left
        refine ⟨?_, h4⟩
        simp only [List.length_cons]
        omega
      · right
        refine ⟨by omega, by simp only [List.length_cons]; omega, q', ?_, h6⟩
        rw [show (x.toInt - lo).toNat = (x.toInt - (lo + 1)).toNat + 1 by omega]
        exact h5
variable {t nx pc' : Nat} {sw : List (Int32 × Nat)}
set_option maxHeartbeats 4000000 in
theorem am_jump_W (hx : p.tables.exec = Jvm.exec) (hb : c.code = cc) (hd : decode cc pc = .ok (ins, len)) (hn : am_isSw ins = true ∨ len = am_len ins) (hok : am_ok2 ins pc t sw) (hp : am_jump ins t (pc + len) sw st = some (pc', st'))
    (k : W p l e R s m args below meth c H locs cells slots Q (F0 m pc' ls (st'.map (am_tv b sz)))) : W p l e R s m args below meth c H locs cells slots Q (F0 m pc ls (st.map (am_tv b sz))) := by
  unfold am_jump at hp
  split at hp
  · cases hp; (rcases hn with h | rfl; · simp [am_isSw] at h); exact lv_goto hx hb hd hok k
  · cases hp; (rcases hn with h | rfl; · simp [am_isSw] at h); exact lv_if_eq hx hb hd hok (fun q => by rw [if_pos q] at k; exact k) (fun q => by rw [if_neg q] at k; exact k)
  · cases hp; (rcases hn with h | rfl; · simp [am_isSw] at h); exact lv_if_ne hx hb hd hok (fun q => by rw [if_neg q] at k; exact k) (fun q => by rw [if_pos q] at k; exact k)
  · cases hp; (rcases hn with h | rfl; · simp [am_isSw] at h); exact lv_if_lt hx hb hd hok (fun q => by rw [if_pos q] at k; exact k) (fun q => by rw [if_neg q] at k; exact k)
  · cases hp; (rcases hn with h | rfl; · simp [am_isSw] at h); exact lv_if_ge hx hb hd hok (fun q => by rw [if_pos q] at k; exact k) (fun q => by rw [if_neg q] at k; exact k)
  · cases hp; (rcases hn with h | rfl; · simp [am_isSw] at h); exact lv_if_gt hx hb hd hok (fun q => by rw [if_pos q] at k; exact k) (fun q => by rw [if_neg q] at k; exact k)
  · cases hp; (rcases hn with h | rfl; · simp [am_isSw] at h); exact lv_if_le hx hb hd hok (fun q => by rw [if_pos q] at k; exact k) (fun q => by rw [if_neg q] at k; exact k)
  · cases hp; (rcases hn with h | rfl; · simp [am_isSw] at h); exact lv_icmp_eq hx hb hd hok (fun q => by rw [if_pos q] at k; exact k) (fun q => by rw [if_neg q] at k; exact k)
  · cases hp; (rcases hn with h | rfl; · simp [am_isSw] at h); exact lv_icmp_ne hx hb hd hok (fun q => by rw [if_neg q] at k; exact k) (fun q => by rw [if_pos q] at k; exact k)
  · cases hp; (rcases hn with h | rfl; · simp [am_isSw] at h); exact lv_icmp_lt hx hb hd hok (fun q => by rw [if_pos q] at k; exact k) (fun q => by rw [if_neg q] at k; exact k)
  · cases hp; (rcases hn with h | rfl; · simp [am_isSw] at h); exact lv_icmp_ge hx hb hd hok (fun q => by rw [if_pos q] at k; exact k) (fun q => by rw [if_neg q] at k; exact k)
  · cases hp; (rcases hn with h | rfl; · simp [am_isSw] at h); exact lv_icmp_gt hx hb hd hok (fun q => by rw [if_pos q] at k; exact k) (fun q => by rw [if_neg q] at k; exact k)
  · cases hp; (rcases hn with h | rfl; · simp [am_isSw] at h); exact lv_icmp_le hx hb hd hok (fun q => by rw [if_pos q] at k; exact k) (fun q => by rw [if_neg q] at k; exact k)
  · cases hp; (rcases hn with h | rfl; · simp [am_isSw] at h); exact lv_ifnullN hx hb hd hok k
  · cases hp; (rcases hn with h | rfl; · simp [am_isSw] at h); exact lv_ifnull hx hb hd k
  · cases hp; (rcases hn with h | rfl; · simp [am_isSw] at h); exact lv_ifnonnullN hx hb hd k
  · cases hp; (rcases hn with h | rfl; · simp [am_isSw] at h); exact lv_ifnonnull hx hb hd hok k
  · rename_i d lo hi offs x rest
    cases hp
    obtain ⟨h1, h2, h3, h4⟩ := hok
    rcases am_sw_tab t x sw lo h4 with ⟨g1, g2⟩ | ⟨g1, g2, q, g3, g4⟩
    · rw [g2] at k
      exact lv_tableOut hx hb hd (by omega) h1 k
    · rw [g4] at k
      have h5 : (offs.toList.map (fun o => (pc : Int) + o))[(x.toInt - lo).toNat]? = some (q.2 : Int) := by rw [h3, List.getElem?_map, g3]; rfl
      rw [List.getElem?_map] at h5
      cases ho : offs.toList[(x.toInt - lo).toNat]? with
      | none => rw [ho] at h5; cases h5
      | some o =>
        rw [ho] at h5
        exact lv_tableIn hx hb hd (by omega) (by omega) (by rw [← Array.getElem?_toList]; exact ho) (Option.some.inj h5) k
  · cases hp
    obtain ⟨h1, h2, h3⟩ := hok
    exact lv_lookup hx hb hd h2 rfl (am_sw_look h1 _ _ _ h3) k
  · cases hp
end AMS
end
section
/-! the heap's instructions are sound -/
def am_cs (c : am_C) : Nat := match c with
  | .inl (_, n, _) => n
  | .inr (_, fs) => fs.length
def am_sl : am_H → Nat
  | [] => 0
  | c :: r => am_cs c + am_sl r
theorem am_sl_app (h : am_H) (c : am_C) : am_sl (h ++ [c]) = am_sl h + am_cs c := by
  induction h with
  | nil => simp [am_sl]
  | cons d r ih => simp only [List.cons_append, am_sl, ih]; omega
theorem am_sl_set {c c' : am_C} (hs : am_cs c' = am_cs c) : ∀ {h : am_H} {i : Nat}, h[i]? = some c → am_sl (h.set i c') = am_sl h
  | [], i, hc => by simp at hc
  | d :: r, 0, hc => by
    rw [List.getElem?_cons_zero] at hc
    cases hc
    simp only [List.set_cons_zero, am_sl, hs]
  | d :: r, i + 1, hc => by
    rw [List.getElem?_cons_succ] at hc
    simp only [List.set_cons_succ, am_sl, am_sl_set hs hc]
def am_aty (cl : List vw_C) (t : Nat) : FieldType := match t with
  | 0 => .int
  | 1 => .byte
  | 2 => .boolean
  | 3 => .long
  | c + 4 => match cl[c]? with
    | some r => .object r.1
    | none => .int
def am_tys (cl : List vw_C) (dA : Nat → ClassId) (tl : List Nat) : List (ClassId × FieldType) := tl.map (fun t => (dA t, am_aty cl t))
theorem am_tys_at {cl : List vw_C} {dA : Nat → ClassId} {tl : List Nat} {t : Nat} (h : t ∈ tl) : ∃ t0 : Nat, (am_tys cl dA tl)[t0]? = some (dA t, am_aty cl t) := by
  obtain ⟨i, hi⟩ := List.getElem?_of_mem h
  exact ⟨i, by rw [am_tys, List.getElem?_map, hi]; rfl⟩
def am_okC (cl : List vw_C) (tbl : List Cond) (fty : Nat → Nat → FieldType) : Prop := ∀ (ci : Nat) (q : vw_C), cl[ci]? = some q → (∀ w ∈ u_ws q.1 q.2.1 q.2.2, w ∈ tbl) ∧ (∀ k, k < q.2.2 → parseFieldDescriptor (q.2.1 k).2.2.1 = some (fty ci k)) ∧ (∀ a, a < q.2.2 → ∀ b, b < q.2.2 → a ≠ b → (q.2.1 a).2.1 ≠ (q.2.1 b).2.1)
/-- a field's link: plain, or of a nest mate -/
def am_lnk (tbl nst : List Cond) (own : String) (i : Nat) (q : String × String × String × Bool) : Prop := Cond.fieldLink own i q.1 q.2.1 q.2.2.1 ∈ tbl ∨ ∃ host, Cond.fieldLinkNest own i q.1 q.2.1 q.2.2.1 host ∈ nst
def am_ok3 (cl : List vw_C) (tbl nst : List Cond) (aos : List String) (tl : List Nat) (fty : Nat → Nat → FieldType) (dfl : Nat → List Value) (y : MethodName) (rk : Nat × Nat) (ins : Jvm.ClassFile.Instr) (a1 a2 : Nat) : Prop := match ins with
  | .getfield i => ∃ q, cl[a1]? = some q ∧ a2 < q.2.2 ∧ am_lnk tbl nst y.cls i (q.2.1 a2)
  | .putfield i => ∃ q, cl[a1]? = some q ∧ a2 < q.2.2 ∧ (((q.2.1 a2).2.2.2 = false ∧ am_lnk tbl nst y.cls i (q.2.1 a2)) ∨ ((q.2.1 a2).2.2.2 = true ∧ y.name = "<init>" ∧ (q.2.1 a2).1 = y.cls ∧ Cond.fieldLink y.cls i (q.2.1 a2).1 (q.2.1 a2).2.1 (q.2.1 a2).2.2.1 ∈ tbl))
  | .new i => ∃ q, cl[a1]? = some q ∧ Cond.classLink y.cls i q.1 ∈ tbl ∧ Cond.instantiable q.1 q.2.2 ∈ tbl ∧ Cond.initialized q.1 ∈ tbl ∧ (dfl a1).length = q.2.2 ∧ (∀ j, j < q.2.2 → defaultValue (fty a1 j) = vp_V (dfl a1) j) ∧ (∀ v ∈ dfl a1, v.asRef? = none ∨ v = .null)
  | .newarray t => Cond.arrayClass (newarray.typeOf t) ∈ tbl ∧ ((t = .int ∧ 0 ∈ tl) ∨ (t = .byte ∧ 1 ∈ tl) ∨ (t = .boolean ∧ 2 ∈ tl) ∨ (t = .long ∧ 3 ∈ tl))
  | .anewarray i => ∃ q, cl[a1]? = some q ∧ Cond.classLink y.cls i q.1 ∈ tbl ∧ q.1 ∈ aos ∧ a1 + 4 ∈ tl
  | .arraylength => a1 ∈ tl
  | .iaload => 0 ∈ tl
  | .iastore => 0 ∈ tl
  | .baload => (a1 = 1 ∨ a1 = 2) ∧ a1 ∈ tl
  | .bastore => (a1 = 1 ∨ a1 = 2) ∧ a1 ∈ tl
  | .laload => 3 ∈ tl
  | .lastore => 3 ∈ tl
  | .aaload => (∃ q, cl[a1]? = some q) ∧ a1 + 4 ∈ tl
  | .aastore => (∃ q, cl[a1]? = some q) ∧ a1 + 4 ∈ tl
  | .invokespecial i => (1 ≤ rk.1 ∧ 20 ≤ rk.2) ∧ Cond.methodLink y.cls i objectInit ∈ tbl ∧ Cond.instanceMethod objectInit ∈ tbl ∧ Cond.code objectInit ⟨#[0xb1]⟩ 1 none ∈ tbl
  | .invokestatic i => (1 ≤ rk.1 ∧ 26 ≤ rk.2) ∧ match a1 with
    | 1 => Cond.methodLink y.cls i Lib.Math.max.name ∈ tbl ∧ Cond.static Lib.Math.max.name ∈ tbl ∧ Cond.initialized "java/lang/Math" ∈ tbl ∧ Cond.code Lib.Math.max.name Lib.Math.max.code 2 (some .int) ∈ tbl
    | 2 => Cond.methodLink y.cls i Lib.Math.min.name ∈ tbl ∧ Cond.static Lib.Math.min.name ∈ tbl ∧ Cond.initialized "java/lang/Math" ∈ tbl ∧ Cond.code Lib.Math.min.name Lib.Math.min.code 2 (some .int) ∈ tbl
    | _ => Cond.methodLink y.cls i arraycopyName ∈ tbl ∧ Cond.native arraycopyName ∈ tbl ∧ Cond.static arraycopyName ∈ tbl ∧ Cond.initialized "java/lang/System" ∈ tbl ∧ 1 ∈ tl
  | _ => True
/-- what the tables say, beyond the words that keep by themselves -/
def am_env (dC : Nat → ClassId) (dI : Nat → Nat → Nat) (dA : Nat → ClassId) (cl : List vw_C) (tl : List Nat) (nst : List Cond) (aos : List String) (s : State) : Prop := va_K (dC, dI) cl (am_tys cl dA tl) s ∧ (∀ w ∈ nst, va_Nw w s) ∧ ∀ C ∈ aos, va_AO C s
def am_isN : Cond → Bool
  | .fieldLinkNest .. => true
  | .methodLinkNest .. => true
  | _ => false
theorem am_env.moved {dC : Nat → ClassId} {dI : Nat → Nat → Nat} {dA : Nat → ClassId} {cl : List vw_C} {tl : List Nat} {nst : List Cond} {aos : List String} {s U : State} (hN : ∀ w ∈ nst, am_isN w = true) (hW : s.WarmedH U.vm) (h : am_env dC dI dA cl tl nst aos s) : am_env dC dI dA cl tl nst aos U := by
  refine ⟨va_K.moved hW.alike h.1, fun w hw => ?_, fun C hC => va_AO.moved hW.alike (h.2.2 C hC)⟩
  have h1 := h.2.1 w hw
  have h2 := hN w hw
  cases w <;> first | exact va_Nw.warmF hW h1 | exact va_Nw.warmM hW h1 | (simp [am_isN] at h2)
section AMH
variable {p : Program} {l : Launch} {e : Env} {R : Room} {s : State} {m : MethodId} {args : Array Value} {below : List Frame} {meth : Method} {c : Code} {H : Heap} {locs : List Loc} {cells slots : Nat} {Q : State → Prop}
variable {cc : ByteArray} {pc len : Nat} {ls : Array Slot} {b sz : Nat} {dC : Nat → ClassId} {dI : Nat → Nat → Nat} {dA : Nat → ClassId} {cl : List vw_C} {tl : List Nat} {tbl nst : List Cond} {aos : List String} {fty : Nat → Nat → FieldType} {dfl : Nat → List Value} {y : MethodName} {ins : Jvm.ClassFile.Instr} {st st' : List Value} {h h' : am_H} {a1 a2 L : Nat} {rk : Nat × Nat} {xs : Nat → Int32}
/-- the address of what was made last -/
theorem am_fresh {q : Nat} {en : va_E} {H1 : Heap} {g : JFrame} {slots1 : Nat} (hP1 : va_P (dC, dI) cl (am_ws b sz dA h ++ [(q, en)]) H1) (hD1 : va_D (fun q : Nat => sz ≤ q) (am_ws b sz dA h ++ [(q, en)])) (hcnt : s.heap.size + cells = sz + h.length)
    (kk : q = sz + h.length → W p l e R s m args below meth c H1 locs (cells + 1) slots1 Q g) : W p l e R s m args below meth c H1 locs (cells + 1) slots1 Q g := by
  intro T hT X
  have h1 : H1.size ≤ s.heap.size + (cells + 1) := by rw [← hT]; exact X.heapSize
  have hlast : (am_ws b sz dA h ++ [(q, en)])[h.length]? = some (q, en) := by
    rw [List.getElem?_append_right (by rw [am_ws_len]; exact Nat.le_refl _), am_ws_len, Nat.sub_self]; rfl
  have h2 : q < H1.size := (hP1 h.length _ hlast).lt
  have h3 : sz ≤ q := hD1.2 h.length _ hlast
  have h4 : ¬ q < sz + h.length := by
    intro hq
    have hi : q - sz < h.length := by omega
    obtain ⟨d, hd⟩ : ∃ d, h[q - sz]? = some d := ⟨h[q - sz], List.getElem?_eq_getElem hi⟩
    have h5 : (am_ws b sz dA h ++ [(q, en)])[q - sz]? = some (sz + (q - sz), am_enc b sz dA d) := by
      rw [List.getElem?_append_left (by rw [am_ws_len]; exact hi)]
      exact am_ws_get hd
    have h6 := hD1.1 (q - sz) h.length _ _ h5 hlast (by show sz + (q - sz) = q; omega)
    omega
  exact kk (by omega) T hT X
theorem am_dfl_tv {d : List Value} (hd : ∀ v ∈ d, v.asRef? = none ∨ v = .null) : d.map (am_tv b sz) = d := by
  have : ∀ v ∈ d, am_tv b sz v = v := by
    intro v hv
    cases v with
    | ref i => rcases hd _ hv with h | h <;> simp [Value.asRef?] at h
    | _ => rfl
  rw [List.map_congr_left this, List.map_id']
set_option maxHeartbeats 8000000 in
theorem am_heap_W (hx : p.tables.exec = Jvm.exec) (hb : c.code = cc) (hml : c.maxLocals = ls.size) (hown : s.vm.findClass y.cls = some m.cls) (hnm : y.name = "<init>" → meth.name = "<init>") (hts : ∀ w ∈ tbl, w.before args s = true) (hE : am_env dC dI dA cl tl nst aos s) (hC : am_okC cl tbl fty)
    (hd : decode cc pc = .ok (ins, len)) (hn : len = am_len ins) (hok : am_ok3 cl tbl nst aos tl fty dfl y rk ins a1 a2) (hX : va_X b L xs s s.heap) (hbs : b < sz) (hss : sz ≤ s.heap.size) (hP : va_P (dC, dI) cl (am_ws b sz dA h) H) (hS : va_S (fun q : Nat => sz ≤ q) s.heap H locs) (hcnt : s.heap.size + cells = sz + h.length)
    (hfr : rk.1 ≤ R.frames ∧ rk.2 ≤ R.locals) (hp : am_heap (fty, dfl) L xs ins a1 a2 st h = some (st', h')) (hc1 : cells + (h'.length - h.length) ≤ R.cells) (hc2 : slots + (am_sl h' - am_sl h) ≤ R.slots)
    (k : ∀ (H' : Heap) (locs' : List Loc), va_P (dC, dI) cl (am_ws b sz dA h') H' → va_S (fun q : Nat => sz ≤ q) s.heap H' locs' → W p l e R s m args below meth c H' locs' (cells + (h'.length - h.length)) (slots + (am_sl h' - am_sl h)) Q (F0 m (pc + len) ls (st'.map (am_tv b sz)))) : W p l e R s m args below meth c H locs cells slots Q (F0 m pc ls (st.map (am_tv b sz))) := by
  subst hn
  have hA : ∀ q : Nat, s.heap.size ≤ q → sz ≤ q := fun q h => Nat.le_trans hss h
  have hbA : ¬ sz ≤ b := by omega
  have hbl : b < s.heap.size := by omega
  have hD := am_ws_D (b := b) (sz := sz) (dA := dA) h
  have hK := hE.1
  have same : ∀ {H' : Heap} {locs' : List Loc} {g : JFrame}, W p l e R s m args below meth c H' locs' (cells + (h.length - h.length)) (slots + (am_sl h - am_sl h)) Q g → W p l e R s m args below meth c H' locs' cells slots Q g := by
    intro H' locs' g w
    rw [Nat.sub_self, Nat.sub_self] at w
    exact w
  have put : ∀ {i : Nat} {c0 c1 : am_C} {H' : Heap} {locs' : List Loc} {g : JFrame}, h[i]? = some c0 → am_cs c1 = am_cs c0 → W p l e R s m args below meth c H' locs' (cells + ((h.set i c1).length - h.length)) (slots + (am_sl (h.set i c1) - am_sl h)) Q g → W p l e R s m args below meth c H' locs' cells slots Q g := by
    intro i c0 c1 H' locs' g h1 h2 w
    rw [am_sl_set h2 h1, List.length_set, Nat.sub_self, Nat.sub_self] at w
    exact w
  unfold am_heap at hp
  split at hp
  · -- getfield
    rename_i i0 i rest
    split at hp
    · rename_i ci fs hg
      split at hp
      · rename_i hci
        split at hp
        · rename_i v hv
          cases hp
          subst hci
          obtain ⟨j, rfl, hj⟩ := am_get_eq hg
          obtain ⟨⟨C, Tf, N⟩, q1, q2, q3⟩ := hok
          have he := am_ws_get (b := b) (sz := sz) (dA := dA) hj
          have hv' : (fs.map (am_tv b sz))[a2]? = some (am_tv b sz v) := by rw [List.getElem?_map, hv]; rfl
          rcases q3 with q3 | ⟨host, q3⟩
          · exact va_get hx hb hts (hC ci _ q1).1 hown hK hP j he q1 a2 q2 (hts _ q3) (fun _ h9 => h9) hv' hd (same (k H locs hP hS))
          · exact va_getN hx hb hts (hC ci _ q1).1 hown hK hP j he q1 a2 q2 (va_Nw.use rfl (hE.2.1 _ q3)) (fun _ h9 => h9) hv' hd (same (k H locs hP hS))
        · cases hp
      · cases hp
    · cases hp
  · -- putfield
    rename_i i0 v i rest
    split at hp
    · rename_i ci fs hg
      split at hp
      · rename_i hcd
        obtain ⟨hci, hl2, hna, hfi⟩ := hcd
        have hp := Option.some.inj hp
        obtain ⟨rfl, rfl⟩ := Prod.mk.inj hp
        subst hci
        obtain ⟨j, rfl, hj⟩ := am_get_eq hg
        obtain ⟨⟨C, Tf, N⟩, q1, q2, q3⟩ := hok
        have he := am_ws_get (b := b) (sz := sz) (dA := dA) hj
        have hty := (hC ci _ q1).2.1
        have hlen : a2 < (fs.map (am_tv b sz)).length := by rw [List.length_map]; exact hl2
        have kk : ∀ (H1 : Heap) (locs1 : List Loc), va_P (dC, dI) cl ((am_ws b sz dA h).set j (sz + j, .inr (ci, (fs.map (am_tv b sz)).set a2 (am_tv b sz v)))) H1 → va_D (fun q : Nat => sz ≤ q) ((am_ws b sz dA h).set j (sz + j, .inr (ci, (fs.map (am_tv b sz)).set a2 (am_tv b sz v)))) → va_S (fun q : Nat => sz ≤ q) s.heap H1 locs1 → W p l e R s m args below meth c H1 locs1 cells slots Q (F0 m (pc + 3) ls (rest.map (am_tv b sz))) := by
          intro H1 locs1 g1 g2 g3
          refine put hj ?_ (k H1 locs1 ?_ g3)
          · simp [am_cs]
          · show va_P _ _ (am_wsF b sz dA sz (h.set j (.inr (ci, fs.set a2 v)))) H1
            rw [am_wsF_set]
            simpa only [am_enc, List.map_set] using g1
        rcases q3 with ⟨f1, q3 | ⟨host, q3⟩⟩ | ⟨f1, f2, f3, q3⟩
        · exact va_put hx hb hts (hC ci _ q1).1 (fty ci) hty (hC ci _ q1).2.2 hown hK hP hD hS j he q1 a2 q2 (hts _ q3) (fun _ h9 => h9) f1 (hty a2 q2) (am_tv_nar hna) (am_tv_fits hfi) hlen hd kk
        · exact va_putN hx hb hts (hC ci _ q1).1 (fty ci) hty (hC ci _ q1).2.2 hown hK hP hD hS j he q1 a2 q2 (va_Nw.use rfl (hE.2.1 _ q3)) (fun _ h9 => h9) f1 (hty a2 q2) (am_tv_nar hna) (am_tv_fits hfi) hlen hd kk
        · exact va_putF hx hb hts (hC ci _ q1).1 (fty ci) hty (hC ci _ q1).2.2 hown hK hP hD hS j he q1 a2 q2 (hts _ q3) (fun _ h9 => h9) f1 (hnm f2) f3 (hty a2 q2) (am_tv_nar hna) (am_tv_fits hfi) hlen hd kk
      · cases hp
    · cases hp
  · -- new
    cases hp
    obtain ⟨⟨C, Tf, N⟩, q1, q2, q3, q4, q5, q6, q7⟩ := hok
    have e1 : (h ++ [(.inr (a1, dfl a1) : am_C)]).length - h.length = 1 := by simp
    have e2 : am_sl (h ++ [(.inr (a1, dfl a1) : am_C)]) - am_sl h = N := by rw [am_sl_app, show am_cs (.inr (a1, dfl a1)) = N from q5]; omega
    rw [e1, e2] at k
    rw [e1] at hc1
    rw [e2] at hc2
    refine va_new (ci := a1) (fs := dfl a1) hx hb hts (hC a1 _ q1).1 (fty a1) (hC a1 _ q1).2.1 hown (hts _ q2) (hts _ q3) (hts _ q4) hK hP hD hS hA q1 q6 hc1 hc2 hd (fun q H1 g1 g2 g3 => ?_)
    refine am_fresh g1 g2 hcnt fun hq => ?_
    subst hq
    refine k H1 locs ?_ g3
    show va_P _ _ (am_wsF b sz dA sz (h ++ [.inr (a1, dfl a1)])) H1
    rw [am_wsF_app]
    simpa only [am_enc, am_dfl_tv q7] using g1
  · -- newarray int
    rename_i n rest
    split at hp
    · cases hp
    · rename_i hng
      cases hp
      obtain ⟨q1, q2⟩ := hok
      have q2 : 0 ∈ tl := by rcases q2 with ⟨-, q⟩ | ⟨h, -⟩ | ⟨h, -⟩ | ⟨h, -⟩ <;> first | exact q | cases h
      have e1 : (h ++ [(.inl (0, n.toNatClampNeg, .inl (fun _ => 0)) : am_C)]).length - h.length = 1 := by simp
      have e2 : am_sl (h ++ [(.inl (0, n.toNatClampNeg, .inl (fun _ => 0)) : am_C)]) - am_sl h = n.toNatClampNeg := by rw [am_sl_app]; simp [am_cs]
      rw [e1, e2] at k
      rw [e1] at hc1
      rw [e2] at hc2
      refine va_newa (ty := .int) (a0 := (n.toNatClampNeg, .inl (fun _ => 0))) hx hb (hts _ q1) rfl hK hP hD hS hA (fun _ => rfl) (fun z => hng (Or.inl z)) rfl (by show _ * 4 ≤ _; omega) hc1 hc2 hd (fun q cA H1 g0 g1 g2 g3 => ?_)
      refine am_fresh g1 g2 hcnt fun hq => ?_
      subst hq
      refine k H1 locs ?_ g3
      obtain ⟨t0, ht0⟩ := am_tys_at (cl := cl) (dA := dA) q2
      have r1 : s.vm.findClass _ = some cA := (g0.2 (am_tys cl dA tl).length (cA, .int) (by rw [List.getElem?_append_right (Nat.le_refl _), Nat.sub_self]; rfl)).2
      have r2 : s.vm.findClass _ = some (dA 0) := (hK.2 t0 _ ht0).2
      have r3 : cA = dA 0 := Option.some.inj (r1.symm.trans r2)
      subst r3
      show va_P _ _ (am_wsF b sz dA sz (h ++ [.inl (0, n.toNatClampNeg, .inl (fun _ => 0))])) H1
      rw [am_wsF_app]
      exact g1
  · -- newarray byte
    rename_i n rest
    split at hp
    · cases hp
    · rename_i hng
      cases hp
      obtain ⟨q1, q2⟩ := hok
      have q2 : 1 ∈ tl := by rcases q2 with ⟨h, -⟩ | ⟨-, q⟩ | ⟨h, -⟩ | ⟨h, -⟩ <;> first | exact q | cases h
      have e1 : (h ++ [(.inl (1, n.toNatClampNeg, .inl (fun _ => 0)) : am_C)]).length - h.length = 1 := by simp
      have e2 : am_sl (h ++ [(.inl (1, n.toNatClampNeg, .inl (fun _ => 0)) : am_C)]) - am_sl h = n.toNatClampNeg := by rw [am_sl_app]; simp [am_cs]
      rw [e1, e2] at k
      rw [e1] at hc1
      rw [e2] at hc2
      refine va_newa (ty := .byte) (a0 := (n.toNatClampNeg, .inl (fun _ => 0))) hx hb (hts _ q1) rfl hK hP hD hS hA (fun _ => rfl) (fun z => hng (Or.inl z)) rfl (by show _ * 1 ≤ _; omega) hc1 hc2 hd (fun q cA H1 g0 g1 g2 g3 => ?_)
      refine am_fresh g1 g2 hcnt fun hq => ?_
      subst hq
      refine k H1 locs ?_ g3
      obtain ⟨t0, ht0⟩ := am_tys_at (cl := cl) (dA := dA) q2
      have r1 : s.vm.findClass _ = some cA := (g0.2 (am_tys cl dA tl).length (cA, .byte) (by rw [List.getElem?_append_right (Nat.le_refl _), Nat.sub_self]; rfl)).2
      have r2 : s.vm.findClass _ = some (dA 1) := (hK.2 t0 _ ht0).2
      have r3 : cA = dA 1 := Option.some.inj (r1.symm.trans r2)
      subst r3
      show va_P _ _ (am_wsF b sz dA sz (h ++ [.inl (1, n.toNatClampNeg, .inl (fun _ => 0))])) H1
      rw [am_wsF_app]
      exact g1
  · -- newarray boolean
    rename_i n rest
    split at hp
    · cases hp
    · rename_i hng
      cases hp
      obtain ⟨q1, q2⟩ := hok
      have q2 : 2 ∈ tl := by rcases q2 with ⟨h, -⟩ | ⟨h, -⟩ | ⟨-, q⟩ | ⟨h, -⟩ <;> first | exact q | cases h
      have e1 : (h ++ [(.inl (2, n.toNatClampNeg, .inl (fun _ => 0)) : am_C)]).length - h.length = 1 := by simp
      have e2 : am_sl (h ++ [(.inl (2, n.toNatClampNeg, .inl (fun _ => 0)) : am_C)]) - am_sl h = n.toNatClampNeg := by rw [am_sl_app]; simp [am_cs]
      rw [e1, e2] at k
      rw [e1] at hc1
      rw [e2] at hc2
      refine va_newa (ty := .boolean) (a0 := (n.toNatClampNeg, .inl (fun _ => 0))) hx hb (hts _ q1) rfl hK hP hD hS hA (fun _ => rfl) (fun z => hng (Or.inl z)) rfl (by show _ * 1 ≤ _; omega) hc1 hc2 hd (fun q cA H1 g0 g1 g2 g3 => ?_)
      refine am_fresh g1 g2 hcnt fun hq => ?_
      subst hq
      refine k H1 locs ?_ g3
      obtain ⟨t0, ht0⟩ := am_tys_at (cl := cl) (dA := dA) q2
      have r1 : s.vm.findClass _ = some cA := (g0.2 (am_tys cl dA tl).length (cA, .boolean) (by rw [List.getElem?_append_right (Nat.le_refl _), Nat.sub_self]; rfl)).2
      have r2 : s.vm.findClass _ = some (dA 2) := (hK.2 t0 _ ht0).2
      have r3 : cA = dA 2 := Option.some.inj (r1.symm.trans r2)
      subst r3
      show va_P _ _ (am_wsF b sz dA sz (h ++ [.inl (2, n.toNatClampNeg, .inl (fun _ => 0))])) H1
      rw [am_wsF_app]
      exact g1
  · -- newarray long
    rename_i n rest
    split at hp
    · cases hp
    · rename_i hng
      cases hp
      obtain ⟨q1, q2⟩ := hok
      have q2 : 3 ∈ tl := by rcases q2 with ⟨h, -⟩ | ⟨h, -⟩ | ⟨h, -⟩ | ⟨-, q⟩ <;> first | exact q | cases h
      have e1 : (h ++ [(.inl (3, n.toNatClampNeg, .inr (.inl (fun _ => 0))) : am_C)]).length - h.length = 1 := by simp
      have e2 : am_sl (h ++ [(.inl (3, n.toNatClampNeg, .inr (.inl (fun _ => 0))) : am_C)]) - am_sl h = n.toNatClampNeg := by rw [am_sl_app]; simp [am_cs]
      rw [e1, e2] at k
      rw [e1] at hc1
      rw [e2] at hc2
      refine va_newa (ty := .long) (a0 := (n.toNatClampNeg, .inr (.inl (fun _ => 0)))) hx hb (hts _ q1) rfl hK hP hD hS hA (fun _ => rfl) (fun z => hng (Or.inl z)) rfl (by show _ * 8 ≤ _; omega) hc1 hc2 hd (fun q cA H1 g0 g1 g2 g3 => ?_)
      refine am_fresh g1 g2 hcnt fun hq => ?_
      subst hq
      refine k H1 locs ?_ g3
      obtain ⟨t0, ht0⟩ := am_tys_at (cl := cl) (dA := dA) q2
      have r1 : s.vm.findClass _ = some cA := (g0.2 (am_tys cl dA tl).length (cA, .long) (by rw [List.getElem?_append_right (Nat.le_refl _), Nat.sub_self]; rfl)).2
      have r2 : s.vm.findClass _ = some (dA 3) := (hK.2 t0 _ ht0).2
      have r3 : cA = dA 3 := Option.some.inj (r1.symm.trans r2)
      subst r3
      show va_P _ _ (am_wsF b sz dA sz (h ++ [.inl (3, n.toNatClampNeg, .inr (.inl (fun _ => 0)))])) H1
      rw [am_wsF_app]
      exact g1
  · -- anewarray
    rename_i i0 n rest
    split at hp
    · cases hp
    · rename_i hng
      cases hp
      obtain ⟨⟨C, Tf, N⟩, q1, q2, q3, q4⟩ := hok
      have e1 : (h ++ [(.inl (a1 + 4, n.toNatClampNeg, .inr (.inr (fun _ => none))) : am_C)]).length - h.length = 1 := by simp
      have e2 : am_sl (h ++ [(.inl (a1 + 4, n.toNatClampNeg, .inr (.inr (fun _ => none))) : am_C)]) - am_sl h = n.toNatClampNeg := by rw [am_sl_app]; simp [am_cs]
      rw [e1, e2] at k
      rw [e1] at hc1
      rw [e2] at hc2
      refine va_newq hx hb hown (hts _ q2) (hE.2.2 _ q3) hK hP hD hS hA (fun z => hng (Or.inl z)) rfl (by omega) hc1 hc2 hd (fun q cA H1 g0 g1 g2 g3 => ?_)
      refine am_fresh g1 g2 hcnt fun hq => ?_
      subst hq
      refine k H1 locs ?_ g3
      obtain ⟨t0, ht0⟩ := am_tys_at (cl := cl) (dA := dA) q4
      have e4 : am_aty cl (a1 + 4) = .object C := by simp [am_aty, q1]
      rw [e4] at ht0
      have r1 : va_RA s cA (.object C) := (g0.2 (am_tys cl dA tl).length (cA, .object C) (by rw [List.getElem?_append_right (Nat.le_refl _), Nat.sub_self]; rfl)).2
      have r2 : va_RA s (dA (a1 + 4)) (.object C) := (hK.2 t0 _ ht0).2
      obtain ⟨_, _, -, -, -, r1⟩ := r1
      obtain ⟨_, _, -, -, -, r2⟩ := r2
      have r3 : cA = dA (a1 + 4) := Option.some.inj (r1.symm.trans r2)
      subst r3
      show va_P _ _ (am_wsF b sz dA sz (h ++ [.inl (a1 + 4, n.toNatClampNeg, .inr (.inr (fun _ => none)))])) H1
      rw [am_wsF_app]
      exact g1
  · -- arraylength
    rename_i i rest
    split at hp
    · rename_i hi
      cases hp
      subst hi
      exact va_slen hx hb hX hbl hbA hS hd (same (k H locs hP hS))
    · split at hp
      · rename_i t n f hg
        split at hp
        · rename_i ht
          cases hp
          subst ht
          obtain ⟨j, rfl, hj⟩ := am_get_eq hg
          have he := am_ws_get (b := b) (sz := sz) (dA := dA) hj
          obtain ⟨t0, ht0⟩ := am_tys_at (cl := cl) (dA := dA) (show t ∈ tl from hok)
          obtain f | f | f := f
          · exact va_alen hx hb hK hP j t0 he ht0 rfl hd (same (k H locs hP hS))
          · exact va_alen hx hb hK hP j t0 he ht0 rfl hd (same (k H locs hP hS))
          · exact va_alen hx hb hK hP j t0 he ht0 rfl hd (same (k H locs hP hS))
        · cases hp
      · cases hp
  · -- iaload
    rename_i jx i rest
    split at hp
    · rename_i hi
      split at hp
      · rename_i hin
        cases hp
        subst hi
        exact va_sld hx hb hX hbl hbA hS (am_in_vp hin) hd (same (k H locs hP hS))
      · cases hp
    · split at hp
      · rename_i t n f hg
        split at hp
        · rename_i ht
          obtain ⟨ht, hin⟩ := ht
          cases hp
          subst ht
          obtain ⟨j, rfl, hj⟩ := am_get_eq hg
          have he := am_ws_get (b := b) (sz := sz) (dA := dA) hj
          obtain ⟨t0, ht0⟩ := am_tys_at (cl := cl) (dA := dA) (show 0 ∈ tl from hok)
          exact va_iald hx hb hK hP j t0 he ht0 (am_in_vp hin) hd (same (k H locs hP hS))
        · cases hp
      · cases hp
  · -- baload
    rename_i jx i rest
    split at hp
    · rename_i t n f hg
      split at hp
      · rename_i ht
        obtain ⟨ht, hin⟩ := ht
        cases hp
        subst ht
        obtain ⟨j, rfl, hj⟩ := am_get_eq hg
        have he := am_ws_get (b := b) (sz := sz) (dA := dA) hj
        obtain ⟨q1, q2⟩ := (show (t = 1 ∨ t = 2) ∧ t ∈ tl from hok)
        obtain ⟨t0, ht0⟩ := am_tys_at (cl := cl) (dA := dA) q2
        rcases q1 with rfl | rfl
        · exact va_bald hx hb hK hP j t0 he ht0 (am_in_vp hin) hd (same (k H locs hP hS))
        · exact va_zald hx hb hK hP j t0 he ht0 (am_in_vp hin) hd (same (k H locs hP hS))
      · cases hp
    · cases hp
  · -- laload
    rename_i jx i rest
    split at hp
    · rename_i t n f hg
      split at hp
      · rename_i ht
        obtain ⟨ht, hin⟩ := ht
        cases hp
        subst ht
        obtain ⟨j, rfl, hj⟩ := am_get_eq hg
        have he := am_ws_get (b := b) (sz := sz) (dA := dA) hj
        obtain ⟨t0, ht0⟩ := am_tys_at (cl := cl) (dA := dA) (show 3 ∈ tl from hok)
        exact va_lald hx hb hK hP j t0 he ht0 (am_in_vp hin) hd (same (k H locs hP hS))
      · cases hp
    · cases hp
  · -- aaload
    rename_i jx i rest
    split at hp
    · rename_i t n f hg
      split at hp
      · rename_i ht
        obtain ⟨ht, hin⟩ := ht
        cases hp
        subst ht
        obtain ⟨j, rfl, hj⟩ := am_get_eq hg
        have he := am_ws_get (b := b) (sz := sz) (dA := dA) hj
        obtain ⟨⟨⟨C, Tf, N⟩, q1⟩, q2⟩ := (show (∃ q, cl[a1]? = some q) ∧ a1 + 4 ∈ tl from hok)
        obtain ⟨t0, ht0⟩ := am_tys_at (cl := cl) (dA := dA) q2
        have e4 : am_aty cl (a1 + 4) = .object C := by simp [am_aty, q1]
        rw [e4] at ht0
        refine va_aldq hx hb hK hP j t0 he ht0 (am_in_vp hin) hd ?_
        have := same (k H locs hP hS)
        rw [List.map_cons, am_tv_rf] at this
        exact this
      · cases hp
    · cases hp
  · -- iastore
    rename_i x jx i rest
    split at hp
    · rename_i t n f hg
      split at hp
      · rename_i ht
        obtain ⟨ht, hin⟩ := ht
        cases hp
        subst ht
        obtain ⟨j, rfl, hj⟩ := am_get_eq hg
        have he := am_ws_get (b := b) (sz := sz) (dA := dA) hj
        obtain ⟨t0, ht0⟩ := am_tys_at (cl := cl) (dA := dA) (show 0 ∈ tl from hok)
        refine va_iast hx hb hK hP hD hS j t0 he ht0 (am_in_vp hin) hd (fun H1 locs1 g1 g2 g3 => put hj ?_ (k H1 locs1 ?_ g3))
        · rfl
        · show va_P _ _ (am_wsF b sz dA sz (h.set j _)) H1
          rw [am_wsF_set]
          exact g1
      · cases hp
    · cases hp
  · -- bastore
    rename_i x jx i rest
    split at hp
    · rename_i t n f hg
      split at hp
      · rename_i ht
        obtain ⟨ht, hin⟩ := ht
        cases hp
        subst ht
        obtain ⟨j, rfl, hj⟩ := am_get_eq hg
        have he := am_ws_get (b := b) (sz := sz) (dA := dA) hj
        obtain ⟨q1, q2⟩ := (show (t = 1 ∨ t = 2) ∧ t ∈ tl from hok)
        obtain ⟨t0, ht0⟩ := am_tys_at (cl := cl) (dA := dA) q2
        rcases q1 with rfl | rfl
        · refine va_bast hx hb hK hP hD hS j t0 he ht0 (am_in_vp hin) hd (fun H1 locs1 g1 g2 g3 => put hj ?_ (k H1 locs1 ?_ g3))
          · rfl
          · show va_P _ _ (am_wsF b sz dA sz (h.set j _)) H1
            rw [am_wsF_set]
            exact g1
        · refine va_zast hx hb hK hP hD hS j t0 he ht0 (am_in_vp hin) hd (fun H1 locs1 g1 g2 g3 => put hj ?_ (k H1 locs1 ?_ g3))
          · rfl
          · show va_P _ _ (am_wsF b sz dA sz (h.set j _)) H1
            rw [am_wsF_set]
            exact g1
      · cases hp
    · cases hp
  · -- lastore
    rename_i x jx i rest
    split at hp
    · rename_i t n f hg
      split at hp
      · rename_i ht
        obtain ⟨ht, hin⟩ := ht
        cases hp
        subst ht
        obtain ⟨j, rfl, hj⟩ := am_get_eq hg
        have he := am_ws_get (b := b) (sz := sz) (dA := dA) hj
        obtain ⟨t0, ht0⟩ := am_tys_at (cl := cl) (dA := dA) (show 3 ∈ tl from hok)
        refine va_last hx hb hK hP hD hS j t0 he ht0 (am_in_vp hin) hd (fun H1 locs1 g1 g2 g3 => put hj ?_ (k H1 locs1 ?_ g3))
        · rfl
        · show va_P _ _ (am_wsF b sz dA sz (h.set j _)) H1
          rw [am_wsF_set]
          exact g1
      · cases hp
    · cases hp
  · -- aastore
    rename_i w jx i rest
    split at hp
    · rename_i t n f ci fs hg hw
      split at hp
      · rename_i ht
        obtain ⟨ht, hci, hin⟩ := ht
        cases hp
        subst hci
        subst ht
        obtain ⟨j, rfl, hj⟩ := am_get_eq hg
        obtain ⟨jw, rfl, hjw⟩ := am_get_eq hw
        have he := am_ws_get (b := b) (sz := sz) (dA := dA) hj
        have hew := am_ws_get (b := b) (sz := sz) (dA := dA) hjw
        obtain ⟨⟨⟨C, Tf, N⟩, q1⟩, q2⟩ := (show (∃ q, cl[ci]? = some q) ∧ ci + 4 ∈ tl from hok)
        obtain ⟨t0, ht0⟩ := am_tys_at (cl := cl) (dA := dA) q2
        have e4 : am_aty cl (ci + 4) = .object C := by simp [am_aty, q1]
        rw [e4] at ht0
        refine va_astq (r := (C, Tf, N)) hx hb hK hP hD hS j t0 jw ci he ht0 hew q1 (am_in_vp hin) hd (fun H1 locs1 g1 g2 g3 => put hj ?_ (k H1 locs1 ?_ g3))
        · rfl
        · show va_P _ _ (am_wsF b sz dA sz (h.set j _)) H1
          rw [am_wsF_set]
          have ef : (fun k => (va_up f jx.toNatClampNeg (some (jw + 1)) k).map (am_ad b sz)) = va_up (fun k => (f k).map (am_ad b sz)) jx.toNatClampNeg (some (sz + jw)) := by
            funext z
            unfold va_up
            split <;> rfl
          show va_P _ _ ((am_wsF b sz dA sz h).set j (sz + j, .inl (dA (ci + 4), n, .inr (.inr (.inr (.inr (fun k => (va_up f jx.toNatClampNeg (some (jw + 1)) k).map (am_ad b sz)))))))) H1
          rw [ef]
          exact g1
      · cases hp
    · cases hp
  · -- Object.<init>
    split at hp
    · rename_i hsum
      cases hp
      obtain ⟨q0, q1, q2, q3⟩ := hok
      refine W.objInit hx hb hown (hts _ q1) (hts _ q2) (hts _ q3) rfl (by rw [hml]) rfl hd (by omega) ?_ ?_
      · show 2 * 0 + _ + 12 ≤ _
        rw [am_sum_tv]
        omega
      · exact same (k H locs hP hS)
    · cases hp
  · -- Math.max, Math.min, System.arraycopy
    rename_i i0 n dp rest
    split at hp
    · rename_i ha
      subst ha
      split at hp
      · rename_i hsum
        cases hp
        obtain ⟨q0, q1, q2, q3, q4⟩ := hok
        exact va_mmax hx hb hml hown (hts _ q1) (hts _ q2) (hts _ q3) (hts _ q4) (by omega) (by rw [am_sum_tv]; omega) (by omega) (by omega) hd (same (k H locs hP hS))
      · cases hp
    · split at hp
      · rename_i ha
        subst ha
        split at hp
        · rename_i hsum
          cases hp
          obtain ⟨q0, q1, q2, q3, q4⟩ := hok
          exact va_mmin hx hb hml hown (hts _ q1) (hts _ q2) (hts _ q3) (hts _ q4) (by omega) (by rw [am_sum_tv]; omega) (by omega) (by omega) hd (same (k H locs hP hS))
        · cases hp
      · rename_i ha1 ha2
        split at hp
        · rename_i d sp sr rest
          split at hp
          · rename_i t0 n0 f t1 n1 g hg hg2
            split at hp
            · rename_i hcd
              obtain ⟨rfl, rfl, c1, c2, c3, c4, c5, c6, c7⟩ := hcd
              cases hp
              obtain ⟨j, rfl, hj⟩ := am_get_eq hg
              obtain ⟨j2, rfl, hj2⟩ := am_get_eq hg2
              have he := am_ws_get (b := b) (sz := sz) (dA := dA) hj
              have he2 := am_ws_get (b := b) (sz := sz) (dA := dA) hj2
              obtain ⟨q0, hok⟩ := hok
              split at hok
              · exact absurd rfl ha1
              · exact absurd rfl ha2
              · obtain ⟨q1, q2, q3, q4, q5⟩ := hok
                obtain ⟨t0, ht0⟩ := am_tys_at (cl := cl) (dA := dA) q5
                refine va_copyi hx hb hml hown (hts _ q1) (hts _ q2) (hts _ q3) (hts _ q4) hK hP hD hS j j2 t0 t0 he he2 ht0 ht0 rfl c1 c2 c3 c4 c5 c7 (by omega) ?_ hd (fun H1 locs1 g1 g2 g3 => put hj2 ?_ (k H1 locs1 ?_ g3))
                · rw [am_sum_tv, show nativeFrameWords "java/lang/System" "arraycopy" 5 = 7 from rfl]
                  omega
                · rfl
                · show va_P _ _ (am_wsF b sz dA sz (h.set j2 _)) H1
                  rw [am_wsF_set]
                  exact g1
            · cases hp
          · cases hp
        · cases hp
  · cases hp
end AMH
end
section
/-! calls, and the whole run -/
theorem am_mono_set {h : am_H} {i : Nat} {c0 c1 : am_C} (hg : am_get h i = some c0) (hs : am_cs c1 = am_cs c0) : h.length ≤ (am_set h i c1).length ∧ am_sl h ≤ am_sl (am_set h i c1) := by
  obtain ⟨j, rfl, hj⟩ := am_get_eq hg
  show h.length ≤ (h.set j c1).length ∧ am_sl h ≤ am_sl (h.set j c1)
  rw [List.length_set, am_sl_set hs hj]
  exact ⟨Nat.le_refl _, Nat.le_refl _⟩
set_option maxHeartbeats 4000000 in
theorem am_heap_mono {P : am_P} {L : Nat} {xs : Nat → Int32} {ins : Jvm.ClassFile.Instr} {a1 a2 : Nat} {st st' : List Value} {h h' : am_H} (hp : am_heap P L xs ins a1 a2 st h = some (st', h')) : h.length ≤ h'.length ∧ am_sl h ≤ am_sl h' := by
  unfold am_heap at hp
  repeat' split at hp
  all_goals first
    | (cases hp; done)
    | (cases hp; exact ⟨Nat.le_refl _, Nat.le_refl _⟩)
    | (cases hp; rw [am_sl_app, List.length_append]; exact ⟨Nat.le_add_right _ _, Nat.le_add_right _ _⟩)
    | (cases hp; apply am_mono_set; · assumption
       · first | rfl | simp [am_cs])
theorem am_run_mono {P : am_P} {T : Nat → Nat → Option am_I} {mt : Nat → am_M} {L : Nat} {xs : Nat → Int32} : ∀ (n : Nat) {mi pc : Nat} {lv : am_L} {st : List Value} {h h' : am_H} {v : Option Value}, am_run P T mt L xs n mi pc lv st h = some (v, h') → h.length ≤ h'.length ∧ am_sl h ≤ am_sl h'
  | 0, mi, pc, lv, st, h, h', v, hr => by simp [am_run] at hr
  | n + 1, mi, pc, lv, st, h, h', v, hr => by
    unfold am_run at hr
    split at hr
    · cases hr
    · split at hr
      · split at hr
        · cases hr
        · exact am_run_mono n hr
      · split at hr
        · cases hr
        · exact am_run_mono n hr
      · split at hr
        · cases hr
        · exact am_run_mono n hr
      · split at hr
        · cases hr
        · rename_i hp
          have h1 := am_heap_mono hp
          have h2 := am_run_mono n hr
          omega
      · split at hr
        · cases hr
        · split at hr
          · cases hr
          · rename_i hp
            have h1 := am_run_mono n hp
            have h2 := am_run_mono n hr
            omega
      · split at hr
        · cases hr
        · cases hr
          exact ⟨Nat.le_refl _, Nat.le_refl _⟩
theorem am_ret_st {ins : Jvm.ClassFile.Instr} {rt : Option FieldType} {st : List Value} {v : Option Value} (h : am_ret ins rt st = some v) : st = v.toList := by
  unfold am_ret at h
  repeat' split at h
  all_goals first | (cases h; done) | (cases h; rfl)
/-- a method's own words -/
def am_okM (tbl : List Cond) (M : am_M) : Prop := Cond.code M.1 M.2.1 M.2.2.1 M.2.2.2.1 ∈ tbl ∧ Cond.initialized M.1.cls ∈ tbl ∧ plainName M.1.cls = true ∧ M.1.cls ≠ "java/lang/invoke/MethodHandle" ∧ M.1.cls ≠ "java/lang/invoke/VarHandle"
def am_lnkM (tbl nst : List Cond) (own : String) (i : Nat) (y : MethodName) : Prop := Cond.methodLink own i y ∈ tbl ∨ ∃ host, Cond.methodLinkNest own i y host ∈ nst
def am_ok4 (cl : List vw_C) (tbl nst : List Cond) (own : String) (rk : Nat × Nat) (ins : Jvm.ClassFile.Instr) (M : am_M) (a2 : Nat) : Prop := (M.2.2.2.2.1.1 < rk.1 ∧ 8 + (M.2.2.1 + 11) + M.2.2.2.2.1.2 ≤ rk.2) ∧ am_okM tbl M ∧ match ins with
  | .invokestatic i => (parseMethodDescriptor M.1.desc).map (fun d => d.parameters.length) = some a2 ∧ Cond.static M.1 ∈ tbl ∧ am_lnkM tbl nst own i M.1
  | .invokespecial i => (parseMethodDescriptor M.1.desc).map (fun d => d.parameters.length + 1) = some a2 ∧ M.1.name = "<init>" ∧ M.2.2.2.1 = none ∧ Cond.instanceMethod M.1 ∈ tbl ∧ am_lnkM tbl nst own i M.1
  | .invokevirtual i => (parseMethodDescriptor M.1.desc).map (fun d => d.parameters.length + 1) = some a2 ∧ (∃ q, cl[M.2.2.2.2.2]? = some q ∧ q.1 = M.1.cls) ∧ Cond.instanceMethod M.1 ∈ tbl ∧ Cond.selects M.1.cls M.1 M.1 ∈ tbl ∧ am_lnkM tbl nst own i M.1
  | _ => False
/-- the table is true to the code -/
def am_okK (cl : List vw_C) (tbl nst : List Cond) (aos : List String) (tl : List Nat) (P : am_P) (mt : Nat → am_M) (mi pc : Nat) (en : am_I) : Prop := match en with
  | (k, ins, len, a1, a2, v, sw, _) => decode (mt mi).2.1 pc = .ok (ins, len) ∧ (am_isSw ins = true ∨ len = am_len ins) ∧ match k with
    | 0 => am_isSw ins = false ∧ am_ok0 tbl (mt mi).1.cls ins v
    | 1 => am_isSw ins = false ∧ am_ok1 ins v
    | 2 => am_ok2 ins pc a1 sw
    | 3 => am_isSw ins = false ∧ am_ok3 cl tbl nst aos tl P.1 P.2 (mt mi).1 (mt mi).2.2.2.2.1 ins a1 a2
    | 4 => am_isSw ins = false ∧ am_ok4 cl tbl nst (mt mi).1.cls (mt mi).2.2.2.2.1 ins (mt a1) a2
    | _ => True
def am_good (w : Cond) : Prop := (w.onTables && w.keeps) = true ∨ ∃ ty, w = .arrayClass ty
/-- all that is fixed -/
def am_okA (cl : List vw_C) (tbl nst : List Cond) (aos : List String) (tl : List Nat) (P : am_P) (T : Nat → Nat → Option am_I) (mt : Nat → am_M) : Prop := (∀ (mi pc : Nat) (en : am_I), T mi pc = some en → am_okK cl tbl nst aos tl P mt mi pc en) ∧ am_okC cl tbl P.1 ∧ (∀ w ∈ tbl, am_good w) ∧ (∀ w ∈ nst, am_isN w = true)
/-- a contract's start and end -/
def am_Pc (b sz L : Nat) (xs : Nat → Int32) (dC : Nat → ClassId) (dI : Nat → Nat → Nat) (dA : Nat → ClassId) (cl : List vw_C) (tl : List Nat) (nst : List Cond) (aos : List String) (as : List Value) (h : am_H) : Array Value → State → Prop := fun a U => a = (as.map (am_tv b sz)).toArray ∧ U.heap.size = sz + h.length ∧ va_P (dC, dI) cl (am_ws b sz dA h) U.heap ∧ va_X b L xs U U.heap ∧ am_env dC dI dA cl tl nst aos U
def am_Qc (b sz : Nat) (dC : Nat → ClassId) (dI : Nat → Nat → Nat) (dA : Nat → ClassId) (cl : List vw_C) (v : Option Value) (h : am_H) : Array Value → State → Outcome → State → Prop := fun _ U o t => o = .returned (v.map (am_tv b sz)) ∧ va_P (dC, dI) cl (am_ws b sz dA h) t.heap ∧ va_F (fun q : Nat => sz ≤ q) U t
theorem am_blind {b sz L : Nat} {xs : Nat → Int32} {dC : Nat → ClassId} {dI : Nat → Nat → Nat} {dA : Nat → ClassId} {cl : List vw_C} {tl : List Nat} {nst : List Cond} {aos : List String} {as : List Value} {h : am_H} (hN : ∀ w ∈ nst, am_isN w = true) : FrameBlind (am_Pc b sz L xs dC dI dA cl tl nst aos as h) := by
  intro a U g mk q
  obtain ⟨q1, q2, q3, q4, q5⟩ := q
  exact ⟨q1, q2, q3, va_X.moved (u := U) (U := U.calling g mk a) (Vm.Alike.refl U.vm) q4, am_env.moved (U := U.calling g mk a) hN (State.WarmedH.refl U) q5⟩
/-- what is proved of a run of n steps -/
def am_Wst (l : Launch) (b sz L : Nat) (xs : Nat → Int32) (dC : Nat → ClassId) (dI : Nat → Nat → Nat) (dA : Nat → ClassId) (cl : List vw_C) (tbl nst : List Cond) (aos : List String) (tl : List Nat) (P : am_P) (T : Nat → Nat → Option am_I) (mt : Nat → am_M) (n : Nat) : Prop :=
  ∀ (mi pc : Nat) (lv : am_L) (st : List Value) (h : am_H) (v : Option Value) (h' : am_H), am_run P T mt L xs n mi pc lv st h = some (v, h') →
  ∀ (p : Program) (e : Env) (R : Room) (s : State) (m : MethodId) (args : Array Value) (below : List Frame) (meth : Method) (c : Code) (H : Heap) (locs : List Loc) (cells slots : Nat) (Q : State → Prop) (ls : Array Slot),
  p.tables.exec = Jvm.exec → c.code = (mt mi).2.1 → c.maxLocals = (mt mi).2.2.1 → s.vm.findClass (mt mi).1.cls = some m.cls → ((mt mi).1.name = "<init>" → meth.name = "<init>") → (∀ w ∈ tbl, w.before args s = true) → am_env dC dI dA cl tl nst aos s → va_X b L xs s s.heap → sz ≤ s.heap.size →
  va_P (dC, dI) cl (am_ws b sz dA h) H → va_S (fun q : Nat => sz ≤ q) s.heap H locs → s.heap.size + cells = sz + h.length → lv_has ls (mt mi).2.2.1 (am_lvT b sz lv) → (mt mi).2.2.2.2.1.1 ≤ R.frames → (mt mi).2.2.2.2.1.2 ≤ R.locals → cells + (h'.length - h.length) ≤ R.cells → slots + (am_sl h' - am_sl h) ≤ R.slots →
  (∀ (pc' : Nat) (ins : Jvm.ClassFile.Instr) (ls' : Array Slot) (H' : Heap) (locs' : List Loc), decode (mt mi).2.1 pc' = .ok (ins, 1) → am_ret ins (mt mi).2.2.2.1 v.toList = some v → va_P (dC, dI) cl (am_ws b sz dA h') H' → va_S (fun q : Nat => sz ≤ q) s.heap H' locs' → W p l e R s m args below meth c H' locs' (cells + (h'.length - h.length)) (slots + (am_sl h' - am_sl h)) Q (F0 m pc' ls' (v.toList.map (am_tv b sz)))) →
  W p l e R s m args below meth c H locs cells slots Q (F0 m pc ls (st.map (am_tv b sz)))
section AMR
variable {l : Launch} {b sz L : Nat} {xs : Nat → Int32} {dC : Nat → ClassId} {dI : Nat → Nat → Nat} {dA : Nat → ClassId} {cl : List vw_C} {tbl nst : List Cond} {aos : List String} {tl : List Nat} {P : am_P} {T : Nat → Nat → Option am_I} {mt : Nat → am_M}
/-- the return of a method that was called -/
theorem am_ret_W {p : Program} {e : Env} {R : Room} {s : State} {m : MethodId} {args : Array Value} {below : List Frame} {meth : Method} {c : Code} {H : Heap} {locs : List Loc} {cells slots : Nat} {cc : ByteArray} {rt : Option FieldType} {pc : Nat} {ins : Jvm.ClassFile.Instr} {ls : Array Slot} {v : Option Value} {h : am_H} (hx : p.tables.exec = Jvm.exec) (hb : c.code = cc) (hr : meth.sig.returnType = rt) (hlocks : meth.locks = false) (hd : decode cc pc = .ok (ins, 1)) (hret : am_ret ins rt v.toList = some v) (hP : va_P (dC, dI) cl (am_ws b sz dA h) H) (hS : va_S (fun q : Nat => sz ≤ q) s.heap H locs) :
    W p l e R s m args below meth c H locs cells slots (MQ below (am_Qc b sz dC dI dA cl v h) args s cells slots (fun q : Nat => sz ≤ q)) (F0 m pc ls (v.toList.map (am_tv b sz))) := by
  have hq : ∀ t : State, t.heap = H → s.WarmedH t.vm → am_Qc b sz dC dI dA cl v h args s (.returned (v.map (am_tv b sz))) t := fun t ht _ => ⟨rfl, by rw [ht]; exact hP, hS.F ht⟩
  generalize hst : v.toList = st at hret
  unfold am_ret at hret
  split at hret
  · split at hret
    · rename_i hn
      cases hret
      exact W.zret hx hb hr hn hq hS.2.2 hd hlocks
    · cases hret
  · cases hret
    exact W.lret hx hb hr hq hS.2.2 hd hlocks
  · cases hret
    exact W.aret hx hb hr (Or.inl ⟨_, rfl⟩) (Or.inr ⟨_, rfl⟩) hq hS.2.2 hd hlocks
  · cases hret
    exact W.aret hx hb hr (Or.inl ⟨_, rfl⟩) (Or.inl rfl) hq hS.2.2 hd hlocks
  · cases hret
    exact W.aret hx hb hr (Or.inr ⟨_, rfl⟩) (Or.inr ⟨_, rfl⟩) hq hS.2.2 hd hlocks
  · cases hret
    exact W.aret hx hb hr (Or.inr ⟨_, rfl⟩) (Or.inl rfl) hq hS.2.2 hd hlocks
  · cases hret
    exact W.vret hx hb hr hq hS.2.2 hd hlocks
  · cases hret
abbrev am_rm (M : am_M) (mc ms : Nat) : Room := { frames := M.2.2.2.2.1.1, cells := mc, slots := ms, locals := M.2.2.2.2.1.2 }
abbrev am_wd (tbl : List Cond) (M : am_M) : List Cond := Cond.code M.1 M.2.1 M.2.2.1 M.2.2.2.1 :: tbl
/-- a callee's contract out of its run -/
theorem am_met {n mj : Nat} {as : List Value} {h h' : am_H} {v : Option Value} (hbs : b < sz) (ih : am_Wst l b sz L xs dC dI dA cl tbl nst aos tl P T mt n) (hM : am_okM tbl (mt mj)) (hw : (as.map fun v => v.category).sum ≤ (mt mj).2.2.1) (hr : am_run P T mt L xs n mj 0 (lv_args 0 as) [] h = some (v, h')) :
    Met l (mt mj).1 (am_wd tbl (mt mj)) (am_rm (mt mj) (h'.length - h.length) (am_sl h' - am_sl h)) (am_Pc b sz L xs dC dI dA cl tl nst aos as h) (am_Qc b sz dC dI dA cl v h') (h'.length - h.length) (am_sl h' - am_sl h) (fun q : Nat => sz ≤ q) := by
  refine Met.ofW (cc := (mt mj).2.1) (maxL := (mt mj).2.2.1) (ret := (mt mj).2.2.2.1) hM.2.2.1 rfl ?_
  intro p e s m args below meth c s₁ B hml hv
  obtain ⟨rfl, hsz, hP, hX, hE⟩ := hv
  have hts := atoms_spec (ws := am_wd tbl (mt mj)) B.pre
  have hl := lv_entry (as.map (am_tv b sz)) (n := (mt mj).2.2.1) (by rw [am_sl_len, am_sum_tv]; exact hw)
  rw [lg_entry_eq]
  generalize (lg_sl (as.map (am_tv b sz)) ++ List.replicate ((mt mj).2.2.1 - (lg_sl (as.map (am_tv b sz))).length) Slot.unset).toArray = ls at hl ⊢
  rw [am_args_tv] at hl
  have key := ih mj 0 (lv_args 0 as) [] h v h' hr p e (am_rm (mt mj) (h'.length - h.length) (am_sl h' - am_sl h)) s m (as.map (am_tv b sz)).toArray below meth c s.heap [] 0 0 (MQ below (am_Qc b sz dC dI dA cl v h') (as.map (am_tv b sz)).toArray s (h'.length - h.length) (am_sl h' - am_sl h) (fun q : Nat => sz ≤ q)) ls B.exec B.bytes hml (findClass_of_methodNamed B.named) (fun z => (name_of_methodNamed B.named B.method).1.trans z) (fun w h1 => hts w (List.mem_cons_of_mem _ h1)) hE hX (by omega) hP va_S.rf (by omega) hl (Nat.le_refl _) (Nat.le_refl _) (Nat.le_of_eq (Nat.zero_add _)) (Nat.le_of_eq (Nat.zero_add _)) (fun pc' ins ls' H' locs' g1 g2 g3 g4 => by
      rw [Nat.zero_add, Nat.zero_add]
      exact am_ret_W B.exec B.bytes B.returns B.notSynchronized g1 g2 g3 g4)
  exact key
/-- the heap is as large as it should be -/
theorem am_size {p : Program} {e : Env} {R : Room} {s : State} {m : MethodId} {args : Array Value} {below : List Frame} {meth : Method} {c : Code} {H : Heap} {locs : List Loc} {cells slots : Nat} {Q : State → Prop} {g : JFrame} {h : am_H} (hP : va_P (dC, dI) cl (am_ws b sz dA h) H) (hS : va_S (fun q : Nat => sz ≤ q) s.heap H locs) (hss : sz ≤ s.heap.size) (hcnt : s.heap.size + cells = sz + h.length)
    (kk : H.size = sz + h.length → W p l e R s m args below meth c H locs cells slots Q g) : W p l e R s m args below meth c H locs cells slots Q g := by
  intro T hT X
  have h1 : H.size ≤ s.heap.size + cells := by rw [← hT]; exact X.heapSize
  have h2 : sz + h.length ≤ H.size := by
    cases hz : h.length with
    | zero => exact Nat.le_trans hss hS.1
    | succ k =>
      have hi : k < h.length := by omega
      have h3 := (hP k _ (am_ws_get (List.getElem?_eq_getElem hi))).lt
      have h3 : sz + k < H.size := h3
      omega
  exact kk (by omega) T hT X
/-- behind a call -/
theorem am_goes {p : Program} {e : Env} {R : Room} {s : State} {m : MethodId} {args : Array Value} {below : List Frame} {meth : Method} {c : Code} {H : Heap} {locs : List Loc} {cells slots mc ms : Nat} {Q : State → Prop} {pc : Nat} {ls : Array Slot} {st0 rest : List Value} {a : Array Value} {v : Option Value} {h : am_H}
    (hr : va_Run p l e R s m args below meth c H locs cells slots mc ms (F0 m pc ls st0) rest (am_Qc b sz dC dI dA cl v h a) (fun q : Nat => sz ≤ q)) (hS : va_S (fun q : Nat => sz ≤ q) s.heap H locs)
    (k : ∀ (H1 : Heap) (locs1 : List Loc), va_P (dC, dI) cl (am_ws b sz dA h) H1 → va_S (fun q : Nat => sz ≤ q) s.heap H1 locs1 → W p l e R s m args below meth c H1 locs1 (cells + mc) (slots + ms) Q (F0 m (pc + 3) ls ((v.map (am_tv b sz)).toList ++ rest))) : W p l e R s m args below meth c H locs cells slots Q (F0 m pc ls st0) := by
  intro T hT X
  obtain ⟨v', st₀, t, T', L, h0, X', hL, e1, e2, ⟨hv, hPt, hz, hk⟩, st⟩ := hr T hT X
  cases hv
  rw [h0] at hz hk
  obtain ⟨t2, a1, b1⟩ := k T'.heap (locs ++ L) (by rw [e1]; exact hPt) ⟨Nat.le_trans hS.1 (by rw [e1]; exact hz), fun q g1 g2 => by
      rw [e1, hk q (Nat.lt_of_lt_of_le g1 hS.1) g2]
      exact hS.2.1 q g1 g2, fun q hq => by
      rcases List.mem_append.mp hq with g | g
      · exact hS.2.2 q g
      · exact hL q g⟩ T' rfl X'
  exact ⟨t2, st t2 a1, b1⟩
theorem am_call_inv {ins : Jvm.ClassFile.Instr} {ci mL a2 : Nat} {st as rest : List Value} {h : am_H} (hc : am_call ins ci mL a2 st h = some (as, rest)) : st = as.reverse ++ rest ∧ as.length = a2 ∧ (rest.map fun v => v.category).sum ≤ 8 ∧ (as.map fun v => v.category).sum ≤ mL ∧ ((∃ i, ins = .invokestatic i) ∨ ((∃ i, ins = .invokespecial i) ∧ ∃ a as', as = .ref a :: as') ∨ ((∃ i, ins = .invokevirtual i) ∧ ∃ a as' fs, as = .ref a :: as' ∧ am_get h a = some (.inr (ci, fs)))) := by
  unfold am_call at hc
  split at hc
  · rename_i hcd
    obtain ⟨c1, c2, c3⟩ := hcd
    have base : st = ((st.take a2).reverse).reverse ++ st.drop a2 := by rw [List.reverse_reverse, List.take_append_drop]
    have blen : ((st.take a2).reverse).length = a2 := by rw [List.length_reverse, List.length_take]; omega
    generalize hg : (st.take a2).reverse = q at hc c3 base blen
    split at hc
    · cases hc
      exact ⟨base, blen, c2, c3, Or.inl ⟨_, rfl⟩⟩
    · cases hc
      exact ⟨base, blen, c2, c3, Or.inr (Or.inl ⟨⟨_, rfl⟩, _, _, rfl⟩)⟩
    · split at hc
      · split at hc
        · rename_i hgg hci
          cases hc
          subst hci
          exact ⟨base, blen, c2, c3, Or.inr (Or.inr ⟨⟨_, rfl⟩, _, _, _, rfl, hgg⟩)⟩
        · cases hc
      · cases hc
    · cases hc
  · cases hc
set_option maxHeartbeats 4000000 in
/-- THE RUN IS SOUND -/
theorem am_W_all (hbs : b < sz) (hA : am_okA cl tbl nst aos tl P T mt) : ∀ n : Nat, am_Wst l b sz L xs dC dI dA cl tbl nst aos tl P T mt n := by
  obtain ⟨hI, hC, hG, hN⟩ := hA
  intro n
  induction n with
  | zero => intro mi pc lv st h v h' hr; simp [am_run] at hr
  | succ n ih =>
    intro mi pc lv st h v h' hr p e R s m args below meth c H locs cells slots Q ls hx hb hml hown hnm hts hE hX hss hP hS hcnt hl hf1 hf2 hc1 hc2 kk
    unfold am_run at hr
    split at hr
    · cases hr
    · rename_i k ins len a1 a2 va sw lm hT
      obtain ⟨hd, hsw, hok⟩ := hI _ _ _ hT
      split at hr
      · split at hr
        · cases hr
        · rename_i st1 hp
          obtain ⟨hs0, hok⟩ := (show am_isSw ins = false ∧ am_ok0 tbl (mt mi).1.cls ins va from hok)
          have hn : len = am_len ins := by rcases hsw with z | z; · rw [hs0] at z; cases z
                                           · exact z
          exact am_pure_W hx hb hown hts hd hn hok hp (ih mi _ _ _ h v h' hr p e R s m args below meth c H locs cells slots Q ls hx hb hml hown hnm hts hE hX hss hP hS hcnt (am_has_live hl) hf1 hf2 hc1 hc2 kk)
      · split at hr
        · cases hr
        · rename_i lv1 st1 hp
          obtain ⟨hs0, hok⟩ := (show am_isSw ins = false ∧ am_ok1 ins va from hok)
          have hn : len = am_len ins := by rcases hsw with z | z; · rw [hs0] at z; cases z
                                           · exact z
          exact am_loc_W hx hb hd hn hok (am_has_live (lm := lm) hl) hp (fun ls' hl' => ih mi _ _ _ h v h' hr p e R s m args below meth c H locs cells slots Q ls' hx hb hml hown hnm hts hE hX hss hP hS hcnt hl' hf1 hf2 hc1 hc2 kk)
      · split at hr
        · cases hr
        · rename_i pc1 st1 hp
          exact am_jump_W hx hb hd hsw (show am_ok2 ins pc a1 sw from hok) hp (ih mi _ _ _ h v h' hr p e R s m args below meth c H locs cells slots Q ls hx hb hml hown hnm hts hE hX hss hP hS hcnt (am_has_live hl) hf1 hf2 hc1 hc2 kk)
      · split at hr
        · cases hr
        · rename_i st1 h1 hp
          obtain ⟨hs0, hok⟩ := (show am_isSw ins = false ∧ am_ok3 cl tbl nst aos tl P.1 P.2 (mt mi).1 (mt mi).2.2.2.2.1 ins a1 a2 from hok)
          have hn : len = am_len ins := by rcases hsw with z | z; · rw [hs0] at z; cases z
                                           · exact z
          have m1 := am_heap_mono hp
          have m2 := am_run_mono n hr
          refine am_heap_W (fty := P.1) (dfl := P.2) (rk := (mt mi).2.2.2.2.1) hx hb (hml.trans hl.1.symm) hown hnm hts hE hC hd hn hok hX hbs hss hP hS hcnt ⟨hf1, hf2⟩ hp (by omega) (by omega) (fun H' locs' g1 g2 => ?_)
          refine ih mi _ _ _ h1 v h' hr p e R s m args below meth c H' locs' _ _ Q ls hx hb hml hown hnm hts hE hX hss g1 g2 (by omega) (am_has_live hl) hf1 hf2 (by omega) (by omega) ?_
          rw [show cells + (h1.length - h.length) + (h'.length - h1.length) = cells + (h'.length - h.length) by omega, show slots + (am_sl h1 - am_sl h) + (am_sl h' - am_sl h1) = slots + (am_sl h' - am_sl h) by omega]
          exact kk
      · split at hr
        · cases hr
        · rename_i as st1 hp
          split at hr
          · cases hr
          · rename_i rv h1 hcal
            obtain ⟨hs0, hrk, hM, hok⟩ := (show am_isSw ins = false ∧ am_ok4 cl tbl nst (mt mi).1.cls (mt mi).2.2.2.2.1 ins (mt a1) a2 from hok)
            have hn : len = am_len ins := by rcases hsw with z | z; · rw [hs0] at z; cases z
                                             · exact z
            obtain ⟨e1, e2, e3, e4, e5⟩ := am_call_inv hp
            have m1 := am_run_mono n hcal
            have m2 := am_run_mono n hr
            have met := am_met hbs ih hM e4 hcal
            have hgood : GoodIn tbl (am_wd tbl (mt a1)) := fun w hw => by
              rcases List.mem_cons.mp hw with z | z
              · rw [z]; exact ⟨hM.1, Or.inl rfl⟩
              · exact ⟨z, hG w z⟩
            have hpay := pay_in hts hgood
            have hini := hts _ hM.2.1
            have hroom : (am_rm (mt a1) (h1.length - h.length) (am_sl h1 - am_sl h)).frames + 1 ≤ R.frames ∧ 8 + ((mt a1).2.2.1 + 11) + (am_rm (mt a1) (h1.length - h.length) (am_sl h1 - am_sl h)).locals ≤ R.locals := by
              show (mt a1).2.2.2.2.1.1 + 1 ≤ _ ∧ _ + (mt a1).2.2.2.2.1.2 ≤ _
              omega
            refine am_size hP hS hss hcnt fun hz => ?_
            have hpre : ∀ U : State, U.heap = H → s.WarmedH U.vm → am_Pc b sz L xs dC dI dA cl tl nst aos as h (as.map (am_tv b sz)).toArray U := fun U hU hW => by
              exact ⟨rfl, by rw [hU]; exact hz, by rw [hU]; exact hP, va_X.moved hW.alike (by rw [hU]; exact hX.kept (hS.2.1 b (by omega) (by omega))), am_env.moved hN hW hE⟩
            have hcw : ((st1.map (am_tv b sz)).map fun v => v.category).sum ≤ 8 := by rw [am_sum_tv]; exact e3
            have hmon : ∀ st0 : List Value, 2 * (F0 m pc ls st0).monitorRoom + ((st1.map (am_tv b sz)).map fun v => v.category).sum ≤ 8 := fun st0 => by show 2 * 0 + _ ≤ 8; omega
            have hstk : st.map (am_tv b sz) = (as.map (am_tv b sz)).reverse ++ st1.map (am_tv b sz) := by rw [e1, List.map_append, List.map_reverse]
            have fin : ∀ {a : Array Value}, va_Run p l e R s m args below meth c H locs cells slots (h1.length - h.length) (am_sl h1 - am_sl h) (F0 m pc ls (st.map (am_tv b sz))) (st1.map (am_tv b sz)) (am_Qc b sz dC dI dA cl rv h1 a) (fun q : Nat => sz ≤ q) → len = 3 → W p l e R s m args below meth c H locs cells slots Q (F0 m pc ls (st.map (am_tv b sz))) := by
              intro a hrun hl3
              subst hl3
              refine am_goes hrun hS fun H' locs' g1 g2 => ?_
              have e6 : (rv.map (am_tv b sz)).toList ++ st1.map (am_tv b sz) = (rv.toList ++ st1).map (am_tv b sz) := by cases rv <;> simp
              rw [e6]
              refine ih mi _ _ _ h1 v h' hr p e R s m args below meth c H' locs' _ _ Q ls hx hb hml hown hnm hts hE hX hss g1 g2 (by omega) (am_has_live hl) hf1 hf2 (by omega) (by omega) ?_
              rw [show cells + (h1.length - h.length) + (h'.length - h1.length) = cells + (h'.length - h.length) by omega, show slots + (am_sl h1 - am_sl h) + (am_sl h' - am_sl h1) = slots + (am_sl h' - am_sl h) by omega]
              exact kk
            have hcs : cells + (h1.length - h.length) ≤ R.cells ∧ slots + (am_sl h1 - am_sl h) ≤ R.slots := by omega
            have fixS : CallFix p m c (mt mi).2.1 (mt mi).2.2.1 s args tbl (mt mi).1.cls := ⟨hx, hb, hml, hown, hts⟩
            rcases e5 with ⟨i, rfl⟩ | ⟨⟨i, rfl⟩, a, as', rfl⟩ | ⟨⟨i, rfl⟩, a, as', fs, rfl, hrec⟩
            · obtain ⟨k1, k2, k3⟩ := hok
              rcases k3 with k3 | ⟨host, k3⟩
              · exact fin (va_runS fixS met ⟨callB_of a2 hts hgood rfl rfl rfl hini (hts _ k3) ⟨hM.2.2.2.1, hM.2.2.2.2, k1⟩ hroom, hts _ k2⟩ ⟨am_blind hN, hpre⟩ rfl (by rw [List.length_map]; exact e2) hl.1 hstk (hmon _) (by rw [hn] at hd; exact hd) hcs) hn
              · exact fin (va_runSN fixS met ⟨va_cnB a2 hts hgood rfl rfl rfl (hE.2.1 _ k3) hini ⟨hM.2.2.2.1, hM.2.2.2.2, k1⟩ hroom, hts _ k2, trivial⟩ ⟨am_blind hN, hpre⟩ rfl (by rw [List.length_map]; exact e2) hl.1 hstk (hmon _) (by rw [hn] at hd; exact hd) hcs) hn
            · obtain ⟨k1, k2, k2b, k3, k4⟩ := hok
              have k1' : (parseMethodDescriptor (mt a1).1.desc).map (fun d => d.parameters.length) = some as'.length := by
                cases hz : parseMethodDescriptor (mt a1).1.desc with
                | none => rw [hz] at k1; cases k1
                | some d =>
                  rw [hz] at k1
                  have k1 : d.parameters.length + 1 = _ := Option.some.inj k1
                  simp only [List.length_cons] at e2
                  show some d.parameters.length = _
                  congr 1
                  omega
              have hstk2 : st.map (am_tv b sz) = (as'.map (am_tv b sz)).reverse ++ .ref (am_ad b sz a) :: st1.map (am_tv b sz) := by rw [hstk]; simp [am_tv]
              have met' := met
              rw [show am_wd tbl (mt a1) = Cond.code (mt a1).1 (mt a1).2.1 (mt a1).2.2.1 none :: tbl by rw [am_wd, k2b]] at met'
              have hgood' : GoodIn tbl (Cond.code (mt a1).1 (mt a1).2.1 (mt a1).2.2.1 none :: tbl) := by rw [← k2b]; exact hgood
              rcases k4 with k4 | ⟨host, k4⟩
              · exact fin (va_runI (As := as'.map (am_tv b sz)) fixS met' ⟨callB_of as'.length hts hgood' rfl rfl rfl hini (hts _ k4) ⟨hM.2.2.2.1, hM.2.2.2.2, k1'⟩ hroom, k2, hts _ k3⟩ ⟨am_blind hN, hpre⟩ rfl (by rw [List.length_map]) hl.1 hstk2 (hmon _) (by rw [hn] at hd; exact hd) hcs) hn
              · exact fin (va_runIN (As := as'.map (am_tv b sz)) fixS met' ⟨va_cnB as'.length hts hgood' rfl rfl rfl (hE.2.1 _ k4) hini ⟨hM.2.2.2.1, hM.2.2.2.2, k1'⟩ hroom, k2, hts _ k3⟩ ⟨am_blind hN, hpre⟩ rfl (by rw [List.length_map]) hl.1 hstk2 (hmon _) (by rw [hn] at hd; exact hd) hcs) hn
            · obtain ⟨k1, ⟨⟨C, Tf, N⟩, k2, k2b⟩, k3, k4, k5⟩ := hok
              have k2b : C = (mt a1).1.cls := k2b
              subst k2b
              have k1' : (parseMethodDescriptor (mt a1).1.desc).map (fun d => d.parameters.length) = some as'.length := by
                cases hz : parseMethodDescriptor (mt a1).1.desc with
                | none => rw [hz] at k1; cases k1
                | some d =>
                  rw [hz] at k1
                  have k1 : d.parameters.length + 1 = _ := Option.some.inj k1
                  simp only [List.length_cons] at e2
                  show some d.parameters.length = _
                  congr 1
                  omega
              have hstk2 : st.map (am_tv b sz) = (as'.map (am_tv b sz)).reverse ++ .ref (am_ad b sz a) :: st1.map (am_tv b sz) := by rw [hstk]; simp [am_tv]
              obtain ⟨j, rfl, hj⟩ := am_get_eq hrec
              have he := am_ws_get (b := b) (sz := sz) (dA := dA) hj
              have hrv := va_recv hE.1 hP k2 he
              rcases k5 with k5 | ⟨host, k5⟩
              · exact fin (va_runV (As := as'.map (am_tv b sz)) (C := (mt a1).1.cls) fixS met ⟨callB_of as'.length hts hgood rfl rfl rfl hini (hts _ k5) ⟨hM.2.2.2.1, hM.2.2.2.2, k1'⟩ hroom, hts _ k3, hts _ k4⟩ ⟨am_blind hN, hrv, hpre⟩ rfl (by rw [List.length_map]) hl.1 hstk2 (hmon _) (by rw [hn] at hd; exact hd) hcs) hn
              · exact fin (va_runVN (As := as'.map (am_tv b sz)) (C := (mt a1).1.cls) fixS met ⟨va_cnB as'.length hts hgood rfl rfl rfl (hE.2.1 _ k5) hini ⟨hM.2.2.2.1, hM.2.2.2.2, k1'⟩ hroom, hts _ k3, hts _ k4⟩ ⟨am_blind hN, hrv, hpre⟩ rfl (by rw [List.length_map]) hl.1 hstk2 (hmon _) (by rw [hn] at hd; exact hd) hcs) hn
      · split at hr
        · cases hr
        · rename_i rv hp
          cases hr
          have h0 := am_ret_st hp
          rw [h0] at hp ⊢
          have hn : len = 1 := by
            rcases hsw with z | z
            · cases ins <;> first | (simp [am_isSw] at z; done) | (simp [am_ret] at hp)
            · cases ins <;> first | exact z | (simp [am_ret] at hp)
          rw [hn] at hd
          have := kk pc ins ls H locs hd hp hP hS
          rw [Nat.sub_self, Nat.sub_self] at this
          exact this
end AMR
end
section
/-! RUNS, said of the function alone: am_ev (a method's answer), am_wp (from a place on) -/
section AMP
variable (P : am_P) (T : Nat → Nat → Option am_I) (mt : Nat → am_M) (L : Nat) (xs : Nat → Int32)
/-- from here on the run ends, with Q -/
def am_wp (mi pc : Nat) (lv : am_L) (st : List Value) (h : am_H) (Q : Option Value → am_H → Prop) : Prop := ∃ (v : Option Value) (h' : am_H), Q v h' ∧ ∃ N, ∀ n, N ≤ n → am_run P T mt L xs n mi pc lv st h = some (v, h')
/-- the method mi, with these arguments, answers v and leaves h' -/
def am_ev (mi : Nat) (as : List Value) (h : am_H) (v : Option Value) (h' : am_H) : Prop := ∃ N, ∀ n, N ≤ n → am_run P T mt L xs n mi 0 (lv_args 0 as) [] h = some (v, h')
end AMP
section AMQ
variable {P : am_P} {T : Nat → Nat → Option am_I} {mt : Nat → am_M} {L : Nat} {xs : Nat → Int32}
variable {mi pc : Nat} {lv : am_L} {st st' : List Value} {h : am_H} {Q : Option Value → am_H → Prop} {ins : Jvm.ClassFile.Instr} {len a1 a2 : Nat} {v : Value} {sw : List (Int32 × Nat)} {lm : Option (List Nat)}
theorem am_wp_step {mi2 pc2 : Nat} {lv2 : am_L} {st2 : List Value} {h2 : am_H} (hs : ∀ n, am_run P T mt L xs (n + 1) mi pc lv st h = am_run P T mt L xs n mi2 pc2 lv2 st2 h2) (k : am_wp P T mt L xs mi2 pc2 lv2 st2 h2 Q) : am_wp P T mt L xs mi pc lv st h Q := by
  obtain ⟨v, h', q, N, hN⟩ := k
  refine ⟨v, h', q, N + 1, fun n hn => ?_⟩
  obtain ⟨n', rfl⟩ : ∃ n', n = n' + 1 := ⟨n - 1, by omega⟩
  rw [hs]
  exact hN n' (by omega)
theorem am_wp_ev {as : List Value} {v : Option Value} {h' : am_H} (k : am_wp P T mt L xs mi 0 (lv_args 0 as) [] h (fun v1 h1 => v1 = v ∧ h1 = h')) : am_ev P T mt L xs mi as h v h' := by
  obtain ⟨v1, h1, ⟨rfl, rfl⟩, N, hN⟩ := k
  exact ⟨N, hN⟩
theorem am_wp_mono {Q' : Option Value → am_H → Prop} (k : am_wp P T mt L xs mi pc lv st h Q) (hq : ∀ v h, Q v h → Q' v h) : am_wp P T mt L xs mi pc lv st h Q' := by
  obtain ⟨v1, h1, q, N, hN⟩ := k
  exact ⟨v1, h1, hq _ _ q, N, hN⟩
/-- a value from the stack -/
theorem wp0 (hT : T mi pc = some (0, ins, len, a1, a2, v, sw, lm)) (hp : am_pure ins v st = some st') (k : am_wp P T mt L xs mi (pc + len) (am_live lm lv) st' h Q) : am_wp P T mt L xs mi pc lv st h Q :=
  am_wp_step (fun n => by simp only [am_run, hT, hp]) k
/-- locals -/
theorem wp1 {lv' : am_L} (hT : T mi pc = some (1, ins, len, a1, a2, v, sw, lm)) (hp : am_loc ins v (mt mi).2.2.1 (am_live lm lv) st = some (lv', st')) (k : am_wp P T mt L xs mi (pc + len) lv' st' h Q) : am_wp P T mt L xs mi pc lv st h Q :=
  am_wp_step (fun n => by simp only [am_run, hT, hp]) k
/-- jumps -/
theorem wp2 {pc' : Nat} (hT : T mi pc = some (2, ins, len, a1, a2, v, sw, lm)) (hp : am_jump ins a1 (pc + len) sw st = some (pc', st')) (k : am_wp P T mt L xs mi pc' (am_live lm lv) st' h Q) : am_wp P T mt L xs mi pc lv st h Q :=
  am_wp_step (fun n => by simp only [am_run, hT, hp]) k
/-- a branch: both ways -/
theorem wp2b {c : Prop} [Decidable c] {t1 t2 : Nat} (hT : T mi pc = some (2, ins, len, a1, a2, v, sw, lm)) (hp : am_jump ins a1 (pc + len) sw st = some (if c then t1 else t2, st')) (k1 : c → am_wp P T mt L xs mi t1 (am_live lm lv) st' h Q) (k2 : ¬ c → am_wp P T mt L xs mi t2 (am_live lm lv) st' h Q) : am_wp P T mt L xs mi pc lv st h Q := by
  refine wp2 hT hp ?_
  by_cases hc : c
  · rw [if_pos hc]; exact k1 hc
  · rw [if_neg hc]; exact k2 hc
/-- the heap -/
theorem wp3 {h' : am_H} (hT : T mi pc = some (3, ins, len, a1, a2, v, sw, lm)) (hp : am_heap P L xs ins a1 a2 st h = some (st', h')) (k : am_wp P T mt L xs mi (pc + len) (am_live lm lv) st' h' Q) : am_wp P T mt L xs mi pc lv st h Q :=
  am_wp_step (fun n => by simp only [am_run, hT, hp]) k
theorem am_ev_at {as rest : List Value} {rv : Option Value} {h1 : am_H} (hT : T mi pc = some (4, ins, len, a1, a2, v, sw, lm)) (hp : am_call ins (mt a1).2.2.2.2.2 (mt a1).2.2.1 a2 st h = some (as, rest)) (hc : am_ev P T mt L xs a1 as h rv h1) (k : am_wp P T mt L xs mi (pc + len) (am_live lm lv) (rv.toList ++ rest) h1 Q) : am_wp P T mt L xs mi pc lv st h Q := by
  obtain ⟨v2, h2, q, N, hN⟩ := k
  obtain ⟨N1, hN1⟩ := hc
  refine ⟨v2, h2, q, N + N1 + 1, fun n hn => ?_⟩
  obtain ⟨n', rfl⟩ : ∃ n', n = n' + 1 := ⟨n - 1, by omega⟩
  simp only [am_run, hT, hp, hN1 n' (by omega)]
  exact hN n' (by omega)
/-- a call whose callee has such an answer -/
theorem wp4 {as rest : List Value} {Qc : Option Value → am_H → Prop} (hT : T mi pc = some (4, ins, len, a1, a2, v, sw, lm)) (hp : am_call ins (mt a1).2.2.2.2.2 (mt a1).2.2.1 a2 st h = some (as, rest)) (hc : am_wp P T mt L xs a1 0 (lv_args 0 as) [] h Qc) (k : ∀ rv h1, Qc rv h1 → am_wp P T mt L xs mi (pc + len) (am_live lm lv) (rv.toList ++ rest) h1 Q) : am_wp P T mt L xs mi pc lv st h Q := by
  obtain ⟨rv, h1, q, hN⟩ := hc
  exact am_ev_at hT hp hN (k rv h1 q)
/-- the end -/
theorem wp5 {rv : Option Value} (hT : T mi pc = some (5, ins, len, a1, a2, v, sw, lm)) (hp : am_ret ins (mt mi).2.2.2.1 st = some rv) (q : Q rv h) : am_wp P T mt L xs mi pc lv st h Q := by
  refine ⟨rv, h, q, 1, fun n hn => ?_⟩
  obtain ⟨n', rfl⟩ : ∃ n', n = n' + 1 := ⟨n - 1, by omega⟩
  simp only [am_run, hT, hp]
/-- where the table names what lives, no more is looked at -/
theorem am_live_live (lm : Option (List Nat)) (lv : am_L) : am_live lm (am_live lm lv) = am_live lm lv := by
  cases lm with
  | none => rfl
  | some m => simp [am_live, List.filter_filter]
theorem am_run_live {en : am_I} (hT : T mi pc = some en) (n : Nat) : am_run P T mt L xs n mi pc (am_live en.2.2.2.2.2.2.2 lv) st h = am_run P T mt L xs n mi pc lv st h := by
  obtain ⟨k, ins, len, a1, a2, v, sw, lm⟩ := en
  cases n with
  | zero => rfl
  | succ n => simp only [am_run, hT, am_live_live]
theorem wpL {en : am_I} {lv' : am_L} (hT : T mi pc = some en) (hl : am_live en.2.2.2.2.2.2.2 lv = lv') (k : am_wp P T mt L xs mi pc lv' st h Q) : am_wp P T mt L xs mi pc lv st h Q := by
  subst hl
  obtain ⟨v1, h1, q, N, hN⟩ := k
  exact ⟨v1, h1, q, N, fun n hn => by rw [← am_run_live hT]; exact hN n hn⟩
/-- heap rows with what they need of the heap -/
theorem am_getf {P : am_P} {i0 i ci k : Nat} {fs : List Value} {v : Value} (hg : am_get h i = some (.inr (ci, fs))) (hv : fs[k]? = some v) : am_heap P L xs (.getfield i0) ci k (.ref i :: st) h = some (v :: st, h) := by
  simp only [am_heap, hg, if_true, hv]
theorem am_putf {P : am_P} {i0 i ci k : Nat} {fs : List Value} {v : Value} (hg : am_get h i = some (.inr (ci, fs))) (hl : k < fs.length) (hn : narrow (P.1 ci k) v = v) (hf : fits (P.1 ci k) v = true) : am_heap P L xs (.putfield i0) ci k (v :: .ref i :: st) h = some (st, am_set h i (.inr (ci, fs.set k v))) := by
  simp only [am_heap, hg]
  rw [if_pos ⟨trivial, hl, hn, hf⟩]
theorem am_iald {i a1 a2 n : Nat} {f : Nat → Int32} {j : Int32} (hg : am_get h i = some (.inl (0, n, .inl f))) (hj : am_in j n = true) : am_heap P L xs .iaload a1 a2 (.int j :: .ref i :: st) h = some (.int (f j.toNatClampNeg) :: st, h) := by
  cases i with
  | zero => simp [am_get] at hg
  | succ i => simp [am_heap, hg, hj]
theorem am_sald {a1 a2 : Nat} {j : Int32} (hj : am_in j L = true) : am_heap P L xs .iaload a1 a2 (.int j :: .ref 0 :: st) h = some (.int (xs j.toNatClampNeg) :: st, h) := by
  simp [am_heap, hj]
theorem am_bald {i a1 a2 n : Nat} {f : Nat → Int32} {j : Int32} (hg : am_get h i = some (.inl (a1, n, .inl f))) (hj : am_in j n = true) : am_heap P L xs .baload a1 a2 (.int j :: .ref i :: st) h = some (.int (f j.toNatClampNeg) :: st, h) := by
  simp [am_heap, hg, hj]
theorem am_lald {i a1 a2 n : Nat} {f : Nat → Int64} {j : Int32} (hg : am_get h i = some (.inl (3, n, .inr (.inl f)))) (hj : am_in j n = true) : am_heap P L xs .laload a1 a2 (.int j :: .ref i :: st) h = some (.long (f j.toNatClampNeg) :: st, h) := by
  simp [am_heap, hg, hj]
theorem am_aald {i a1 a2 n : Nat} {f : Nat → Option Nat} {j : Int32} (hg : am_get h i = some (.inl (a1 + 4, n, .inr (.inr f)))) (hj : am_in j n = true) : am_heap P L xs .aaload a1 a2 (.int j :: .ref i :: st) h = some (am_rf (f j.toNatClampNeg) :: st, h) := by
  simp [am_heap, hg, hj]
theorem am_iast {i a1 a2 n : Nat} {f : Nat → Int32} {j x : Int32} (hg : am_get h i = some (.inl (0, n, .inl f))) (hj : am_in j n = true) : am_heap P L xs .iastore a1 a2 (.int x :: .int j :: .ref i :: st) h = some (st, am_set h i (.inl (0, n, .inl (upd f j.toNatClampNeg x)))) := by
  simp [am_heap, hg, hj]
theorem am_bast {i a2 n : Nat} {f : Nat → Int32} {j x : Int32} (hg : am_get h i = some (.inl (1, n, .inl f))) (hj : am_in j n = true) : am_heap P L xs .bastore 1 a2 (.int x :: .int j :: .ref i :: st) h = some (st, am_set h i (.inl (1, n, .inl (upd f j.toNatClampNeg (vp_nar .byte x))))) := by
  simp [am_heap, hg, hj]
theorem am_zast {i a2 n : Nat} {f : Nat → Int32} {j x : Int32} (hg : am_get h i = some (.inl (2, n, .inl f))) (hj : am_in j n = true) : am_heap P L xs .bastore 2 a2 (.int x :: .int j :: .ref i :: st) h = some (st, am_set h i (.inl (2, n, .inl (upd f j.toNatClampNeg (vp_nar .boolean x))))) := by
  simp [am_heap, hg, hj]
theorem am_last {i a1 a2 n : Nat} {f : Nat → Int64} {j : Int32} {x : Int64} (hg : am_get h i = some (.inl (3, n, .inr (.inl f)))) (hj : am_in j n = true) : am_heap P L xs .lastore a1 a2 (.long x :: .int j :: .ref i :: st) h = some (st, am_set h i (.inl (3, n, .inr (.inl (vp_updL f j.toNatClampNeg x))))) := by
  simp [am_heap, hg, hj]
theorem am_aast {i w ci a2 n : Nat} {f : Nat → Option Nat} {j : Int32} {fs : List Value} (hg : am_get h i = some (.inl (ci + 4, n, .inr (.inr f)))) (hw : am_get h w = some (.inr (ci, fs))) (hj : am_in j n = true) : am_heap P L xs .aastore ci a2 (.ref w :: .int j :: .ref i :: st) h = some (st, am_set h i (.inl (ci + 4, n, .inr (.inr (va_up f j.toNatClampNeg (some w)))))) := by
  simp [am_heap, hg, hw, hj]
theorem am_alen {i a1 a2 n : Nat} {f : (Nat → Int32) ⊕ ((Nat → Int64) ⊕ (Nat → Option Nat))} (hg : am_get h i = some (.inl (a1, n, f))) : am_heap P L xs .arraylength a1 a2 (.ref i :: st) h = some (.int (Int32.ofNat n) :: st, h) := by
  cases i with
  | zero => simp [am_get] at hg
  | succ i => simp [am_heap, hg]
theorem am_acpy {i0 sr d a2 n0 n1 : Nat} {f g : Nat → Int32} {sp dp n : Int32} (hg : am_get h sr = some (.inl (1, n0, .inl f))) (hg2 : am_get h d = some (.inl (1, n1, .inl g))) (h1 : ¬ sp < 0) (h2 : ¬ dp < 0) (h3 : ¬ n < 0) (h4 : sp.toNatClampNeg + n.toNatClampNeg ≤ n0) (h5 : dp.toNatClampNeg + n.toNatClampNeg ≤ n1) (h6 : (st.map fun v => v.category).sum ≤ 8) (h7 : ∀ i, i < n.toNatClampNeg → fits .byte (.int (f (sp.toNatClampNeg + i))) = true) : am_heap P L xs (.invokestatic i0) 0 a2 (.int n :: .int dp :: .ref d :: .int sp :: .ref sr :: st) h = some (st, am_set h d (.inl (1, n1, .inl (va_cpy f g sp.toNatClampNeg dp.toNatClampNeg n.toNatClampNeg)))) := by
  have e0 : ¬ (0 : Nat) = 1 := by decide
  have e1 : ¬ (0 : Nat) = 2 := by decide
  simp only [am_heap, if_neg e0, if_neg e1, hg, hg2]
  rw [if_pos ⟨trivial, trivial, h1, h2, h3, h4, h5, h6, h7⟩]
theorem am_mmax {i0 a2 : Nat} {x y : Int32} (h6 : (st.map fun v => v.category).sum ≤ 8) : am_heap P L xs (.invokestatic i0) 1 a2 (.int y :: .int x :: st) h = some (.int (if x < y then y else x) :: st, h) := by
  simp only [am_heap, if_true, if_pos h6]
theorem am_mmin {i0 a2 : Nat} {x y : Int32} (h6 : (st.map fun v => v.category).sum ≤ 8) : am_heap P L xs (.invokestatic i0) 2 a2 (.int y :: .int x :: st) h = some (.int (if y < x then y else x) :: st, h) := by
  have e0 : ¬ (2 : Nat) = 1 := by decide
  simp only [am_heap, if_neg e0, if_true, if_pos h6]
end AMQ
end
