section
-- ===== PART A: goes FIRST, ahead of the names: the tables' words, and 'selects' of the private methods out of them =====
/-- a private method of a class that the tables say can be made, by its rows of tables_1 -/
def lw_okq (q : MethodName × Nat) : Prop := (q.1.cls ≠ "java/lang/invoke/MethodHandle" ∧ q.1.cls ≠ "java/lang/invoke/VarHandle") ∧ Cond.instantiable q.1.cls q.2 ∈ tables_1 ∧ Cond.privateMethod q.1 ∈ tables_1 ∧ Cond.instanceMethod q.1 ∈ tables_1
theorem lw_p0 : lw_okq (⟨"BankLinker$Linker", "blame", "(III)Z"⟩, 7) := ⟨⟨by decide +kernel, by decide +kernel⟩, List.mem_of_getElem? (i := 181) (by decide +kernel), List.mem_of_getElem? (i := 386) (by decide +kernel), List.mem_of_getElem? (i := 387) (by decide +kernel)⟩
theorem lw_p1 : lw_okq (⟨"BankLinker$Linker", "findStrayJump", "()Z"⟩, 7) := ⟨⟨by decide +kernel, by decide +kernel⟩, List.mem_of_getElem? (i := 181) (by decide +kernel), List.mem_of_getElem? (i := 416) (by decide +kernel), List.mem_of_getElem? (i := 417) (by decide +kernel)⟩
theorem lw_p2 : lw_okq (⟨"BankLinker$Linker", "findLoopOfCalls", "()Z"⟩, 7) := ⟨⟨by decide +kernel, by decide +kernel⟩, List.mem_of_getElem? (i := 181) (by decide +kernel), List.mem_of_getElem? (i := 426) (by decide +kernel), List.mem_of_getElem? (i := 427) (by decide +kernel)⟩
theorem lw_p3 : lw_okq (⟨"BankLinker$Linker", "findBigModule", "()Z"⟩, 7) := ⟨⟨by decide +kernel, by decide +kernel⟩, List.mem_of_getElem? (i := 181) (by decide +kernel), List.mem_of_getElem? (i := 450) (by decide +kernel), List.mem_of_getElem? (i := 451) (by decide +kernel)⟩
theorem lw_p4 : lw_okq (⟨"BankLinker$Linker", "findNoRoom", "()Z"⟩, 7) := ⟨⟨by decide +kernel, by decide +kernel⟩, List.mem_of_getElem? (i := 181) (by decide +kernel), List.mem_of_getElem? (i := 454) (by decide +kernel), List.mem_of_getElem? (i := 455) (by decide +kernel)⟩
theorem lw_p5 : lw_okq (⟨"BankLinker$Layout", "bankWithRoom", "(LBankLinker$Program;I)I"⟩, 14) := ⟨⟨by decide +kernel, by decide +kernel⟩, List.mem_of_getElem? (i := 100) (by decide +kernel), List.mem_of_getElem? (i := 462) (by decide +kernel), List.mem_of_getElem? (i := 463) (by decide +kernel)⟩
theorem lw_p6 : lw_okq (⟨"BankLinker$Layout", "hasFarCaller", "(LBankLinker$Program;LBankLinker$Calls;I)Z"⟩, 14) := ⟨⟨by decide +kernel, by decide +kernel⟩, List.mem_of_getElem? (i := 100) (by decide +kernel), List.mem_of_getElem? (i := 474) (by decide +kernel), List.mem_of_getElem? (i := 475) (by decide +kernel)⟩
theorem lw_p7 : lw_okq (⟨"BankLinker$Layout", "raiseNeeds", "(LBankLinker$Program;LBankLinker$Calls;)Z"⟩, 14) := ⟨⟨by decide +kernel, by decide +kernel⟩, List.mem_of_getElem? (i := 100) (by decide +kernel), List.mem_of_getElem? (i := 496) (by decide +kernel), List.mem_of_getElem? (i := 497) (by decide +kernel)⟩
theorem lw_p8 : lw_okq (⟨"BankLinker$Linker", "findSmallCommon", "()Z"⟩, 7) := ⟨⟨by decide +kernel, by decide +kernel⟩, List.mem_of_getElem? (i := 181) (by decide +kernel), List.mem_of_getElem? (i := 503) (by decide +kernel), List.mem_of_getElem? (i := 504) (by decide +kernel)⟩
theorem lw_p9 : lw_okq (⟨"BankLinker$Linker", "findFewCells", "()Z"⟩, 7) := ⟨⟨by decide +kernel, by decide +kernel⟩, List.mem_of_getElem? (i := 181) (by decide +kernel), List.mem_of_getElem? (i := 507) (by decide +kernel), List.mem_of_getElem? (i := 508) (by decide +kernel)⟩
theorem lw_p10 : lw_okq (⟨"BankLinker$Linker", "findLowStack", "()Z"⟩, 7) := ⟨⟨by decide +kernel, by decide +kernel⟩, List.mem_of_getElem? (i := 181) (by decide +kernel), List.mem_of_getElem? (i := 511) (by decide +kernel), List.mem_of_getElem? (i := 512) (by decide +kernel)⟩
theorem lw_p11 : lw_okq (⟨"BankLinker$Linker", "writeModules", "()V"⟩, 7) := ⟨⟨by decide +kernel, by decide +kernel⟩, List.mem_of_getElem? (i := 181) (by decide +kernel), List.mem_of_getElem? (i := 515) (by decide +kernel), List.mem_of_getElem? (i := 516) (by decide +kernel)⟩
theorem lw_p12 : lw_okq (⟨"BankLinker$Linker", "writeRoutine", "(I)V"⟩, 7) := ⟨⟨by decide +kernel, by decide +kernel⟩, List.mem_of_getElem? (i := 181) (by decide +kernel), List.mem_of_getElem? (i := 519) (by decide +kernel), List.mem_of_getElem? (i := 520) (by decide +kernel)⟩
theorem lw_p13 : lw_okq (⟨"BankLinker$Linker", "writeOp", "(II)V"⟩, 7) := ⟨⟨by decide +kernel, by decide +kernel⟩, List.mem_of_getElem? (i := 181) (by decide +kernel), List.mem_of_getElem? (i := 527) (by decide +kernel), List.mem_of_getElem? (i := 528) (by decide +kernel)⟩
theorem lw_p14 : lw_okq (⟨"BankLinker$Linker", "writeThunks", "()V"⟩, 7) := ⟨⟨by decide +kernel, by decide +kernel⟩, List.mem_of_getElem? (i := 181) (by decide +kernel), List.mem_of_getElem? (i := 539) (by decide +kernel), List.mem_of_getElem? (i := 540) (by decide +kernel)⟩
theorem lw_p15 : lw_okq (⟨"BankLinker$Linker", "writeThunk", "(I)V"⟩, 7) := ⟨⟨by decide +kernel, by decide +kernel⟩, List.mem_of_getElem? (i := 181) (by decide +kernel), List.mem_of_getElem? (i := 543) (by decide +kernel), List.mem_of_getElem? (i := 544) (by decide +kernel)⟩
def lw_privs_1 : List (MethodName × Nat) := [(⟨"BankLinker$Linker", "blame", "(III)Z"⟩, 7), (⟨"BankLinker$Linker", "findStrayJump", "()Z"⟩, 7), (⟨"BankLinker$Linker", "findLoopOfCalls", "()Z"⟩, 7), (⟨"BankLinker$Linker", "findBigModule", "()Z"⟩, 7), (⟨"BankLinker$Linker", "findNoRoom", "()Z"⟩, 7), (⟨"BankLinker$Layout", "bankWithRoom", "(LBankLinker$Program;I)I"⟩, 14), (⟨"BankLinker$Layout", "hasFarCaller", "(LBankLinker$Program;LBankLinker$Calls;I)Z"⟩, 14), (⟨"BankLinker$Layout", "raiseNeeds", "(LBankLinker$Program;LBankLinker$Calls;)Z"⟩, 14), (⟨"BankLinker$Linker", "findSmallCommon", "()Z"⟩, 7), (⟨"BankLinker$Linker", "findFewCells", "()Z"⟩, 7), (⟨"BankLinker$Linker", "findLowStack", "()Z"⟩, 7), (⟨"BankLinker$Linker", "writeModules", "()V"⟩, 7), (⟨"BankLinker$Linker", "writeRoutine", "(I)V"⟩, 7), (⟨"BankLinker$Linker", "writeOp", "(II)V"⟩, 7), (⟨"BankLinker$Linker", "writeThunks", "()V"⟩, 7), (⟨"BankLinker$Linker", "writeThunk", "(I)V"⟩, 7)]
theorem lw_r1 : ∀ q ∈ lw_privs_1, lw_okq q := List.forall_mem_cons.mpr ⟨lw_p0, List.forall_mem_cons.mpr ⟨lw_p1, List.forall_mem_cons.mpr ⟨lw_p2, List.forall_mem_cons.mpr ⟨lw_p3, List.forall_mem_cons.mpr ⟨lw_p4, List.forall_mem_cons.mpr ⟨lw_p5, List.forall_mem_cons.mpr ⟨lw_p6, List.forall_mem_cons.mpr ⟨lw_p7, List.forall_mem_cons.mpr ⟨lw_p8, List.forall_mem_cons.mpr ⟨lw_p9, List.forall_mem_cons.mpr ⟨lw_p10, List.forall_mem_cons.mpr ⟨lw_p11, List.forall_mem_cons.mpr ⟨lw_p12, List.forall_mem_cons.mpr ⟨lw_p13, List.forall_mem_cons.mpr ⟨lw_p14, List.forall_mem_cons.mpr ⟨lw_p15, fun _ h => absurd h List.not_mem_nil⟩⟩⟩⟩⟩⟩⟩⟩⟩⟩⟩⟩⟩⟩⟩⟩
theorem lw_p16 : lw_okq (⟨"BankLinker", "mayRun", "(III)Z"⟩, 8) := ⟨⟨by decide +kernel, by decide +kernel⟩, List.mem_of_getElem? (i := 14) (by decide +kernel), List.mem_of_getElem? (i := 585) (by decide +kernel), List.mem_of_getElem? (i := 586) (by decide +kernel)⟩
theorem lw_p17 : lw_okq (⟨"BankLinker$Machine", "fetch", "()I"⟩, 7) := ⟨⟨by decide +kernel, by decide +kernel⟩, List.mem_of_getElem? (i := 212) (by decide +kernel), List.mem_of_getElem? (i := 599) (by decide +kernel), List.mem_of_getElem? (i := 600) (by decide +kernel)⟩
theorem lw_p18 : lw_okq (⟨"BankLinker$Machine", "doCode", "(I)V"⟩, 7) := ⟨⟨by decide +kernel, by decide +kernel⟩, List.mem_of_getElem? (i := 212) (by decide +kernel), List.mem_of_getElem? (i := 608) (by decide +kernel), List.mem_of_getElem? (i := 609) (by decide +kernel)⟩
theorem lw_p19 : lw_okq (⟨"BankLinker$Machine", "cellAt", "(I)I"⟩, 7) := ⟨⟨by decide +kernel, by decide +kernel⟩, List.mem_of_getElem? (i := 212) (by decide +kernel), List.mem_of_getElem? (i := 620) (by decide +kernel), List.mem_of_getElem? (i := 621) (by decide +kernel)⟩
theorem lw_p20 : lw_okq (⟨"BankLinker$Machine", "setCell", "(II)V"⟩, 7) := ⟨⟨by decide +kernel, by decide +kernel⟩, List.mem_of_getElem? (i := 212) (by decide +kernel), List.mem_of_getElem? (i := 624) (by decide +kernel), List.mem_of_getElem? (i := 625) (by decide +kernel)⟩
theorem lw_p21 : lw_okq (⟨"BankLinker$Machine", "goInto", "()V"⟩, 7) := ⟨⟨by decide +kernel, by decide +kernel⟩, List.mem_of_getElem? (i := 212) (by decide +kernel), List.mem_of_getElem? (i := 628) (by decide +kernel), List.mem_of_getElem? (i := 629) (by decide +kernel)⟩
theorem lw_p22 : lw_okq (⟨"BankLinker$Machine", "push", "(I)V"⟩, 7) := ⟨⟨by decide +kernel, by decide +kernel⟩, List.mem_of_getElem? (i := 212) (by decide +kernel), List.mem_of_getElem? (i := 632) (by decide +kernel), List.mem_of_getElem? (i := 633) (by decide +kernel)⟩
theorem lw_p23 : lw_okq (⟨"BankLinker$Machine", "jumpIf", "(Z)V"⟩, 7) := ⟨⟨by decide +kernel, by decide +kernel⟩, List.mem_of_getElem? (i := 212) (by decide +kernel), List.mem_of_getElem? (i := 641) (by decide +kernel), List.mem_of_getElem? (i := 642) (by decide +kernel)⟩
theorem lw_p24 : lw_okq (⟨"BankLinker$Machine", "pop", "()I"⟩, 7) := ⟨⟨by decide +kernel, by decide +kernel⟩, List.mem_of_getElem? (i := 212) (by decide +kernel), List.mem_of_getElem? (i := 645) (by decide +kernel), List.mem_of_getElem? (i := 646) (by decide +kernel)⟩
theorem lw_p25 : lw_okq (⟨"BankLinker$Machine", "switchTo", "(I)V"⟩, 7) := ⟨⟨by decide +kernel, by decide +kernel⟩, List.mem_of_getElem? (i := 212) (by decide +kernel), List.mem_of_getElem? (i := 649) (by decide +kernel), List.mem_of_getElem? (i := 650) (by decide +kernel)⟩
theorem lw_p26 : lw_okq (⟨"BankLinker$Machine", "clearCells", "()V"⟩, 7) := ⟨⟨by decide +kernel, by decide +kernel⟩, List.mem_of_getElem? (i := 212) (by decide +kernel), List.mem_of_getElem? (i := 653) (by decide +kernel), List.mem_of_getElem? (i := 654) (by decide +kernel)⟩
theorem lw_p27 : lw_okq (⟨"BankLinker$FlatMachine", "beginRoutine", "(I)I"⟩, 6) := ⟨⟨by decide +kernel, by decide +kernel⟩, List.mem_of_getElem? (i := 276) (by decide +kernel), List.mem_of_getElem? (i := 666) (by decide +kernel), List.mem_of_getElem? (i := 667) (by decide +kernel)⟩
theorem lw_p28 : lw_okq (⟨"BankLinker$FlatMachine", "doOp", "()I"⟩, 6) := ⟨⟨by decide +kernel, by decide +kernel⟩, List.mem_of_getElem? (i := 276) (by decide +kernel), List.mem_of_getElem? (i := 677) (by decide +kernel), List.mem_of_getElem? (i := 678) (by decide +kernel)⟩
theorem lw_p29 : lw_okq (⟨"BankLinker$FlatMachine", "jumpTo", "(I)I"⟩, 6) := ⟨⟨by decide +kernel, by decide +kernel⟩, List.mem_of_getElem? (i := 276) (by decide +kernel), List.mem_of_getElem? (i := 685) (by decide +kernel), List.mem_of_getElem? (i := 686) (by decide +kernel)⟩
theorem lw_p30 : lw_okq (⟨"BankLinker$FlatMachine", "endRoutine", "()I"⟩, 6) := ⟨⟨by decide +kernel, by decide +kernel⟩, List.mem_of_getElem? (i := 276) (by decide +kernel), List.mem_of_getElem? (i := 689) (by decide +kernel), List.mem_of_getElem? (i := 690) (by decide +kernel)⟩
theorem lw_p31 : lw_okq (⟨"BankLinker", "reportOf", "(I)LBankLinker$Report;"⟩, 8) := ⟨⟨by decide +kernel, by decide +kernel⟩, List.mem_of_getElem? (i := 14) (by decide +kernel), List.mem_of_getElem? (i := 697) (by decide +kernel), List.mem_of_getElem? (i := 698) (by decide +kernel)⟩
def lw_privs_2 : List (MethodName × Nat) := [(⟨"BankLinker", "mayRun", "(III)Z"⟩, 8), (⟨"BankLinker$Machine", "fetch", "()I"⟩, 7), (⟨"BankLinker$Machine", "doCode", "(I)V"⟩, 7), (⟨"BankLinker$Machine", "cellAt", "(I)I"⟩, 7), (⟨"BankLinker$Machine", "setCell", "(II)V"⟩, 7), (⟨"BankLinker$Machine", "goInto", "()V"⟩, 7), (⟨"BankLinker$Machine", "push", "(I)V"⟩, 7), (⟨"BankLinker$Machine", "jumpIf", "(Z)V"⟩, 7), (⟨"BankLinker$Machine", "pop", "()I"⟩, 7), (⟨"BankLinker$Machine", "switchTo", "(I)V"⟩, 7), (⟨"BankLinker$Machine", "clearCells", "()V"⟩, 7), (⟨"BankLinker$FlatMachine", "beginRoutine", "(I)I"⟩, 6), (⟨"BankLinker$FlatMachine", "doOp", "()I"⟩, 6), (⟨"BankLinker$FlatMachine", "jumpTo", "(I)I"⟩, 6), (⟨"BankLinker$FlatMachine", "endRoutine", "()I"⟩, 6), (⟨"BankLinker", "reportOf", "(I)LBankLinker$Report;"⟩, 8)]
theorem lw_r2 : ∀ q ∈ lw_privs_2, lw_okq q := List.forall_mem_cons.mpr ⟨lw_p16, List.forall_mem_cons.mpr ⟨lw_p17, List.forall_mem_cons.mpr ⟨lw_p18, List.forall_mem_cons.mpr ⟨lw_p19, List.forall_mem_cons.mpr ⟨lw_p20, List.forall_mem_cons.mpr ⟨lw_p21, List.forall_mem_cons.mpr ⟨lw_p22, List.forall_mem_cons.mpr ⟨lw_p23, List.forall_mem_cons.mpr ⟨lw_p24, List.forall_mem_cons.mpr ⟨lw_p25, List.forall_mem_cons.mpr ⟨lw_p26, List.forall_mem_cons.mpr ⟨lw_p27, List.forall_mem_cons.mpr ⟨lw_p28, List.forall_mem_cons.mpr ⟨lw_p29, List.forall_mem_cons.mpr ⟨lw_p30, List.forall_mem_cons.mpr ⟨lw_p31, fun _ h => absurd h List.not_mem_nil⟩⟩⟩⟩⟩⟩⟩⟩⟩⟩⟩⟩⟩⟩⟩⟩
theorem lw_p32 : lw_okq (⟨"BankLinkerModel", "isRoutine", "(I)Z"⟩, 37) := ⟨⟨by decide +kernel, by decide +kernel⟩, List.mem_of_getElem? (i := 709) (by decide +kernel), List.mem_of_getElem? (i := 844) (by decide +kernel), List.mem_of_getElem? (i := 845) (by decide +kernel)⟩
theorem lw_p33 : lw_okq (⟨"BankLinkerModel", "isValue", "(III)Z"⟩, 37) := ⟨⟨by decide +kernel, by decide +kernel⟩, List.mem_of_getElem? (i := 709) (by decide +kernel), List.mem_of_getElem? (i := 849) (by decide +kernel), List.mem_of_getElem? (i := 850) (by decide +kernel)⟩
theorem lw_p34 : lw_okq (⟨"BankLinkerModel", "mark", "(I)V"⟩, 37) := ⟨⟨by decide +kernel, by decide +kernel⟩, List.mem_of_getElem? (i := 709) (by decide +kernel), List.mem_of_getElem? (i := 870) (by decide +kernel), List.mem_of_getElem? (i := 871) (by decide +kernel)⟩
theorem lw_p35 : lw_okq (⟨"BankLinkerModel", "areJumpsGood", "()Z"⟩, 37) := ⟨⟨by decide +kernel, by decide +kernel⟩, List.mem_of_getElem? (i := 709) (by decide +kernel), List.mem_of_getElem? (i := 878) (by decide +kernel), List.mem_of_getElem? (i := 879) (by decide +kernel)⟩
theorem lw_p36 : lw_okq (⟨"BankLinkerModel", "told", "(III)Z"⟩, 37) := ⟨⟨by decide +kernel, by decide +kernel⟩, List.mem_of_getElem? (i := 709) (by decide +kernel), List.mem_of_getElem? (i := 882) (by decide +kernel), List.mem_of_getElem? (i := 883) (by decide +kernel)⟩
theorem lw_p37 : lw_okq (⟨"BankLinkerModel", "areBanksGood", "()Z"⟩, 37) := ⟨⟨by decide +kernel, by decide +kernel⟩, List.mem_of_getElem? (i := 709) (by decide +kernel), List.mem_of_getElem? (i := 886) (by decide +kernel), List.mem_of_getElem? (i := 887) (by decide +kernel)⟩
theorem lw_p38 : lw_okq (⟨"BankLinkerModel", "sizeOfModule", "(I)I"⟩, 37) := ⟨⟨by decide +kernel, by decide +kernel⟩, List.mem_of_getElem? (i := 709) (by decide +kernel), List.mem_of_getElem? (i := 890) (by decide +kernel), List.mem_of_getElem? (i := 891) (by decide +kernel)⟩
theorem lw_p39 : lw_okq (⟨"BankLinkerModel", "sizeOf", "(I)I"⟩, 37) := ⟨⟨by decide +kernel, by decide +kernel⟩, List.mem_of_getElem? (i := 709) (by decide +kernel), List.mem_of_getElem? (i := 894) (by decide +kernel), List.mem_of_getElem? (i := 895) (by decide +kernel)⟩
theorem lw_p40 : lw_okq (⟨"BankLinkerModel", "ahead", "(II)I"⟩, 37) := ⟨⟨by decide +kernel, by decide +kernel⟩, List.mem_of_getElem? (i := 709) (by decide +kernel), List.mem_of_getElem? (i := 898) (by decide +kernel), List.mem_of_getElem? (i := 899) (by decide +kernel)⟩
theorem lw_p41 : lw_okq (⟨"BankLinkerModel", "isCommonGood", "()Z"⟩, 37) := ⟨⟨by decide +kernel, by decide +kernel⟩, List.mem_of_getElem? (i := 709) (by decide +kernel), List.mem_of_getElem? (i := 905) (by decide +kernel), List.mem_of_getElem? (i := 906) (by decide +kernel)⟩
theorem lw_p42 : lw_okq (⟨"BankLinkerModel", "isFar", "(II)Z"⟩, 37) := ⟨⟨by decide +kernel, by decide +kernel⟩, List.mem_of_getElem? (i := 709) (by decide +kernel), List.mem_of_getElem? (i := 909) (by decide +kernel), List.mem_of_getElem? (i := 910) (by decide +kernel)⟩
theorem lw_p43 : lw_okq (⟨"BankLinkerModel", "isCommon", "(I)Z"⟩, 37) := ⟨⟨by decide +kernel, by decide +kernel⟩, List.mem_of_getElem? (i := 709) (by decide +kernel), List.mem_of_getElem? (i := 913) (by decide +kernel), List.mem_of_getElem? (i := 914) (by decide +kernel)⟩
theorem lw_p44 : lw_okq (⟨"BankLinkerModel", "areCellsGood", "()Z"⟩, 37) := ⟨⟨by decide +kernel, by decide +kernel⟩, List.mem_of_getElem? (i := 709) (by decide +kernel), List.mem_of_getElem? (i := 917) (by decide +kernel), List.mem_of_getElem? (i := 918) (by decide +kernel)⟩
theorem lw_p45 : lw_okq (⟨"BankLinkerModel", "write", "(I)V"⟩, 37) := ⟨⟨by decide +kernel, by decide +kernel⟩, List.mem_of_getElem? (i := 709) (by decide +kernel), List.mem_of_getElem? (i := 921) (by decide +kernel), List.mem_of_getElem? (i := 922) (by decide +kernel)⟩
theorem lw_p46 : lw_okq (⟨"BankLinkerModel", "put", "(III)V"⟩, 37) := ⟨⟨by decide +kernel, by decide +kernel⟩, List.mem_of_getElem? (i := 709) (by decide +kernel), List.mem_of_getElem? (i := 925) (by decide +kernel), List.mem_of_getElem? (i := 926) (by decide +kernel)⟩
theorem lw_p47 : lw_okq (⟨"BankLinkerModel", "writeThunk", "(I)V"⟩, 37) := ⟨⟨by decide +kernel, by decide +kernel⟩, List.mem_of_getElem? (i := 709) (by decide +kernel), List.mem_of_getElem? (i := 929) (by decide +kernel), List.mem_of_getElem? (i := 930) (by decide +kernel)⟩
def lw_privs_3 : List (MethodName × Nat) := [(⟨"BankLinkerModel", "isRoutine", "(I)Z"⟩, 37), (⟨"BankLinkerModel", "isValue", "(III)Z"⟩, 37), (⟨"BankLinkerModel", "mark", "(I)V"⟩, 37), (⟨"BankLinkerModel", "areJumpsGood", "()Z"⟩, 37), (⟨"BankLinkerModel", "told", "(III)Z"⟩, 37), (⟨"BankLinkerModel", "areBanksGood", "()Z"⟩, 37), (⟨"BankLinkerModel", "sizeOfModule", "(I)I"⟩, 37), (⟨"BankLinkerModel", "sizeOf", "(I)I"⟩, 37), (⟨"BankLinkerModel", "ahead", "(II)I"⟩, 37), (⟨"BankLinkerModel", "isCommonGood", "()Z"⟩, 37), (⟨"BankLinkerModel", "isFar", "(II)Z"⟩, 37), (⟨"BankLinkerModel", "isCommon", "(I)Z"⟩, 37), (⟨"BankLinkerModel", "areCellsGood", "()Z"⟩, 37), (⟨"BankLinkerModel", "write", "(I)V"⟩, 37), (⟨"BankLinkerModel", "put", "(III)V"⟩, 37), (⟨"BankLinkerModel", "writeThunk", "(I)V"⟩, 37)]
theorem lw_r3 : ∀ q ∈ lw_privs_3, lw_okq q := List.forall_mem_cons.mpr ⟨lw_p32, List.forall_mem_cons.mpr ⟨lw_p33, List.forall_mem_cons.mpr ⟨lw_p34, List.forall_mem_cons.mpr ⟨lw_p35, List.forall_mem_cons.mpr ⟨lw_p36, List.forall_mem_cons.mpr ⟨lw_p37, List.forall_mem_cons.mpr ⟨lw_p38, List.forall_mem_cons.mpr ⟨lw_p39, List.forall_mem_cons.mpr ⟨lw_p40, List.forall_mem_cons.mpr ⟨lw_p41, List.forall_mem_cons.mpr ⟨lw_p42, List.forall_mem_cons.mpr ⟨lw_p43, List.forall_mem_cons.mpr ⟨lw_p44, List.forall_mem_cons.mpr ⟨lw_p45, List.forall_mem_cons.mpr ⟨lw_p46, List.forall_mem_cons.mpr ⟨lw_p47, fun _ h => absurd h List.not_mem_nil⟩⟩⟩⟩⟩⟩⟩⟩⟩⟩⟩⟩⟩⟩⟩⟩
theorem lw_p48 : lw_okq (⟨"BankLinkerModel", "begin", "(I)V"⟩, 37) := ⟨⟨by decide +kernel, by decide +kernel⟩, List.mem_of_getElem? (i := 709) (by decide +kernel), List.mem_of_getElem? (i := 956) (by decide +kernel), List.mem_of_getElem? (i := 957) (by decide +kernel)⟩
theorem lw_p49 : lw_okq (⟨"BankLinkerModel", "step", "()Z"⟩, 37) := ⟨⟨by decide +kernel, by decide +kernel⟩, List.mem_of_getElem? (i := 709) (by decide +kernel), List.mem_of_getElem? (i := 960) (by decide +kernel), List.mem_of_getElem? (i := 961) (by decide +kernel)⟩
theorem lw_p50 : lw_okq (⟨"BankLinkerModel", "codeAt", "(I)I"⟩, 37) := ⟨⟨by decide +kernel, by decide +kernel⟩, List.mem_of_getElem? (i := 709) (by decide +kernel), List.mem_of_getElem? (i := 964) (by decide +kernel), List.mem_of_getElem? (i := 965) (by decide +kernel)⟩
theorem lw_p51 : lw_okq (⟨"BankLinkerModel", "send", "(II)V"⟩, 37) := ⟨⟨by decide +kernel, by decide +kernel⟩, List.mem_of_getElem? (i := 709) (by decide +kernel), List.mem_of_getElem? (i := 968) (by decide +kernel), List.mem_of_getElem? (i := 969) (by decide +kernel)⟩
theorem lw_p52 : lw_okq (⟨"BankLinkerModel", "push", "(I)V"⟩, 37) := ⟨⟨by decide +kernel, by decide +kernel⟩, List.mem_of_getElem? (i := 709) (by decide +kernel), List.mem_of_getElem? (i := 972) (by decide +kernel), List.mem_of_getElem? (i := 973) (by decide +kernel)⟩
theorem lw_p53 : lw_okq (⟨"BankLinkerModel", "enter", "(I)V"⟩, 37) := ⟨⟨by decide +kernel, by decide +kernel⟩, List.mem_of_getElem? (i := 709) (by decide +kernel), List.mem_of_getElem? (i := 980) (by decide +kernel), List.mem_of_getElem? (i := 981) (by decide +kernel)⟩
theorem lw_p54 : lw_okq (⟨"BankLinkerModel", "flatStep", "()Z"⟩, 37) := ⟨⟨by decide +kernel, by decide +kernel⟩, List.mem_of_getElem? (i := 709) (by decide +kernel), List.mem_of_getElem? (i := 984) (by decide +kernel), List.mem_of_getElem? (i := 985) (by decide +kernel)⟩
def lw_privs_4 : List (MethodName × Nat) := [(⟨"BankLinkerModel", "begin", "(I)V"⟩, 37), (⟨"BankLinkerModel", "step", "()Z"⟩, 37), (⟨"BankLinkerModel", "codeAt", "(I)I"⟩, 37), (⟨"BankLinkerModel", "send", "(II)V"⟩, 37), (⟨"BankLinkerModel", "push", "(I)V"⟩, 37), (⟨"BankLinkerModel", "enter", "(I)V"⟩, 37), (⟨"BankLinkerModel", "flatStep", "()Z"⟩, 37)]
theorem lw_r4 : ∀ q ∈ lw_privs_4, lw_okq q := List.forall_mem_cons.mpr ⟨lw_p48, List.forall_mem_cons.mpr ⟨lw_p49, List.forall_mem_cons.mpr ⟨lw_p50, List.forall_mem_cons.mpr ⟨lw_p51, List.forall_mem_cons.mpr ⟨lw_p52, List.forall_mem_cons.mpr ⟨lw_p53, List.forall_mem_cons.mpr ⟨lw_p54, fun _ h => absurd h List.not_mem_nil⟩⟩⟩⟩⟩⟩⟩
def lw_privs : List (MethodName × Nat) := lw_privs_1 ++ (lw_privs_2 ++ (lw_privs_3 ++ (lw_privs_4)))
def lw_tbl : List Cond := k2_sels lw_privs ++ tables_1
theorem lw_privs_ok : ∀ q ∈ lw_privs, lw_okq q := by
  show ∀ q ∈ lw_privs_1 ++ (lw_privs_2 ++ (lw_privs_3 ++ (lw_privs_4))), lw_okq q
  exact List.forall_mem_append.mpr ⟨lw_r1, List.forall_mem_append.mpr ⟨lw_r2, List.forall_mem_append.mpr ⟨lw_r3, lw_r4⟩⟩⟩
end
section
/-! ===== BEGIN printed: names, fields, word lists, decode rows ===== -/
def RX0 : String := "BankLinker$Calls"
def TX0 : u_T := fun k => match k with
  | 0 => ("BankLinker$Calls", "called", "[I", true)
  | _ => ("BankLinker$Calls", "reached", "[I", true)
def tyX0 : Nat → FieldType := fun k => match k with
  | 0 => .array .int
  | _ => .array .int
abbrev wsX00 : List Cond := u_ws RX0 TX0 2
theorem nmX0 : ∀ a, a < 2 → ∀ b, b < 2 → a ≠ b → (TX0 a).2.1 ≠ (TX0 b).2.1 := by decide +kernel
theorem tyX0_ok : ∀ k, k < 2 → parseFieldDescriptor (TX0 k).2.2.1 = some (tyX0 k) := by decide +kernel
abbrev cX0_init : ByteArray := prog_2_method_1_code
def yX0_init : MethodName := ⟨RX0, "<init>", "()V"⟩
abbrev cX0_trace : ByteArray := prog_2_method_2_code
def yX0_trace : MethodName := ⟨RX0, "trace", "(LBankLinker$Program;)V"⟩
abbrev cX0_calledBy : ByteArray := prog_2_method_3_code
def yX0_calledBy : MethodName := ⟨RX0, "calledBy", "(LBankLinker$Program;I)I"⟩
abbrev cX0_hasCall : ByteArray := prog_2_method_4_code
def yX0_hasCall : MethodName := ⟨RX0, "hasCall", "(II)Z"⟩
abbrev cX0_leadTo : ByteArray := prog_2_method_5_code
def yX0_leadTo : MethodName := ⟨RX0, "leadTo", "(II)Z"⟩
def RX1 : String := "BankLinker$FlatMachine"
def TX1 : u_T := fun k => match k with
  | 0 => ("BankLinker$FlatMachine", "report", "LBankLinker$Report;", true)
  | 1 => ("BankLinker$FlatMachine", "program", "LBankLinker$Program;", true)
  | 2 => ("BankLinker$FlatMachine", "routineOn", "[I", true)
  | 3 => ("BankLinker$FlatMachine", "nextOp", "[I", true)
  | 4 => ("BankLinker$FlatMachine", "locals", "[I", true)
  | _ => ("BankLinker$FlatMachine", "top", "I", false)
def tyX1 : Nat → FieldType := fun k => match k with
  | 0 => .object "BankLinker$Report"
  | 1 => .object "BankLinker$Program"
  | 2 => .array .int
  | 3 => .array .int
  | 4 => .array .int
  | _ => .int
abbrev wsX10 : List Cond := u_ws RX1 TX1 6
theorem nmX1 : ∀ a, a < 6 → ∀ b, b < 6 → a ≠ b → (TX1 a).2.1 ≠ (TX1 b).2.1 := by decide +kernel
theorem tyX1_ok : ∀ k, k < 6 → parseFieldDescriptor (TX1 k).2.2.1 = some (tyX1 k) := by decide +kernel
abbrev cX1_init : ByteArray := prog_3_method_1_code
def yX1_init : MethodName := ⟨RX1, "<init>", "(LBankLinker$Program;)V"⟩
abbrev cX1_perform : ByteArray := prog_3_method_2_code
def yX1_perform : MethodName := ⟨RX1, "perform", "(III)I"⟩
abbrev cX1_doOp : ByteArray := prog_3_method_3_code
def yX1_doOp : MethodName := ⟨RX1, "doOp", "()I"⟩
abbrev cX1_beginRoutine : ByteArray := prog_3_method_4_code
def yX1_beginRoutine : MethodName := ⟨RX1, "beginRoutine", "(I)I"⟩
abbrev cX1_jumpTo : ByteArray := prog_3_method_5_code
def yX1_jumpTo : MethodName := ⟨RX1, "jumpTo", "(I)I"⟩
abbrev cX1_endRoutine : ByteArray := prog_3_method_6_code
def yX1_endRoutine : MethodName := ⟨RX1, "endRoutine", "()I"⟩
def RX2 : String := "BankLinker$Layout"
def TX2 : u_T := fun k => match k with
  | 0 => ("BankLinker$Layout", "bytes", "[I", true)
  | 1 => ("BankLinker$Layout", "bank", "[I", true)
  | 2 => ("BankLinker$Layout", "address", "[I", true)
  | 3 => ("BankLinker$Layout", "thunk", "[I", true)
  | 4 => ("BankLinker$Layout", "base", "[I", true)
  | 5 => ("BankLinker$Layout", "depth", "[I", true)
  | 6 => ("BankLinker$Layout", "moduleBytes", "[I", true)
  | 7 => ("BankLinker$Layout", "moduleBank", "[I", true)
  | 8 => ("BankLinker$Layout", "moduleNext", "[I", true)
  | 9 => ("BankLinker$Layout", "bankUsed", "[I", true)
  | 10 => ("BankLinker$Layout", "commonUsed", "I", false)
  | 11 => ("BankLinker$Layout", "thunks", "I", false)
  | 12 => ("BankLinker$Layout", "farCalls", "I", false)
  | _ => ("BankLinker$Layout", "cellsNeeded", "I", false)
def tyX2 : Nat → FieldType := fun k => match k with
  | 0 => .array .int
  | 1 => .array .int
  | 2 => .array .int
  | 3 => .array .int
  | 4 => .array .int
  | 5 => .array .int
  | 6 => .array .int
  | 7 => .array .int
  | 8 => .array .int
  | 9 => .array .int
  | 10 => .int
  | 11 => .int
  | 12 => .int
  | _ => .int
abbrev wsX20 : List Cond := u_ws RX2 TX2 14
theorem nmX2 : ∀ a, a < 14 → ∀ b, b < 14 → a ≠ b → (TX2 a).2.1 ≠ (TX2 b).2.1 := by decide +kernel
theorem tyX2_ok : ∀ k, k < 14 → parseFieldDescriptor (TX2 k).2.2.1 = some (tyX2 k) := by decide +kernel
abbrev cX2_init : ByteArray := prog_4_method_1_code
def yX2_init : MethodName := ⟨RX2, "<init>", "()V"⟩
abbrev cX2_measure : ByteArray := prog_4_method_2_code
def yX2_measure : MethodName := ⟨RX2, "measure", "(LBankLinker$Program;)V"⟩
abbrev cX2_placeModules : ByteArray := prog_4_method_3_code
def yX2_placeModules : MethodName := ⟨RX2, "placeModules", "(LBankLinker$Program;)I"⟩
abbrev cX2_bankWithRoom : ByteArray := prog_4_method_4_code
def yX2_bankWithRoom : MethodName := ⟨RX2, "bankWithRoom", "(LBankLinker$Program;I)I"⟩
abbrev cX2_placeRoutines : ByteArray := prog_4_method_5_code
def yX2_placeRoutines : MethodName := ⟨RX2, "placeRoutines", "(LBankLinker$Program;)V"⟩
abbrev cX2_isFar : ByteArray := prog_4_method_6_code
def yX2_isFar : MethodName := ⟨RX2, "isFar", "(II)Z"⟩
abbrev cX2_placeThunks : ByteArray := prog_4_method_7_code
def yX2_placeThunks : MethodName := ⟨RX2, "placeThunks", "(LBankLinker$Program;LBankLinker$Calls;)V"⟩
abbrev cX2_hasFarCaller : ByteArray := prog_4_method_8_code
def yX2_hasFarCaller : MethodName := ⟨RX2, "hasFarCaller", "(LBankLinker$Program;LBankLinker$Calls;I)Z"⟩
abbrev cX2_countFarCalls : ByteArray := prog_4_method_9_code
def yX2_countFarCalls : MethodName := ⟨RX2, "countFarCalls", "(LBankLinker$Program;)V"⟩
abbrev cX2_settleNeeds : ByteArray := prog_4_method_10_code
def yX2_settleNeeds : MethodName := ⟨RX2, "settleNeeds", "(LBankLinker$Program;LBankLinker$Calls;)V"⟩
abbrev cX2_raiseNeeds : ByteArray := prog_4_method_11_code
def yX2_raiseNeeds : MethodName := ⟨RX2, "raiseNeeds", "(LBankLinker$Program;LBankLinker$Calls;)Z"⟩
def RX3 : String := "BankLinker$Linker"
def TX3 : u_T := fun k => match k with
  | 0 => ("BankLinker$Linker", "program", "LBankLinker$Program;", true)
  | 1 => ("BankLinker$Linker", "calls", "LBankLinker$Calls;", true)
  | 2 => ("BankLinker$Linker", "layout", "LBankLinker$Layout;", true)
  | 3 => ("BankLinker$Linker", "memory", "LBankLinker$Memory;", true)
  | 4 => ("BankLinker$Linker", "faultNumber", "I", false)
  | 5 => ("BankLinker$Linker", "faultAt", "I", false)
  | _ => ("BankLinker$Linker", "faultOp", "I", false)
def tyX3 : Nat → FieldType := fun k => match k with
  | 0 => .object "BankLinker$Program"
  | 1 => .object "BankLinker$Calls"
  | 2 => .object "BankLinker$Layout"
  | 3 => .object "BankLinker$Memory"
  | 4 => .int
  | 5 => .int
  | _ => .int
abbrev wsX30 : List Cond := u_ws RX3 TX3 7
theorem nmX3 : ∀ a, a < 7 → ∀ b, b < 7 → a ≠ b → (TX3 a).2.1 ≠ (TX3 b).2.1 := by decide +kernel
theorem tyX3_ok : ∀ k, k < 7 → parseFieldDescriptor (TX3 k).2.2.1 = some (tyX3 k) := by decide +kernel
abbrev cX3_init : ByteArray := prog_5_method_1_code
def yX3_init : MethodName := ⟨RX3, "<init>", "(LBankLinker$Program;LBankLinker$Calls;LBankLinker$Layout;LBankLinker$Memory;)V"⟩
abbrev cX3_linkAll : ByteArray := prog_5_method_2_code
def yX3_linkAll : MethodName := ⟨RX3, "linkAll", "()Z"⟩
abbrev cX3_blame : ByteArray := prog_5_method_3_code
def yX3_blame : MethodName := ⟨RX3, "blame", "(III)Z"⟩
abbrev cX3_findStrayJump : ByteArray := prog_5_method_4_code
def yX3_findStrayJump : MethodName := ⟨RX3, "findStrayJump", "()Z"⟩
abbrev cX3_findLoopOfCalls : ByteArray := prog_5_method_5_code
def yX3_findLoopOfCalls : MethodName := ⟨RX3, "findLoopOfCalls", "()Z"⟩
abbrev cX3_findBigModule : ByteArray := prog_5_method_6_code
def yX3_findBigModule : MethodName := ⟨RX3, "findBigModule", "()Z"⟩
abbrev cX3_findNoRoom : ByteArray := prog_5_method_7_code
def yX3_findNoRoom : MethodName := ⟨RX3, "findNoRoom", "()Z"⟩
abbrev cX3_findSmallCommon : ByteArray := prog_5_method_8_code
def yX3_findSmallCommon : MethodName := ⟨RX3, "findSmallCommon", "()Z"⟩
abbrev cX3_findFewCells : ByteArray := prog_5_method_9_code
def yX3_findFewCells : MethodName := ⟨RX3, "findFewCells", "()Z"⟩
abbrev cX3_findLowStack : ByteArray := prog_5_method_10_code
def yX3_findLowStack : MethodName := ⟨RX3, "findLowStack", "()Z"⟩
abbrev cX3_writeModules : ByteArray := prog_5_method_11_code
def yX3_writeModules : MethodName := ⟨RX3, "writeModules", "()V"⟩
abbrev cX3_writeRoutine : ByteArray := prog_5_method_12_code
def yX3_writeRoutine : MethodName := ⟨RX3, "writeRoutine", "(I)V"⟩
abbrev cX3_writeOp : ByteArray := prog_5_method_13_code
def yX3_writeOp : MethodName := ⟨RX3, "writeOp", "(II)V"⟩
abbrev cX3_writeThunks : ByteArray := prog_5_method_14_code
def yX3_writeThunks : MethodName := ⟨RX3, "writeThunks", "()V"⟩
abbrev cX3_writeThunk : ByteArray := prog_5_method_15_code
def yX3_writeThunk : MethodName := ⟨RX3, "writeThunk", "(I)V"⟩
def RX4 : String := "BankLinker$Machine"
def TX4 : u_T := fun k => match k with
  | 0 => ("BankLinker$Machine", "report", "LBankLinker$Report;", true)
  | 1 => ("BankLinker$Machine", "memory", "LBankLinker$Memory;", true)
  | 2 => ("BankLinker$Machine", "cells", "[I", true)
  | 3 => ("BankLinker$Machine", "stack", "[I", true)
  | 4 => ("BankLinker$Machine", "height", "I", false)
  | 5 => ("BankLinker$Machine", "pc", "I", false)
  | _ => ("BankLinker$Machine", "bank", "I", false)
def tyX4 : Nat → FieldType := fun k => match k with
  | 0 => .object "BankLinker$Report"
  | 1 => .object "BankLinker$Memory"
  | 2 => .array .int
  | 3 => .array .int
  | 4 => .int
  | 5 => .int
  | _ => .int
abbrev wsX40 : List Cond := u_ws RX4 TX4 7
theorem nmX4 : ∀ a, a < 7 → ∀ b, b < 7 → a ≠ b → (TX4 a).2.1 ≠ (TX4 b).2.1 := by decide +kernel
theorem tyX4_ok : ∀ k, k < 7 → parseFieldDescriptor (TX4 k).2.2.1 = some (tyX4 k) := by decide +kernel
abbrev cX4_init : ByteArray := prog_6_method_1_code
def yX4_init : MethodName := ⟨RX4, "<init>", "(LBankLinker$Memory;)V"⟩
abbrev cX4_perform : ByteArray := prog_6_method_2_code
def yX4_perform : MethodName := ⟨RX4, "perform", "(IIII)I"⟩
abbrev cX4_fetch : ByteArray := prog_6_method_3_code
def yX4_fetch : MethodName := ⟨RX4, "fetch", "()I"⟩
abbrev cX4_doCode : ByteArray := prog_6_method_4_code
def yX4_doCode : MethodName := ⟨RX4, "doCode", "(I)V"⟩
abbrev cX4_cellAt : ByteArray := prog_6_method_5_code
def yX4_cellAt : MethodName := ⟨RX4, "cellAt", "(I)I"⟩
abbrev cX4_setCell : ByteArray := prog_6_method_6_code
def yX4_setCell : MethodName := ⟨RX4, "setCell", "(II)V"⟩
abbrev cX4_clearCells : ByteArray := prog_6_method_7_code
def yX4_clearCells : MethodName := ⟨RX4, "clearCells", "()V"⟩
abbrev cX4_goInto : ByteArray := prog_6_method_8_code
def yX4_goInto : MethodName := ⟨RX4, "goInto", "()V"⟩
abbrev cX4_jumpIf : ByteArray := prog_6_method_9_code
def yX4_jumpIf : MethodName := ⟨RX4, "jumpIf", "(Z)V"⟩
abbrev cX4_switchTo : ByteArray := prog_6_method_10_code
def yX4_switchTo : MethodName := ⟨RX4, "switchTo", "(I)V"⟩
abbrev cX4_push : ByteArray := prog_6_method_11_code
def yX4_push : MethodName := ⟨RX4, "push", "(I)V"⟩
abbrev cX4_pop : ByteArray := prog_6_method_12_code
def yX4_pop : MethodName := ⟨RX4, "pop", "()I"⟩
def RX5 : String := "BankLinker$Memory"
def TX5 : u_T := fun k => match k with
  | 0 => ("BankLinker$Memory", "rows", "[[I", true)
  | _ => ("BankLinker$Memory", "lengths", "[I", true)
def tyX5 : Nat → FieldType := fun k => match k with
  | 0 => .array (.array .int)
  | _ => .array .int
abbrev wsX50 : List Cond := u_ws RX5 TX5 2
theorem nmX5 : ∀ a, a < 2 → ∀ b, b < 2 → a ≠ b → (TX5 a).2.1 ≠ (TX5 b).2.1 := by decide +kernel
theorem tyX5_ok : ∀ k, k < 2 → parseFieldDescriptor (TX5 k).2.2.1 = some (tyX5 k) := by decide +kernel
abbrev cX5_init : ByteArray := prog_7_method_1_code
def yX5_init : MethodName := ⟨RX5, "<init>", "()V"⟩
abbrev cX5_empty : ByteArray := prog_7_method_2_code
def yX5_empty : MethodName := ⟨RX5, "empty", "()V"⟩
abbrev cX5_append : ByteArray := prog_7_method_3_code
def yX5_append : MethodName := ⟨RX5, "append", "(II)V"⟩
abbrev cX5_appendAddress : ByteArray := prog_7_method_4_code
def yX5_appendAddress : MethodName := ⟨RX5, "appendAddress", "(II)V"⟩
abbrev cX5_byteAt : ByteArray := prog_7_method_5_code
def yX5_byteAt : MethodName := ⟨RX5, "byteAt", "(II)I"⟩
abbrev cX5_seenAt : ByteArray := prog_7_method_6_code
def yX5_seenAt : MethodName := ⟨RX5, "seenAt", "(II)I"⟩
abbrev cX5_banksWithBytes : ByteArray := prog_7_method_7_code
def yX5_banksWithBytes : MethodName := ⟨RX5, "banksWithBytes", "()I"⟩
def RX6 : String := "BankLinker$Program"
def TX6 : u_T := fun k => match k with
  | 0 => ("BankLinker$Program", "modules", "I", false)
  | 1 => ("BankLinker$Program", "kinds", "[I", true)
  | 2 => ("BankLinker$Program", "routines", "I", false)
  | 3 => ("BankLinker$Program", "owners", "[I", true)
  | 4 => ("BankLinker$Program", "locals", "[I", true)
  | 5 => ("BankLinker$Program", "sizes", "[I", true)
  | 6 => ("BankLinker$Program", "codes", "[I", true)
  | 7 => ("BankLinker$Program", "values", "[I", true)
  | _ => ("BankLinker$Program", "limits", "[I", true)
def tyX6 : Nat → FieldType := fun k => match k with
  | 0 => .int
  | 1 => .array .int
  | 2 => .int
  | 3 => .array .int
  | 4 => .array .int
  | 5 => .array .int
  | 6 => .array .int
  | 7 => .array .int
  | _ => .array .int
abbrev wsX60 : List Cond := u_ws RX6 TX6 9
theorem nmX6 : ∀ a, a < 9 → ∀ b, b < 9 → a ≠ b → (TX6 a).2.1 ≠ (TX6 b).2.1 := by decide +kernel
theorem tyX6_ok : ∀ k, k < 9 → parseFieldDescriptor (TX6 k).2.2.1 = some (tyX6 k) := by decide +kernel
abbrev cX6_init : ByteArray := prog_8_method_1_code
def yX6_init : MethodName := ⟨RX6, "<init>", "()V"⟩
abbrev cX6_hasModule : ByteArray := prog_8_method_2_code
def yX6_hasModule : MethodName := ⟨RX6, "hasModule", "(I)Z"⟩
abbrev cX6_hasRoutine : ByteArray := prog_8_method_3_code
def yX6_hasRoutine : MethodName := ⟨RX6, "hasRoutine", "(I)Z"⟩
abbrev cX6_addModule : ByteArray := prog_8_method_4_code
def yX6_addModule : MethodName := ⟨RX6, "addModule", "(I)I"⟩
abbrev cX6_addRoutine : ByteArray := prog_8_method_5_code
def yX6_addRoutine : MethodName := ⟨RX6, "addRoutine", "(II)I"⟩
abbrev cX6_addOp : ByteArray := prog_8_method_6_code
def yX6_addOp : MethodName := ⟨RX6, "addOp", "(III)I"⟩
abbrev cX6_mayAdd : ByteArray := prog_8_method_7_code
def yX6_mayAdd : MethodName := ⟨RX6, "mayAdd", "(III)Z"⟩
abbrev cX6_codeAt : ByteArray := prog_8_method_8_code
def yX6_codeAt : MethodName := ⟨RX6, "codeAt", "(II)I"⟩
abbrev cX6_valueAt : ByteArray := prog_8_method_9_code
def yX6_valueAt : MethodName := ⟨RX6, "valueAt", "(II)I"⟩
abbrev cX6_isJump : ByteArray := prog_8_method_10_code
def yX6_isJump : MethodName := ⟨RX6, "isJump", "(II)Z"⟩
abbrev cX6_opsOfAll : ByteArray := prog_8_method_11_code
def yX6_opsOfAll : MethodName := ⟨RX6, "opsOfAll", "()I"⟩
abbrev cX6_bytesOfClear : ByteArray := prog_8_method_12_code
def yX6_bytesOfClear : MethodName := ⟨RX6, "bytesOfClear", "(I)I"⟩
abbrev cX6_offsetOf : ByteArray := prog_8_method_13_code
def yX6_offsetOf : MethodName := ⟨RX6, "offsetOf", "(II)I"⟩
abbrev cX6_bytesOf : ByteArray := prog_8_method_14_code
def yX6_bytesOf : MethodName := ⟨RX6, "bytesOf", "(I)I"⟩
def RX7 : String := "BankLinker$Report"
def TX7 : u_T := fun k => match k with
  | 0 => ("BankLinker$Report", "kept", "[I", true)
  | 1 => ("BankLinker$Report", "steps", "I", false)
  | 2 => ("BankLinker$Report", "a", "I", false)
  | 3 => ("BankLinker$Report", "numbers", "I", false)
  | 4 => ("BankLinker$Report", "highest", "I", false)
  | _ => ("BankLinker$Report", "switches", "I", false)
def tyX7 : Nat → FieldType := fun k => match k with
  | 0 => .array .int
  | 1 => .int
  | 2 => .int
  | 3 => .int
  | 4 => .int
  | _ => .int
abbrev wsX70 : List Cond := u_ws RX7 TX7 6
theorem nmX7 : ∀ a, a < 6 → ∀ b, b < 6 → a ≠ b → (TX7 a).2.1 ≠ (TX7 b).2.1 := by decide +kernel
theorem tyX7_ok : ∀ k, k < 6 → parseFieldDescriptor (TX7 k).2.2.1 = some (tyX7 k) := by decide +kernel
abbrev cX7_init : ByteArray := prog_9_method_1_code
def yX7_init : MethodName := ⟨RX7, "<init>", "()V"⟩
abbrev cX7_begin : ByteArray := prog_9_method_2_code
def yX7_begin : MethodName := ⟨RX7, "begin", "(I)V"⟩
abbrev cX7_add : ByteArray := prog_9_method_3_code
def yX7_add : MethodName := ⟨RX7, "add", "(I)V"⟩
abbrev cX7_tellA : ByteArray := prog_9_method_4_code
def yX7_tellA : MethodName := ⟨RX7, "tellA", "()V"⟩
abbrev cX7_reach : ByteArray := prog_9_method_5_code
def yX7_reach : MethodName := ⟨RX7, "reach", "(I)V"⟩
abbrev cX7_keptNumber : ByteArray := prog_9_method_6_code
def yX7_keptNumber : MethodName := ⟨RX7, "keptNumber", "(I)I"⟩
def RX8 : String := "BankLinker"
def TX8 : u_T := fun k => match k with
  | 0 => ("BankLinker", "program", "LBankLinker$Program;", true)
  | 1 => ("BankLinker", "calls", "LBankLinker$Calls;", true)
  | 2 => ("BankLinker", "layout", "LBankLinker$Layout;", true)
  | 3 => ("BankLinker", "memory", "LBankLinker$Memory;", true)
  | 4 => ("BankLinker", "linker", "LBankLinker$Linker;", true)
  | 5 => ("BankLinker", "machine", "LBankLinker$Machine;", true)
  | 6 => ("BankLinker", "flatMachine", "LBankLinker$FlatMachine;", true)
  | _ => ("BankLinker", "linked", "Z", false)
def tyX8 : Nat → FieldType := fun k => match k with
  | 0 => .object "BankLinker$Program"
  | 1 => .object "BankLinker$Calls"
  | 2 => .object "BankLinker$Layout"
  | 3 => .object "BankLinker$Memory"
  | 4 => .object "BankLinker$Linker"
  | 5 => .object "BankLinker$Machine"
  | 6 => .object "BankLinker$FlatMachine"
  | _ => .boolean
abbrev wsX80 : List Cond := u_ws RX8 TX8 8
theorem nmX8 : ∀ a, a < 8 → ∀ b, b < 8 → a ≠ b → (TX8 a).2.1 ≠ (TX8 b).2.1 := by decide +kernel
theorem tyX8_ok : ∀ k, k < 8 → parseFieldDescriptor (TX8 k).2.2.1 = some (tyX8 k) := by decide +kernel
abbrev cX8_init : ByteArray := prog_1_method_1_code
def yX8_init : MethodName := ⟨RX8, "<init>", "()V"⟩
abbrev cX8_module : ByteArray := prog_1_method_2_code
def yX8_module : MethodName := ⟨RX8, "module", "(I)I"⟩
abbrev cX8_routine : ByteArray := prog_1_method_3_code
def yX8_routine : MethodName := ⟨RX8, "routine", "(II)I"⟩
abbrev cX8_op : ByteArray := prog_1_method_4_code
def yX8_op : MethodName := ⟨RX8, "op", "(III)I"⟩
abbrev cX8_drop : ByteArray := prog_1_method_5_code
def yX8_drop : MethodName := ⟨RX8, "drop", "(I)I"⟩
abbrev cX8_limit : ByteArray := prog_1_method_6_code
def yX8_limit : MethodName := ⟨RX8, "limit", "(II)I"⟩
abbrev cX8_link : ByteArray := prog_1_method_7_code
def yX8_link : MethodName := ⟨RX8, "link", "()I"⟩
abbrev cX8_fault : ByteArray := prog_1_method_8_code
def yX8_fault : MethodName := ⟨RX8, "fault", "(I)I"⟩
abbrev cX8_place : ByteArray := prog_1_method_9_code
def yX8_place : MethodName := ⟨RX8, "place", "(II)I"⟩
abbrev cX8_image : ByteArray := prog_1_method_10_code
def yX8_image : MethodName := ⟨RX8, "image", "(II)I"⟩
abbrev cX8_count : ByteArray := prog_1_method_11_code
def yX8_count : MethodName := ⟨RX8, "count", "(I)I"⟩
abbrev cX8_leads : ByteArray := prog_1_method_12_code
def yX8_leads : MethodName := ⟨RX8, "leads", "(II)I"⟩
abbrev cX8_run : ByteArray := prog_1_method_13_code
def yX8_run : MethodName := ⟨RX8, "run", "(III)I"⟩
abbrev cX8_flat : ByteArray := prog_1_method_14_code
def yX8_flat : MethodName := ⟨RX8, "flat", "(III)I"⟩
abbrev cX8_out : ByteArray := prog_1_method_15_code
def yX8_out : MethodName := ⟨RX8, "out", "(II)I"⟩
abbrev cX8_told : ByteArray := prog_1_method_16_code
def yX8_told : MethodName := ⟨RX8, "told", "(II)I"⟩
abbrev cX8_mayRun : ByteArray := prog_1_method_17_code
def yX8_mayRun : MethodName := ⟨RX8, "mayRun", "(III)Z"⟩
abbrev cX8_reportOf : ByteArray := prog_1_method_18_code
def yX8_reportOf : MethodName := ⟨RX8, "reportOf", "(I)LBankLinker$Report;"⟩
def RX9 : String := "BankLinkerModel"
def TX9 : u_T := fun k => match k with
  | 0 => ("BankLinkerModel", "thrown", "I", false)
  | 1 => ("BankLinkerModel", "modules", "I", false)
  | 2 => ("BankLinkerModel", "kind", "[I", true)
  | 3 => ("BankLinkerModel", "routines", "I", false)
  | 4 => ("BankLinkerModel", "moduleOf", "[I", true)
  | 5 => ("BankLinkerModel", "locals", "[I", true)
  | 6 => ("BankLinkerModel", "many", "[I", true)
  | 7 => ("BankLinkerModel", "op", "[I", true)
  | 8 => ("BankLinkerModel", "value", "[I", true)
  | 9 => ("BankLinkerModel", "limit", "[I", true)
  | 10 => ("BankLinkerModel", "isLinked", "Z", false)
  | 11 => ("BankLinkerModel", "bankOf", "[I", true)
  | 12 => ("BankLinkerModel", "fill", "[I", true)
  | 13 => ("BankLinkerModel", "address", "[I", true)
  | 14 => ("BankLinkerModel", "thunk", "[I", true)
  | 15 => ("BankLinkerModel", "base", "[I", true)
  | 16 => ("BankLinkerModel", "depth", "[I", true)
  | 17 => ("BankLinkerModel", "common", "[I", true)
  | 18 => ("BankLinkerModel", "bank", "[I", true)
  | 19 => ("BankLinkerModel", "commonSize", "I", false)
  | 20 => ("BankLinkerModel", "thunks", "I", false)
  | 21 => ("BankLinkerModel", "farCalls", "I", false)
  | 22 => ("BankLinkerModel", "faultNumber", "I", false)
  | 23 => ("BankLinkerModel", "faultAt", "I", false)
  | 24 => ("BankLinkerModel", "faultOp", "I", false)
  | 25 => ("BankLinkerModel", "isLed", "[Z", true)
  | 26 => ("BankLinkerModel", "tolds", "[I", true)
  | 27 => ("BankLinkerModel", "outs", "[I", true)
  | 28 => ("BankLinkerModel", "cells", "[I", true)
  | 29 => ("BankLinkerModel", "stack", "[I", true)
  | 30 => ("BankLinkerModel", "top", "I", false)
  | 31 => ("BankLinkerModel", "a", "I", false)
  | 32 => ("BankLinkerModel", "pc", "I", false)
  | 33 => ("BankLinkerModel", "seen", "I", false)
  | 34 => ("BankLinkerModel", "on", "[I", true)
  | 35 => ("BankLinkerModel", "next", "[I", true)
  | _ => ("BankLinkerModel", "local", "[I", true)
def tyX9 : Nat → FieldType := fun k => match k with
  | 0 => .int
  | 1 => .int
  | 2 => .array .int
  | 3 => .int
  | 4 => .array .int
  | 5 => .array .int
  | 6 => .array .int
  | 7 => .array .int
  | 8 => .array .int
  | 9 => .array .int
  | 10 => .boolean
  | 11 => .array .int
  | 12 => .array .int
  | 13 => .array .int
  | 14 => .array .int
  | 15 => .array .int
  | 16 => .array .int
  | 17 => .array .int
  | 18 => .array .int
  | 19 => .int
  | 20 => .int
  | 21 => .int
  | 22 => .int
  | 23 => .int
  | 24 => .int
  | 25 => .array .boolean
  | 26 => .array .int
  | 27 => .array .int
  | 28 => .array .int
  | 29 => .array .int
  | 30 => .int
  | 31 => .int
  | 32 => .int
  | 33 => .int
  | 34 => .array .int
  | 35 => .array .int
  | _ => .array .int
abbrev wsX90 : List Cond := u_ws RX9 TX9 37
theorem nmX9 : ∀ a, a < 37 → ∀ b, b < 37 → a ≠ b → (TX9 a).2.1 ≠ (TX9 b).2.1 := by decide +kernel
theorem tyX9_ok : ∀ k, k < 37 → parseFieldDescriptor (TX9 k).2.2.1 = some (tyX9 k) := by decide +kernel
abbrev cX9_in : ByteArray := prog_11_method_2_code
def yX9_in : MethodName := ⟨RX9, "in", "(JJJ)Z"⟩
abbrev cX9_init : ByteArray := prog_11_method_3_code
def yX9_init : MethodName := ⟨RX9, "<init>", "()V"⟩
abbrev cX9_isRoutine : ByteArray := prog_11_method_4_code
def yX9_isRoutine : MethodName := ⟨RX9, "isRoutine", "(I)Z"⟩
abbrev cX9_module : ByteArray := prog_11_method_5_code
def yX9_module : MethodName := ⟨RX9, "module", "(I)I"⟩
abbrev cX9_routine : ByteArray := prog_11_method_6_code
def yX9_routine : MethodName := ⟨RX9, "routine", "(II)I"⟩
abbrev cX9_isValue : ByteArray := prog_11_method_7_code
def yX9_isValue : MethodName := ⟨RX9, "isValue", "(III)Z"⟩
abbrev cX9_op : ByteArray := prog_11_method_8_code
def yX9_op : MethodName := ⟨RX9, "op", "(III)I"⟩
abbrev cX9_drop : ByteArray := prog_11_method_9_code
def yX9_drop : MethodName := ⟨RX9, "drop", "(I)I"⟩
abbrev cX9_limit : ByteArray := prog_11_method_10_code
def yX9_limit : MethodName := ⟨RX9, "limit", "(II)I"⟩
abbrev cX9_bytesOf : ByteArray := prog_11_method_11_code
def yX9_bytesOf : MethodName := ⟨RX9, "bytesOf", "(I)I"⟩
abbrev cX9_ahead : ByteArray := prog_11_method_12_code
def yX9_ahead : MethodName := ⟨RX9, "ahead", "(II)I"⟩
abbrev cX9_sizeOf : ByteArray := prog_11_method_13_code
def yX9_sizeOf : MethodName := ⟨RX9, "sizeOf", "(I)I"⟩
abbrev cX9_sizeOfModule : ByteArray := prog_11_method_14_code
def yX9_sizeOfModule : MethodName := ⟨RX9, "sizeOfModule", "(I)I"⟩
abbrev cX9_mark : ByteArray := prog_11_method_15_code
def yX9_mark : MethodName := ⟨RX9, "mark", "(I)V"⟩
abbrev cX9_leads : ByteArray := prog_11_method_16_code
def yX9_leads : MethodName := ⟨RX9, "leads", "(II)I"⟩
abbrev cX9_isCommon : ByteArray := prog_11_method_17_code
def yX9_isCommon : MethodName := ⟨RX9, "isCommon", "(I)Z"⟩
abbrev cX9_isFar : ByteArray := prog_11_method_18_code
def yX9_isFar : MethodName := ⟨RX9, "isFar", "(II)Z"⟩
abbrev cX9_told : ByteArray := prog_11_method_19_code
def yX9_told : MethodName := ⟨RX9, "told", "(III)Z"⟩
abbrev cX9_areJumpsGood : ByteArray := prog_11_method_20_code
def yX9_areJumpsGood : MethodName := ⟨RX9, "areJumpsGood", "()Z"⟩
abbrev cX9_areBanksGood : ByteArray := prog_11_method_21_code
def yX9_areBanksGood : MethodName := ⟨RX9, "areBanksGood", "()Z"⟩
abbrev cX9_isCommonGood : ByteArray := prog_11_method_22_code
def yX9_isCommonGood : MethodName := ⟨RX9, "isCommonGood", "()Z"⟩
abbrev cX9_areCellsGood : ByteArray := prog_11_method_23_code
def yX9_areCellsGood : MethodName := ⟨RX9, "areCellsGood", "()Z"⟩
abbrev cX9_put : ByteArray := prog_11_method_24_code
def yX9_put : MethodName := ⟨RX9, "put", "(III)V"⟩
abbrev cX9_write : ByteArray := prog_11_method_25_code
def yX9_write : MethodName := ⟨RX9, "write", "(I)V"⟩
abbrev cX9_writeThunk : ByteArray := prog_11_method_26_code
def yX9_writeThunk : MethodName := ⟨RX9, "writeThunk", "(I)V"⟩
abbrev cX9_link : ByteArray := prog_11_method_27_code
def yX9_link : MethodName := ⟨RX9, "link", "()I"⟩
abbrev cX9_fault : ByteArray := prog_11_method_28_code
def yX9_fault : MethodName := ⟨RX9, "fault", "(I)I"⟩
abbrev cX9_place : ByteArray := prog_11_method_29_code
def yX9_place : MethodName := ⟨RX9, "place", "(II)I"⟩
abbrev cX9_image : ByteArray := prog_11_method_30_code
def yX9_image : MethodName := ⟨RX9, "image", "(II)I"⟩
abbrev cX9_count : ByteArray := prog_11_method_31_code
def yX9_count : MethodName := ⟨RX9, "count", "(I)I"⟩
abbrev cX9_codeAt : ByteArray := prog_11_method_32_code
def yX9_codeAt : MethodName := ⟨RX9, "codeAt", "(I)I"⟩
abbrev cX9_send : ByteArray := prog_11_method_33_code
def yX9_send : MethodName := ⟨RX9, "send", "(II)V"⟩
abbrev cX9_begin : ByteArray := prog_11_method_34_code
def yX9_begin : MethodName := ⟨RX9, "begin", "(I)V"⟩
abbrev cX9_push : ByteArray := prog_11_method_35_code
def yX9_push : MethodName := ⟨RX9, "push", "(I)V"⟩
abbrev cX9_run : ByteArray := prog_11_method_36_code
def yX9_run : MethodName := ⟨RX9, "run", "(III)I"⟩
abbrev cX9_step : ByteArray := prog_11_method_37_code
def yX9_step : MethodName := ⟨RX9, "step", "()Z"⟩
abbrev cX9_enter : ByteArray := prog_11_method_38_code
def yX9_enter : MethodName := ⟨RX9, "enter", "(I)V"⟩
abbrev cX9_flat : ByteArray := prog_11_method_39_code
def yX9_flat : MethodName := ⟨RX9, "flat", "(III)I"⟩
abbrev cX9_flatStep : ByteArray := prog_11_method_40_code
def yX9_flatStep : MethodName := ⟨RX9, "flatStep", "()Z"⟩
abbrev cX9_out : ByteArray := prog_11_method_41_code
def yX9_out : MethodName := ⟨RX9, "out", "(II)I"⟩
abbrev cX9_told_ : ByteArray := prog_11_method_42_code
def yX9_told_ : MethodName := ⟨RX9, "told", "(II)I"⟩
def RJx8e188 : String := "java/lang/Cloneable"
def TJx8e188 : u_T := fun k => match k with
  | _ => ("", "", "", false)
def tyJx8e188 : Nat → FieldType := fun k => match k with
  | _ => .int
abbrev wsJx8e1880 : List Cond := u_ws RJx8e188 TJx8e188 0
theorem nmJx8e188 : ∀ a, a < 0 → ∀ b, b < 0 → a ≠ b → (TJx8e188 a).2.1 ≠ (TJx8e188 b).2.1 := by decide +kernel
theorem tyJx8e188_ok : ∀ k, k < 0 → parseFieldDescriptor (TJx8e188 k).2.2.1 = some (tyJx8e188 k) := by decide +kernel
def RJ9 : String := "java/lang/Math"
def TJ9 : u_T := fun k => match k with
  | _ => ("", "", "", false)
def tyJ9 : Nat → FieldType := fun k => match k with
  | _ => .int
abbrev wsJ90 : List Cond := u_ws RJ9 TJ9 0
theorem nmJ9 : ∀ a, a < 0 → ∀ b, b < 0 → a ≠ b → (TJ9 a).2.1 ≠ (TJ9 b).2.1 := by decide +kernel
theorem tyJ9_ok : ∀ k, k < 0 → parseFieldDescriptor (TJ9 k).2.2.1 = some (tyJ9 k) := by decide +kernel
abbrev cJ9_max_7cf53 : ByteArray := prog_13_method_65_code
def yJ9_max_7cf53 : MethodName := ⟨RJ9, "max", "(II)I"⟩
def RJ7 : String := "java/util/Arrays"
def TJ7 : u_T := fun k => match k with
  | _ => ("", "", "", false)
def tyJ7 : Nat → FieldType := fun k => match k with
  | _ => .int
abbrev wsJ70 : List Cond := u_ws RJ7 TJ7 0
theorem nmJ7 : ∀ a, a < 0 → ∀ b, b < 0 → a ≠ b → (TJ7 a).2.1 ≠ (TJ7 b).2.1 := by decide +kernel
theorem tyJ7_ok : ∀ k, k < 0 → parseFieldDescriptor (TJ7 k).2.2.1 = some (tyJ7 k) := by decide +kernel
abbrev cJ7_rangeCheck_23922 : ByteArray := prog_14_method_30_code
def yJ7_rangeCheck_23922 : MethodName := ⟨RJ7, "rangeCheck", "(III)V"⟩
abbrev cJ7_fill_53178 : ByteArray := prog_14_method_103_code
def yJ7_fill_53178 : MethodName := ⟨RJ7, "fill", "([II)V"⟩
abbrev cJ7_fill_fda19 : ByteArray := prog_14_method_104_code
def yJ7_fill_fda19 : MethodName := ⟨RJ7, "fill", "([IIII)V"⟩
def RL : String := "BankLinkerLaw"
abbrev cL_law : ByteArray := code
def yL_law : MethodName := ⟨RL, "law", "([I)Z"⟩
abbrev vwCl : List vw_C := [(RX0, TX0, 2), (RX1, TX1, 6), (RX2, TX2, 14), (RX3, TX3, 7), (RX4, TX4, 7), (RX5, TX5, 2), (RX6, TX6, 9), (RX7, TX7, 6), (RX8, TX8, 8), (RX9, TX9, 37)]
end
section
/-! numbers: every int of the machine is bI of an Int -/
def bI (z : Int) : Int32 := Int32.ofInt z
def bL (z : Int) : Int64 := Int64.ofInt z
abbrev bR (z : Int) : Prop := -2147483648 ≤ z ∧ z < 2147483648
theorem bI_toInt {z : Int} (h : bR z) : (bI z).toInt = z := by
  unfold bI
  rw [Int32.toInt_ofInt]
  show z.bmod (2 ^ 32) = z
  rw [Int.bmod_eq_of_le (by have := h.1; omega) (by have := h.2; omega)]
theorem bL_toInt {z : Int} (h : bR z) : (bL z).toInt = z := by
  unfold bL
  rw [Int64.toInt_ofInt]
  show z.bmod (2 ^ 64) = z
  rw [Int.bmod_eq_of_le (by have := h.1; omega) (by have := h.2; omega)]
theorem bI_of (x : Int32) : bI x.toInt = x := Int32.ofInt_toInt x
theorem bI_rg (x : Int32) : bR x.toInt := by
  have h1 := Int32.le_toInt x
  have h2 := Int32.toInt_lt x
  constructor <;> omega
theorem bI_add (a b : Int) : bI a + bI b = bI (a + b) := by
  unfold bI; rw [Int32.ofInt_add]
theorem bI_sub (a b : Int) : bI a - bI b = bI (a - b) := by
  unfold bI; rw [Int32.ofInt_sub]
theorem bI_mul (a b : Int) : bI a * bI b = bI (a * b) := by
  unfold bI; rw [Int32.ofInt_mul]
theorem bI_inj {a b : Int} (ha : bR a) (hb : bR b) : bI a = bI b ↔ a = b := by
  rw [← Int32.toInt_inj, bI_toInt ha, bI_toInt hb]
theorem bI_lt {a b : Int} (ha : bR a) (hb : bR b) : bI a < bI b ↔ a < b := by
  rw [Int32.lt_iff_toInt_lt, bI_toInt ha, bI_toInt hb]
theorem bI_le {a b : Int} (ha : bR a) (hb : bR b) : bI a ≤ bI b ↔ a ≤ b := by
  rw [Int32.le_iff_toInt_le, bI_toInt ha, bI_toInt hb]
theorem bI_0 : bI 0 = 0 := rfl
theorem bR_0 : bR 0 := by decide
theorem bI_long (a : Int) (h : bR a) : (bI a).toInt64 = bL a := by
  rw [← Int64.toInt_inj, Int32.toInt_toInt64, bI_toInt h, bL_toInt h]
theorem bL_lt {a b : Int} (ha : bR a) (hb : bR b) : bL a < bL b ↔ a < b := by
  rw [Int64.lt_iff_toInt_lt, bL_toInt ha, bL_toInt hb]
theorem bI_in {i : Int} {n : Nat} (hn : n < 2147483648) (h0 : 0 ≤ i) (h1 : i < (n : Int)) : vp_in (bI i) n := by
  rw [vp_in_iff, bI_toInt ⟨by omega, by omega⟩]
  exact ⟨h0, h1⟩
theorem bI_cl {i : Int} {n : Nat} (hn : n < 2147483648) (h0 : 0 ≤ i) (h1 : i < (n : Int)) : (bI i).toNatClampNeg = i.toNat := by
  show (bI i).toInt.toNat = i.toNat
  rw [bI_toInt ⟨by omega, by omega⟩]
/-- x & (2^k - 1) -/
theorem bI_mask (a : Int) (k : Nat) (m : Int) (hk : k < 31) (hm : m = 2 ^ k - 1) : bI a &&& bI m = bI (a % 2 ^ k) := by
  have hp : (2 : Int) ^ k = ((2 ^ k : Nat) : Int) := by simp
  have hle : 2 ^ k ≤ 2 ^ 30 := Nat.pow_le_pow_right (by decide) (by omega)
  have hpos : 0 < 2 ^ k := Nat.pow_pos (by decide)
  have e1 : (bI m).toBitVec.toNat = 2 ^ k - 1 := by
    show (BitVec.ofInt 32 m).toNat = _
    rw [BitVec.toNat_ofInt, hm, hp]
    have : ((2 ^ k : Nat) : Int) - 1 = ((2 ^ k - 1 : Nat) : Int) := by omega
    rw [this]
    have h2 : ((2 ^ k - 1 : Nat) : Int) % ((2 ^ 32 : Nat) : Int) = ((2 ^ k - 1 : Nat) : Int) := Int.emod_eq_of_lt (by omega) (by omega)
    rw [h2]
    simp
  rw [pk_and (bI a) k e1]
  unfold nI bI
  have e2 : (Int32.ofInt a).toBitVec.toNat = (a % ((2 ^ 32 : Nat) : Int)).toNat := by
    show (BitVec.ofInt 32 a).toNat = _
    rw [BitVec.toNat_ofInt]
  rw [e2]
  have e3 : (((a % ((2 ^ 32 : Nat) : Int)).toNat % 2 ^ k : Nat) : Int) = a % 2 ^ k := by
    rw [Int.natCast_emod, Int.toNat_of_nonneg (Int.emod_nonneg _ (by decide)), ← hp]
    have hd : (2 : Int) ^ k ∣ ((2 ^ 32 : Nat) : Int) := by
      refine ⟨2 ^ (32 - k), ?_⟩
      rw [← Int.pow_add, show k + (32 - k) = 32 by omega]
      rfl
    exact Int.emod_emod_of_dvd a hd
  rw [← e3]
  rfl
theorem bI_255 (a : Int) : bI a &&& bI 255 = bI (a % 256) := bI_mask a 8 255 (by decide) (by decide)
theorem bI_15 (a : Int) : bI a &&& bI 15 = bI (a % 16) := bI_mask a 4 15 (by decide) (by decide)
theorem bI_1 (a : Int) : bI a &&& bI 1 = bI (a % 2) := bI_mask a 1 1 (by decide) (by decide)
theorem bI_shr8 {a : Int} (h : bR a) : bI a >>> (bI 8 &&& 31) = bI (a / 256) := by
  rw [← Int32.toInt_inj, pk_shr (bI a) (bI 8 &&& 31) 8 (by decide), bI_toInt h, bI_toInt ⟨by omega, by omega⟩, Int.shiftRight_eq_div_pow]
  rfl
theorem bI_div {a d : Int} (h0 : 0 ≤ a) (h1 : a < 2147483648) (d0 : 0 < d) (d1 : d < 2147483648) : bI a / bI d = bI (a / d) := by
  have hq : 0 ≤ a / d := Int.ediv_nonneg h0 (Int.le_of_lt d0)
  have hq2 : a / d ≤ a := Int.ediv_le_self d h0
  rw [← Int32.toInt_inj, Int32.toInt_div, bI_toInt ⟨by omega, by omega⟩, bI_toInt ⟨by omega, by omega⟩, bI_toInt ⟨by omega, by omega⟩, Int.tdiv_eq_ediv_of_nonneg h0, Int.bmod_eq_of_le (by omega) (by omega)]
theorem bI_rem {a d : Int} (h0 : 0 ≤ a) (h1 : a < 2147483648) (d0 : 0 < d) (d1 : d < 2147483648) : bI a - bI a / bI d * bI d = bI (a % d) := by
  rw [bI_div h0 h1 d0 d1, bI_mul, bI_sub, Int.emod_def, Int.mul_comm]
/-- bits of an int -/
def bor (a b : Int) : Int := (bI a ||| bI b).toInt
def bshl (a b : Int) : Int := (bI a <<< (bI b &&& 31)).toInt
def bushr (a b : Int) : Int := ((bI a).toUInt32 >>> ((bI b).toUInt32 &&& Int32.toUInt32 31)).toInt32.toInt
theorem bor_rg (a b : Int) : bR (bor a b) := bI_rg _
theorem bshl_rg (a b : Int) : bR (bshl a b) := bI_rg _
theorem bushr_rg (a b : Int) : bR (bushr a b) := bI_rg _
def bit (a : Int) (j : Nat) : Bool := (bI a).toBitVec.getLsbD j
theorem bit_or (a b : Int) (j : Nat) : bit (bor a b) j = (bit a j || bit b j) := by
  unfold bit bor
  rw [bI_of, Int32.toBitVec_or, BitVec.getLsbD_or]
theorem bit_0 (j : Nat) : bit 0 j = false := by
  unfold bit
  show (0#32).getLsbD j = false
  simp
theorem bk_sh : ∀ v : Nat, v < 32 → (Int32.ofInt 1 <<< (Int32.ofInt v &&& 31)).toBitVec = BitVec.twoPow 32 v := by decide +kernel
theorem bit_shl {v : Int} (h0 : 0 ≤ v) (h1 : v < 32) (j : Nat) : bit (bshl 1 v) j = decide ((j : Int) = v) := by
  obtain ⟨n, rfl⟩ := Int.eq_ofNat_of_zero_le h0
  unfold bit bshl
  rw [bI_of]
  unfold bI
  rw [bk_sh n (by omega), BitVec.getLsbD_twoPow]
  by_cases h : n = j
  · subst h; simp; omega
  · simp [h]; omega
theorem bk_su : ∀ v : Nat, v < 32 → (((Int32.ofInt v).toUInt32 &&& Int32.toUInt32 31).toBitVec % 32).toNat = v := by decide +kernel
theorem bit_ushr (a : Int) {v : Int} (h0 : 0 ≤ v) (h1 : v < 32) : bushr a v % 2 = if bit a v.toNat then 1 else 0 := by
  obtain ⟨n, rfl⟩ := Int.eq_ofNat_of_zero_le h0
  have h1' : n < 32 := by omega
  unfold bushr
  have e := pk_ushr (bI a) (bI n) n (bk_su n h1')
  generalize hx : ((bI a).toUInt32 >>> ((bI (n : Int)).toUInt32 &&& Int32.toUInt32 31)).toInt32 = x at e ⊢
  have hb : bit a ((n : Int)).toNat = ((bI a).toBitVec.toNat / 2 ^ n % 2 == 1) := by
    unfold bit
    rw [Int.toNat_natCast, BitVec.getLsbD, Nat.testBit_eq_decide_div_mod_eq]
    by_cases h : (bI a).toBitVec.toNat / 2 ^ n % 2 = 1 <;> simp [h]
  rw [hb, ← e]
  have ht : x.toInt = x.toBitVec.toInt := rfl
  rw [ht, BitVec.toInt_eq_toNat_cond]
  generalize x.toBitVec.toNat = y
  have hy : y % 2 = 0 ∨ y % 2 = 1 := by omega
  rcases hy with hy | hy <;> rw [hy] <;> split <;> simp <;> omega
end
section
/-! the world: 71 cells; what cell k holds is σ k -/
abbrev bS : Type := Nat → Int → Int
abbrev bG : Type := va_G × (Nat → ClassId) × (Nat → Nat)
def bRG (σ : bS) : Prop := ∀ (k : Nat) (i : Int), bR (σ k i)
def bup (σ : bS) (k : Nat) (i v : Int) : bS := fun k' j => if k' = k ∧ j = i then v else σ k' j
theorem bup_rg {σ : bS} {k : Nat} {i v : Int} (h : bRG σ) (hv : bR v) : bRG (bup σ k i v) := by
  intro k' j
  unfold bup
  split
  · exact hv
  · exact h k' j
theorem bup_s (σ : bS) (k : Nat) (i v : Int) : bup σ k i v k i = v := by simp [bup]
theorem bup_k {σ : bS} {k k' : Nat} {i v j : Int} (h : k' ≠ k) : bup σ k i v k' j = σ k' j := by simp [bup, h]
theorem bup_n {σ : bS} {k k' : Nat} {i v j : Int} (h : j ≠ i) : bup σ k i v k' j = σ k' j := by simp [bup, h]
/-- lengths of the int arrays -/
def bk_len (k : Nat) : Nat :=
  if k = 13 then 12 else if k ≤ 16 then 30 else if k ≤ 18 then 1200 else if k = 19 then 5 else if k ≤ 27 then 30 else if k ≤ 30 then 12 else if k = 31 then 8 else if k = 32 then 9 else if k ≤ 41 then 250 else if k = 42 then 64 else if k = 43 then 60 else if k ≤ 45 then 61 else if k = 46 then 549 else if k ≤ 48 then 100
  else if k = 49 then 12 else if k ≤ 52 then 30 else if k ≤ 54 then 1200 else if k = 55 then 5 else if k = 56 then 12 else if k = 57 then 8 else if k ≤ 61 then 30 else if k = 62 then 256 else if k = 63 then 2000 else if k = 64 then 10 else if k = 65 then 200 else if k = 66 then 256 else if k = 67 then 512 else if k ≤ 69 then 61 else 549
/-- what a cell is -/
def bk_e (G : bG) (k : Nat) (r : Int → Int) : va_E := match k with
  | 0 => .inr (8, [.ref (G.2.2 1), .ref (G.2.2 2), .ref (G.2.2 3), .ref (G.2.2 4), .ref (G.2.2 5), .ref (G.2.2 6), .ref (G.2.2 7), .int (bI (r 7))])
  | 1 => .inr (6, [.int (bI (r 0)), .ref (G.2.2 13), .int (bI (r 2)), .ref (G.2.2 14), .ref (G.2.2 15), .ref (G.2.2 16), .ref (G.2.2 17), .ref (G.2.2 18), .ref (G.2.2 19)])
  | 2 => .inr (0, [.ref (G.2.2 20), .ref (G.2.2 21)])
  | 3 => .inr (2, [.ref (G.2.2 22), .ref (G.2.2 23), .ref (G.2.2 24), .ref (G.2.2 25), .ref (G.2.2 26), .ref (G.2.2 27), .ref (G.2.2 28), .ref (G.2.2 29), .ref (G.2.2 30), .ref (G.2.2 31), .int (bI (r 10)), .int (bI (r 11)), .int (bI (r 12)), .int (bI (r 13))])
  | 4 => .inr (5, [.ref (G.2.2 11), .ref (G.2.2 32)])
  | 5 => .inr (3, [.ref (G.2.2 1), .ref (G.2.2 2), .ref (G.2.2 3), .ref (G.2.2 4), .int (bI (r 4)), .int (bI (r 5)), .int (bI (r 6))])
  | 6 => .inr (4, [.ref (G.2.2 8), .ref (G.2.2 4), .ref (G.2.2 42), .ref (G.2.2 43), .int (bI (r 4)), .int (bI (r 5)), .int (bI (r 6))])
  | 7 => .inr (1, [.ref (G.2.2 9), .ref (G.2.2 1), .ref (G.2.2 44), .ref (G.2.2 45), .ref (G.2.2 46), .int (bI (r 5))])
  | 8 => .inr (7, [.ref (G.2.2 47), .int (bI (r 1)), .int (bI (r 2)), .int (bI (r 3)), .int (bI (r 4)), .int (bI (r 5))])
  | 9 => .inr (7, [.ref (G.2.2 48), .int (bI (r 1)), .int (bI (r 2)), .int (bI (r 3)), .int (bI (r 4)), .int (bI (r 5))])
  | 10 => .inr (9, [.int (bI (r 0)), .int (bI (r 1)), .ref (G.2.2 49), .int (bI (r 3)), .ref (G.2.2 50), .ref (G.2.2 51), .ref (G.2.2 52), .ref (G.2.2 53), .ref (G.2.2 54), .ref (G.2.2 55), .int (bI (r 10)), .ref (G.2.2 56), .ref (G.2.2 57), .ref (G.2.2 58), .ref (G.2.2 59), .ref (G.2.2 60), .ref (G.2.2 61), .ref (G.2.2 62), .ref (G.2.2 63), .int (bI (r 19)), .int (bI (r 20)), .int (bI (r 21)), .int (bI (r 22)), .int (bI (r 23)), .int (bI (r 24)), .ref (G.2.2 12), .ref (G.2.2 64), .ref (G.2.2 65), .ref (G.2.2 66), .ref (G.2.2 67), .int (bI (r 30)), .int (bI (r 31)), .int (bI (r 32)), .int (bI (r 33)), .ref (G.2.2 68), .ref (G.2.2 69), .ref (G.2.2 70)])
  | 11 => .inl (G.2.1 2, 9, .inr (.inr (.inr (.inr (fun i => if i < 9 then some (G.2.2 (33 + i)) else none)))))
  | 12 => .inl (G.2.1 1, 30, .inl (fun j => bI (r j)))
  | k => .inl (G.2.1 0, bk_len k, .inl (fun j => bI (r j)))
/-- cell k is an int array of n places -/
def bk_A (G : bG) (k n : Nat) : Prop := k < 71 ∧ n < 2147483648 ∧ ∀ r : Int → Int, bk_e G k r = .inl (G.2.1 0, n, .inl (fun j => bI (r j)))
theorem bk_rows (G : bG) (i : Nat) (h : i < 9) : bk_A G (33 + i) 250 := by
  rcases (show i = 0 ∨ i = 1 ∨ i = 2 ∨ i = 3 ∨ i = 4 ∨ i = 5 ∨ i = 6 ∨ i = 7 ∨ i = 8 by omega) with rfl | rfl | rfl | rfl | rfl | rfl | rfl | rfl | rfl <;> exact ⟨by decide, by decide, fun _ => rfl⟩
def bk_w (G : bG) (σ : bS) : va_W := (List.range 71).map (fun k => (G.2.2 k, bk_e G k (σ k)))
theorem bk_w_get (G : bG) (σ : bS) {k : Nat} (h : k < 71) : (bk_w G σ)[k]? = some (G.2.2 k, bk_e G k (σ k)) := by
  unfold bk_w
  rw [List.getElem?_map, List.getElem?_range h]
  rfl
theorem bk_w_inv {G : bG} {σ : bS} {k : Nat} {q : Nat × va_E} (h : (bk_w G σ)[k]? = some q) : k < 71 ∧ q = (G.2.2 k, bk_e G k (σ k)) := by
  have hk : k < 71 := by
    have := (List.getElem?_eq_some_iff.mp h).1
    simpa [bk_w] using this
  rw [bk_w_get G σ hk] at h
  exact ⟨hk, (Option.some.inj h).symm⟩
theorem bk_w_set (G : bG) (σ σ' : bS) {k : Nat} (h : k < 71) (ho : ∀ k', k' ≠ k → σ' k' = σ k') : (bk_w G σ).set k (G.2.2 k, bk_e G k (σ' k)) = bk_w G σ' := by
  apply List.ext_getElem?
  intro j
  rw [List.getElem?_set]
  by_cases hj : k = j
  · subst hj
    rw [if_pos rfl, if_pos (by simp [bk_w, h]), bk_w_get G σ' h]
  · rw [if_neg hj]
    by_cases hl : j < 71
    · rw [bk_w_get G σ hl, bk_w_get G σ' hl, ho j (fun e => hj e.symm)]
    · rw [List.getElem?_eq_none (by simp [bk_w]; omega), List.getElem?_eq_none (by simp [bk_w]; omega)]
theorem bk_D_any {G : bG} {σ σ' : bS} {A : Nat → Prop} (h : va_D A (bk_w G σ)) : va_D A (bk_w G σ') := by
  refine ⟨fun i j x y hi hj hxy => ?_, fun k q hk => ?_⟩
  · obtain ⟨h1, e1⟩ := bk_w_inv hi
    obtain ⟨h2, e2⟩ := bk_w_inv hj
    rw [e1, e2] at hxy
    exact h.1 i j _ _ (bk_w_get G σ h1) (bk_w_get G σ h2) hxy
  · obtain ⟨h1, e1⟩ := bk_w_inv hk
    rw [e1]
    exact (show A (G.2.2 k) from h.2 k _ (bk_w_get G σ h1))
theorem bk_A_any {G : bG} {σ σ' : bS} {sz q : Nat} (h : va_A (bk_w G σ) sz q) : va_A (bk_w G σ') sz q := by
  rcases h with ⟨k, e, h⟩ | h
  · obtain ⟨h1, e1⟩ := bk_w_inv h
    exact Or.inl ⟨k, bk_e G k (σ' k), by rw [bk_w_get G σ' h1]; rw [show q = G.2.2 k from congrArg Prod.fst e1]⟩
  · exact Or.inr h
def bk_ty (G : bG) : List (ClassId × FieldType) := [(G.2.1 0, .int), (G.2.1 1, .boolean), (G.2.1 2, .array .int)]
/-- the tables that the class reads: BYTES_OF_OP, LEAST_LIMIT, GREATEST_LIMIT, at the addresses 100, 101, 102 -/
def bk_t0 (i : Int) : Int := if i = 2 ∨ i = 8 then 1 else if i = 5 then 3 else 2
def bk_t1 (i : Int) : Int := if i = 0 then 1 else if i = 1 then 8 else if i = 2 then 8 else if i = 3 then 1 else 0
def bk_t2 (i : Int) : Int := if i = 0 then 8 else if i = 1 then 250 else if i = 2 then 250 else if i = 3 then 60 else 64
theorem bk_t0_rg (i : Int) : bR (bk_t0 i) := by unfold bk_t0; constructor <;> repeat' split <;> omega
theorem bk_t1_rg (i : Int) : bR (bk_t1 i) := by unfold bk_t1; constructor <;> repeat' split <;> omega
theorem bk_t2_rg (i : Int) : bR (bk_t2 i) := by unfold bk_t2; constructor <;> repeat' split <;> omega
def bk_S (G : bG) (A : Nat → Prop) (U : State) (H : Heap) : Prop :=
  (va_Z "BankLinker" "BYTES_OF_OP" "[I" (.ref (G.2.2 100)) A U H ∧ va_T .int (G.2.2 100) 9 (fun j => .int (bI (bk_t0 j))) A U H) ∧
  (va_Z "BankLinker" "LEAST_LIMIT" "[I" (.ref (G.2.2 101)) A U H ∧ va_T .int (G.2.2 101) 5 (fun j => .int (bI (bk_t1 j))) A U H) ∧
  (va_Z "BankLinker" "GREATEST_LIMIT" "[I" (.ref (G.2.2 102)) A U H ∧ va_T .int (G.2.2 102) 5 (fun j => .int (bI (bk_t2 j))) A U H)
theorem bk_S.moved {G : bG} {A : Nat → Prop} {u U : State} {H : Heap} (hvm : u.vm.Alike U.vm) (h : bk_S G A u H) : bk_S G A U H :=
  ⟨⟨h.1.1.moved hvm, h.1.2.moved hvm⟩, ⟨h.2.1.1.moved hvm, h.2.1.2.moved hvm⟩, ⟨h.2.2.1.moved hvm, h.2.2.2.moved hvm⟩⟩
theorem bk_S.kept {G : bG} {A : Nat → Prop} {U : State} {H H1 : Heap} (h : bk_S G A U H) (hq : ∀ a : Nat, a < H.size → ¬ A a → H1[a]? = H[a]?) : bk_S G A U H1 :=
  ⟨⟨h.1.1.kept hq, h.1.2.kept hq⟩, ⟨h.2.1.1.kept hq, h.2.1.2.kept hq⟩, ⟨h.2.2.1.kept hq, h.2.2.2.kept hq⟩⟩
theorem bk_S.narrow {G : bG} {A B : Nat → Prop} {U : State} {H : Heap} (h : bk_S G A U H) (hq : ∀ a : Nat, B a → A a) : bk_S G B U H :=
  ⟨⟨h.1.1.narrow hq, h.1.2.narrow hq⟩, ⟨h.2.1.1.narrow hq, h.2.1.2.narrow hq⟩, ⟨h.2.2.1.narrow hq, h.2.2.2.narrow hq⟩⟩
/-- the start of a method, as its callers give it -/
def bk_P (G : bG) (σ : bS) (U : State) : Prop := va_K G.1 vwCl (bk_ty G) U ∧ va_P G.1 vwCl (bk_w G σ) U.heap ∧ va_D (fun _ => True) (bk_w G σ) ∧ bk_S G (va_A (bk_w G σ) U.heap.size) U U.heap ∧ bRG σ
/-- inside a method that began at s -/
def bk_W (G : bG) (A : Nat → Prop) (s : State) (σ : bS) (H : Heap) (locs : List Loc) : Prop :=
  va_K G.1 vwCl (bk_ty G) s ∧ va_P G.1 vwCl (bk_w G σ) H ∧ va_D A (bk_w G σ) ∧ va_S A s.heap H locs ∧ (∀ q, s.heap.size ≤ q → A q) ∧ bk_S G A s s.heap
theorem bk_W.start {G : bG} {σ : bS} {s : State} (h : bk_P G σ s) : bk_W G (va_A (bk_w G σ) s.heap.size) s σ s.heap [] :=
  ⟨h.1, h.2.1, h.2.2.1.self, va_S.rf, fun _ hq => Or.inr hq, h.2.2.2.1⟩
/-- what a callee needs -/
theorem bk_W.out {G : bG} {A : Nat → Prop} {s U : State} {σ : bS} {H : Heap} {locs : List Loc} (h : bk_W G A s σ H locs) (hσ : bRG σ) (hU : U.heap = H) (hvm : s.vm.Alike U.vm) : bk_P G σ U := by
  obtain ⟨hK, hP, hD, hS, hA, hT⟩ := h
  refine ⟨hK.moved hvm, by rw [hU]; exact hP, hD.weaken (fun _ _ _ _ => trivial), ?_, hσ⟩
  rw [hU]
  refine ((hT.kept hS.2.1).narrow ?_).moved hvm
  intro a ha
  rcases ha with ⟨k, e, h⟩ | h
  · exact hD.2 k _ h
  · exact hA a (Nat.le_trans hS.1 h)
theorem bk_W.free {G : bG} {A : Nat → Prop} {s : State} {σ : bS} {H : Heap} {locs : List Loc} (h : bk_W G A s σ H locs) : ∀ q, va_A (bk_w G σ) H.size q → A q := by
  obtain ⟨hK, hP, hD, hS, hA, hT⟩ := h
  intro a ha
  rcases ha with ⟨k, e, h⟩ | h
  · exact hD.2 k _ h
  · exact hA a (Nat.le_trans hS.1 h)
/-- a method's contract: from σ and these arguments it comes to an answer and a state of which Q holds -/
def bk_Mi (l : Launch) (y : MethodName) (ws : List Cond) (rm : Room) (G : bG) (σ : bS) (av : List Value) (Q : Int → bS → Prop) : Prop :=
  ∀ sz : Nat, Met l y ws rm (va_Pc av (fun U => U.heap.size = sz ∧ bk_P G σ U)) (va_Qi (fun (r : Int32) (σ' : bS) => ∃ z : Int, r = bI z ∧ bR z ∧ Q z σ' ∧ bRG σ') (fun σ' t => va_P G.1 vwCl (bk_w G σ') t.heap) (va_A (bk_w G σ) sz)) 0 0 (va_A (bk_w G σ) sz)
def bk_Mv (l : Launch) (y : MethodName) (ws : List Cond) (rm : Room) (G : bG) (σ : bS) (av : List Value) (Q : bS → Prop) : Prop :=
  ∀ sz : Nat, Met l y ws rm (va_Pc av (fun U => U.heap.size = sz ∧ bk_P G σ U)) (va_Qv (fun (σ' : bS) => Q σ' ∧ bRG σ') (fun σ' t => va_P G.1 vwCl (bk_w G σ') t.heap) (va_A (bk_w G σ) sz)) 0 0 (va_A (bk_w G σ) sz)
def bk_Mr (l : Launch) (y : MethodName) (ws : List Cond) (rm : Room) (G : bG) (σ : bS) (av : List Value) (Q : Nat → bS → Prop) : Prop :=
  ∀ sz : Nat, Met l y ws rm (va_Pc av (fun U => U.heap.size = sz ∧ bk_P G σ U)) (va_Qr (fun (u : Nat × bS) => Q u.1 u.2 ∧ bRG u.2) (fun u a t => a = G.2.2 u.1 ∧ va_P G.1 vwCl (bk_w G u.2) t.heap) (va_A (bk_w G σ) sz)) 0 0 (va_A (bk_w G σ) sz)
section BKR
variable {p : Program} {l : Launch} {e : Env} {R : Room} {s : State} {m : MethodId} {args : Array Value} {below : List Frame} {meth : Method} {c : Code} {cells slots : Nat} {Q : State → Prop}
variable {G : bG} {A : Nat → Prop} {nL pc : Nat} {lv : List (Nat × Value)} {st : List Value} {σ : bS} {cc : ByteArray} {Ts : List Cond} {own : String}
/-- the machine at pc with these locals and this stack, over any heap that holds σ, comes to Q -/
def bA (p : Program) (l : Launch) (e : Env) (R : Room) (s : State) (m : MethodId) (args : Array Value) (below : List Frame) (meth : Method) (c : Code) (cells slots : Nat) (Q : State → Prop) (G : bG) (A : Nat → Prop) (nL pc : Nat) (lv : List (Nat × Value)) (st : List Value) (σ : bS) : Prop :=
  ∀ (H : Heap) (locs : List Loc) (ls : Array Slot), bk_W G A s σ H locs → lv_has ls nL lv → W p l e R s m args below meth c H locs cells slots Q (F0 m pc ls st)
theorem bA.perm {lv' : List (Nat × Value)} (ks : List Nat) (h : lv_pick lv ks = lv') (k : bA p l e R s m args below meth c cells slots Q G A nL pc lv' st σ) : bA p l e R s m args below meth c cells slots Q G A nL pc lv st σ :=
  fun H locs ls hW hl => k H locs ls hW (lv_sub hl ks h)
theorem bA.to {st' : List Value} {lv' : List (Nat × Value)} {σ' : bS} (h1 : lv = lv') (h2 : st = st') (h3 : σ = σ') (k : bA p l e R s m args below meth c cells slots Q G A nL pc lv' st' σ') : bA p l e R s m args below meth c cells slots Q G A nL pc lv st σ := by
  subst h1; subst h2; subst h3; exact k
-- constants, locals, stack
theorem br_iconst (S : CallFix p m c cc nL s args Ts own) {n : Int} (hd : decode cc pc = .ok (.iconst n, 1)) (k : bA p l e R s m args below meth c cells slots Q G A nL (pc + 1) lv (.int (bI n) :: st) σ) : bA p l e R s m args below meth c cells slots Q G A nL pc lv st σ :=
  fun H locs ls hW hl => lv_iconst S.1 S.2.1 hd rfl (k H locs ls hW hl)
theorem br_bipush (S : CallFix p m c cc nL s args Ts own) {n : Int} (hd : decode cc pc = .ok (.bipush n, 2)) (hv : (Int8.ofInt n).toInt32 = bI n) (k : bA p l e R s m args below meth c cells slots Q G A nL (pc + 2) lv (.int (bI n) :: st) σ) : bA p l e R s m args below meth c cells slots Q G A nL pc lv st σ :=
  fun H locs ls hW hl => lv_bipush S.1 S.2.1 hd hv (k H locs ls hW hl)
theorem br_sipush (S : CallFix p m c cc nL s args Ts own) {n : Int} (hd : decode cc pc = .ok (.sipush n, 3)) (hv : (Int16.ofInt n).toInt32 = bI n) (k : bA p l e R s m args below meth c cells slots Q G A nL (pc + 3) lv (.int (bI n) :: st) σ) : bA p l e R s m args below meth c cells slots Q G A nL pc lv st σ :=
  fun H locs ls hW hl => lv_sipush S.1 S.2.1 hd hv (k H locs ls hW hl)
theorem br_lconst (S : CallFix p m c cc nL s args Ts own) {n : Fin 2} {z : Int} (hd : decode cc pc = .ok (.lconst n, 1)) (hv : Int64.ofNat (n : Nat) = bL z) (k : bA p l e R s m args below meth c cells slots Q G A nL (pc + 1) lv (.long (bL z) :: st) σ) : bA p l e R s m args below meth c cells slots Q G A nL pc lv st σ :=
  fun H locs ls hW hl => lv_lconst S.1 S.2.1 hd hv (k H locs ls hW hl)
theorem br_ldc2 (S : CallFix p m c cc nL s args Ts own) {index : Nat} {v : Int64} {z : Int} (hw : Cond.constantLong own index v ∈ Ts) (hv : v = bL z) (hd : decode cc pc = .ok (.ldc2_w index, 3)) (k : bA p l e R s m args below meth c cells slots Q G A nL (pc + 3) lv (.long (bL z) :: st) σ) : bA p l e R s m args below meth c cells slots Q G A nL pc lv st σ := by
  subst hv
  exact fun H locs ls hW hl => lv_ldc2 S.1 S.2.1 S.2.2.2.1 (S.2.2.2.2 _ hw) hd (k H locs ls hW hl)
theorem br_iload_n (S : CallFix p m c cc nL s args Ts own) {k : Fin 4} {i : Nat} {x : Int32} (j : Nat) (hd : decode cc pc = .ok (.iload_n k, 1)) (hi : (k : Nat) = i) (hj : lv[j]? = some (i, .int x)) (kk : bA p l e R s m args below meth c cells slots Q G A nL (pc + 1) lv (.int x :: st) σ) : bA p l e R s m args below meth c cells slots Q G A nL pc lv st σ :=
  fun H locs ls hW hl => lv_iload_n S.1 S.2.1 hd hi (lv_at hl j hj) (kk H locs ls hW hl)
theorem br_iload (S : CallFix p m c cc nL s args Ts own) {i : Nat} {x : Int32} (j : Nat) (hd : decode cc pc = .ok (.iload i, 2)) (hj : lv[j]? = some (i, .int x)) (kk : bA p l e R s m args below meth c cells slots Q G A nL (pc + 2) lv (.int x :: st) σ) : bA p l e R s m args below meth c cells slots Q G A nL pc lv st σ :=
  fun H locs ls hW hl => lv_iload S.1 S.2.1 hd (lv_at hl j hj) (kk H locs ls hW hl)
theorem br_lload_n (S : CallFix p m c cc nL s args Ts own) {k : Fin 4} {i : Nat} {x : Int64} (j : Nat) (hd : decode cc pc = .ok (.lload_n k, 1)) (hi : (k : Nat) = i) (hj : lv[j]? = some (i, .long x)) (kk : bA p l e R s m args below meth c cells slots Q G A nL (pc + 1) lv (.long x :: st) σ) : bA p l e R s m args below meth c cells slots Q G A nL pc lv st σ :=
  fun H locs ls hW hl => lv_lload_n S.1 S.2.1 hd hi (lv_at hl j hj) (kk H locs ls hW hl)
theorem br_lload (S : CallFix p m c cc nL s args Ts own) {i : Nat} {x : Int64} (j : Nat) (hd : decode cc pc = .ok (.lload i, 2)) (hj : lv[j]? = some (i, .long x)) (kk : bA p l e R s m args below meth c cells slots Q G A nL (pc + 2) lv (.long x :: st) σ) : bA p l e R s m args below meth c cells slots Q G A nL pc lv st σ :=
  fun H locs ls hW hl => lv_lload S.1 S.2.1 hd (lv_at hl j hj) (kk H locs ls hW hl)
theorem br_aload_n (S : CallFix p m c cc nL s args Ts own) {k : Fin 4} {i x : Nat} (j : Nat) (hd : decode cc pc = .ok (.aload_n k, 1)) (hi : (k : Nat) = i) (hj : lv[j]? = some (i, .ref x)) (kk : bA p l e R s m args below meth c cells slots Q G A nL (pc + 1) lv (.ref x :: st) σ) : bA p l e R s m args below meth c cells slots Q G A nL pc lv st σ :=
  fun H locs ls hW hl => lv_aload_n S.1 S.2.1 hd hi (lv_at hl j hj) (kk H locs ls hW hl)
theorem br_aload (S : CallFix p m c cc nL s args Ts own) {i x : Nat} (j : Nat) (hd : decode cc pc = .ok (.aload i, 2)) (hj : lv[j]? = some (i, .ref x)) (kk : bA p l e R s m args below meth c cells slots Q G A nL (pc + 2) lv (.ref x :: st) σ) : bA p l e R s m args below meth c cells slots Q G A nL pc lv st σ :=
  fun H locs ls hW hl => lv_aload S.1 S.2.1 hd (lv_at hl j hj) (kk H locs ls hW hl)
theorem br_istore_n (S : CallFix p m c cc nL s args Ts own) {k : Fin 4} {i : Nat} {x : Int32} (lv' : List (Nat × Value)) (hd : decode cc pc = .ok (.istore_n k, 1)) (hi : (k : Nat) = i) (hn : i < nL) (hl' : (i, Value.int x) :: lv.filter (fun q => !(q.1 == i) && !(q.1 + 1 == i && q.2.category == 2)) = lv') (kk : bA p l e R s m args below meth c cells slots Q G A nL (pc + 1) lv' st σ) : bA p l e R s m args below meth c cells slots Q G A nL pc lv (.int x :: st) σ :=
  fun H locs ls hW hl => lv_istore_n S.1 S.2.1 hd hi hl hn hl' (fun ls' hl2 => kk H locs ls' hW hl2)
theorem br_istore (S : CallFix p m c cc nL s args Ts own) {i : Nat} {x : Int32} (lv' : List (Nat × Value)) (hd : decode cc pc = .ok (.istore i, 2)) (hn : i < nL) (hl' : (i, Value.int x) :: lv.filter (fun q => !(q.1 == i) && !(q.1 + 1 == i && q.2.category == 2)) = lv') (kk : bA p l e R s m args below meth c cells slots Q G A nL (pc + 2) lv' st σ) : bA p l e R s m args below meth c cells slots Q G A nL pc lv (.int x :: st) σ :=
  fun H locs ls hW hl => lv_istore S.1 S.2.1 hd hl hn hl' (fun ls' hl2 => kk H locs ls' hW hl2)
theorem br_astore_n (S : CallFix p m c cc nL s args Ts own) {k : Fin 4} {i x : Nat} (lv' : List (Nat × Value)) (hd : decode cc pc = .ok (.astore_n k, 1)) (hi : (k : Nat) = i) (hn : i < nL) (hl' : (i, Value.ref x) :: lv.filter (fun q => !(q.1 == i) && !(q.1 + 1 == i && q.2.category == 2)) = lv') (kk : bA p l e R s m args below meth c cells slots Q G A nL (pc + 1) lv' st σ) : bA p l e R s m args below meth c cells slots Q G A nL pc lv (.ref x :: st) σ :=
  fun H locs ls hW hl => lv_astore_n S.1 S.2.1 hd hi hl hn hl' (fun ls' hl2 => kk H locs ls' hW hl2)
theorem br_iinc (S : CallFix p m c cc nL s args Ts own) {i : Nat} {n x : Int} (j : Nat) (lv' : List (Nat × Value)) (hd : decode cc pc = .ok (.iinc i n, 3)) (hj : lv[j]? = some (i, .int (bI x))) (hn : i < nL) (hl' : (i, Value.int (bI (x + n))) :: lv.filter (fun q => !(q.1 == i) && !(q.1 + 1 == i && q.2.category == 2)) = lv') (kk : bA p l e R s m args below meth c cells slots Q G A nL (pc + 3) lv' st σ) : bA p l e R s m args below meth c cells slots Q G A nL pc lv st σ :=
  fun H locs ls hW hl => lv_iinc (v := bI (x + n)) S.1 S.2.1 hd hl hj (bI_add x n) hn hl' (fun ls' hl2 => kk H locs ls' hW hl2)
theorem br_dup (S : CallFix p m c cc nL s args Ts own) {va : Value} (hd : decode cc pc = .ok (.dup, 1)) (hva : va.category = 1) (k : bA p l e R s m args below meth c cells slots Q G A nL (pc + 1) lv (va :: va :: st) σ) : bA p l e R s m args below meth c cells slots Q G A nL pc lv (va :: st) σ :=
  fun H locs ls hW hl => lv_dup S.1 S.2.1 hd hva (k H locs ls hW hl)
theorem br_dup2 (S : CallFix p m c cc nL s args Ts own) {va vb : Value} (hd : decode cc pc = .ok (.dup2, 1)) (hva : va.category = 1) (hvb : vb.category = 1) (k : bA p l e R s m args below meth c cells slots Q G A nL (pc + 1) lv (va :: vb :: va :: vb :: st) σ) : bA p l e R s m args below meth c cells slots Q G A nL pc lv (va :: vb :: st) σ :=
  fun H locs ls hW hl => lv_dup2_11 S.1 S.2.1 hd hva hvb (k H locs ls hW hl)
theorem br_pop (S : CallFix p m c cc nL s args Ts own) {va : Value} (hd : decode cc pc = .ok (.pop, 1)) (hva : va.category = 1) (k : bA p l e R s m args below meth c cells slots Q G A nL (pc + 1) lv st σ) : bA p l e R s m args below meth c cells slots Q G A nL pc lv (va :: st) σ :=
  fun H locs ls hW hl => lv_pop S.1 S.2.1 hd hva (k H locs ls hW hl)
-- arithmetic
theorem br_iadd (S : CallFix p m c cc nL s args Ts own) {x y : Int} (hd : decode cc pc = .ok (.iadd, 1)) (k : bA p l e R s m args below meth c cells slots Q G A nL (pc + 1) lv (.int (bI (x + y)) :: st) σ) : bA p l e R s m args below meth c cells slots Q G A nL pc lv (.int (bI y) :: .int (bI x) :: st) σ :=
  fun H locs ls hW hl => lv_iadd S.1 S.2.1 hd (by rw [bI_add]; exact k H locs ls hW hl)
theorem br_isub (S : CallFix p m c cc nL s args Ts own) {x y : Int} (hd : decode cc pc = .ok (.isub, 1)) (k : bA p l e R s m args below meth c cells slots Q G A nL (pc + 1) lv (.int (bI (x - y)) :: st) σ) : bA p l e R s m args below meth c cells slots Q G A nL pc lv (.int (bI y) :: .int (bI x) :: st) σ :=
  fun H locs ls hW hl => lv_isub S.1 S.2.1 hd (by rw [bI_sub]; exact k H locs ls hW hl)
theorem br_imul (S : CallFix p m c cc nL s args Ts own) {x y : Int} (hd : decode cc pc = .ok (.imul, 1)) (k : bA p l e R s m args below meth c cells slots Q G A nL (pc + 1) lv (.int (bI (x * y)) :: st) σ) : bA p l e R s m args below meth c cells slots Q G A nL pc lv (.int (bI y) :: .int (bI x) :: st) σ :=
  fun H locs ls hW hl => lv_imul S.1 S.2.1 hd (by rw [bI_mul]; exact k H locs ls hW hl)
theorem br_and255 (S : CallFix p m c cc nL s args Ts own) {x : Int} (hd : decode cc pc = .ok (.iand, 1)) (k : bA p l e R s m args below meth c cells slots Q G A nL (pc + 1) lv (.int (bI (x % 256)) :: st) σ) : bA p l e R s m args below meth c cells slots Q G A nL pc lv (.int (bI 255) :: .int (bI x) :: st) σ :=
  fun H locs ls hW hl => lv_iand S.1 S.2.1 hd (by rw [bI_255]; exact k H locs ls hW hl)
theorem br_and15 (S : CallFix p m c cc nL s args Ts own) {x : Int} (hd : decode cc pc = .ok (.iand, 1)) (k : bA p l e R s m args below meth c cells slots Q G A nL (pc + 1) lv (.int (bI (x % 16)) :: st) σ) : bA p l e R s m args below meth c cells slots Q G A nL pc lv (.int (bI 15) :: .int (bI x) :: st) σ :=
  fun H locs ls hW hl => lv_iand S.1 S.2.1 hd (by rw [bI_15]; exact k H locs ls hW hl)
theorem br_and1 (S : CallFix p m c cc nL s args Ts own) {x : Int} (hd : decode cc pc = .ok (.iand, 1)) (k : bA p l e R s m args below meth c cells slots Q G A nL (pc + 1) lv (.int (bI (x % 2)) :: st) σ) : bA p l e R s m args below meth c cells slots Q G A nL pc lv (.int (bI 1) :: .int (bI x) :: st) σ :=
  fun H locs ls hW hl => lv_iand S.1 S.2.1 hd (by rw [bI_1]; exact k H locs ls hW hl)
theorem br_ior (S : CallFix p m c cc nL s args Ts own) {x y : Int} (hd : decode cc pc = .ok (.ior, 1)) (k : bA p l e R s m args below meth c cells slots Q G A nL (pc + 1) lv (.int (bI (bor x y)) :: st) σ) : bA p l e R s m args below meth c cells slots Q G A nL pc lv (.int (bI y) :: .int (bI x) :: st) σ :=
  fun H locs ls hW hl => lv_ior S.1 S.2.1 hd (by rw [show bI x ||| bI y = bI (bor x y) from (bI_of _).symm]; exact k H locs ls hW hl)
theorem br_ishl (S : CallFix p m c cc nL s args Ts own) {x y : Int} (hd : decode cc pc = .ok (.ishl, 1)) (k : bA p l e R s m args below meth c cells slots Q G A nL (pc + 1) lv (.int (bI (bshl x y)) :: st) σ) : bA p l e R s m args below meth c cells slots Q G A nL pc lv (.int (bI y) :: .int (bI x) :: st) σ :=
  fun H locs ls hW hl => lv_ishl S.1 S.2.1 hd (by rw [show bI x <<< (bI y &&& 31) = bI (bshl x y) from (bI_of _).symm]; exact k H locs ls hW hl)
theorem br_iushr (S : CallFix p m c cc nL s args Ts own) {x y : Int} (hd : decode cc pc = .ok (.iushr, 1)) (k : bA p l e R s m args below meth c cells slots Q G A nL (pc + 1) lv (.int (bI (bushr x y)) :: st) σ) : bA p l e R s m args below meth c cells slots Q G A nL pc lv (.int (bI y) :: .int (bI x) :: st) σ :=
  fun H locs ls hW hl => lv_iushr (v := bI (bushr x y)) S.1 S.2.1 hd (bI_of _).symm (k H locs ls hW hl)
theorem br_shr8 (S : CallFix p m c cc nL s args Ts own) {x : Int} (hx : bR x) (hd : decode cc pc = .ok (.ishr, 1)) (k : bA p l e R s m args below meth c cells slots Q G A nL (pc + 1) lv (.int (bI (x / 256)) :: st) σ) : bA p l e R s m args below meth c cells slots Q G A nL pc lv (.int (bI 8) :: .int (bI x) :: st) σ :=
  fun H locs ls hW hl => lv_ishr S.1 S.2.1 hd (by rw [bI_shr8 hx]; exact k H locs ls hW hl)
theorem br_idiv (S : CallFix p m c cc nL s args Ts own) {x y : Int} (h0 : 0 ≤ x) (h1 : x < 2147483648) (d0 : 0 < y) (d1 : y < 2147483648) (hd : decode cc pc = .ok (.idiv, 1)) (k : bA p l e R s m args below meth c cells slots Q G A nL (pc + 1) lv (.int (bI (x / y)) :: st) σ) : bA p l e R s m args below meth c cells slots Q G A nL pc lv (.int (bI y) :: .int (bI x) :: st) σ :=
  fun H locs ls hW hl => lv_idiv S.1 S.2.1 hd (fun h => by have := (bI_inj (b := 0) ⟨by omega, by omega⟩ bR_0).mp h; omega) (by rw [bI_div h0 h1 d0 d1]; exact k H locs ls hW hl)
theorem br_irem (S : CallFix p m c cc nL s args Ts own) {x y : Int} (h0 : 0 ≤ x) (h1 : x < 2147483648) (d0 : 0 < y) (d1 : y < 2147483648) (hd : decode cc pc = .ok (.irem, 1)) (k : bA p l e R s m args below meth c cells slots Q G A nL (pc + 1) lv (.int (bI (x % y)) :: st) σ) : bA p l e R s m args below meth c cells slots Q G A nL pc lv (.int (bI y) :: .int (bI x) :: st) σ :=
  fun H locs ls hW hl => lv_irem S.1 S.2.1 hd (fun h => by have := (bI_inj (b := 0) ⟨by omega, by omega⟩ bR_0).mp h; omega) (by rw [bI_rem h0 h1 d0 d1]; exact k H locs ls hW hl)
theorem br_i2l (S : CallFix p m c cc nL s args Ts own) {x : Int} (hx : bR x) (hd : decode cc pc = .ok (.i2l, 1)) (k : bA p l e R s m args below meth c cells slots Q G A nL (pc + 1) lv (.long (bL x) :: st) σ) : bA p l e R s m args below meth c cells slots Q G A nL pc lv (.int (bI x) :: st) σ :=
  fun H locs ls hW hl => lv_i2l (v := bL x) S.1 S.2.1 hd (bI_long x hx) (k H locs ls hW hl)
-- jumps
theorem br_goto (S : CallFix p m c cc nL s args Ts own) {off : Int} (tgt : Nat) (hd : decode cc pc = .ok (.goto off, 3)) (ht : (pc : Int) + off = (tgt : Int)) (k : bA p l e R s m args below meth c cells slots Q G A nL tgt lv st σ) : bA p l e R s m args below meth c cells slots Q G A nL pc lv st σ :=
  fun H locs ls hW hl => lv_goto S.1 S.2.1 hd ht (k H locs ls hW hl)
theorem br_if_eq (S : CallFix p m c cc nL s args Ts own) {x off : Int} (tgt : Nat) (hx : bR x) (hd : decode cc pc = .ok (.ifCond .eq off, 3)) (ht : (pc : Int) + off = (tgt : Int)) (kt : x = 0 → bA p l e R s m args below meth c cells slots Q G A nL tgt lv st σ) (kf : ¬ x = 0 → bA p l e R s m args below meth c cells slots Q G A nL (pc + 3) lv st σ) : bA p l e R s m args below meth c cells slots Q G A nL pc lv (.int (bI x) :: st) σ :=
  fun H locs ls hW hl => lv_if_eq S.1 S.2.1 hd ht (fun h => kt ((bI_inj hx bR_0).mp h) H locs ls hW hl) (fun h => kf (fun z => h ((bI_inj hx bR_0).mpr z)) H locs ls hW hl)
theorem br_if_ne (S : CallFix p m c cc nL s args Ts own) {x off : Int} (tgt : Nat) (hx : bR x) (hd : decode cc pc = .ok (.ifCond .ne off, 3)) (ht : (pc : Int) + off = (tgt : Int)) (kt : ¬ x = 0 → bA p l e R s m args below meth c cells slots Q G A nL tgt lv st σ) (kf : x = 0 → bA p l e R s m args below meth c cells slots Q G A nL (pc + 3) lv st σ) : bA p l e R s m args below meth c cells slots Q G A nL pc lv (.int (bI x) :: st) σ :=
  fun H locs ls hW hl => lv_if_ne S.1 S.2.1 hd ht (fun h => kt (fun z => h ((bI_inj hx bR_0).mpr z)) H locs ls hW hl) (fun h => kf ((bI_inj hx bR_0).mp h) H locs ls hW hl)
theorem br_if_lt (S : CallFix p m c cc nL s args Ts own) {x off : Int} (tgt : Nat) (hx : bR x) (hd : decode cc pc = .ok (.ifCond .lt off, 3)) (ht : (pc : Int) + off = (tgt : Int)) (kt : x < 0 → bA p l e R s m args below meth c cells slots Q G A nL tgt lv st σ) (kf : ¬ x < 0 → bA p l e R s m args below meth c cells slots Q G A nL (pc + 3) lv st σ) : bA p l e R s m args below meth c cells slots Q G A nL pc lv (.int (bI x) :: st) σ :=
  fun H locs ls hW hl => lv_if_lt S.1 S.2.1 hd ht (fun h => kt ((bI_lt hx bR_0).mp h) H locs ls hW hl) (fun h => kf (fun z => h ((bI_lt hx bR_0).mpr z)) H locs ls hW hl)
theorem br_if_ge (S : CallFix p m c cc nL s args Ts own) {x off : Int} (tgt : Nat) (hx : bR x) (hd : decode cc pc = .ok (.ifCond .ge off, 3)) (ht : (pc : Int) + off = (tgt : Int)) (kt : 0 ≤ x → bA p l e R s m args below meth c cells slots Q G A nL tgt lv st σ) (kf : ¬ 0 ≤ x → bA p l e R s m args below meth c cells slots Q G A nL (pc + 3) lv st σ) : bA p l e R s m args below meth c cells slots Q G A nL pc lv (.int (bI x) :: st) σ :=
  fun H locs ls hW hl => lv_if_ge S.1 S.2.1 hd ht (fun h => kt ((bI_le bR_0 hx).mp h) H locs ls hW hl) (fun h => kf (fun z => h ((bI_le bR_0 hx).mpr z)) H locs ls hW hl)
theorem br_if_gt (S : CallFix p m c cc nL s args Ts own) {x off : Int} (tgt : Nat) (hx : bR x) (hd : decode cc pc = .ok (.ifCond .gt off, 3)) (ht : (pc : Int) + off = (tgt : Int)) (kt : 0 < x → bA p l e R s m args below meth c cells slots Q G A nL tgt lv st σ) (kf : ¬ 0 < x → bA p l e R s m args below meth c cells slots Q G A nL (pc + 3) lv st σ) : bA p l e R s m args below meth c cells slots Q G A nL pc lv (.int (bI x) :: st) σ :=
  fun H locs ls hW hl => lv_if_gt S.1 S.2.1 hd ht (fun h => kt ((bI_lt bR_0 hx).mp h) H locs ls hW hl) (fun h => kf (fun z => h ((bI_lt bR_0 hx).mpr z)) H locs ls hW hl)
theorem br_if_le (S : CallFix p m c cc nL s args Ts own) {x off : Int} (tgt : Nat) (hx : bR x) (hd : decode cc pc = .ok (.ifCond .le off, 3)) (ht : (pc : Int) + off = (tgt : Int)) (kt : x ≤ 0 → bA p l e R s m args below meth c cells slots Q G A nL tgt lv st σ) (kf : ¬ x ≤ 0 → bA p l e R s m args below meth c cells slots Q G A nL (pc + 3) lv st σ) : bA p l e R s m args below meth c cells slots Q G A nL pc lv (.int (bI x) :: st) σ :=
  fun H locs ls hW hl => lv_if_le S.1 S.2.1 hd ht (fun h => kt ((bI_le hx bR_0).mp h) H locs ls hW hl) (fun h => kf (fun z => h ((bI_le hx bR_0).mpr z)) H locs ls hW hl)
theorem br_ic_eq (S : CallFix p m c cc nL s args Ts own) {x y off : Int} (tgt : Nat) (hx : bR x) (hy : bR y) (hd : decode cc pc = .ok (.if_icmp .eq off, 3)) (ht : (pc : Int) + off = (tgt : Int)) (kt : x = y → bA p l e R s m args below meth c cells slots Q G A nL tgt lv st σ) (kf : ¬ x = y → bA p l e R s m args below meth c cells slots Q G A nL (pc + 3) lv st σ) : bA p l e R s m args below meth c cells slots Q G A nL pc lv (.int (bI y) :: .int (bI x) :: st) σ :=
  fun H locs ls hW hl => lv_icmp_eq S.1 S.2.1 hd ht (fun h => kt ((bI_inj hx hy).mp h) H locs ls hW hl) (fun h => kf (fun z => h ((bI_inj hx hy).mpr z)) H locs ls hW hl)
theorem br_ic_ne (S : CallFix p m c cc nL s args Ts own) {x y off : Int} (tgt : Nat) (hx : bR x) (hy : bR y) (hd : decode cc pc = .ok (.if_icmp .ne off, 3)) (ht : (pc : Int) + off = (tgt : Int)) (kt : ¬ x = y → bA p l e R s m args below meth c cells slots Q G A nL tgt lv st σ) (kf : x = y → bA p l e R s m args below meth c cells slots Q G A nL (pc + 3) lv st σ) : bA p l e R s m args below meth c cells slots Q G A nL pc lv (.int (bI y) :: .int (bI x) :: st) σ :=
  fun H locs ls hW hl => lv_icmp_ne S.1 S.2.1 hd ht (fun h => kt (fun z => h ((bI_inj hx hy).mpr z)) H locs ls hW hl) (fun h => kf ((bI_inj hx hy).mp h) H locs ls hW hl)
theorem br_ic_lt (S : CallFix p m c cc nL s args Ts own) {x y off : Int} (tgt : Nat) (hx : bR x) (hy : bR y) (hd : decode cc pc = .ok (.if_icmp .lt off, 3)) (ht : (pc : Int) + off = (tgt : Int)) (kt : x < y → bA p l e R s m args below meth c cells slots Q G A nL tgt lv st σ) (kf : ¬ x < y → bA p l e R s m args below meth c cells slots Q G A nL (pc + 3) lv st σ) : bA p l e R s m args below meth c cells slots Q G A nL pc lv (.int (bI y) :: .int (bI x) :: st) σ :=
  fun H locs ls hW hl => lv_icmp_lt S.1 S.2.1 hd ht (fun h => kt ((bI_lt hx hy).mp h) H locs ls hW hl) (fun h => kf (fun z => h ((bI_lt hx hy).mpr z)) H locs ls hW hl)
theorem br_ic_ge (S : CallFix p m c cc nL s args Ts own) {x y off : Int} (tgt : Nat) (hx : bR x) (hy : bR y) (hd : decode cc pc = .ok (.if_icmp .ge off, 3)) (ht : (pc : Int) + off = (tgt : Int)) (kt : y ≤ x → bA p l e R s m args below meth c cells slots Q G A nL tgt lv st σ) (kf : ¬ y ≤ x → bA p l e R s m args below meth c cells slots Q G A nL (pc + 3) lv st σ) : bA p l e R s m args below meth c cells slots Q G A nL pc lv (.int (bI y) :: .int (bI x) :: st) σ :=
  fun H locs ls hW hl => lv_icmp_ge S.1 S.2.1 hd ht (fun h => kt ((bI_le hy hx).mp h) H locs ls hW hl) (fun h => kf (fun z => h ((bI_le hy hx).mpr z)) H locs ls hW hl)
theorem br_ic_gt (S : CallFix p m c cc nL s args Ts own) {x y off : Int} (tgt : Nat) (hx : bR x) (hy : bR y) (hd : decode cc pc = .ok (.if_icmp .gt off, 3)) (ht : (pc : Int) + off = (tgt : Int)) (kt : y < x → bA p l e R s m args below meth c cells slots Q G A nL tgt lv st σ) (kf : ¬ y < x → bA p l e R s m args below meth c cells slots Q G A nL (pc + 3) lv st σ) : bA p l e R s m args below meth c cells slots Q G A nL pc lv (.int (bI y) :: .int (bI x) :: st) σ :=
  fun H locs ls hW hl => lv_icmp_gt S.1 S.2.1 hd ht (fun h => kt ((bI_lt hy hx).mp h) H locs ls hW hl) (fun h => kf (fun z => h ((bI_lt hy hx).mpr z)) H locs ls hW hl)
theorem br_ic_le (S : CallFix p m c cc nL s args Ts own) {x y off : Int} (tgt : Nat) (hx : bR x) (hy : bR y) (hd : decode cc pc = .ok (.if_icmp .le off, 3)) (ht : (pc : Int) + off = (tgt : Int)) (kt : x ≤ y → bA p l e R s m args below meth c cells slots Q G A nL tgt lv st σ) (kf : ¬ x ≤ y → bA p l e R s m args below meth c cells slots Q G A nL (pc + 3) lv st σ) : bA p l e R s m args below meth c cells slots Q G A nL pc lv (.int (bI y) :: .int (bI x) :: st) σ :=
  fun H locs ls hW hl => lv_icmp_le S.1 S.2.1 hd ht (fun h => kt ((bI_le hx hy).mp h) H locs ls hW hl) (fun h => kf (fun z => h ((bI_le hx hy).mpr z)) H locs ls hW hl)
theorem br_tblO (S : CallFix p m c cc nL s args Ts own) {x dflt lo hi : Int} {offs : Array Int} {len : Nat} (tgt : Nat) (hx : bR x) (h : x < lo ∨ hi < x) (hd : decode cc pc = .ok (.tableswitch dflt lo hi offs, len)) (ht : (pc : Int) + dflt = (tgt : Int)) (k : bA p l e R s m args below meth c cells slots Q G A nL tgt lv st σ) : bA p l e R s m args below meth c cells slots Q G A nL pc lv (.int (bI x) :: st) σ :=
  fun H locs ls hW hl => lv_tableOut S.1 S.2.1 hd (by rw [bI_toInt hx]; exact h) ht (k H locs ls hW hl)
theorem br_tblI (S : CallFix p m c cc nL s args Ts own) {x dflt lo hi off : Int} {offs : Array Int} {len : Nat} (tgt : Nat) (v : Int) (hx : bR x) (hv : x = v) (h1 : lo ≤ v ∧ v ≤ hi) (ho : offs[(v - lo).toNat]? = some off) (hd : decode cc pc = .ok (.tableswitch dflt lo hi offs, len)) (ht : (pc : Int) + off = (tgt : Int)) (k : bA p l e R s m args below meth c cells slots Q G A nL tgt lv st σ) : bA p l e R s m args below meth c cells slots Q G A nL pc lv (.int (bI x) :: st) σ := by
  subst hv
  exact fun H locs ls hW hl => lv_tableIn S.1 S.2.1 hd (by rw [bI_toInt hx]; omega) (by rw [bI_toInt hx]; omega) (by rw [bI_toInt hx]; exact ho) ht (k H locs ls hW hl)
end BKR
end
section
/-! rows over the world: fields, arrays, calls, returns -/
theorem bk_fun {σ : bS} {k : Nat} {i v : Int} : (bup σ k i v) k = fun j => if j = i then v else σ k j := by
  funext j; simp [bup]
theorem bk_oth {σ : bS} {k : Nat} {i v : Int} (k' : Nat) (h : k' ≠ k) : (bup σ k i v) k' = σ k' := by
  funext j; simp [bup, h]
theorem bk_updI {r : Int → Int} {i v : Int} (h0 : 0 ≤ i) : upd (fun j : Nat => bI (r j)) i.toNat (bI v) = fun j : Nat => bI (if (j : Int) = i then v else r j) := by
  funext j
  by_cases h : j = i.toNat
  · subst h
    rw [pk_us, if_pos (Int.toNat_of_nonneg h0)]
  · rw [pk_un h, if_neg (by omega)]
section BKS
variable {p : Program} {l : Launch} {e : Env} {R : Room} {s : State} {m : MethodId} {args : Array Value} {below : List Frame} {meth : Method} {c : Code} {cells slots : Nat} {Q : State → Prop}
variable {G : bG} {A : Nat → Prop} {nL pc : Nat} {lv : List (Nat × Value)} {st : List Value} {σ : bS} {cc : ByteArray} {Ts : List Cond} {own : String}
theorem br_get (S : CallFix p m c cc nL s args Ts own) {k f ci index N : Nat} {C : String} {T : u_T} {fs : List Value} {v : Value} (hin : ∀ w ∈ u_ws C T N, w ∈ Ts) (hlink : Cond.fieldLink own index (T f).1 (T f).2.1 (T f).2.2.1 ∈ Ts) (hk : k < 71) (he : bk_e G k (σ k) = .inr (ci, fs)) (hc : vwCl[ci]? = some (C, T, N)) (hf : f < N) (hv : fs[f]? = some v) (hd : decode cc pc = .ok (.getfield index, 3)) (kk : bA p l e R s m args below meth c cells slots Q G A nL (pc + 3) lv (v :: st) σ) : bA p l e R s m args below meth c cells slots Q G A nL pc lv (.ref (G.2.2 k) :: st) σ :=
  fun H locs ls hW hl => va_get S.1 S.2.1 S.2.2.2.2 hin S.2.2.2.1 hW.1 hW.2.1 k (by rw [bk_w_get G σ hk, he]) hc f hf (S.2.2.2.2 _ hlink) (fun _ h => h) hv hd (kk H locs ls hW hl)
theorem br_put (S : CallFix p m c cc nL s args Ts own) {k f ci index N : Nat} {C : String} {T : u_T} {fs : List Value} {z : Int} {ty : FieldType} (ty0 : Nat → FieldType) (hty : ∀ k, k < N → parseFieldDescriptor (T k).2.2.1 = some (ty0 k)) (hnm : ∀ a, a < N → ∀ b, b < N → a ≠ b → (T a).2.1 ≠ (T b).2.1) (hin : ∀ w ∈ u_ws C T N, w ∈ Ts) (hlink : Cond.fieldLink own index (T f).1 (T f).2.1 (T f).2.2.1 ∈ Ts) (hk : k < 71) (he : bk_e G k (σ k) = .inr (ci, fs)) (hs : bk_e G k (fun j => if j = (f : Int) then z else σ k j) = .inr (ci, fs.set f (.int (bI z)))) (hc : vwCl[ci]? = some (C, T, N)) (hf : f < N) (hl : f < fs.length) (hfin : (T f).2.2.2 = false) (hp : parseFieldDescriptor (T f).2.2.1 = some ty) (hn : narrow ty (.int (bI z)) = .int (bI z)) (hfit : fits ty (.int (bI z)) = true) (hd : decode cc pc = .ok (.putfield index, 3)) (kk : bA p l e R s m args below meth c cells slots Q G A nL (pc + 3) lv st (bup σ k f z)) : bA p l e R s m args below meth c cells slots Q G A nL pc lv (.int (bI z) :: .ref (G.2.2 k) :: st) σ := by
  intro H locs ls hW hl2
  refine va_put S.1 S.2.1 S.2.2.2.2 hin ty0 hty hnm S.2.2.2.1 hW.1 hW.2.1 hW.2.2.1 hW.2.2.2.1 k (by rw [bk_w_get G σ hk, he]) hc f hf (S.2.2.2.2 _ hlink) (fun _ h => h) hfin hp hn hfit hl hd (fun H1 locs1 hP hD hS => ?_)
  have e : (bk_w G σ).set k (G.2.2 k, .inr (ci, fs.set f (.int (bI z)))) = bk_w G (bup σ k f z) := by
    rw [← hs, ← bk_fun]
    exact bk_w_set G σ _ hk (fun k' h => bk_oth k' h)
  rw [e] at hP hD
  exact kk H1 locs1 ls ⟨hW.1, hP, hD, hS, hW.2.2.2.2.1, hW.2.2.2.2.2⟩ hl2
theorem br_iald (S : CallFix p m c cc nL s args Ts own) {k n : Nat} {i : Int} (hA : bk_A G k n) (h0 : 0 ≤ i) (h1 : i < (n : Int)) (hd : decode cc pc = .ok (.iaload, 1)) (kk : bA p l e R s m args below meth c cells slots Q G A nL (pc + 1) lv (.int (bI (σ k i)) :: st) σ) : bA p l e R s m args below meth c cells slots Q G A nL pc lv (.int (bI i) :: .ref (G.2.2 k) :: st) σ :=
  fun H locs ls hW hl => va_iald S.1 S.2.1 hW.1 hW.2.1 k 0 (by rw [bk_w_get G σ hA.1, hA.2.2]) rfl (bI_in hA.2.1 h0 h1) hd (by rw [bI_cl hA.2.1 h0 h1, Int.toNat_of_nonneg h0]; exact kk H locs ls hW hl)
theorem br_iast (S : CallFix p m c cc nL s args Ts own) {k n : Nat} {i z : Int} (hA : bk_A G k n) (h0 : 0 ≤ i) (h1 : i < (n : Int)) (hd : decode cc pc = .ok (.iastore, 1)) (kk : bA p l e R s m args below meth c cells slots Q G A nL (pc + 1) lv st (bup σ k i z)) : bA p l e R s m args below meth c cells slots Q G A nL pc lv (.int (bI z) :: .int (bI i) :: .ref (G.2.2 k) :: st) σ := by
  intro H locs ls hW hl
  refine va_iast S.1 S.2.1 hW.1 hW.2.1 hW.2.2.1 hW.2.2.2.1 k 0 (by rw [bk_w_get G σ hA.1, hA.2.2]) rfl (bI_in hA.2.1 h0 h1) hd (fun H1 locs1 hP hD hS => ?_)
  have e : (bk_w G σ).set k (G.2.2 k, .inl (G.2.1 0, n, .inl (upd (fun j : Nat => bI (σ k j)) (bI i).toNatClampNeg (bI z)))) = bk_w G (bup σ k i z) := by
    rw [bI_cl hA.2.1 h0 h1, bk_updI h0, ← hA.2.2 (fun j => if j = i then z else σ k j), ← bk_fun]
    exact bk_w_set G σ _ hA.1 (fun k' h => bk_oth k' h)
  rw [e] at hP hD
  exact kk H1 locs1 ls ⟨hW.1, hP, hD, hS, hW.2.2.2.2.1, hW.2.2.2.2.2⟩ hl
theorem br_zald (S : CallFix p m c cc nL s args Ts own) {i : Int} (h0 : 0 ≤ i) (h1 : i < 30) (hd : decode cc pc = .ok (.baload, 1)) (kk : bA p l e R s m args below meth c cells slots Q G A nL (pc + 1) lv (.int (bI (σ 12 i)) :: st) σ) : bA p l e R s m args below meth c cells slots Q G A nL pc lv (.int (bI i) :: .ref (G.2.2 12) :: st) σ :=
  fun H locs ls hW hl => va_zald S.1 S.2.1 hW.1 hW.2.1 12 1 (by rw [bk_w_get G σ (by decide)]; rfl) rfl (bI_in (n := 30) (by decide) h0 h1) hd (by rw [bI_cl (n := 30) (by decide) h0 h1, Int.toNat_of_nonneg h0]; exact kk H locs ls hW hl)
theorem bk_nar {z : Int} (h : z = 0 ∨ z = 1) : narrow .boolean (.int (bI z)) = .int (bI z) := by rcases h with rfl | rfl <;> rfl
theorem bk_nar2 {z : Int} (h : z = 0 ∨ z = 1) : vp_nar .boolean (bI z) = bI z := by rcases h with rfl | rfl <;> rfl
theorem bk_fit {z : Int} (h : z = 0 ∨ z = 1) : fits .boolean (.int (bI z)) = true := by rcases h with rfl | rfl <;> rfl
theorem br_zast (S : CallFix p m c cc nL s args Ts own) {i z : Int} (h0 : 0 ≤ i) (h1 : i < 30) (hz : z = 0 ∨ z = 1) (hd : decode cc pc = .ok (.bastore, 1)) (kk : bA p l e R s m args below meth c cells slots Q G A nL (pc + 1) lv st (bup σ 12 i z)) : bA p l e R s m args below meth c cells slots Q G A nL pc lv (.int (bI z) :: .int (bI i) :: .ref (G.2.2 12) :: st) σ := by
  intro H locs ls hW hl
  refine va_zast S.1 S.2.1 hW.1 hW.2.1 hW.2.2.1 hW.2.2.2.1 12 1 (by rw [bk_w_get G σ (by decide)]; rfl) rfl (bI_in (n := 30) (by decide) h0 h1) hd (fun H1 locs1 hP hD hS => ?_)
  have e : (bk_w G σ).set 12 (G.2.2 12, .inl (G.2.1 1, 30, .inl (upd (fun j : Nat => bI (σ 12 j)) (bI i).toNatClampNeg (vp_nar .boolean (bI z))))) = bk_w G (bup σ 12 i z) := by
    rw [bk_nar2 hz, bI_cl (n := 30) (by decide) h0 h1, bk_updI h0]
    refine Eq.trans ?_ (bk_w_set G σ (bup σ 12 i z) (k := 12) (by decide) (fun k' h => bk_oth k' h))
    rw [bk_fun]
    rfl
  rw [e] at hP hD
  exact kk H1 locs1 ls ⟨hW.1, hP, hD, hS, hW.2.2.2.2.1, hW.2.2.2.2.2⟩ hl
theorem br_aald (S : CallFix p m c cc nL s args Ts own) {i : Int} (h0 : 0 ≤ i) (h1 : i < 9) (hd : decode cc pc = .ok (.aaload, 1)) (kk : bA p l e R s m args below meth c cells slots Q G A nL (pc + 1) lv (.ref (G.2.2 (33 + i.toNat)) :: st) σ) : bA p l e R s m args below meth c cells slots Q G A nL pc lv (.int (bI i) :: .ref (G.2.2 11) :: st) σ := by
  intro H locs ls hW hl
  have ha : (bk_w G σ)[11]? = some (G.2.2 11, .inl (G.2.1 2, 9, .inr (.inr (.inr (.inr (fun i => if i < 9 then some (G.2.2 (33 + i)) else none)))))) := by rw [bk_w_get G σ (by decide)]; rfl
  have hin := bI_in (i := i) (n := 9) (by decide) h0 h1
  have hcl := bI_cl (i := i) (n := 9) (by decide) h0 h1
  refine W.aald (v := .ref (G.2.2 (33 + i.toNat))) (ty := .array .int) S.1 S.2.1 (hW.2.1 11 _ ha) ((hW.1.2 2 _ rfl).1 9 (fun j => va_rf (if j < 9 then some (G.2.2 (33 + j)) else none))) rfl (fun q => by cases q) (by show ¬ (bI i < 0 ∨ (arrV _ _ _).slots.size ≤ _); rw [arrV_size]; exact hin) ?_ rfl rfl hd (kk H locs ls hW hl)
  have hlt : i.toNat < 9 := by omega
  show (arrV _ 9 _).slots[_]? = _
  rw [hcl, arrV_read _ _ hlt]
  simp [va_rf, hlt]
theorem br_alen (S : CallFix p m c cc nL s args Ts own) {k n : Nat} (hA : bk_A G k n) (hd : decode cc pc = .ok (.arraylength, 1)) (kk : bA p l e R s m args below meth c cells slots Q G A nL (pc + 1) lv (.int (bI n) :: st) σ) : bA p l e R s m args below meth c cells slots Q G A nL pc lv (.ref (G.2.2 k) :: st) σ :=
  fun H locs ls hW hl => va_alen S.1 S.2.1 hW.1 hW.2.1 k 0 (by rw [bk_w_get G σ hA.1, hA.2.2]) rfl (v := bI n) rfl hd (kk H locs ls hW hl)
theorem br_alenR (S : CallFix p m c cc nL s args Ts own) (hd : decode cc pc = .ok (.arraylength, 1)) (kk : bA p l e R s m args below meth c cells slots Q G A nL (pc + 1) lv (.int (bI 9) :: st) σ) : bA p l e R s m args below meth c cells slots Q G A nL pc lv (.ref (G.2.2 11) :: st) σ :=
  fun H locs ls hW hl => va_alen S.1 S.2.1 hW.1 hW.2.1 11 2 (by rw [bk_w_get G σ (by decide)]; rfl) rfl (v := bI 9) rfl hd (kk H locs ls hW hl)
theorem br_gets0 (S : CallFix p m c cc nL s args Ts own) {index : Nat} (hlink : Cond.fieldLink own index "BankLinker" "BYTES_OF_OP" "[I" ∈ Ts) (hd : decode cc pc = .ok (.getstatic index, 3)) (kk : bA p l e R s m args below meth c cells slots Q G A nL (pc + 3) lv (.ref (G.2.2 100) :: st) σ) : bA p l e R s m args below meth c cells slots Q G A nL pc lv st σ :=
  fun H locs ls hW hl => va_gets S.1 S.2.1 hW.2.2.2.2.2.1.1 hW.2.2.2.1 S.2.2.2.1 (S.2.2.2.2 _ hlink) (fun _ h => h) hd (kk H locs ls hW hl)
theorem br_gets1 (S : CallFix p m c cc nL s args Ts own) {index : Nat} (hlink : Cond.fieldLink own index "BankLinker" "LEAST_LIMIT" "[I" ∈ Ts) (hd : decode cc pc = .ok (.getstatic index, 3)) (kk : bA p l e R s m args below meth c cells slots Q G A nL (pc + 3) lv (.ref (G.2.2 101) :: st) σ) : bA p l e R s m args below meth c cells slots Q G A nL pc lv st σ :=
  fun H locs ls hW hl => va_gets S.1 S.2.1 hW.2.2.2.2.2.2.1.1 hW.2.2.2.1 S.2.2.2.1 (S.2.2.2.2 _ hlink) (fun _ h => h) hd (kk H locs ls hW hl)
theorem br_gets2 (S : CallFix p m c cc nL s args Ts own) {index : Nat} (hlink : Cond.fieldLink own index "BankLinker" "GREATEST_LIMIT" "[I" ∈ Ts) (hd : decode cc pc = .ok (.getstatic index, 3)) (kk : bA p l e R s m args below meth c cells slots Q G A nL (pc + 3) lv (.ref (G.2.2 102) :: st) σ) : bA p l e R s m args below meth c cells slots Q G A nL pc lv st σ :=
  fun H locs ls hW hl => va_gets S.1 S.2.1 hW.2.2.2.2.2.2.2.1 hW.2.2.2.1 S.2.2.2.1 (S.2.2.2.2 _ hlink) (fun _ h => h) hd (kk H locs ls hW hl)
theorem br_ti0 (S : CallFix p m c cc nL s args Ts own) {i : Int} (h0 : 0 ≤ i) (h1 : i < 9) (hd : decode cc pc = .ok (.iaload, 1)) (kk : bA p l e R s m args below meth c cells slots Q G A nL (pc + 1) lv (.int (bI (bk_t0 i)) :: st) σ) : bA p l e R s m args below meth c cells slots Q G A nL pc lv (.int (bI i) :: .ref (G.2.2 100) :: st) σ :=
  fun H locs ls hW hl => va_ti S.1 S.2.1 hW.2.2.2.2.2.1.2 hW.2.2.2.1 (bI_in (n := 9) (by decide) h0 h1) (v := .int (bI (bk_t0 i))) (by rw [bI_cl (n := 9) (by decide) h0 h1, Int.toNat_of_nonneg h0]) hd (kk H locs ls hW hl)
theorem br_ti1 (S : CallFix p m c cc nL s args Ts own) {i : Int} (h0 : 0 ≤ i) (h1 : i < 5) (hd : decode cc pc = .ok (.iaload, 1)) (kk : bA p l e R s m args below meth c cells slots Q G A nL (pc + 1) lv (.int (bI (bk_t1 i)) :: st) σ) : bA p l e R s m args below meth c cells slots Q G A nL pc lv (.int (bI i) :: .ref (G.2.2 101) :: st) σ :=
  fun H locs ls hW hl => va_ti S.1 S.2.1 hW.2.2.2.2.2.2.1.2 hW.2.2.2.1 (bI_in (n := 5) (by decide) h0 h1) (v := .int (bI (bk_t1 i))) (by rw [bI_cl (n := 5) (by decide) h0 h1, Int.toNat_of_nonneg h0]) hd (kk H locs ls hW hl)
theorem br_ti2 (S : CallFix p m c cc nL s args Ts own) {i : Int} (h0 : 0 ≤ i) (h1 : i < 5) (hd : decode cc pc = .ok (.iaload, 1)) (kk : bA p l e R s m args below meth c cells slots Q G A nL (pc + 1) lv (.int (bI (bk_t2 i)) :: st) σ) : bA p l e R s m args below meth c cells slots Q G A nL pc lv (.int (bI i) :: .ref (G.2.2 102) :: st) σ :=
  fun H locs ls hW hl => va_ti S.1 S.2.1 hW.2.2.2.2.2.2.2.2 hW.2.2.2.1 (bI_in (n := 5) (by decide) h0 h1) (v := .int (bI (bk_t2 i))) (by rw [bI_cl (n := 5) (by decide) h0 h1, Int.toNat_of_nonneg h0]) hd (kk H locs ls hW hl)
theorem br_max (S : CallFix p m c cc nL s args Ts own) {index : Nat} {x y : Int} (hlink : Cond.methodLink own index Lib.Math.max.name ∈ Ts) (hstat : Cond.static Lib.Math.max.name ∈ Ts) (hini : Cond.initialized "java/lang/Math" ∈ Ts) (hcode : Cond.code Lib.Math.max.name Lib.Math.max.code 2 (some .int) ∈ Ts) (hx : bR x) (hy : bR y) (hfr : 1 ≤ R.frames) (hlo : (st.map fun v => v.category).sum + 13 ≤ R.locals) (hf : cells ≤ R.cells ∧ slots ≤ R.slots) (hd : decode cc pc = .ok (.invokestatic index, 3)) (kk : bA p l e R s m args below meth c cells slots Q G A nL (pc + 3) lv (.int (bI (max x y)) :: st) σ) : bA p l e R s m args below meth c cells slots Q G A nL pc lv (.int (bI y) :: .int (bI x) :: st) σ :=
  fun H locs ls hW hl => va_mmax S.1 S.2.1 (S.2.2.1.trans hl.1.symm) S.2.2.2.1 (S.2.2.2.2 _ hlink) (S.2.2.2.2 _ hstat) (S.2.2.2.2 _ hini) (S.2.2.2.2 _ hcode) hfr hlo hf.1 hf.2 hd (by
    have e : (if bI x < bI y then bI y else bI x) = bI (max x y) := by
      by_cases h : x < y
      · rw [if_pos ((bI_lt hx hy).mpr h)]; congr 1; omega
      · rw [if_neg (fun z => h ((bI_lt hx hy).mp z))]; congr 1; omega
    rw [e]; exact kk H locs ls hW hl)
/-- what a method's own end asks -/
abbrev bQi (below : List Frame) (args : Array Value) (s : State) (G : bG) (σ0 : bS) (Qr : Int → bS → Prop) : State → Prop := MQ below (va_Qi (fun (r : Int32) (σ' : bS) => ∃ z : Int, r = bI z ∧ bR z ∧ Qr z σ' ∧ bRG σ') (fun σ' t => va_P G.1 vwCl (bk_w G σ') t.heap) (va_A (bk_w G σ0) s.heap.size)) args s 0 0 (va_A (bk_w G σ0) s.heap.size)
abbrev bQv (below : List Frame) (args : Array Value) (s : State) (G : bG) (σ0 : bS) (Qr : bS → Prop) : State → Prop := MQ below (va_Qv (fun (σ' : bS) => Qr σ' ∧ bRG σ') (fun σ' t => va_P G.1 vwCl (bk_w G σ') t.heap) (va_A (bk_w G σ0) s.heap.size)) args s 0 0 (va_A (bk_w G σ0) s.heap.size)
abbrev bQr (below : List Frame) (args : Array Value) (s : State) (G : bG) (σ0 : bS) (Qr : Nat → bS → Prop) : State → Prop := MQ below (va_Qr (fun (u : Nat × bS) => Qr u.1 u.2 ∧ bRG u.2) (fun u a t => a = G.2.2 u.1 ∧ va_P G.1 vwCl (bk_w G u.2) t.heap) (va_A (bk_w G σ0) s.heap.size)) args s 0 0 (va_A (bk_w G σ0) s.heap.size)
theorem br_iret (S : CallFix p m c cc nL s args Ts own) (hr : meth.sig.returnType = some .int) (hlocks : meth.locks = false) {σ0 : bS} {Qr : Int → bS → Prop} {z : Int} (hz : bR z) (hσ : bRG σ) (hd : decode cc pc = .ok (.ireturn, 1)) (hq : Qr z σ) : bA p l e R s m args below meth c 0 0 (bQi below args s G σ0 Qr) G (va_A (bk_w G σ0) s.heap.size) nL pc lv [.int (bI z)] σ :=
  fun H locs ls hW hl => W.iret S.1 S.2.1 hr (fun t ht hWm => ⟨⟨bI z, σ, rfl, ⟨z, rfl, hz, hq, hσ⟩, by show va_P _ _ _ t.heap; rw [ht]; exact hW.2.1⟩, hW.2.2.2.1.F ht⟩) hW.2.2.2.1.2.2 hd
theorem br_zret (S : CallFix p m c cc nL s args Ts own) (hr : meth.sig.returnType = some .boolean) (hlocks : meth.locks = false) {σ0 : bS} {Qr : Int → bS → Prop} {z : Int} (hz : z = 0 ∨ z = 1) (hσ : bRG σ) (hd : decode cc pc = .ok (.ireturn, 1)) (hq : Qr z σ) : bA p l e R s m args below meth c 0 0 (bQi below args s G σ0 Qr) G (va_A (bk_w G σ0) s.heap.size) nL pc lv [.int (bI z)] σ :=
  fun H locs ls hW hl => W.zret S.1 S.2.1 hr (bk_nar hz) (fun t ht hWm => ⟨⟨bI z, σ, rfl, ⟨z, rfl, ⟨by omega, by omega⟩, hq, hσ⟩, by show va_P _ _ _ t.heap; rw [ht]; exact hW.2.1⟩, hW.2.2.2.1.F ht⟩) hW.2.2.2.1.2.2 hd
theorem br_vret (S : CallFix p m c cc nL s args Ts own) (hr : meth.sig.returnType = none) (hlocks : meth.locks = false) {σ0 : bS} {Qr : bS → Prop} (hσ : bRG σ) (hd : decode cc pc = .ok (.return_, 1)) (hq : Qr σ) : bA p l e R s m args below meth c 0 0 (bQv below args s G σ0 Qr) G (va_A (bk_w G σ0) s.heap.size) nL pc lv [] σ :=
  fun H locs ls hW hl => W.vret S.1 S.2.1 hr (fun t ht hWm => ⟨⟨σ, rfl, ⟨hq, hσ⟩, by show va_P _ _ _ t.heap; rw [ht]; exact hW.2.1⟩, hW.2.2.2.1.F ht⟩) hW.2.2.2.1.2.2 hd
theorem br_aret (S : CallFix p m c cc nL s args Ts own) {C : String} (hr : meth.sig.returnType = some (.object C)) (hlocks : meth.locks = false) {σ0 : bS} {Qr : Nat → bS → Prop} (k : Nat) (hσ : bRG σ) (hd : decode cc pc = .ok (.areturn, 1)) (hq : Qr k σ) : bA p l e R s m args below meth c 0 0 (bQr below args s G σ0 Qr) G (va_A (bk_w G σ0) s.heap.size) nL pc lv [.ref (G.2.2 k)] σ :=
  fun H locs ls hW hl => W.aret S.1 S.2.1 hr (Or.inl ⟨_, rfl⟩) (Or.inr ⟨_, rfl⟩) (fun t ht hWm => ⟨⟨(k, σ), G.2.2 k, rfl, ⟨hq, hσ⟩, rfl, by show va_P _ _ _ t.heap; rw [ht]; exact hW.2.1⟩, hW.2.2.2.1.F ht⟩) hW.2.2.2.1.2.2 hd
theorem bk_blind {av : List Value} {sz : Nat} : FrameBlind (va_Pc av (fun U => U.heap.size = sz ∧ bk_P G σ U)) := by
  intro a U g mk hq
  obtain ⟨q0, q1, qK, qP, qD, qS, qR⟩ := hq
  exact ⟨q0, q1, va_K.moved (u := U) (U := U.calling g mk a) (Vm.Alike.refl U.vm) qK, qP, qD, bk_S.moved (u := U) (U := U.calling g mk a) (Vm.Alike.refl U.vm) qS, qR⟩
variable {y : MethodName} {ws : List Cond} {rm : Room} {bytes : ByteArray} {maxL n index : Nat} {ret : Option FieldType} {C : String}
theorem br_callV {k ci : Nat} {q : vw_C} {fs : List Value} {As rest : List Value} {Qr : Int → bS → Prop} (S : CallFix p m c cc nL s args Ts own) (cw : CallW R s args own C index y bytes maxL ret ws rm 0 0 n) (hM : bk_Mi l y ws rm G σ (.ref (G.2.2 k) :: As) Qr) (hk : k < 71) (he : bk_e G k (σ k) = .inr (ci, fs)) (hc : vwCl[ci]? = some q) (hq : q.1 = C) (hσ : bRG σ) (hn : As.length = n) (hst : st = As.reverse ++ .ref (G.2.2 k) :: rest) (hrs : (rest.map fun v => v.category).sum ≤ 8) (hf : cells ≤ R.cells ∧ slots ≤ R.slots) (hd : decode cc pc = .ok (.invokevirtual index, 3))
    (kk : ∀ (z : Int) (σ' : bS), bR z → bRG σ' → Qr z σ' → bA p l e R s m args below meth c cells slots Q G A nL (pc + 3) lv (.int (bI z) :: rest) σ') : bA p l e R s m args below meth c cells slots Q G A nL pc lv st σ := by
  intro H locs ls hW hl
  subst hst
  subst hq
  refine va_calli (va_runV (As := As) (rest := rest) S (hM H.size) cw ⟨bk_blind, va_recv hW.1 hW.2.1 hc (by rw [bk_w_get G σ hk, he]), fun U hU hWm => ⟨rfl, by rw [hU], hW.out hσ hU hWm.alike⟩⟩ rfl hn hl.1 rfl (lv_room hrs) hd ⟨hf.1, hf.2⟩) hW.2.2.2.1 (fun q _ h => hW.free q h) (fun q h => hW.free q h) (fun r u t H1 locs1 ht hvm hw hB hz1 hk1 hS => ?_)
  obtain ⟨z, rfl, hz, hQ, hσ'⟩ := hw
  exact kk z u hz hσ' hQ H1 locs1 ls ⟨hW.1, by rw [← ht]; exact hB, bk_D_any hW.2.2.1, hS, hW.2.2.2.2.1, hW.2.2.2.2.2⟩ hl
theorem br_callVv {k ci : Nat} {q : vw_C} {fs : List Value} {As rest : List Value} {Qr : bS → Prop} (S : CallFix p m c cc nL s args Ts own) (cw : CallW R s args own C index y bytes maxL ret ws rm 0 0 n) (hM : bk_Mv l y ws rm G σ (.ref (G.2.2 k) :: As) Qr) (hk : k < 71) (he : bk_e G k (σ k) = .inr (ci, fs)) (hc : vwCl[ci]? = some q) (hq : q.1 = C) (hσ : bRG σ) (hn : As.length = n) (hst : st = As.reverse ++ .ref (G.2.2 k) :: rest) (hrs : (rest.map fun v => v.category).sum ≤ 8) (hf : cells ≤ R.cells ∧ slots ≤ R.slots) (hd : decode cc pc = .ok (.invokevirtual index, 3))
    (kk : ∀ (σ' : bS), bRG σ' → Qr σ' → bA p l e R s m args below meth c cells slots Q G A nL (pc + 3) lv rest σ') : bA p l e R s m args below meth c cells slots Q G A nL pc lv st σ := by
  intro H locs ls hW hl
  subst hst
  subst hq
  refine va_callv (va_runV (As := As) (rest := rest) S (hM H.size) cw ⟨bk_blind, va_recv hW.1 hW.2.1 hc (by rw [bk_w_get G σ hk, he]), fun U hU hWm => ⟨rfl, by rw [hU], hW.out hσ hU hWm.alike⟩⟩ rfl hn hl.1 rfl (lv_room hrs) hd ⟨hf.1, hf.2⟩) hW.2.2.2.1 (fun q _ h => hW.free q h) (fun q h => hW.free q h) (fun u t H1 locs1 ht hvm hw hB hz1 hk1 hS => ?_)
  exact kk u hw.2 hw.1 H1 locs1 ls ⟨hW.1, by rw [← ht]; exact hB, bk_D_any hW.2.2.1, hS, hW.2.2.2.2.1, hW.2.2.2.2.2⟩ hl
theorem br_callVr {k ci : Nat} {q : vw_C} {fs : List Value} {As rest : List Value} {Qr : Nat → bS → Prop} (S : CallFix p m c cc nL s args Ts own) (cw : CallW R s args own C index y bytes maxL ret ws rm 0 0 n) (hM : bk_Mr l y ws rm G σ (.ref (G.2.2 k) :: As) Qr) (hk : k < 71) (he : bk_e G k (σ k) = .inr (ci, fs)) (hc : vwCl[ci]? = some q) (hq : q.1 = C) (hσ : bRG σ) (hn : As.length = n) (hst : st = As.reverse ++ .ref (G.2.2 k) :: rest) (hrs : (rest.map fun v => v.category).sum ≤ 8) (hf : cells ≤ R.cells ∧ slots ≤ R.slots) (hd : decode cc pc = .ok (.invokevirtual index, 3))
    (kk : ∀ (a : Nat) (σ' : bS), bRG σ' → Qr a σ' → bA p l e R s m args below meth c cells slots Q G A nL (pc + 3) lv (.ref (G.2.2 a) :: rest) σ') : bA p l e R s m args below meth c cells slots Q G A nL pc lv st σ := by
  intro H locs ls hW hl
  subst hst
  subst hq
  refine va_callr (va_runV (As := As) (rest := rest) S (hM H.size) cw ⟨bk_blind, va_recv hW.1 hW.2.1 hc (by rw [bk_w_get G σ hk, he]), fun U hU hWm => ⟨rfl, by rw [hU], hW.out hσ hU hWm.alike⟩⟩ rfl hn hl.1 rfl (lv_room hrs) hd ⟨hf.1, hf.2⟩) hW.2.2.2.1 (fun q _ h => hW.free q h) (fun q h => hW.free q h) (fun u ra t H1 locs1 ht hvm hw hB hz1 hk1 hS => ?_)
  obtain ⟨rfl, hB⟩ := hB
  exact kk u.1 u.2 hw.2 hw.1 H1 locs1 ls ⟨hW.1, by rw [← ht]; exact hB, bk_D_any hW.2.2.1, hS, hW.2.2.2.2.1, hW.2.2.2.2.2⟩ hl
theorem br_callS {As rest : List Value} {Qr : Int → bS → Prop} (S : CallFix p m c cc nL s args Ts own) (cw : CallB R s args own index y bytes maxL ret ws rm 0 0 n ∧ (Cond.static y).before args s = true) (hM : bk_Mi l y ws rm G σ As Qr) (hσ : bRG σ) (hn : As.length = n) (hst : st = As.reverse ++ rest) (hrs : (rest.map fun v => v.category).sum ≤ 8) (hf : cells ≤ R.cells ∧ slots ≤ R.slots) (hd : decode cc pc = .ok (.invokestatic index, 3))
    (kk : ∀ (z : Int) (σ' : bS), bR z → bRG σ' → Qr z σ' → bA p l e R s m args below meth c cells slots Q G A nL (pc + 3) lv (.int (bI z) :: rest) σ') : bA p l e R s m args below meth c cells slots Q G A nL pc lv st σ := by
  intro H locs ls hW hl
  subst hst
  refine va_calli (va_runS (As := As) (rest := rest) S (hM H.size) cw ⟨bk_blind, fun U hU hWm => ⟨rfl, by rw [hU], hW.out hσ hU hWm.alike⟩⟩ rfl hn hl.1 rfl (lv_room hrs) hd ⟨hf.1, hf.2⟩) hW.2.2.2.1 (fun q _ h => hW.free q h) (fun q h => hW.free q h) (fun r u t H1 locs1 ht hvm hw hB hz1 hk1 hS => ?_)
  obtain ⟨z, rfl, hz, hQ, hσ'⟩ := hw
  exact kk z u hz hσ' hQ H1 locs1 ls ⟨hW.1, by rw [← ht]; exact hB, bk_D_any hW.2.2.1, hS, hW.2.2.2.2.1, hW.2.2.2.2.2⟩ hl
theorem br_callSv {As rest : List Value} {Qr : bS → Prop} (S : CallFix p m c cc nL s args Ts own) (cw : CallB R s args own index y bytes maxL ret ws rm 0 0 n ∧ (Cond.static y).before args s = true) (hM : bk_Mv l y ws rm G σ As Qr) (hσ : bRG σ) (hn : As.length = n) (hst : st = As.reverse ++ rest) (hrs : (rest.map fun v => v.category).sum ≤ 8) (hf : cells ≤ R.cells ∧ slots ≤ R.slots) (hd : decode cc pc = .ok (.invokestatic index, 3))
    (kk : ∀ (σ' : bS), bRG σ' → Qr σ' → bA p l e R s m args below meth c cells slots Q G A nL (pc + 3) lv rest σ') : bA p l e R s m args below meth c cells slots Q G A nL pc lv st σ := by
  intro H locs ls hW hl
  subst hst
  refine va_callv (va_runS (As := As) (rest := rest) S (hM H.size) cw ⟨bk_blind, fun U hU hWm => ⟨rfl, by rw [hU], hW.out hσ hU hWm.alike⟩⟩ rfl hn hl.1 rfl (lv_room hrs) hd ⟨hf.1, hf.2⟩) hW.2.2.2.1 (fun q _ h => hW.free q h) (fun q h => hW.free q h) (fun u t H1 locs1 ht hvm hw hB hz1 hk1 hS => ?_)
  exact kk u hw.2 hw.1 H1 locs1 ls ⟨hW.1, by rw [← ht]; exact hB, bk_D_any hW.2.2.1, hS, hW.2.2.2.2.1, hW.2.2.2.2.2⟩ hl
end BKS
theorem bk_Mi.of {l : Launch} {y : MethodName} {ws ws' : List Cond} {rm : Room} {G : bG} {σ : bS} {av : List Value} {Q : Int → bS → Prop} {cc : ByteArray} {maxL : Nat} {ret : Option FieldType} (hy : plainName y.cls = true) (hw : ws = Cond.code y cc maxL ret :: ws') (hav : (lg_sl av).length ≤ maxL)
    (body : ∀ (p : Program) (e : Env) (s : State) (m : MethodId) (args : Array Value) (below : List Frame) (meth : Method) (c : Code), CallFix p m c cc maxL s args ws y.cls → meth.sig.returnType = ret → meth.locks = false → bRG σ → bA p l e rm s m args below meth c 0 0 (bQi below args s G σ Q) G (va_A (bk_w G σ) s.heap.size) maxL 0 (lv_args 0 av) [] σ) : bk_Mi l y ws rm G σ av Q := by
  intro sz
  refine Met.ofW (cc := cc) (maxL := maxL) (ret := ret) hy hw ?_
  intro p e s m args below meth c s₁ B hml hv
  obtain ⟨rfl, hsz, hP⟩ := hv
  subst hsz
  have hown : s.vm.findClass y.cls = some m.cls := findClass_of_methodNamed B.named
  rw [lg_entry_eq]
  exact body p e s m av.toArray below meth c ⟨B.exec, B.bytes, hml, hown, atoms_spec (ws := ws) B.pre⟩ B.returns B.notSynchronized hP.2.2.2.2 s.heap [] _ (bk_W.start hP) (lv_entry av hav)
theorem bk_Mv.of {l : Launch} {y : MethodName} {ws ws' : List Cond} {rm : Room} {G : bG} {σ : bS} {av : List Value} {Q : bS → Prop} {cc : ByteArray} {maxL : Nat} {ret : Option FieldType} (hy : plainName y.cls = true) (hw : ws = Cond.code y cc maxL ret :: ws') (hav : (lg_sl av).length ≤ maxL)
    (body : ∀ (p : Program) (e : Env) (s : State) (m : MethodId) (args : Array Value) (below : List Frame) (meth : Method) (c : Code), CallFix p m c cc maxL s args ws y.cls → meth.sig.returnType = ret → meth.locks = false → bRG σ → bA p l e rm s m args below meth c 0 0 (bQv below args s G σ Q) G (va_A (bk_w G σ) s.heap.size) maxL 0 (lv_args 0 av) [] σ) : bk_Mv l y ws rm G σ av Q := by
  intro sz
  refine Met.ofW (cc := cc) (maxL := maxL) (ret := ret) hy hw ?_
  intro p e s m args below meth c s₁ B hml hv
  obtain ⟨rfl, hsz, hP⟩ := hv
  subst hsz
  have hown : s.vm.findClass y.cls = some m.cls := findClass_of_methodNamed B.named
  rw [lg_entry_eq]
  exact body p e s m av.toArray below meth c ⟨B.exec, B.bytes, hml, hown, atoms_spec (ws := ws) B.pre⟩ B.returns B.notSynchronized hP.2.2.2.2 s.heap [] _ (bk_W.start hP) (lv_entry av hav)
theorem bk_Mr.of {l : Launch} {y : MethodName} {ws ws' : List Cond} {rm : Room} {G : bG} {σ : bS} {av : List Value} {Q : Nat → bS → Prop} {cc : ByteArray} {maxL : Nat} {ret : Option FieldType} (hy : plainName y.cls = true) (hw : ws = Cond.code y cc maxL ret :: ws') (hav : (lg_sl av).length ≤ maxL)
    (body : ∀ (p : Program) (e : Env) (s : State) (m : MethodId) (args : Array Value) (below : List Frame) (meth : Method) (c : Code), CallFix p m c cc maxL s args ws y.cls → meth.sig.returnType = ret → meth.locks = false → bRG σ → bA p l e rm s m args below meth c 0 0 (bQr below args s G σ Q) G (va_A (bk_w G σ) s.heap.size) maxL 0 (lv_args 0 av) [] σ) : bk_Mr l y ws rm G σ av Q := by
  intro sz
  refine Met.ofW (cc := cc) (maxL := maxL) (ret := ret) hy hw ?_
  intro p e s m args below meth c s₁ B hml hv
  obtain ⟨rfl, hsz, hP⟩ := hv
  subst hsz
  have hown : s.vm.findClass y.cls = some m.cls := findClass_of_methodNamed B.named
  rw [lg_entry_eq]
  exact body p e s m av.toArray below meth c ⟨B.exec, B.bytes, hml, hown, atoms_spec (ws := ws) B.pre⟩ B.returns B.notSynchronized hP.2.2.2.2 s.heap [] _ (bk_W.start hP) (lv_entry av hav)
end
