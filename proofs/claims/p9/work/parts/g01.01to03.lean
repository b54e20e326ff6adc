-- part 01.tables
section
-- ===== PART A: goes FIRST, ahead of the names: the tables' words, and 'selects' of the private methods out of them =====
/-- a private method of a class that the tables say can be made, by its rows of tables_1 -/
def lw_okq (q : MethodName × Nat) : Prop := (q.1.cls ≠ "java/lang/invoke/MethodHandle" ∧ q.1.cls ≠ "java/lang/invoke/VarHandle") ∧ Cond.instantiable q.1.cls q.2 ∈ tables_1 ∧ Cond.privateMethod q.1 ∈ tables_1 ∧ Cond.instanceMethod q.1 ∈ tables_1
theorem lw_p0 : lw_okq (⟨"TriColourMachine$Heap", "sweepOne", "()V"⟩, 9) := ⟨⟨by decide +kernel, by decide +kernel⟩, List.mem_of_getElem? (i := 28) (by decide +kernel), List.mem_of_getElem? (i := 252) (by decide +kernel), List.mem_of_getElem? (i := 253) (by decide +kernel)⟩
theorem lw_p1 : lw_okq (⟨"TriColourMachine$Heap", "leastGray", "()I"⟩, 9) := ⟨⟨by decide +kernel, by decide +kernel⟩, List.mem_of_getElem? (i := 28) (by decide +kernel), List.mem_of_getElem? (i := 256) (by decide +kernel), List.mem_of_getElem? (i := 257) (by decide +kernel)⟩
theorem lw_p2 : lw_okq (⟨"TriColourMachine$Heap", "blacken", "(LTriColourMachine$Cell;)V"⟩, 9) := ⟨⟨by decide +kernel, by decide +kernel⟩, List.mem_of_getElem? (i := 28) (by decide +kernel), List.mem_of_getElem? (i := 260) (by decide +kernel), List.mem_of_getElem? (i := 261) (by decide +kernel)⟩
theorem lw_p3 : lw_okq (⟨"TriColourMachine$Heap", "shadeRow", "([JI)I"⟩, 9) := ⟨⟨by decide +kernel, by decide +kernel⟩, List.mem_of_getElem? (i := 28) (by decide +kernel), List.mem_of_getElem? (i := 264) (by decide +kernel), List.mem_of_getElem? (i := 265) (by decide +kernel)⟩
theorem lw_p4 : lw_okq (⟨"TriColourMachine$Heap", "shadeRoots", "()I"⟩, 9) := ⟨⟨by decide +kernel, by decide +kernel⟩, List.mem_of_getElem? (i := 28) (by decide +kernel), List.mem_of_getElem? (i := 272) (by decide +kernel), List.mem_of_getElem? (i := 273) (by decide +kernel)⟩
theorem lw_p5 : lw_okq (⟨"java/lang/Throwable", "fillInStackTrace", "(I)Ljava/lang/Throwable;"⟩, 6) := ⟨⟨by decide +kernel, by decide +kernel⟩, List.mem_of_getElem? (i := 338) (by decide +kernel), List.mem_of_getElem? (i := 336) (by decide +kernel), List.mem_of_getElem? (i := 337) (by decide +kernel)⟩
theorem lw_p6 : lw_okq (⟨"TriColourMachine$Heap", "leastFree", "()I"⟩, 9) := ⟨⟨by decide +kernel, by decide +kernel⟩, List.mem_of_getElem? (i := 28) (by decide +kernel), List.mem_of_getElem? (i := 397) (by decide +kernel), List.mem_of_getElem? (i := 398) (by decide +kernel)⟩
theorem lw_p7 : lw_okq (⟨"TriColourMachine$Heap", "birthColour", "(I)I"⟩, 9) := ⟨⟨by decide +kernel, by decide +kernel⟩, List.mem_of_getElem? (i := 28) (by decide +kernel), List.mem_of_getElem? (i := 402) (by decide +kernel), List.mem_of_getElem? (i := 403) (by decide +kernel)⟩
theorem lw_p8 : lw_okq (⟨"TriColourMachine$Heap", "lastTable", "(IJJ)I"⟩, 9) := ⟨⟨by decide +kernel, by decide +kernel⟩, List.mem_of_getElem? (i := 28) (by decide +kernel), List.mem_of_getElem? (i := 470) (by decide +kernel), List.mem_of_getElem? (i := 471) (by decide +kernel)⟩
theorem lw_p9 : lw_okq (⟨"TriColourMachine$Heap", "linked", "(IJ)I"⟩, 9) := ⟨⟨by decide +kernel, by decide +kernel⟩, List.mem_of_getElem? (i := 28) (by decide +kernel), List.mem_of_getElem? (i := 478) (by decide +kernel), List.mem_of_getElem? (i := 479) (by decide +kernel)⟩
theorem lw_p10 : lw_okq (⟨"TriColourMachine$Processor", "enter", "(JJ)I"⟩, 7) := ⟨⟨by decide +kernel, by decide +kernel⟩, List.mem_of_getElem? (i := 172) (by decide +kernel), List.mem_of_getElem? (i := 530) (by decide +kernel), List.mem_of_getElem? (i := 531) (by decide +kernel)⟩
theorem lw_p11 : lw_okq (⟨"TriColourMachine$Processor", "perform", "(LTriColourMachine$Coroutine;LTriColourMachine$Instruction;)I"⟩, 7) := ⟨⟨by decide +kernel, by decide +kernel⟩, List.mem_of_getElem? (i := 172) (by decide +kernel), List.mem_of_getElem? (i := 538) (by decide +kernel), List.mem_of_getElem? (i := 539) (by decide +kernel)⟩
theorem lw_p12 : lw_okq (⟨"TriColourMachine$Processor", "keepFound", "([JII)I"⟩, 7) := ⟨⟨by decide +kernel, by decide +kernel⟩, List.mem_of_getElem? (i := 172) (by decide +kernel), List.mem_of_getElem? (i := 546) (by decide +kernel), List.mem_of_getElem? (i := 547) (by decide +kernel)⟩
theorem lw_p13 : lw_okq (⟨"TriColourMachine$Processor", "jumpIfBelow", "(JJI)I"⟩, 7) := ⟨⟨by decide +kernel, by decide +kernel⟩, List.mem_of_getElem? (i := 172) (by decide +kernel), List.mem_of_getElem? (i := 560) (by decide +kernel), List.mem_of_getElem? (i := 561) (by decide +kernel)⟩
theorem lw_p14 : lw_okq (⟨"TriColourMachine$Processor", "jumpIf", "(ZI)I"⟩, 7) := ⟨⟨by decide +kernel, by decide +kernel⟩, List.mem_of_getElem? (i := 172) (by decide +kernel), List.mem_of_getElem? (i := 564) (by decide +kernel), List.mem_of_getElem? (i := 565) (by decide +kernel)⟩
theorem lw_p15 : lw_okq (⟨"TriColourMachine$Processor", "leave", "(J)V"⟩, 7) := ⟨⟨by decide +kernel, by decide +kernel⟩, List.mem_of_getElem? (i := 172) (by decide +kernel), List.mem_of_getElem? (i := 569) (by decide +kernel), List.mem_of_getElem? (i := 570) (by decide +kernel)⟩
def lw_privs_1 : List (MethodName × Nat) := [(⟨"TriColourMachine$Heap", "sweepOne", "()V"⟩, 9), (⟨"TriColourMachine$Heap", "leastGray", "()I"⟩, 9), (⟨"TriColourMachine$Heap", "blacken", "(LTriColourMachine$Cell;)V"⟩, 9), (⟨"TriColourMachine$Heap", "shadeRow", "([JI)I"⟩, 9), (⟨"TriColourMachine$Heap", "shadeRoots", "()I"⟩, 9), (⟨"java/lang/Throwable", "fillInStackTrace", "(I)Ljava/lang/Throwable;"⟩, 6), (⟨"TriColourMachine$Heap", "leastFree", "()I"⟩, 9), (⟨"TriColourMachine$Heap", "birthColour", "(I)I"⟩, 9), (⟨"TriColourMachine$Heap", "lastTable", "(IJJ)I"⟩, 9), (⟨"TriColourMachine$Heap", "linked", "(IJ)I"⟩, 9), (⟨"TriColourMachine$Processor", "enter", "(JJ)I"⟩, 7), (⟨"TriColourMachine$Processor", "perform", "(LTriColourMachine$Coroutine;LTriColourMachine$Instruction;)I"⟩, 7), (⟨"TriColourMachine$Processor", "keepFound", "([JII)I"⟩, 7), (⟨"TriColourMachine$Processor", "jumpIfBelow", "(JJI)I"⟩, 7), (⟨"TriColourMachine$Processor", "jumpIf", "(ZI)I"⟩, 7), (⟨"TriColourMachine$Processor", "leave", "(J)V"⟩, 7)]
theorem lw_r1 : ∀ q ∈ lw_privs_1, lw_okq q := List.forall_mem_cons.mpr ⟨lw_p0, List.forall_mem_cons.mpr ⟨lw_p1, List.forall_mem_cons.mpr ⟨lw_p2, List.forall_mem_cons.mpr ⟨lw_p3, List.forall_mem_cons.mpr ⟨lw_p4, List.forall_mem_cons.mpr ⟨lw_p5, List.forall_mem_cons.mpr ⟨lw_p6, List.forall_mem_cons.mpr ⟨lw_p7, List.forall_mem_cons.mpr ⟨lw_p8, List.forall_mem_cons.mpr ⟨lw_p9, List.forall_mem_cons.mpr ⟨lw_p10, List.forall_mem_cons.mpr ⟨lw_p11, List.forall_mem_cons.mpr ⟨lw_p12, List.forall_mem_cons.mpr ⟨lw_p13, List.forall_mem_cons.mpr ⟨lw_p14, List.forall_mem_cons.mpr ⟨lw_p15, fun _ h => absurd h List.not_mem_nil⟩⟩⟩⟩⟩⟩⟩⟩⟩⟩⟩⟩⟩⟩⟩⟩
theorem lw_p16 : lw_okq (⟨"TriColourMachine$Processor", "endActive", "()V"⟩, 7) := ⟨⟨by decide +kernel, by decide +kernel⟩, List.mem_of_getElem? (i := 172) (by decide +kernel), List.mem_of_getElem? (i := 581) (by decide +kernel), List.mem_of_getElem? (i := 582) (by decide +kernel)⟩
theorem lw_p17 : lw_okq (⟨"TriColourMachineModel", "badGlobal", "(I)Z"⟩, 28) := ⟨⟨by decide +kernel, by decide +kernel⟩, List.mem_of_getElem? (i := 634) (by decide +kernel), List.mem_of_getElem? (i := 739) (by decide +kernel), List.mem_of_getElem? (i := 740) (by decide +kernel)⟩
theorem lw_p18 : lw_okq (⟨"TriColourMachineModel", "create", "(II)I"⟩, 28) := ⟨⟨by decide +kernel, by decide +kernel⟩, List.mem_of_getElem? (i := 634) (by decide +kernel), List.mem_of_getElem? (i := 751) (by decide +kernel), List.mem_of_getElem? (i := 752) (by decide +kernel)⟩
theorem lw_p19 : lw_okq (⟨"TriColourMachineModel", "free", "()I"⟩, 28) := ⟨⟨by decide +kernel, by decide +kernel⟩, List.mem_of_getElem? (i := 634) (by decide +kernel), List.mem_of_getElem? (i := 755) (by decide +kernel), List.mem_of_getElem? (i := 756) (by decide +kernel)⟩
theorem lw_p20 : lw_okq (⟨"TriColourMachineModel", "whole", "()I"⟩, 28) := ⟨⟨by decide +kernel, by decide +kernel⟩, List.mem_of_getElem? (i := 634) (by decide +kernel), List.mem_of_getElem? (i := 759) (by decide +kernel), List.mem_of_getElem? (i := 760) (by decide +kernel)⟩
theorem lw_p21 : lw_okq (⟨"TriColourMachineModel", "unit", "()I"⟩, 28) := ⟨⟨by decide +kernel, by decide +kernel⟩, List.mem_of_getElem? (i := 634) (by decide +kernel), List.mem_of_getElem? (i := 763) (by decide +kernel), List.mem_of_getElem? (i := 764) (by decide +kernel)⟩
theorem lw_p22 : lw_okq (⟨"TriColourMachineModel", "shadeRoots", "()V"⟩, 28) := ⟨⟨by decide +kernel, by decide +kernel⟩, List.mem_of_getElem? (i := 634) (by decide +kernel), List.mem_of_getElem? (i := 767) (by decide +kernel), List.mem_of_getElem? (i := 768) (by decide +kernel)⟩
theorem lw_p23 : lw_okq (⟨"TriColourMachineModel", "shade", "(J)V"⟩, 28) := ⟨⟨by decide +kernel, by decide +kernel⟩, List.mem_of_getElem? (i := 634) (by decide +kernel), List.mem_of_getElem? (i := 771) (by decide +kernel), List.mem_of_getElem? (i := 772) (by decide +kernel)⟩
theorem lw_p24 : lw_okq (⟨"TriColourMachineModel", "objectOf", "(J)I"⟩, 28) := ⟨⟨by decide +kernel, by decide +kernel⟩, List.mem_of_getElem? (i := 634) (by decide +kernel), List.mem_of_getElem? (i := 775) (by decide +kernel), List.mem_of_getElem? (i := 776) (by decide +kernel)⟩
theorem lw_p25 : lw_okq (⟨"TriColourMachineModel", "leastGray", "()I"⟩, 28) := ⟨⟨by decide +kernel, by decide +kernel⟩, List.mem_of_getElem? (i := 634) (by decide +kernel), List.mem_of_getElem? (i := 780) (by decide +kernel), List.mem_of_getElem? (i := 781) (by decide +kernel)⟩
theorem lw_p26 : lw_okq (⟨"TriColourMachineModel", "blacken", "(I)V"⟩, 28) := ⟨⟨by decide +kernel, by decide +kernel⟩, List.mem_of_getElem? (i := 634) (by decide +kernel), List.mem_of_getElem? (i := 784) (by decide +kernel), List.mem_of_getElem? (i := 785) (by decide +kernel)⟩
theorem lw_p27 : lw_okq (⟨"TriColourMachineModel", "tableOf", "(J)I"⟩, 28) := ⟨⟨by decide +kernel, by decide +kernel⟩, List.mem_of_getElem? (i := 634) (by decide +kernel), List.mem_of_getElem? (i := 792) (by decide +kernel), List.mem_of_getElem? (i := 793) (by decide +kernel)⟩
theorem lw_p28 : lw_okq (⟨"TriColourMachineModel", "setting", "(IJJ)V"⟩, 28) := ⟨⟨by decide +kernel, by decide +kernel⟩, List.mem_of_getElem? (i := 634) (by decide +kernel), List.mem_of_getElem? (i := 796) (by decide +kernel), List.mem_of_getElem? (i := 797) (by decide +kernel)⟩
theorem lw_p29 : lw_okq (⟨"TriColourMachineModel", "pairOf", "(IJ)I"⟩, 28) := ⟨⟨by decide +kernel, by decide +kernel⟩, List.mem_of_getElem? (i := 634) (by decide +kernel), List.mem_of_getElem? (i := 800) (by decide +kernel), List.mem_of_getElem? (i := 801) (by decide +kernel)⟩
theorem lw_p30 : lw_okq (⟨"TriColourMachineModel", "next", "(IJ)I"⟩, 28) := ⟨⟨by decide +kernel, by decide +kernel⟩, List.mem_of_getElem? (i := 634) (by decide +kernel), List.mem_of_getElem? (i := 804) (by decide +kernel), List.mem_of_getElem? (i := 805) (by decide +kernel)⟩
theorem lw_p31 : lw_okq (⟨"TriColourMachineModel", "touch", "(I)V"⟩, 28) := ⟨⟨by decide +kernel, by decide +kernel⟩, List.mem_of_getElem? (i := 634) (by decide +kernel), List.mem_of_getElem? (i := 808) (by decide +kernel), List.mem_of_getElem? (i := 809) (by decide +kernel)⟩
def lw_privs_2 : List (MethodName × Nat) := [(⟨"TriColourMachine$Processor", "endActive", "()V"⟩, 7), (⟨"TriColourMachineModel", "badGlobal", "(I)Z"⟩, 28), (⟨"TriColourMachineModel", "create", "(II)I"⟩, 28), (⟨"TriColourMachineModel", "free", "()I"⟩, 28), (⟨"TriColourMachineModel", "whole", "()I"⟩, 28), (⟨"TriColourMachineModel", "unit", "()I"⟩, 28), (⟨"TriColourMachineModel", "shadeRoots", "()V"⟩, 28), (⟨"TriColourMachineModel", "shade", "(J)V"⟩, 28), (⟨"TriColourMachineModel", "objectOf", "(J)I"⟩, 28), (⟨"TriColourMachineModel", "leastGray", "()I"⟩, 28), (⟨"TriColourMachineModel", "blacken", "(I)V"⟩, 28), (⟨"TriColourMachineModel", "tableOf", "(J)I"⟩, 28), (⟨"TriColourMachineModel", "setting", "(IJJ)V"⟩, 28), (⟨"TriColourMachineModel", "pairOf", "(IJ)I"⟩, 28), (⟨"TriColourMachineModel", "next", "(IJ)I"⟩, 28), (⟨"TriColourMachineModel", "touch", "(I)V"⟩, 28)]
theorem lw_r2 : ∀ q ∈ lw_privs_2, lw_okq q := List.forall_mem_cons.mpr ⟨lw_p16, List.forall_mem_cons.mpr ⟨lw_p17, List.forall_mem_cons.mpr ⟨lw_p18, List.forall_mem_cons.mpr ⟨lw_p19, List.forall_mem_cons.mpr ⟨lw_p20, List.forall_mem_cons.mpr ⟨lw_p21, List.forall_mem_cons.mpr ⟨lw_p22, List.forall_mem_cons.mpr ⟨lw_p23, List.forall_mem_cons.mpr ⟨lw_p24, List.forall_mem_cons.mpr ⟨lw_p25, List.forall_mem_cons.mpr ⟨lw_p26, List.forall_mem_cons.mpr ⟨lw_p27, List.forall_mem_cons.mpr ⟨lw_p28, List.forall_mem_cons.mpr ⟨lw_p29, List.forall_mem_cons.mpr ⟨lw_p30, List.forall_mem_cons.mpr ⟨lw_p31, fun _ h => absurd h List.not_mem_nil⟩⟩⟩⟩⟩⟩⟩⟩⟩⟩⟩⟩⟩⟩⟩⟩
theorem lw_p32 : lw_okq (⟨"TriColourMachineModel", "getting", "(IJ)J"⟩, 28) := ⟨⟨by decide +kernel, by decide +kernel⟩, List.mem_of_getElem? (i := 634) (by decide +kernel), List.mem_of_getElem? (i := 816) (by decide +kernel), List.mem_of_getElem? (i := 817) (by decide +kernel)⟩
theorem lw_p33 : lw_okq (⟨"TriColourMachineModel", "join", "(JJ)V"⟩, 28) := ⟨⟨by decide +kernel, by decide +kernel⟩, List.mem_of_getElem? (i := 634) (by decide +kernel), List.mem_of_getElem? (i := 824) (by decide +kernel), List.mem_of_getElem? (i := 825) (by decide +kernel)⟩
theorem lw_p34 : lw_okq (⟨"TriColourMachineModel", "enter", "(JJ)V"⟩, 28) := ⟨⟨by decide +kernel, by decide +kernel⟩, List.mem_of_getElem? (i := 634) (by decide +kernel), List.mem_of_getElem? (i := 832) (by decide +kernel), List.mem_of_getElem? (i := 833) (by decide +kernel)⟩
theorem lw_p35 : lw_okq (⟨"TriColourMachineModel", "coroutineOf", "(J)I"⟩, 28) := ⟨⟨by decide +kernel, by decide +kernel⟩, List.mem_of_getElem? (i := 634) (by decide +kernel), List.mem_of_getElem? (i := 836) (by decide +kernel), List.mem_of_getElem? (i := 837) (by decide +kernel)⟩
theorem lw_p36 : lw_okq (⟨"TriColourMachineModel", "step", "()V"⟩, 28) := ⟨⟨by decide +kernel, by decide +kernel⟩, List.mem_of_getElem? (i := 634) (by decide +kernel), List.mem_of_getElem? (i := 840) (by decide +kernel), List.mem_of_getElem? (i := 841) (by decide +kernel)⟩
theorem lw_p37 : lw_okq (⟨"TriColourMachineModel", "leave", "(IJ)V"⟩, 28) := ⟨⟨by decide +kernel, by decide +kernel⟩, List.mem_of_getElem? (i := 634) (by decide +kernel), List.mem_of_getElem? (i := 844) (by decide +kernel), List.mem_of_getElem? (i := 845) (by decide +kernel)⟩
theorem lw_p38 : lw_okq (⟨"TriColourMachineModel", "jumps", "(IJJ)Z"⟩, 28) := ⟨⟨by decide +kernel, by decide +kernel⟩, List.mem_of_getElem? (i := 634) (by decide +kernel), List.mem_of_getElem? (i := 848) (by decide +kernel), List.mem_of_getElem? (i := 849) (by decide +kernel)⟩
theorem lw_p39 : lw_okq (⟨"TriColourMachineModel", "isNumber", "(J)Z"⟩, 28) := ⟨⟨by decide +kernel, by decide +kernel⟩, List.mem_of_getElem? (i := 634) (by decide +kernel), List.mem_of_getElem? (i := 852) (by decide +kernel), List.mem_of_getElem? (i := 853) (by decide +kernel)⟩
theorem lw_p40 : lw_okq (⟨"TriColourMachineModel", "calculate", "(IIIJJ)V"⟩, 28) := ⟨⟨by decide +kernel, by decide +kernel⟩, List.mem_of_getElem? (i := 634) (by decide +kernel), List.mem_of_getElem? (i := 858) (by decide +kernel), List.mem_of_getElem? (i := 859) (by decide +kernel)⟩
theorem lw_p41 : lw_okq (⟨"TriColourMachineModel", "following", "(IJ)J"⟩, 28) := ⟨⟨by decide +kernel, by decide +kernel⟩, List.mem_of_getElem? (i := 634) (by decide +kernel), List.mem_of_getElem? (i := 862) (by decide +kernel), List.mem_of_getElem? (i := 863) (by decide +kernel)⟩
def lw_privs_3 : List (MethodName × Nat) := [(⟨"TriColourMachineModel", "getting", "(IJ)J"⟩, 28), (⟨"TriColourMachineModel", "join", "(JJ)V"⟩, 28), (⟨"TriColourMachineModel", "enter", "(JJ)V"⟩, 28), (⟨"TriColourMachineModel", "coroutineOf", "(J)I"⟩, 28), (⟨"TriColourMachineModel", "step", "()V"⟩, 28), (⟨"TriColourMachineModel", "leave", "(IJ)V"⟩, 28), (⟨"TriColourMachineModel", "jumps", "(IJJ)Z"⟩, 28), (⟨"TriColourMachineModel", "isNumber", "(J)Z"⟩, 28), (⟨"TriColourMachineModel", "calculate", "(IIIJJ)V"⟩, 28), (⟨"TriColourMachineModel", "following", "(IJ)J"⟩, 28)]
theorem lw_r3 : ∀ q ∈ lw_privs_3, lw_okq q := List.forall_mem_cons.mpr ⟨lw_p32, List.forall_mem_cons.mpr ⟨lw_p33, List.forall_mem_cons.mpr ⟨lw_p34, List.forall_mem_cons.mpr ⟨lw_p35, List.forall_mem_cons.mpr ⟨lw_p36, List.forall_mem_cons.mpr ⟨lw_p37, List.forall_mem_cons.mpr ⟨lw_p38, List.forall_mem_cons.mpr ⟨lw_p39, List.forall_mem_cons.mpr ⟨lw_p40, List.forall_mem_cons.mpr ⟨lw_p41, fun _ h => absurd h List.not_mem_nil⟩⟩⟩⟩⟩⟩⟩⟩⟩⟩
def lw_privs : List (MethodName × Nat) := lw_privs_1 ++ (lw_privs_2 ++ (lw_privs_3))
def lw_tbl : List Cond := k2_sels lw_privs ++ tables_1
theorem lw_privs_ok : ∀ q ∈ lw_privs, lw_okq q := by
  show ∀ q ∈ lw_privs_1 ++ (lw_privs_2 ++ (lw_privs_3)), lw_okq q
  exact List.forall_mem_append.mpr ⟨lw_r1, List.forall_mem_append.mpr ⟨lw_r2, lw_r3⟩⟩
/-- the words that a warmer table keeps -/
def TB : List Cond := lw_tbl.filter goodWord
theorem tb_mem (i : Nat) {w : Cond} (h : lw_tbl[i]? = some w) (hg : goodWord w = true) : w ∈ TB := List.mem_filter.mpr ⟨List.mem_of_getElem? h, hg⟩
theorem tb_good : GoodIn TB TB := fun w hw => ⟨hw, good_of_word (List.mem_filter.mp hw).2⟩
theorem tb_all {ws : List Cond} (ps : List Nat) (h : ws = ps.filterMap (fun i => lw_tbl[i]?)) (hg : ws.all goodWord = true) : ∀ w ∈ ws, w ∈ TB := fun w hw => by
  have h1 := List.all_eq_true.mp hg w hw
  rw [h] at hw
  obtain ⟨i, -, hi⟩ := List.mem_filterMap.mp hw
  exact List.mem_filter.mpr ⟨List.mem_of_getElem? hi, h1⟩
theorem tb_tbl {w : Cond} (h : w ∈ TB) : w ∈ lw_tbl := (List.mem_filter.mp h).1
end

-- part 02.layer
section
/-! THE LAYER: G, a walk over one world of N cells; a row an instruction; a contract a method (Ct), a row a call -/
abbrev GT : Type := Program × Launch × Env × Room × State × MethodId × Array Value × List Frame × Method × Code × (State → Prop) × va_G × List vw_C × (Nat → Prop) × Nat
def gp (Γ : GT) : Program := Γ.1
def gL (Γ : GT) : Launch := Γ.2.1
def ge (Γ : GT) : Env := Γ.2.2.1
def gR (Γ : GT) : Room := Γ.2.2.2.1
def gs (Γ : GT) : State := Γ.2.2.2.2.1
def gm (Γ : GT) : MethodId := Γ.2.2.2.2.2.1
def ga (Γ : GT) : Array Value := Γ.2.2.2.2.2.2.1
def gb (Γ : GT) : List Frame := Γ.2.2.2.2.2.2.2.1
def gM (Γ : GT) : Method := Γ.2.2.2.2.2.2.2.2.1
def gc (Γ : GT) : Code := Γ.2.2.2.2.2.2.2.2.2.1
def gZ (Γ : GT) : State → Prop := Γ.2.2.2.2.2.2.2.2.2.2.1
def gD (Γ : GT) : va_G := Γ.2.2.2.2.2.2.2.2.2.2.2.1
def gC (Γ : GT) : List vw_C := Γ.2.2.2.2.2.2.2.2.2.2.2.2.1
def gA (Γ : GT) : Nat → Prop := Γ.2.2.2.2.2.2.2.2.2.2.2.2.2.1
def gN (Γ : GT) : Nat := Γ.2.2.2.2.2.2.2.2.2.2.2.2.2.2
def gW (Γ : GT) (H : Heap) (locs : List Loc) (kc ks : Nat) (f : JFrame) : Prop := W (gp Γ) (gL Γ) (ge Γ) (gR Γ) (gs Γ) (gm Γ) (ga Γ) (gb Γ) (gM Γ) (gc Γ) H locs kc ks (gZ Γ) f
/-- a world of N cells: cell k at the address ad k, holding σ k -/
def gl (N : Nat) (ad : Nat → Nat) (σ : Nat → va_E) : va_W := (List.range N).map fun k => (ad k, σ k)
theorem gl_at {N : Nat} {ad : Nat → Nat} {σ : Nat → va_E} {k : Nat} (h : k < N) : (gl N ad σ)[k]? = some (ad k, σ k) := by
  simp [gl, List.getElem?_map, List.getElem?_range h]
theorem gl_out {N : Nat} {ad : Nat → Nat} {σ : Nat → va_E} {k : Nat} {q : Nat × va_E} (h : (gl N ad σ)[k]? = some q) : k < N ∧ q = (ad k, σ k) := by
  have hk : k < N := by
    have := (List.getElem?_eq_some_iff.mp h).1
    simpa [gl] using this
  exact ⟨hk, (Option.some.inj ((gl_at hk).symm.trans h)).symm⟩
theorem gl_len (N : Nat) (ad : Nat → Nat) (σ : Nat → va_E) : (gl N ad σ).length = N := by simp [gl]
theorem gl_set {N : Nat} {ad : Nat → Nat} {σ : Nat → va_E} {k : Nat} (h : k < N) (e : va_E) : (gl N ad σ).set k (ad k, e) = gl N ad (va_up σ k e) := by
  apply List.ext_getElem?
  intro i
  by_cases hi : i < N
  · rw [gl_at hi]
    by_cases hk : i = k
    · subst hk
      rw [List.getElem?_set_self (by rw [gl_len]; exact h)]
      simp [va_up]
    · rw [List.getElem?_set_ne (Ne.symm hk), gl_at hi]
      simp [va_up, hk]
  · rw [List.getElem?_eq_none (by rw [List.length_set, gl_len]; omega), List.getElem?_eq_none (by rw [gl_len]; omega)]
theorem gl_push {N : Nat} {ad : Nat → Nat} {σ : Nat → va_E} {q : Nat} {e : va_E} : gl N ad σ ++ [(q, e)] = gl (N + 1) (va_up ad N q) (va_up σ N e) := by
  apply List.ext_getElem?
  intro i
  by_cases hi : i < N
  · rw [List.getElem?_append_left (by rw [gl_len]; exact hi), gl_at hi, gl_at (show i < N + 1 by omega)]
    have : i ≠ N := by omega
    simp [va_up, this]
  · by_cases hn : i = N
    · subst hn
      rw [List.getElem?_append_right (by rw [gl_len]; exact Nat.le_refl _), gl_len, Nat.sub_self, gl_at (show i < i + 1 by omega)]
      simp [va_up]
    · rw [List.getElem?_eq_none (by simp [gl_len]; omega), List.getElem?_eq_none (by rw [gl_len]; omega)]
theorem gl_congr {N : Nat} {ad ad' : Nat → Nat} {σ σ' : Nat → va_E} (h : ∀ k, k < N → ad k = ad' k ∧ σ k = σ' k) : gl N ad σ = gl N ad' σ' := by
  apply List.ext_getElem?
  intro i
  by_cases hi : i < N
  · rw [gl_at hi, gl_at hi, (h i hi).1, (h i hi).2]
  · rw [List.getElem?_eq_none (by rw [gl_len]; omega), List.getElem?_eq_none (by rw [gl_len]; omega)]
/-- the locals: a list; none: not known -/
def hasL (ls : Array Slot) (nL : Nat) (L : List (Option Value)) : Prop := ls.size = nL ∧ lv_wf ls ∧ ∀ (i : Nat) (v : Value), L[i]? = some (some v) → ls[i]? = some (.val v)
def asL (L : List (Option Value)) : List (Nat × Value) := (List.range L.length).filterMap fun i => match L[i]? with
  | some (some v) => some (i, v)
  | _ => none
theorem asL_in {L : List (Option Value)} {i : Nat} {v : Value} : (i, v) ∈ asL L ↔ L[i]? = some (some v) := by
  unfold asL
  rw [List.mem_filterMap]
  constructor
  · rintro ⟨j, -, hj⟩
    split at hj
    · rename_i w hw
      cases hj
      exact hw
    · cases hj
  · intro h
    refine ⟨i, List.mem_range.mpr (List.getElem?_eq_some_iff.mp h).1, ?_⟩
    rw [h]
theorem hasL.lv {ls : Array Slot} {nL : Nat} {L : List (Option Value)} (h : hasL ls nL L) : lv_has ls nL (asL L) := ⟨h.1, h.2.1, fun q hq => h.2.2 q.1 q.2 (asL_in.mp hq)⟩
/-- place i can be stored to: no long begins just ahead of it -/
def okS (L : List (Option Value)) (i : Nat) : Bool := match i with
  | 0 => true
  | j + 1 => match L[j]? with
    | some (some v) => !(v.category == 2)
    | _ => true
theorem okS_ok {L : List (Option Value)} {i j : Nat} {v : Value} (h : okS L i = true) (hj : j + 1 = i) (hv : L[j]? = some (some v)) : (v.category == 2) = false := by
  subst hj
  simp only [okS, hv] at h
  simpa using h
theorem hasL_1 {ls ls' : Array Slot} {nL : Nat} {L : List (Option Value)} {i : Nat} {v : Value} (ho : okS L i = true)
    (h' : lv_has ls' nL ((i, v) :: (asL L).filter (fun q => !(q.1 == i) && !(q.1 + 1 == i && q.2.category == 2)))) : hasL ls' nL (L.set i (some v)) := by
  refine ⟨h'.1, h'.2.1, fun j w hj => ?_⟩
  by_cases hi : i = j
  · subst hi
    have hlt : i < L.length := by
      have := (List.getElem?_eq_some_iff.mp hj).1
      simpa using this
    rw [List.getElem?_set_self hlt] at hj
    cases hj
    exact h'.2.2 (i, v) List.mem_cons_self
  · rw [List.getElem?_set_ne hi] at hj
    refine h'.2.2 (j, w) (List.mem_cons_of_mem _ (List.mem_filter.mpr ⟨asL_in.mpr hj, ?_⟩))
    have e1 : (j == i) = false := by simpa using (Ne.symm hi)
    by_cases h2 : j + 1 = i
    · simp [e1, okS_ok ho h2 hj]
    · have e2 : (j + 1 == i) = false := by simpa using h2
      simp [e1, e2]
theorem hasL_2 {ls ls' : Array Slot} {nL : Nat} {L : List (Option Value)} {i : Nat} {v : Value} (ho : okS L i = true)
    (h' : lv_has ls' nL ((i, v) :: (asL L).filter (fun q => !(q.1 == i) && (!(q.1 == i + 1) && !(q.1 + 1 == i && q.2.category == 2))))) : hasL ls' nL ((L.set i (some v)).set (i + 1) none) := by
  refine ⟨h'.1, h'.2.1, fun j w hj => ?_⟩
  by_cases h1 : i + 1 = j
  · subst h1
    by_cases hlt : i + 1 < (L.set i (some v)).length
    · rw [List.getElem?_set_self hlt] at hj
      cases hj
    · rw [List.getElem?_eq_none (by rw [List.length_set]; omega)] at hj
      cases hj
  · rw [List.getElem?_set_ne h1] at hj
    by_cases hi : i = j
    · subst hi
      have hlt : i < L.length := by
        have := (List.getElem?_eq_some_iff.mp hj).1
        simpa using this
      rw [List.getElem?_set_self hlt] at hj
      cases hj
      exact h'.2.2 (i, v) List.mem_cons_self
    · rw [List.getElem?_set_ne hi] at hj
      refine h'.2.2 (j, w) (List.mem_cons_of_mem _ (List.mem_filter.mpr ⟨asL_in.mpr hj, ?_⟩))
      have e1 : (j == i) = false := by simpa using (Ne.symm hi)
      have e3 : (j == i + 1) = false := by simpa using (Ne.symm h1)
      by_cases h2 : j + 1 = i
      · simp [e1, e3, okS_ok ho h2 hj]
      · have e2 : (j + 1 == i) = false := by simpa using h2
        simp [e1, e2, e3]
/-- the walk from pc with the locals L, the stack st, over the world -/
def G (Γ : GT) (kc ks N : Nat) (ad : Nat → Nat) (σ : Nat → va_E) (pc : Nat) (L : List (Option Value)) (st : List Value) : Prop :=
  ∀ (H : Heap) (locs : List Loc) (ls : Array Slot), va_P (gD Γ) (gC Γ) (gl N ad σ) H → va_D (gA Γ) (gl N ad σ) → va_S (gA Γ) (gs Γ).heap H locs → hasL ls (gN Γ) L → gW Γ H locs kc ks (F0 (gm Γ) pc ls st)
/-- what a walk stands on: the code, the class of the method, the room, the tables' words, the classes and array classes -/
def zL (C n d : String) (A : Nat → Prop) (U : State) (H : Heap) : Prop := ∃ (c : ClassId) (k : Class) (i : Nat) (f : Field) (a : Nat) (cell : Cell), (U.vm.findClass C = some c ∧ U.fieldFound? C n d = some (c, k, i, f) ∧ f.isStatic = true ∧ k.statics = some a ∧ k.staticTypes[f.slot]? = some f.type) ∧ H[a]? = some cell ∧ (cell.vm.isStatics = true ∧ cell.cls = c ∧ f.slot < cell.slots.size) ∧ ¬ A a
/-- a static field of the JDK's that nobody writes: where it lies, and that it holds a reference or null -/
def zq (C n d : String) (A : Nat → Prop) (U : State) (H : Heap) : Prop := va_Zq C n d A U H ∧ zL C n d A U H
theorem zq.moved {C n d : String} {A : Nat → Prop} {u U : State} {H : Heap} (hvm : u.vm.Alike U.vm) (h : zq C n d A u H) : zq C n d A U H := by
  obtain ⟨h0, c, k, i, f, a, cell, ⟨h1, h2, h3, h4, h5⟩, h6⟩ := h
  obtain ⟨k', hi', he⟩ := State.fieldFound?_setVm hvm h2
  exact ⟨va_Zq.moved hvm h0, c, k', i, f, a, cell, ⟨by rw [hvm.findClass]; exact h1, hi', h3, by rw [he]; exact h4, by rw [he]; exact h5⟩, h6⟩
theorem zq.kept {C n d : String} {A : Nat → Prop} {U : State} {H H1 : Heap} (h : zq C n d A U H) (hq : ∀ a : Nat, a < H.size → ¬ A a → H1[a]? = H[a]?) : zq C n d A U H1 := by
  obtain ⟨h0, c, k, i, f, a, cell, h1, h2, h3, h4⟩ := h
  exact ⟨va_Zq.kept h0 hq, c, k, i, f, a, cell, h1, by rw [hq a (Array.getElem?_eq_some_iff.mp h2).1 h4]; exact h2, h3, h4⟩
theorem zq.narrow {C n d : String} {A B : Nat → Prop} {U : State} {H : Heap} (h : zq C n d A U H) (hAB : ∀ q, B q → A q) : zq C n d B U H := by
  obtain ⟨h0, c, k, i, f, a, cell, h1, h2, h3, h4⟩ := h
  exact ⟨va_Zq.narrow h0 hAB, c, k, i, f, a, cell, h1, h2, h3, fun z => h4 (hAB _ z)⟩
def EX (D : va_G) (cl : List vw_C) (tys : List (ClassId × FieldType)) (nl : List (String × Nat × MethodName × String)) (A : Nat → Prop) (U : State) (H : Heap) : Prop :=
  va_K D cl tys U ∧ (∀ q ∈ nl, va_Nw (.methodLinkNest q.1 q.2.1 q.2.2.1 q.2.2.2) U) ∧ zq Bundle.tN "UNASSIGNED_STACK" Bundle.steD A U H ∧ zq Bundle.tN "SUPPRESSED_SENTINEL" Bundle.listD A U H
def Cx (Γ : GT) (cc : ByteArray) (own : String) (rm : Room) (Ts : List Cond) (cl : List vw_C) (tys : List (ClassId × FieldType)) (nl : List (String × Nat × MethodName × String)) : Prop :=
  (gp Γ).tables.exec = Jvm.exec ∧ (gc Γ).code = cc ∧ (gc Γ).maxLocals = gN Γ ∧ (gs Γ).vm.findClass own = some (gm Γ).cls ∧ gR Γ = rm ∧ (∀ w ∈ Ts, w.before (ga Γ) (gs Γ) = true) ∧ gC Γ = cl ∧ EX (gD Γ) (gC Γ) tys nl (gA Γ) (gs Γ) (gs Γ).heap ∧ (∀ q, (gs Γ).heap.size ≤ q → gA Γ q)
section Rows
variable {Γ : GT} {cc : ByteArray} {own : String} {rm : Room} {Ts : List Cond} {cl : List vw_C} {tys : List (ClassId × FieldType)} {nl : List (String × Nat × MethodName × String)} {kc ks N pc : Nat} {ad : Nat → Nat} {σ : Nat → va_E} {L : List (Option Value)} {st : List Value}
theorem Cx.x (h : Cx Γ cc own rm Ts cl tys nl) : (gp Γ).tables.exec = Jvm.exec := h.1
theorem Cx.b (h : Cx Γ cc own rm Ts cl tys nl) : (gc Γ).code = cc := h.2.1
theorem Cx.ml (h : Cx Γ cc own rm Ts cl tys nl) : (gc Γ).maxLocals = gN Γ := h.2.2.1
theorem Cx.ow (h : Cx Γ cc own rm Ts cl tys nl) : (gs Γ).vm.findClass own = some (gm Γ).cls := h.2.2.2.1
theorem Cx.R (h : Cx Γ cc own rm Ts cl tys nl) : gR Γ = rm := h.2.2.2.2.1
theorem Cx.ts (h : Cx Γ cc own rm Ts cl tys nl) : ∀ w ∈ Ts, w.before (ga Γ) (gs Γ) = true := h.2.2.2.2.2.1
theorem Cx.cL (h : Cx Γ cc own rm Ts cl tys nl) : gC Γ = cl := h.2.2.2.2.2.2.1
theorem Cx.E (h : Cx Γ cc own rm Ts cl tys nl) : EX (gD Γ) (gC Γ) tys nl (gA Γ) (gs Γ) (gs Γ).heap := h.2.2.2.2.2.2.2.1
theorem Cx.K (h : Cx Γ cc own rm Ts cl tys nl) : va_K (gD Γ) (gC Γ) tys (gs Γ) := h.2.2.2.2.2.2.2.1.1
theorem Cx.A (h : Cx Γ cc own rm Ts cl tys nl) : ∀ q, (gs Γ).heap.size ≤ q → gA Γ q := h.2.2.2.2.2.2.2.2
/-- another spelling of the same point -/
theorem g_at {pc' : Nat} {L' : List (Option Value)} {st' : List Value} (e1 : pc = pc') (e2 : L = L') (e3 : st = st') (k : G Γ kc ks N ad σ pc' L' st') : G Γ kc ks N ad σ pc L st := by subst e1; subst e2; subst e3; exact k
theorem g_world {σ' : Nat → va_E} (e : ∀ k, k < N → σ k = σ' k) (k : G Γ kc ks N ad σ' pc L st) : G Γ kc ks N ad σ pc L st := fun H locs ls hP hD hS hl => by
  rw [gl_congr (fun j hj => ⟨rfl, e j hj⟩)] at hP hD
  exact k H locs ls hP hD hS hl
theorem g_widen {k2 n2 : Nat} (h1 : kc ≤ k2) (h2 : ks ≤ n2) (k : G Γ k2 n2 N ad σ pc L st) : G Γ kc ks N ad σ pc L st := fun H locs ls hP hD hS hl => W.widen h1 h2 (k H locs ls hP hD hS hl)
/-- fewer locals are known -/
theorem g_less {L' : List (Option Value)} (h : ∀ (i : Nat) (v : Value), L'[i]? = some (some v) → L[i]? = some (some v)) (k : G Γ kc ks N ad σ pc L' st) : G Γ kc ks N ad σ pc L st := fun H locs ls hP hD hS hl => k H locs ls hP hD hS ⟨hl.1, hl.2.1, fun i v hi => hl.2.2 i v (h i v hi)⟩
theorem g_iadd (h : Cx Γ cc own rm Ts cl tys nl) {x y : Int32} (hd : decode cc pc = .ok (.iadd, 1)) (k : G Γ kc ks N ad σ (pc + 1) L (.int (x + y) :: st)) : G Γ kc ks N ad σ pc L (.int y :: .int x :: st) := fun H locs ls hP hD hS hl => lv_iadd h.x h.b hd (k H locs ls hP hD hS hl)
theorem g_isub (h : Cx Γ cc own rm Ts cl tys nl) {x y : Int32} (hd : decode cc pc = .ok (.isub, 1)) (k : G Γ kc ks N ad σ (pc + 1) L (.int (x - y) :: st)) : G Γ kc ks N ad σ pc L (.int y :: .int x :: st) := fun H locs ls hP hD hS hl => lv_isub h.x h.b hd (k H locs ls hP hD hS hl)
theorem g_imul (h : Cx Γ cc own rm Ts cl tys nl) {x y : Int32} (hd : decode cc pc = .ok (.imul, 1)) (k : G Γ kc ks N ad σ (pc + 1) L (.int (x * y) :: st)) : G Γ kc ks N ad σ pc L (.int y :: .int x :: st) := fun H locs ls hP hD hS hl => lv_imul h.x h.b hd (k H locs ls hP hD hS hl)
theorem g_iand (h : Cx Γ cc own rm Ts cl tys nl) {x y : Int32} (hd : decode cc pc = .ok (.iand, 1)) (k : G Γ kc ks N ad σ (pc + 1) L (.int (x &&& y) :: st)) : G Γ kc ks N ad σ pc L (.int y :: .int x :: st) := fun H locs ls hP hD hS hl => lv_iand h.x h.b hd (k H locs ls hP hD hS hl)
theorem g_ior (h : Cx Γ cc own rm Ts cl tys nl) {x y : Int32} (hd : decode cc pc = .ok (.ior, 1)) (k : G Γ kc ks N ad σ (pc + 1) L (.int (x ||| y) :: st)) : G Γ kc ks N ad σ pc L (.int y :: .int x :: st) := fun H locs ls hP hD hS hl => lv_ior h.x h.b hd (k H locs ls hP hD hS hl)
theorem g_ixor (h : Cx Γ cc own rm Ts cl tys nl) {x y : Int32} (hd : decode cc pc = .ok (.ixor, 1)) (k : G Γ kc ks N ad σ (pc + 1) L (.int (x ^^^ y) :: st)) : G Γ kc ks N ad σ pc L (.int y :: .int x :: st) := fun H locs ls hP hD hS hl => lv_ixor h.x h.b hd (k H locs ls hP hD hS hl)
theorem g_ladd (h : Cx Γ cc own rm Ts cl tys nl) {x y : Int64} (hd : decode cc pc = .ok (.ladd, 1)) (k : G Γ kc ks N ad σ (pc + 1) L (.long (x + y) :: st)) : G Γ kc ks N ad σ pc L (.long y :: .long x :: st) := fun H locs ls hP hD hS hl => lv_ladd h.x h.b hd (k H locs ls hP hD hS hl)
theorem g_lsub (h : Cx Γ cc own rm Ts cl tys nl) {x y : Int64} (hd : decode cc pc = .ok (.lsub, 1)) (k : G Γ kc ks N ad σ (pc + 1) L (.long (x - y) :: st)) : G Γ kc ks N ad σ pc L (.long y :: .long x :: st) := fun H locs ls hP hD hS hl => lv_lsub h.x h.b hd (k H locs ls hP hD hS hl)
theorem g_lmul (h : Cx Γ cc own rm Ts cl tys nl) {x y : Int64} (hd : decode cc pc = .ok (.lmul, 1)) (k : G Γ kc ks N ad σ (pc + 1) L (.long (x * y) :: st)) : G Γ kc ks N ad σ pc L (.long y :: .long x :: st) := fun H locs ls hP hD hS hl => lv_lmul h.x h.b hd (k H locs ls hP hD hS hl)
theorem g_idiv (h : Cx Γ cc own rm Ts cl tys nl) {x y : Int32} (hd : decode cc pc = .ok (.idiv, 1)) (hne : ¬ y = 0) (k : G Γ kc ks N ad σ (pc + 1) L (.int (x / y) :: st)) : G Γ kc ks N ad σ pc L (.int y :: .int x :: st) := fun H locs ls hP hD hS hl => lv_idiv h.x h.b hd hne (k H locs ls hP hD hS hl)
theorem g_irem (h : Cx Γ cc own rm Ts cl tys nl) {x y : Int32} (hd : decode cc pc = .ok (.irem, 1)) (hne : ¬ y = 0) (k : G Γ kc ks N ad σ (pc + 1) L (.int (x - x / y * y) :: st)) : G Γ kc ks N ad σ pc L (.int y :: .int x :: st) := fun H locs ls hP hD hS hl => lv_irem h.x h.b hd hne (k H locs ls hP hD hS hl)
theorem g_ineg (h : Cx Γ cc own rm Ts cl tys nl) {x : Int32} (hd : decode cc pc = .ok (.ineg, 1)) (k : G Γ kc ks N ad σ (pc + 1) L (.int (-x) :: st)) : G Γ kc ks N ad σ pc L (.int x :: st) := fun H locs ls hP hD hS hl => lv_ineg h.x h.b hd (k H locs ls hP hD hS hl)
theorem g_i2l (h : Cx Γ cc own rm Ts cl tys nl) {x : Int32} (hd : decode cc pc = .ok (.i2l, 1)) (k : G Γ kc ks N ad σ (pc + 1) L (.long x.toInt64 :: st)) : G Γ kc ks N ad σ pc L (.int x :: st) := fun H locs ls hP hD hS hl => lv_i2l h.x h.b hd rfl (k H locs ls hP hD hS hl)
theorem g_l2i (h : Cx Γ cc own rm Ts cl tys nl) {x : Int64} (hd : decode cc pc = .ok (.l2i, 1)) (k : G Γ kc ks N ad σ (pc + 1) L (.int x.toInt32 :: st)) : G Γ kc ks N ad σ pc L (.long x :: st) := fun H locs ls hP hD hS hl => lv_l2i h.x h.b hd rfl (k H locs ls hP hD hS hl)
theorem g_iconst (h : Cx Γ cc own rm Ts cl tys nl) {n : Int} {v : Int32} (hd : decode cc pc = .ok (.iconst n, 1)) (hv : Int32.ofInt n = v) (k : G Γ kc ks N ad σ (pc + 1) L (.int v :: st)) : G Γ kc ks N ad σ pc L (st) := fun H locs ls hP hD hS hl => lv_iconst h.x h.b hd hv (k H locs ls hP hD hS hl)
theorem g_bipush (h : Cx Γ cc own rm Ts cl tys nl) {n : Int} {v : Int32} (hd : decode cc pc = .ok (.bipush n, 2)) (hv : (Int8.ofInt n).toInt32 = v) (k : G Γ kc ks N ad σ (pc + 2) L (.int v :: st)) : G Γ kc ks N ad σ pc L (st) := fun H locs ls hP hD hS hl => lv_bipush h.x h.b hd hv (k H locs ls hP hD hS hl)
theorem g_sipush (h : Cx Γ cc own rm Ts cl tys nl) {n : Int} {v : Int32} (hd : decode cc pc = .ok (.sipush n, 3)) (hv : (Int16.ofInt n).toInt32 = v) (k : G Γ kc ks N ad σ (pc + 3) L (.int v :: st)) : G Γ kc ks N ad σ pc L (st) := fun H locs ls hP hD hS hl => lv_sipush h.x h.b hd hv (k H locs ls hP hD hS hl)
theorem g_lconst (h : Cx Γ cc own rm Ts cl tys nl) {n : Fin 2} {v : Int64} (hd : decode cc pc = .ok (.lconst n, 1)) (hv : Int64.ofNat (n : Nat) = v) (k : G Γ kc ks N ad σ (pc + 1) L (.long v :: st)) : G Γ kc ks N ad σ pc L (st) := fun H locs ls hP hD hS hl => lv_lconst h.x h.b hd hv (k H locs ls hP hD hS hl)
theorem g_ldc (h : Cx Γ cc own rm Ts cl tys nl) {index : Nat} {v : Int32} (hd : decode cc pc = .ok (.ldc index, 2)) (hw : Jvm.Cond.constant own index v ∈ Ts) (k : G Γ kc ks N ad σ (pc + 2) L (.int v :: st)) : G Γ kc ks N ad σ pc L (st) := fun H locs ls hP hD hS hl => lv_ldc h.x h.b h.ow (h.ts _ hw) hd (k H locs ls hP hD hS hl)
theorem g_ldc2 (h : Cx Γ cc own rm Ts cl tys nl) {index : Nat} {v : Int64} (hd : decode cc pc = .ok (.ldc2_w index, 3)) (hw : Jvm.Cond.constantLong own index v ∈ Ts) (k : G Γ kc ks N ad σ (pc + 3) L (.long v :: st)) : G Γ kc ks N ad σ pc L (st) := fun H locs ls hP hD hS hl => lv_ldc2 h.x h.b h.ow (h.ts _ hw) hd (k H locs ls hP hD hS hl)
theorem g_null (h : Cx Γ cc own rm Ts cl tys nl) (hd : decode cc pc = .ok (.aconst_null, 1)) (k : G Γ kc ks N ad σ (pc + 1) L (.null :: st)) : G Γ kc ks N ad σ pc L (st) := fun H locs ls hP hD hS hl => lv_null h.x h.b hd (k H locs ls hP hD hS hl)
theorem g_iload_n (h : Cx Γ cc own rm Ts cl tys nl) {k4 : Fin 4} {i : Nat} {x : Int32} (hd : decode cc pc = .ok (.iload_n k4, 1)) (hi : (k4 : Nat) = i) (hx : L[i]? = some (some (.int x))) (k : G Γ kc ks N ad σ (pc + 1) L (.int x :: st)) : G Γ kc ks N ad σ pc L (st) := fun H locs ls hP hD hS hl => lv_iload_n h.x h.b hd hi (hl.2.2 _ _ hx) (k H locs ls hP hD hS hl)
theorem g_iload (h : Cx Γ cc own rm Ts cl tys nl) {i : Nat} {x : Int32} (hd : decode cc pc = .ok (.iload i, 2)) (hx : L[i]? = some (some (.int x))) (k : G Γ kc ks N ad σ (pc + 2) L (.int x :: st)) : G Γ kc ks N ad σ pc L (st) := fun H locs ls hP hD hS hl => lv_iload h.x h.b hd (hl.2.2 _ _ hx) (k H locs ls hP hD hS hl)
theorem g_istore_n (h : Cx Γ cc own rm Ts cl tys nl) {k4 : Fin 4} {i : Nat} {x : Int32} (hd : decode cc pc = .ok (.istore_n k4, 1)) (hi : (k4 : Nat) = i) (ho : okS L i = true) (hn : i < gN Γ) (k : G Γ kc ks N ad σ (pc + 1) (L.set i (some (.int x))) st) : G Γ kc ks N ad σ pc L (.int x :: st) := fun H locs ls hP hD hS hl => lv_istore_n h.x h.b hd hi hl.lv hn rfl (fun ls2 h2 => k H locs ls2 hP hD hS (hasL_1 (ls := ls) ho h2))
theorem g_istore (h : Cx Γ cc own rm Ts cl tys nl) {i : Nat} {x : Int32} (hd : decode cc pc = .ok (.istore i, 2)) (ho : okS L i = true) (hn : i < gN Γ) (k : G Γ kc ks N ad σ (pc + 2) (L.set i (some (.int x))) st) : G Γ kc ks N ad σ pc L (.int x :: st) := fun H locs ls hP hD hS hl => lv_istore h.x h.b hd hl.lv hn rfl (fun ls2 h2 => k H locs ls2 hP hD hS (hasL_1 (ls := ls) ho h2))
theorem g_lload_n (h : Cx Γ cc own rm Ts cl tys nl) {k4 : Fin 4} {i : Nat} {x : Int64} (hd : decode cc pc = .ok (.lload_n k4, 1)) (hi : (k4 : Nat) = i) (hx : L[i]? = some (some (.long x))) (k : G Γ kc ks N ad σ (pc + 1) L (.long x :: st)) : G Γ kc ks N ad σ pc L (st) := fun H locs ls hP hD hS hl => lv_lload_n h.x h.b hd hi (hl.2.2 _ _ hx) (k H locs ls hP hD hS hl)
theorem g_lload (h : Cx Γ cc own rm Ts cl tys nl) {i : Nat} {x : Int64} (hd : decode cc pc = .ok (.lload i, 2)) (hx : L[i]? = some (some (.long x))) (k : G Γ kc ks N ad σ (pc + 2) L (.long x :: st)) : G Γ kc ks N ad σ pc L (st) := fun H locs ls hP hD hS hl => lv_lload h.x h.b hd (hl.2.2 _ _ hx) (k H locs ls hP hD hS hl)
theorem g_lstore_n (h : Cx Γ cc own rm Ts cl tys nl) {k4 : Fin 4} {i : Nat} {x : Int64} (hd : decode cc pc = .ok (.lstore_n k4, 1)) (hi : (k4 : Nat) = i) (ho : okS L i = true) (hn : i + 1 < gN Γ) (k : G Γ kc ks N ad σ (pc + 1) ((L.set i (some (.long x))).set (i + 1) none) st) : G Γ kc ks N ad σ pc L (.long x :: st) := fun H locs ls hP hD hS hl => lv_lstore_n h.x h.b hd hi hl.lv hn rfl (fun ls2 h2 => k H locs ls2 hP hD hS (hasL_2 (ls := ls) ho h2))
theorem g_lstore (h : Cx Γ cc own rm Ts cl tys nl) {i : Nat} {x : Int64} (hd : decode cc pc = .ok (.lstore i, 2)) (ho : okS L i = true) (hn : i + 1 < gN Γ) (k : G Γ kc ks N ad σ (pc + 2) ((L.set i (some (.long x))).set (i + 1) none) st) : G Γ kc ks N ad σ pc L (.long x :: st) := fun H locs ls hP hD hS hl => lv_lstore h.x h.b hd hl.lv hn rfl (fun ls2 h2 => k H locs ls2 hP hD hS (hasL_2 (ls := ls) ho h2))
theorem g_aload_n (h : Cx Γ cc own rm Ts cl tys nl) {k4 : Fin 4} {i : Nat} {x : Nat} (hd : decode cc pc = .ok (.aload_n k4, 1)) (hi : (k4 : Nat) = i) (hx : L[i]? = some (some (.ref x))) (k : G Γ kc ks N ad σ (pc + 1) L (.ref x :: st)) : G Γ kc ks N ad σ pc L (st) := fun H locs ls hP hD hS hl => lv_aload_n h.x h.b hd hi (hl.2.2 _ _ hx) (k H locs ls hP hD hS hl)
theorem g_aload (h : Cx Γ cc own rm Ts cl tys nl) {i : Nat} {x : Nat} (hd : decode cc pc = .ok (.aload i, 2)) (hx : L[i]? = some (some (.ref x))) (k : G Γ kc ks N ad σ (pc + 2) L (.ref x :: st)) : G Γ kc ks N ad σ pc L (st) := fun H locs ls hP hD hS hl => lv_aload h.x h.b hd (hl.2.2 _ _ hx) (k H locs ls hP hD hS hl)
theorem g_astore_n (h : Cx Γ cc own rm Ts cl tys nl) {k4 : Fin 4} {i : Nat} {x : Nat} (hd : decode cc pc = .ok (.astore_n k4, 1)) (hi : (k4 : Nat) = i) (ho : okS L i = true) (hn : i < gN Γ) (k : G Γ kc ks N ad σ (pc + 1) (L.set i (some (.ref x))) st) : G Γ kc ks N ad σ pc L (.ref x :: st) := fun H locs ls hP hD hS hl => lv_astore_n h.x h.b hd hi hl.lv hn rfl (fun ls2 h2 => k H locs ls2 hP hD hS (hasL_1 (ls := ls) ho h2))
theorem g_astore (h : Cx Γ cc own rm Ts cl tys nl) {i : Nat} {x : Nat} (hd : decode cc pc = .ok (.astore i, 2)) (ho : okS L i = true) (hn : i < gN Γ) (k : G Γ kc ks N ad σ (pc + 2) (L.set i (some (.ref x))) st) : G Γ kc ks N ad σ pc L (.ref x :: st) := fun H locs ls hP hD hS hl => lv_astore h.x h.b hd hl.lv hn rfl (fun ls2 h2 => k H locs ls2 hP hD hS (hasL_1 (ls := ls) ho h2))
theorem g_iinc (h : Cx Γ cc own rm Ts cl tys nl) {i : Nat} {n : Int} {x v : Int32} (hd : decode cc pc = .ok (.iinc i n, 3)) (hx : L[i]? = some (some (.int x))) (hv : x + Int32.ofInt n = v) (ho : okS L i = true) (hn : i < gN Γ) (k : G Γ kc ks N ad σ (pc + 3) (L.set i (some (.int v))) st) : G Γ kc ks N ad σ pc L st := fun H locs ls hP hD hS hl => by
  obtain ⟨j, hj⟩ := List.getElem?_of_mem (asL_in.mpr hx)
  exact lv_iinc h.x h.b hd hl.lv (k := j) hj hv hn rfl (fun ls2 h2 => k H locs ls2 hP hD hS (hasL_1 (ls := ls) ho h2))
theorem g_dup (h : Cx Γ cc own rm Ts cl tys nl) {v : Value} (hd : decode cc pc = .ok (.dup, 1)) (hv : v.category = 1) (k : G Γ kc ks N ad σ (pc + 1) L (v :: v :: st)) : G Γ kc ks N ad σ pc L (v :: st) := fun H locs ls hP hD hS hl => lv_dup h.x h.b hd hv (k H locs ls hP hD hS hl)
theorem g_pop (h : Cx Γ cc own rm Ts cl tys nl) {v : Value} (hd : decode cc pc = .ok (.pop, 1)) (hv : v.category = 1) (k : G Γ kc ks N ad σ (pc + 1) L (st)) : G Γ kc ks N ad σ pc L (v :: st) := fun H locs ls hP hD hS hl => lv_pop h.x h.b hd hv (k H locs ls hP hD hS hl)
theorem g_pop2 (h : Cx Γ cc own rm Ts cl tys nl) {v : Value} (hd : decode cc pc = .ok (.pop2, 1)) (hv : v.category = 2) (k : G Γ kc ks N ad σ (pc + 1) L (st)) : G Γ kc ks N ad σ pc L (v :: st) := fun H locs ls hP hD hS hl => lv_pop2_2 h.x h.b hd hv (k H locs ls hP hD hS hl)
theorem g_dup_x1 (h : Cx Γ cc own rm Ts cl tys nl) {v u : Value} (hd : decode cc pc = .ok (.dup_x1, 1)) (hv : v.category = 1) (hu : u.category = 1) (k : G Γ kc ks N ad σ (pc + 1) L (v :: u :: v :: st)) : G Γ kc ks N ad σ pc L (v :: u :: st) := fun H locs ls hP hD hS hl => lv_dup_x1 h.x h.b hd hv hu (k H locs ls hP hD hS hl)
theorem g_dup2 (h : Cx Γ cc own rm Ts cl tys nl) {v u : Value} (hd : decode cc pc = .ok (.dup2, 1)) (hv : v.category = 1) (hu : u.category = 1) (k : G Γ kc ks N ad σ (pc + 1) L (v :: u :: v :: u :: st)) : G Γ kc ks N ad σ pc L (v :: u :: st) := fun H locs ls hP hD hS hl => lv_dup2_11 h.x h.b hd hv hu (k H locs ls hP hD hS hl)
theorem g_dup2l (h : Cx Γ cc own rm Ts cl tys nl) {v : Value} (hd : decode cc pc = .ok (.dup2, 1)) (hv : v.category = 2) (k : G Γ kc ks N ad σ (pc + 1) L (v :: v :: st)) : G Γ kc ks N ad σ pc L (v :: st) := fun H locs ls hP hD hS hl => lv_dup2_2 h.x h.b hd hv (k H locs ls hP hD hS hl)
theorem g_dup2_x1 (h : Cx Γ cc own rm Ts cl tys nl) {v u : Value} (hd : decode cc pc = .ok (.dup2_x1, 1)) (hv : v.category = 2) (hu : u.category = 1) (k : G Γ kc ks N ad σ (pc + 1) L (v :: u :: v :: st)) : G Γ kc ks N ad σ pc L (v :: u :: st) := fun H locs ls hP hD hS hl => lv_dup2_x1_2 h.x h.b hd hv hu (k H locs ls hP hD hS hl)
theorem g_if_eq (h : Cx Γ cc own rm Ts cl tys nl) {x : Int32} {off : Int} {tgt : Nat} (hd : decode cc pc = .ok (.ifCond .eq off, 3)) (ht : (pc : Int) + off = (tgt : Int)) (kt : x = 0 → G Γ kc ks N ad σ tgt L st) (kf : ¬ x = 0 → G Γ kc ks N ad σ (pc + 3) L st) : G Γ kc ks N ad σ pc L (.int x :: st) := fun H locs ls hP hD hS hl => lv_if_eq h.x h.b hd ht (fun q => kt q H locs ls hP hD hS hl) (fun q => kf (q) H locs ls hP hD hS hl)
theorem g_icmp_eq (h : Cx Γ cc own rm Ts cl tys nl) {x y : Int32} {off : Int} {tgt : Nat} (hd : decode cc pc = .ok (.if_icmp .eq off, 3)) (ht : (pc : Int) + off = (tgt : Int)) (kt : x = y → G Γ kc ks N ad σ tgt L st) (kf : ¬ x = y → G Γ kc ks N ad σ (pc + 3) L st) : G Γ kc ks N ad σ pc L (.int y :: .int x :: st) := fun H locs ls hP hD hS hl => lv_icmp_eq h.x h.b hd ht (fun q => kt q H locs ls hP hD hS hl) (fun q => kf (q) H locs ls hP hD hS hl)
theorem g_if_ne (h : Cx Γ cc own rm Ts cl tys nl) {x : Int32} {off : Int} {tgt : Nat} (hd : decode cc pc = .ok (.ifCond .ne off, 3)) (ht : (pc : Int) + off = (tgt : Int)) (kt : ¬ x = 0 → G Γ kc ks N ad σ tgt L st) (kf : x = 0 → G Γ kc ks N ad σ (pc + 3) L st) : G Γ kc ks N ad σ pc L (.int x :: st) := fun H locs ls hP hD hS hl => lv_if_ne h.x h.b hd ht (fun q => kt q H locs ls hP hD hS hl) (fun q => kf (q) H locs ls hP hD hS hl)
theorem g_icmp_ne (h : Cx Γ cc own rm Ts cl tys nl) {x y : Int32} {off : Int} {tgt : Nat} (hd : decode cc pc = .ok (.if_icmp .ne off, 3)) (ht : (pc : Int) + off = (tgt : Int)) (kt : ¬ x = y → G Γ kc ks N ad σ tgt L st) (kf : x = y → G Γ kc ks N ad σ (pc + 3) L st) : G Γ kc ks N ad σ pc L (.int y :: .int x :: st) := fun H locs ls hP hD hS hl => lv_icmp_ne h.x h.b hd ht (fun q => kt q H locs ls hP hD hS hl) (fun q => kf (q) H locs ls hP hD hS hl)
theorem g_if_lt (h : Cx Γ cc own rm Ts cl tys nl) {x : Int32} {off : Int} {tgt : Nat} (hd : decode cc pc = .ok (.ifCond .lt off, 3)) (ht : (pc : Int) + off = (tgt : Int)) (kt : x < 0 → G Γ kc ks N ad σ tgt L st) (kf : ¬ x < 0 → G Γ kc ks N ad σ (pc + 3) L st) : G Γ kc ks N ad σ pc L (.int x :: st) := fun H locs ls hP hD hS hl => lv_if_lt h.x h.b hd ht (fun q => kt q H locs ls hP hD hS hl) (fun q => kf (q) H locs ls hP hD hS hl)
theorem g_icmp_lt (h : Cx Γ cc own rm Ts cl tys nl) {x y : Int32} {off : Int} {tgt : Nat} (hd : decode cc pc = .ok (.if_icmp .lt off, 3)) (ht : (pc : Int) + off = (tgt : Int)) (kt : x < y → G Γ kc ks N ad σ tgt L st) (kf : ¬ x < y → G Γ kc ks N ad σ (pc + 3) L st) : G Γ kc ks N ad σ pc L (.int y :: .int x :: st) := fun H locs ls hP hD hS hl => lv_icmp_lt h.x h.b hd ht (fun q => kt q H locs ls hP hD hS hl) (fun q => kf (q) H locs ls hP hD hS hl)
theorem g_if_ge (h : Cx Γ cc own rm Ts cl tys nl) {x : Int32} {off : Int} {tgt : Nat} (hd : decode cc pc = .ok (.ifCond .ge off, 3)) (ht : (pc : Int) + off = (tgt : Int)) (kt : 0 ≤ x → G Γ kc ks N ad σ tgt L st) (kf : ¬ 0 ≤ x → G Γ kc ks N ad σ (pc + 3) L st) : G Γ kc ks N ad σ pc L (.int x :: st) := fun H locs ls hP hD hS hl => lv_if_ge h.x h.b hd ht (fun q => kt q H locs ls hP hD hS hl) (fun q => kf (q) H locs ls hP hD hS hl)
theorem g_icmp_ge (h : Cx Γ cc own rm Ts cl tys nl) {x y : Int32} {off : Int} {tgt : Nat} (hd : decode cc pc = .ok (.if_icmp .ge off, 3)) (ht : (pc : Int) + off = (tgt : Int)) (kt : y ≤ x → G Γ kc ks N ad σ tgt L st) (kf : ¬ y ≤ x → G Γ kc ks N ad σ (pc + 3) L st) : G Γ kc ks N ad σ pc L (.int y :: .int x :: st) := fun H locs ls hP hD hS hl => lv_icmp_ge h.x h.b hd ht (fun q => kt q H locs ls hP hD hS hl) (fun q => kf (q) H locs ls hP hD hS hl)
theorem g_if_gt (h : Cx Γ cc own rm Ts cl tys nl) {x : Int32} {off : Int} {tgt : Nat} (hd : decode cc pc = .ok (.ifCond .gt off, 3)) (ht : (pc : Int) + off = (tgt : Int)) (kt : 0 < x → G Γ kc ks N ad σ tgt L st) (kf : ¬ 0 < x → G Γ kc ks N ad σ (pc + 3) L st) : G Γ kc ks N ad σ pc L (.int x :: st) := fun H locs ls hP hD hS hl => lv_if_gt h.x h.b hd ht (fun q => kt q H locs ls hP hD hS hl) (fun q => kf (q) H locs ls hP hD hS hl)
theorem g_icmp_gt (h : Cx Γ cc own rm Ts cl tys nl) {x y : Int32} {off : Int} {tgt : Nat} (hd : decode cc pc = .ok (.if_icmp .gt off, 3)) (ht : (pc : Int) + off = (tgt : Int)) (kt : y < x → G Γ kc ks N ad σ tgt L st) (kf : ¬ y < x → G Γ kc ks N ad σ (pc + 3) L st) : G Γ kc ks N ad σ pc L (.int y :: .int x :: st) := fun H locs ls hP hD hS hl => lv_icmp_gt h.x h.b hd ht (fun q => kt q H locs ls hP hD hS hl) (fun q => kf (q) H locs ls hP hD hS hl)
theorem g_if_le (h : Cx Γ cc own rm Ts cl tys nl) {x : Int32} {off : Int} {tgt : Nat} (hd : decode cc pc = .ok (.ifCond .le off, 3)) (ht : (pc : Int) + off = (tgt : Int)) (kt : x ≤ 0 → G Γ kc ks N ad σ tgt L st) (kf : ¬ x ≤ 0 → G Γ kc ks N ad σ (pc + 3) L st) : G Γ kc ks N ad σ pc L (.int x :: st) := fun H locs ls hP hD hS hl => lv_if_le h.x h.b hd ht (fun q => kt q H locs ls hP hD hS hl) (fun q => kf (q) H locs ls hP hD hS hl)
theorem g_icmp_le (h : Cx Γ cc own rm Ts cl tys nl) {x y : Int32} {off : Int} {tgt : Nat} (hd : decode cc pc = .ok (.if_icmp .le off, 3)) (ht : (pc : Int) + off = (tgt : Int)) (kt : x ≤ y → G Γ kc ks N ad σ tgt L st) (kf : ¬ x ≤ y → G Γ kc ks N ad σ (pc + 3) L st) : G Γ kc ks N ad σ pc L (.int y :: .int x :: st) := fun H locs ls hP hD hS hl => lv_icmp_le h.x h.b hd ht (fun q => kt q H locs ls hP hD hS hl) (fun q => kf (q) H locs ls hP hD hS hl)
theorem g_goto (h : Cx Γ cc own rm Ts cl tys nl) {off : Int} {tgt : Nat} (hd : decode cc pc = .ok (.goto off, 3)) (ht : (pc : Int) + off = (tgt : Int)) (k : G Γ kc ks N ad σ tgt L st) : G Γ kc ks N ad σ pc L st := fun H locs ls hP hD hS hl => lv_goto h.x h.b hd ht (k H locs ls hP hD hS hl)
theorem g_lcmp (h : Cx Γ cc own rm Ts cl tys nl) {x y : Int64} (hd : decode cc pc = .ok (.lcmp, 1)) (k : G Γ kc ks N ad σ (pc + 1) L (.int (lg_cmp x y) :: st)) : G Γ kc ks N ad σ pc L (.long y :: .long x :: st) := fun H locs ls hP hD hS hl => W.lcmp h.x h.b hd (k H locs ls hP hD hS hl)
theorem lc_eq (x y : Int64) : lg_cmp x y = 0 ↔ x = y := by
  unfold lg_cmp
  split
  · rename_i q
    exact ⟨fun z => absurd z (by decide), fun z => by subst z; exact absurd q (Int64.lt_irrefl)⟩
  · split
    · rename_i q; exact ⟨fun _ => q, fun _ => rfl⟩
    · rename_i q; exact ⟨fun z => absurd z (by decide), fun z => absurd z q⟩
theorem lc_lt (x y : Int64) : lg_cmp x y < 0 ↔ x < y := by
  unfold lg_cmp
  split
  · rename_i q
    exact ⟨fun z => absurd z (by decide), fun z => absurd q (Int64.not_lt.mpr (Int64.le_of_lt z))⟩
  · rename_i q
    split
    · rename_i q2; subst q2; exact ⟨fun z => absurd z (by decide), fun z => absurd z Int64.lt_irrefl⟩
    · rename_i q2
      refine ⟨fun _ => ?_, fun _ => by decide⟩
      exact Int64.lt_of_le_of_ne (Int64.not_lt.mp q) q2
theorem lc_gt (x y : Int64) : 0 < lg_cmp x y ↔ y < x := by
  unfold lg_cmp
  split
  · rename_i q; exact ⟨fun _ => q, fun _ => by decide⟩
  · rename_i q
    split
    · exact ⟨fun z => absurd z (by decide), fun z => absurd z q⟩
    · exact ⟨fun z => absurd z (by decide), fun z => absurd z q⟩
theorem g_lc_eq (h : Cx Γ cc own rm Ts cl tys nl) {x y : Int64} {off : Int} {tgt : Nat} (hd : decode cc pc = .ok (.lcmp, 1)) (hd2 : decode cc (pc + 1) = .ok (.ifCond .eq off, 3)) (ht : ((pc + 1 : Nat) : Int) + off = (tgt : Int)) (kt : x = y → G Γ kc ks N ad σ tgt L st) (kf : ¬ x = y → G Γ kc ks N ad σ (pc + 1 + 3) L st) : G Γ kc ks N ad σ pc L (.long y :: .long x :: st) := g_lcmp h hd (g_if_eq h hd2 ht (fun q => kt ((lc_eq x y).mp q)) (fun q => kf (fun z => q ((lc_eq x y).mpr z))))
theorem g_lc_ne (h : Cx Γ cc own rm Ts cl tys nl) {x y : Int64} {off : Int} {tgt : Nat} (hd : decode cc pc = .ok (.lcmp, 1)) (hd2 : decode cc (pc + 1) = .ok (.ifCond .ne off, 3)) (ht : ((pc + 1 : Nat) : Int) + off = (tgt : Int)) (kt : ¬ x = y → G Γ kc ks N ad σ tgt L st) (kf : x = y → G Γ kc ks N ad σ (pc + 1 + 3) L st) : G Γ kc ks N ad σ pc L (.long y :: .long x :: st) := g_lcmp h hd (g_if_ne h hd2 ht (fun q => kt (fun z => q ((lc_eq x y).mpr z))) (fun q => kf ((lc_eq x y).mp q)))
theorem g_lc_lt (h : Cx Γ cc own rm Ts cl tys nl) {x y : Int64} {off : Int} {tgt : Nat} (hd : decode cc pc = .ok (.lcmp, 1)) (hd2 : decode cc (pc + 1) = .ok (.ifCond .lt off, 3)) (ht : ((pc + 1 : Nat) : Int) + off = (tgt : Int)) (kt : x < y → G Γ kc ks N ad σ tgt L st) (kf : ¬ x < y → G Γ kc ks N ad σ (pc + 1 + 3) L st) : G Γ kc ks N ad σ pc L (.long y :: .long x :: st) := g_lcmp h hd (g_if_lt h hd2 ht (fun q => kt ((lc_lt x y).mp q)) (fun q => kf (fun z => q ((lc_lt x y).mpr z))))
theorem g_lc_ge (h : Cx Γ cc own rm Ts cl tys nl) {x y : Int64} {off : Int} {tgt : Nat} (hd : decode cc pc = .ok (.lcmp, 1)) (hd2 : decode cc (pc + 1) = .ok (.ifCond .ge off, 3)) (ht : ((pc + 1 : Nat) : Int) + off = (tgt : Int)) (kt : y ≤ x → G Γ kc ks N ad σ tgt L st) (kf : ¬ y ≤ x → G Γ kc ks N ad σ (pc + 1 + 3) L st) : G Γ kc ks N ad σ pc L (.long y :: .long x :: st) := g_lcmp h hd (g_if_ge h hd2 ht (fun q => kt (Int64.not_lt.mp (fun z => Int32.not_lt.mpr q ((lc_lt x y).mpr z)))) (fun q => kf (fun z => q (Int32.not_lt.mp (fun y2 => Int64.not_lt.mpr z ((lc_lt x y).mp y2))))))
theorem g_lc_gt (h : Cx Γ cc own rm Ts cl tys nl) {x y : Int64} {off : Int} {tgt : Nat} (hd : decode cc pc = .ok (.lcmp, 1)) (hd2 : decode cc (pc + 1) = .ok (.ifCond .gt off, 3)) (ht : ((pc + 1 : Nat) : Int) + off = (tgt : Int)) (kt : y < x → G Γ kc ks N ad σ tgt L st) (kf : ¬ y < x → G Γ kc ks N ad σ (pc + 1 + 3) L st) : G Γ kc ks N ad σ pc L (.long y :: .long x :: st) := g_lcmp h hd (g_if_gt h hd2 ht (fun q => kt ((lc_gt x y).mp q)) (fun q => kf (fun z => q ((lc_gt x y).mpr z))))
theorem g_lc_le (h : Cx Γ cc own rm Ts cl tys nl) {x y : Int64} {off : Int} {tgt : Nat} (hd : decode cc pc = .ok (.lcmp, 1)) (hd2 : decode cc (pc + 1) = .ok (.ifCond .le off, 3)) (ht : ((pc + 1 : Nat) : Int) + off = (tgt : Int)) (kt : x ≤ y → G Γ kc ks N ad σ tgt L st) (kf : ¬ x ≤ y → G Γ kc ks N ad σ (pc + 1 + 3) L st) : G Γ kc ks N ad σ pc L (.long y :: .long x :: st) := g_lcmp h hd (g_if_le h hd2 ht (fun q => kt (Int64.not_lt.mp (fun z => Int32.not_lt.mpr q ((lc_gt x y).mpr z)))) (fun q => kf (fun z => q (Int32.not_lt.mp (fun y2 => Int64.not_lt.mpr z ((lc_gt x y).mp y2))))))
theorem g_tableIn (h : Cx Γ cc own rm Ts cl tys nl) {dflt lo hi : Int} {offs : Array Int} {len : Nat} {x : Int32} {off : Int} {tgt : Nat} (hd : decode cc pc = .ok (.tableswitch dflt lo hi offs, len)) (h1 : ¬ x.toInt < lo) (h2 : ¬ hi < x.toInt) (ho : offs[(x.toInt - lo).toNat]? = some off) (ht : (pc : Int) + off = (tgt : Int)) (k : G Γ kc ks N ad σ tgt L st) : G Γ kc ks N ad σ pc L (.int x :: st) := fun H locs ls hP hD hS hl => lv_tableIn h.x h.b hd h1 h2 ho ht (k H locs ls hP hD hS hl)
theorem g_tableOut (h : Cx Γ cc own rm Ts cl tys nl) {dflt lo hi : Int} {offs : Array Int} {len : Nat} {x : Int32} {tgt : Nat} (hd : decode cc pc = .ok (.tableswitch dflt lo hi offs, len)) (h1 : x.toInt < lo ∨ hi < x.toInt) (ht : (pc : Int) + dflt = (tgt : Int)) (k : G Γ kc ks N ad σ tgt L st) : G Γ kc ks N ad σ pc L (.int x :: st) := fun H locs ls hP hD hS hl => lv_tableOut h.x h.b hd h1 ht (k H locs ls hP hD hS hl)
theorem g_lookup (h : Cx Γ cc own rm Ts cl tys nl) {dflt : Int} {ps : Array (Int × Int)} {len : Nat} {x : Int32} {off : Int} {tgt : Nat} (hd : decode cc pc = .ok (.lookupswitch dflt ps, len)) (hp : (ps.toList.zip (ps.toList.drop 1)).all (fun (a, next) => a.1 < next.1) = true) (ho : Op.lookupswitch.offset ps.toList dflt x.toInt = off) (ht : (pc : Int) + off = (tgt : Int)) (k : G Γ kc ks N ad σ tgt L st) : G Γ kc ks N ad σ pc L (.int x :: st) := fun H locs ls hP hD hS hl => lv_lookup h.x h.b hd hp ho ht (k H locs ls hP hD hS hl)
theorem gl_he {q : Nat} {e : va_E} (hq : q < N) (he : σ q = e) : (gl N ad σ)[q]? = some (ad q, e) := by rw [gl_at hq, he]
theorem g_get (h : Cx Γ cc own rm Ts cl tys nl) {C : String} {T : u_T} {n ci index : Nat} {fs : List Value} (hin : ∀ w ∈ u_ws C T n, w ∈ Ts) (q : Nat) (hq : q < N) (he : σ q = .inr (ci, fs)) (hc : cl[ci]? = some (C, T, n)) (j : Nat) (hj : j < n) (hlink : Cond.fieldLink own index (T j).1 (T j).2.1 (T j).2.2.1 ∈ Ts) {v : Value} (hv : fs[j]? = some v) (hd : decode cc pc = .ok (.getfield index, 3)) (k : G Γ kc ks N ad σ (pc + 3) L (v :: st)) : G Γ kc ks N ad σ pc L (.ref (ad q) :: st) := fun H locs ls hP hD hS hl => va_get h.x h.b h.ts hin h.ow h.K hP q (gl_he hq he) (by rw [h.cL]; exact hc) j hj (h.ts _ hlink) (fun _ z => z) hv hd (k H locs ls hP hD hS hl)
theorem g_put (h : Cx Γ cc own rm Ts cl tys nl) {C : String} {T : u_T} {n ci index : Nat} {fs : List Value} (hin : ∀ w ∈ u_ws C T n, w ∈ Ts) (q : Nat) (hq : q < N) (he : σ q = .inr (ci, fs)) (hc : cl[ci]? = some (C, T, n)) (j : Nat) (hj : j < n) (ty0 : Nat → FieldType) (hty : ∀ k, k < n → parseFieldDescriptor (T k).2.2.1 = some (ty0 k)) (hnm : ∀ a, a < n → ∀ b, b < n → a ≠ b → (T a).2.1 ≠ (T b).2.1) (hlink : Cond.fieldLink own index (T j).1 (T j).2.1 (T j).2.2.1 ∈ Ts) (hfin : (T j).2.2.2 = false) {v : Value} (hn : narrow (ty0 j) v = v) (hfit : fits (ty0 j) v = true) (hl0 : j < fs.length) (hd : decode cc pc = .ok (.putfield index, 3)) (k : G Γ kc ks N ad (va_up σ q (.inr (ci, fs.set j v))) (pc + 3) L st) : G Γ kc ks N ad σ pc L (v :: .ref (ad q) :: st) := fun H locs ls hP hD hS hl => va_put h.x h.b h.ts hin ty0 hty hnm h.ow h.K hP hD hS q (gl_he hq he) (by rw [h.cL]; exact hc) j hj (h.ts _ hlink) (fun _ z => z) hfin (hty j hj) hn hfit hl0 hd (fun H1 locs1 hP hD hS => by rw [gl_set hq] at hP hD; exact k H1 locs1 ls hP hD hS hl)
theorem g_putF (h : Cx Γ cc own rm Ts cl tys nl) {C : String} {T : u_T} {n ci index : Nat} {fs : List Value} (hin : ∀ w ∈ u_ws C T n, w ∈ Ts) (q : Nat) (hq : q < N) (he : σ q = .inr (ci, fs)) (hc : cl[ci]? = some (C, T, n)) (j : Nat) (hj : j < n) (ty0 : Nat → FieldType) (hty : ∀ k, k < n → parseFieldDescriptor (T k).2.2.1 = some (ty0 k)) (hnm : ∀ a, a < n → ∀ b, b < n → a ≠ b → (T a).2.1 ≠ (T b).2.1) (hlink : Cond.fieldLink own index (T j).1 (T j).2.1 (T j).2.2.1 ∈ Ts) (hfin : (T j).2.2.2 = true) (hini : (gM Γ).name = "<init>") (hdecl : (T j).1 = own) {v : Value} (hn : narrow (ty0 j) v = v) (hfit : fits (ty0 j) v = true) (hl0 : j < fs.length) (hd : decode cc pc = .ok (.putfield index, 3)) (k : G Γ kc ks N ad (va_up σ q (.inr (ci, fs.set j v))) (pc + 3) L st) : G Γ kc ks N ad σ pc L (v :: .ref (ad q) :: st) := fun H locs ls hP hD hS hl => va_putF h.x h.b h.ts hin ty0 hty hnm h.ow h.K hP hD hS q (gl_he hq he) (by rw [h.cL]; exact hc) j hj (h.ts _ hlink) (fun _ z => z) hfin hini hdecl (hty j hj) hn hfit hl0 hd (fun H1 locs1 hP hD hS => by rw [gl_set hq] at hP hD; exact k H1 locs1 ls hP hD hS hl)
theorem g_laload (h : Cx Γ cc own rm Ts cl tys nl) (q t0 : Nat) (hq : q < N) {cA : ClassId} {n : Nat} {f : Nat → Int64} (he : σ q = .inl (cA, n, .inr (.inl f))) (ht : tys[t0]? = some (cA, .long)) {i : Int32} (hi : vp_in i n) (hd : decode cc pc = .ok (.laload, 1)) (k : G Γ kc ks N ad σ (pc + 1) L (.long (f i.toNatClampNeg) :: st)) : G Γ kc ks N ad σ pc L (.int i :: .ref (ad q) :: st) := fun H locs ls hP hD hS hl => va_lald h.x h.b h.K hP q t0 (gl_he hq he) ht hi hd (k H locs ls hP hD hS hl)
theorem g_iaload (h : Cx Γ cc own rm Ts cl tys nl) (q t0 : Nat) (hq : q < N) {cA : ClassId} {n : Nat} {f : Nat → Int32} (he : σ q = .inl (cA, n, .inl f)) (ht : tys[t0]? = some (cA, .int)) {i : Int32} (hi : vp_in i n) (hd : decode cc pc = .ok (.iaload, 1)) (k : G Γ kc ks N ad σ (pc + 1) L (.int (f i.toNatClampNeg) :: st)) : G Γ kc ks N ad σ pc L (.int i :: .ref (ad q) :: st) := fun H locs ls hP hD hS hl => va_iald h.x h.b h.K hP q t0 (gl_he hq he) ht hi hd (k H locs ls hP hD hS hl)
theorem g_aaload (h : Cx Γ cc own rm Ts cl tys nl) (q t0 : Nat) (hq : q < N) {cA : ClassId} {C : String} {n : Nat} {f : Nat → Option Nat} (he : σ q = .inl (cA, n, .inr (.inr (.inr (.inr f))))) (ht : tys[t0]? = some (cA, .object C)) {i : Int32} (hi : vp_in i n) (hd : decode cc pc = .ok (.aaload, 1)) (k : G Γ kc ks N ad σ (pc + 1) L (va_rf (f i.toNatClampNeg) :: st)) : G Γ kc ks N ad σ pc L (.int i :: .ref (ad q) :: st) := fun H locs ls hP hD hS hl => va_aldq h.x h.b h.K hP q t0 (gl_he hq he) ht hi hd (k H locs ls hP hD hS hl)
theorem g_lastore (h : Cx Γ cc own rm Ts cl tys nl) (q t0 : Nat) (hq : q < N) {cA : ClassId} {n : Nat} {f : Nat → Int64} (he : σ q = .inl (cA, n, .inr (.inl f))) (ht : tys[t0]? = some (cA, .long)) {i : Int32} {x : Int64} (hi : vp_in i n) (hd : decode cc pc = .ok (.lastore, 1)) (k : G Γ kc ks N ad (va_up σ q (.inl (cA, n, .inr (.inl (vp_updL f i.toNatClampNeg x))))) (pc + 1) L st) : G Γ kc ks N ad σ pc L (.long x :: .int i :: .ref (ad q) :: st) := fun H locs ls hP hD hS hl => va_last h.x h.b h.K hP hD hS q t0 (gl_he hq he) ht hi hd (fun H1 locs1 hP hD hS => by rw [gl_set hq] at hP hD; exact k H1 locs1 ls hP hD hS hl)
theorem g_iastore (h : Cx Γ cc own rm Ts cl tys nl) (q t0 : Nat) (hq : q < N) {cA : ClassId} {n : Nat} {f : Nat → Int32} (he : σ q = .inl (cA, n, .inl f)) (ht : tys[t0]? = some (cA, .int)) {i : Int32} {x : Int32} (hi : vp_in i n) (hd : decode cc pc = .ok (.iastore, 1)) (k : G Γ kc ks N ad (va_up σ q (.inl (cA, n, .inl (upd f i.toNatClampNeg x)))) (pc + 1) L st) : G Γ kc ks N ad σ pc L (.int x :: .int i :: .ref (ad q) :: st) := fun H locs ls hP hD hS hl => va_iast h.x h.b h.K hP hD hS q t0 (gl_he hq he) ht hi hd (fun H1 locs1 hP hD hS => by rw [gl_set hq] at hP hD; exact k H1 locs1 ls hP hD hS hl)
theorem g_aastore (h : Cx Γ cc own rm Ts cl tys nl) (q t0 qk : Nat) {ci : Nat} {r : vw_C} (hq : q < N) (hqk : qk < N) {cA : ClassId} {n : Nat} {vs : List Value} {f : Nat → Option Nat} (he : σ q = .inl (cA, n, .inr (.inr (.inr (.inr f))))) (ht : tys[t0]? = some (cA, .object r.1)) (hv : σ qk = .inr (ci, vs)) (hc : cl[ci]? = some r) {i : Int32} (hi : vp_in i n) (hd : decode cc pc = .ok (.aastore, 1)) (k : G Γ kc ks N ad (va_up σ q (.inl (cA, n, .inr (.inr (.inr (.inr (va_up f i.toNatClampNeg (some (ad qk))))))))) (pc + 1) L st) : G Γ kc ks N ad σ pc L (.ref (ad qk) :: .int i :: .ref (ad q) :: st) := fun H locs ls hP hD hS hl => va_astq h.x h.b h.K hP hD hS q t0 qk ci (gl_he hq he) ht (gl_he hqk hv) (by rw [h.cL]; exact hc) hi hd (fun H1 locs1 hP hD hS => by rw [gl_set hq] at hP hD; exact k H1 locs1 ls hP hD hS hl)
theorem g_alen (h : Cx Γ cc own rm Ts cl tys nl) (q t0 : Nat) (hq : q < N) {cA : ClassId} {x : vp_A} (he : σ q = .inl (cA, x)) {ty : FieldType} (ht : tys[t0]? = some (cA, ty)) {v : Int32} (hv : Int32.ofNat x.1 = v) (hd : decode cc pc = .ok (.arraylength, 1)) (k : G Γ kc ks N ad σ (pc + 1) L (.int v :: st)) : G Γ kc ks N ad σ pc L (.ref (ad q) :: st) := fun H locs ls hP hD hS hl => va_alen h.x h.b h.K hP q t0 (gl_he hq he) ht hv hd (k H locs ls hP hD hS hl)
end Rows
/-- the bundle, later and for fewer cells -/
theorem EX.next {D : va_G} {cl : List vw_C} {tys : List (ClassId × FieldType)} {nl : List (String × Nat × MethodName × String)} {A B : Nat → Prop} {s U : State} {H : Heap} {locs : List Loc} (h : EX D cl tys nl A s s.heap) (hW : s.WarmedH U.vm) (hS : va_S A s.heap H locs) (hAB : ∀ q, B q → A q) (hU : U.heap = H) : EX D cl tys nl B U U.heap := by
  obtain ⟨h1, h2, h3, h4⟩ := h
  refine ⟨va_K.moved hW.alike h1, fun q hq => va_Nw.warmM hW (h2 q hq), ?_, ?_⟩
  · rw [hU]; exact zq.narrow (zq.moved hW.alike (h3.kept hS.2.1)) hAB
  · rw [hU]; exact zq.narrow (zq.moved hW.alike (h4.kept hS.2.1)) hAB
theorem EX.blind {D : va_G} {cl : List vw_C} {tys : List (ClassId × FieldType)} {nl : List (String × Nat × MethodName × String)} {A : Nat → Prop} {U : State} {H : Heap} {g : JFrame} {mk : MethodId} {a : Array Value} (h : EX D cl tys nl A U H) : EX D cl tys nl A (U.calling g mk a) H := by
  obtain ⟨h1, h2, h3, h4⟩ := h
  exact ⟨va_K.moved (u := U) (U := U.calling g mk a) (Vm.Alike.refl U.vm) h1, fun q hq => va_Nw.same rfl (u := U) (U := U.calling g mk a) rfl (h2 q hq), zq.moved (u := U) (U := U.calling g mk a) (Vm.Alike.refl U.vm) h3, zq.moved (u := U) (U := U.calling g mk a) (Vm.Alike.refl U.vm) h4⟩
/-! contracts: a method of the world: from σ with the arguments As it returns v and leaves σ2, Rr v σ2 -/
def cPc (D : va_G) (cl : List vw_C) (tys : List (ClassId × FieldType)) (nl : List (String × Nat × MethodName × String)) (N : Nat) (ad : Nat → Nat) (σ : Nat → va_E) (sz : Nat) (As : List Value) : Array Value → State → Prop := va_Pc As (fun U => U.heap.size = sz ∧ va_P D cl (gl N ad σ) U.heap ∧ EX D cl tys nl (va_A (gl N ad σ) sz) U U.heap ∧ va_D (fun _ => True) (gl N ad σ))
def cQc (D : va_G) (cl : List vw_C) (N : Nat) (ad : Nat → Nat) (A : Nat → Prop) (Rr : Option Value → (Nat → va_E) → Prop) : Array Value → State → Outcome → State → Prop := fun _ st oc t => (∃ (v : Option Value) (σ2 : Nat → va_E), oc = .returned v ∧ Rr v σ2 ∧ va_P D cl (gl N ad σ2) t.heap ∧ va_D A (gl N ad σ2)) ∧ va_F A st t
/-- the contract of a method that makes nothing -/
def Ct (l : Launch) (D : va_G) (cl : List vw_C) (tys : List (ClassId × FieldType)) (nl : List (String × Nat × MethodName × String)) (N : Nat) (ad : Nat → Nat) (y : MethodName) (ws : List Cond) (rm : Room) (As : List Value) (σ : Nat → va_E) (Rr : Option Value → (Nat → va_E) → Prop) : Prop :=
  ∀ sz : Nat, Met l y ws rm (cPc D cl tys nl N ad σ sz As) (cQc D cl N ad (va_A (gl N ad σ) sz) Rr) 0 0 (va_A (gl N ad σ) sz)
/-- what a walk's end must be -/
def Rx (Γ : GT) (N : Nat) (ad : Nat → Nat) (ret : Option FieldType) (Rr : Option Value → (Nat → va_E) → Prop) (kc ks : Nat) : Prop :=
  (gM Γ).sig.returnType = ret ∧ (gM Γ).locks = false ∧ gZ Γ = MQ (gb Γ) (cQc (gD Γ) (gC Γ) N ad (gA Γ) Rr) (ga Γ) (gs Γ) kc ks (gA Γ)
def inL (As : List Value) (n : Nat) : List (Option Value) := (As.flatMap fun v => if v.category = 2 then [some v, none] else [some v]) ++ List.replicate (n - (lg_sl As).length) none
theorem inL_key (v : Value) : ∀ (vs : List Value) (j : Nat), (vs.flatMap fun v => if v.category = 2 then [some v, (none : Option Value)] else [some v])[j]? = some (some v) → (lg_sl vs)[j]? = some (.val v) := by
  intro vs
  induction vs with
  | nil => intro j hj; simp at hj
  | cons a r ih =>
    intro j hj
    unfold lg_sl at ih ⊢
    rw [List.flatMap_cons] at hj ⊢
    by_cases hc : a.category = 2
    · simp only [hc, if_true] at hj ⊢
      match j, hj with
      | 0, hj => simp at hj; subst hj; rfl
      | 1, hj => simp at hj
      | j + 2, hj => exact ih j (by simpa using hj)
    · simp only [hc, if_false] at hj ⊢
      match j, hj with
      | 0, hj => simp at hj; subst hj; rfl
      | j + 1, hj => exact ih j (by simpa using hj)
theorem inL_len (As : List Value) : (As.flatMap fun v => if v.category = 2 then [some v, (none : Option Value)] else [some v]).length = (lg_sl As).length := by
  unfold lg_sl
  induction As with
  | nil => rfl
  | cons a r ih =>
    rw [List.flatMap_cons, List.flatMap_cons, List.length_append, List.length_append, ih]
    by_cases hc : a.category = 2 <;> simp [hc]
theorem inL_has {As : List Value} {n : Nat} (h : (lg_sl As).length ≤ n) : hasL ((lg_sl As ++ List.replicate (n - (lg_sl As).length) Slot.unset).toArray) n (inL As n) := by
  have h0 := lv_entry As h
  refine ⟨h0.1, h0.2.1, fun i v hi => ?_⟩
  unfold inL at hi
  by_cases hj : i < (lg_sl As).length
  · rw [List.getElem?_append_left (by rw [inL_len]; exact hj)] at hi
    have := inL_key v As i hi
    simp [List.getElem?_append_left hj, this]
  · rw [List.getElem?_append_right (by rw [inL_len]; omega)] at hi
    have := List.mem_of_getElem? hi
    rw [List.mem_replicate] at this
    cases this.2
/-- a contract out of a walk -/
theorem ct_of {l : Launch} {D : va_G} {cl : List vw_C} {tys : List (ClassId × FieldType)} {nl : List (String × Nat × MethodName × String)} {N : Nat} {ad : Nat → Nat} {y : MethodName} {TB : List Cond} {rm : Room} {As : List Value} {σ : Nat → va_E} {Rr : Option Value → (Nat → va_E) → Prop} {cc : ByteArray} {n : Nat} {ret : Option FieldType}
    (hy : plainName y.cls = true) (hn : (lg_sl As).length ≤ n)
    (body : ∀ Γ : GT, gL Γ = l → gD Γ = D → gN Γ = n → Cx Γ cc y.cls rm TB cl tys nl → Rx Γ N ad ret Rr 0 0 → G Γ 0 0 N ad σ 0 (inL As n) []) : Ct l D cl tys nl N ad y (.code y cc n ret :: TB) rm As σ Rr := by
  intro sz
  refine Met.ofW (cc := cc) (maxL := n) (ret := ret) hy rfl ?_
  intro p e s m args below meth c s₁ B hml hv
  obtain ⟨rfl, hsz, hP, hK, hD0⟩ := hv
  have hts := atoms_spec (ws := .code y cc n ret :: TB) B.pre
  have hown : s.vm.findClass y.cls = some m.cls := findClass_of_methodNamed B.named
  subst hsz
  have hD := hD0.self (sz := s.heap.size)
  rw [lg_entry_eq]
  exact body (p, l, e, rm, s, m, As.toArray, below, meth, c, MQ below (cQc D cl N ad (va_A (gl N ad σ) s.heap.size) Rr) As.toArray s 0 0 (va_A (gl N ad σ) s.heap.size), D, cl, va_A (gl N ad σ) s.heap.size, n) rfl rfl rfl
    ⟨B.exec, B.bytes, hml, hown, rfl, fun w hw => hts w (List.mem_cons_of_mem _ hw), rfl, hK, fun q h => Or.inr h⟩ ⟨B.returns, B.notSynchronized, rfl⟩ s.heap [] _ hP hD va_S.rf (inL_has hn)
section Ends
variable {Γ : GT} {cc : ByteArray} {own : String} {rm : Room} {Ts : List Cond} {cl : List vw_C} {tys : List (ClassId × FieldType)} {nl : List (String × Nat × MethodName × String)} {kc ks N pc : Nat} {ad : Nat → Nat} {σ : Nat → va_E} {L : List (Option Value)} {st : List Value} {Rr : Option Value → (Nat → va_E) → Prop}
theorem g_iret (h : Cx Γ cc own rm Ts cl tys nl) (r : Rx Γ N ad (some .int) Rr kc ks) {v : Int32} (hd : decode cc pc = .ok (.ireturn, 1)) (hv : Rr (some (.int v)) σ) : G Γ kc ks N ad σ pc L [.int v] := fun H locs ls hP hD hS hl => by
  unfold gW
  rw [r.2.2]
  exact W.iret h.x h.b r.1 (fun t ht hW => ⟨⟨_, σ, rfl, hv, by rw [ht]; exact hP, hD⟩, hS.F ht⟩) hS.2.2 hd r.2.1
theorem g_zret (h : Cx Γ cc own rm Ts cl tys nl) (r : Rx Γ N ad (some .boolean) Rr kc ks) {v : Int32} (hn : narrow .boolean (.int v) = .int v) (hd : decode cc pc = .ok (.ireturn, 1)) (hv : Rr (some (.int v)) σ) : G Γ kc ks N ad σ pc L [.int v] := fun H locs ls hP hD hS hl => by
  unfold gW
  rw [r.2.2]
  exact W.zret h.x h.b r.1 hn (fun t ht hW => ⟨⟨_, σ, rfl, hv, by rw [ht]; exact hP, hD⟩, hS.F ht⟩) hS.2.2 hd r.2.1
theorem g_lret (h : Cx Γ cc own rm Ts cl tys nl) (r : Rx Γ N ad (some .long) Rr kc ks) {v : Int64} (hd : decode cc pc = .ok (.lreturn, 1)) (hv : Rr (some (.long v)) σ) : G Γ kc ks N ad σ pc L [.long v] := fun H locs ls hP hD hS hl => by
  unfold gW
  rw [r.2.2]
  exact W.lret h.x h.b r.1 (fun t ht hW => ⟨⟨_, σ, rfl, hv, by rw [ht]; exact hP, hD⟩, hS.F ht⟩) hS.2.2 hd r.2.1
theorem g_aret (h : Cx Γ cc own rm Ts cl tys nl) {C : String} (r : Rx Γ N ad (some (.object C)) Rr kc ks) {v : Nat} (hd : decode cc pc = .ok (.areturn, 1)) (hv : Rr (some (.ref v)) σ) : G Γ kc ks N ad σ pc L [.ref v] := fun H locs ls hP hD hS hl => by
  unfold gW
  rw [r.2.2]
  exact W.aret h.x h.b r.1 (Or.inl ⟨_, rfl⟩) (Or.inr ⟨_, rfl⟩) (fun t ht hW => ⟨⟨_, σ, rfl, hv, by rw [ht]; exact hP, hD⟩, hS.F ht⟩) hS.2.2 hd r.2.1
theorem g_vret (h : Cx Γ cc own rm Ts cl tys nl) (r : Rx Γ N ad (none) Rr kc ks) (hd : decode cc pc = .ok (.return_, 1)) (hv : Rr (none) σ) : G Γ kc ks N ad σ pc L [] := fun H locs ls hP hD hS hl => by
  unfold gW
  rw [r.2.2]
  exact W.vret h.x h.b r.1 (fun t ht hW => ⟨⟨_, σ, rfl, hv, by rw [ht]; exact hP, hD⟩, hS.F ht⟩) hS.2.2 hd r.2.1
end Ends
section CallRows
variable {Γ : GT} {cc : ByteArray} {own : String} {rm : Room} {Ts : List Cond} {cl : List vw_C} {tys : List (ClassId × FieldType)} {nl : List (String × Nat × MethodName × String)} {kc ks N pc : Nat} {ad : Nat → Nat} {σ : Nat → va_E} {L : List (Option Value)} {st rest : List Value} {Rr : Option Value → (Nat → va_E) → Prop}
variable {y : MethodName} {bytes : ByteArray} {maxL n index : Nat} {ret : Option FieldType} {rmY : Room} {As : List Value}
theorem c_in {H : Heap} {locs : List Loc} (h : Cx Γ cc own rm Ts cl tys nl) (hD : va_D (gA Γ) (gl N ad σ)) (hS : va_S (gA Γ) (gs Γ).heap H locs) : ∀ q, va_A (gl N ad σ) H.size q → gA Γ q := by
  intro q hq
  rcases hq with ⟨j, e, hj⟩ | hq
  · exact hD.2 j _ hj
  · exact h.A q (Nat.le_trans hS.1 hq)
/-- behind a call that has run -/
theorem g_back (h : Cx Γ cc own rm Ts cl tys nl) {a : Array Value}
    (hr : ∀ (H : Heap) (locs : List Loc) (ls : Array Slot), va_P (gD Γ) (gC Γ) (gl N ad σ) H → va_D (gA Γ) (gl N ad σ) → va_S (gA Γ) (gs Γ).heap H locs → hasL ls (gN Γ) L → va_Run (gp Γ) (gL Γ) (ge Γ) (gR Γ) (gs Γ) (gm Γ) (ga Γ) (gb Γ) (gM Γ) (gc Γ) H locs kc ks 0 0 (F0 (gm Γ) pc ls st) rest (cQc (gD Γ) (gC Γ) N ad (va_A (gl N ad σ) H.size) Rr a) (va_A (gl N ad σ) H.size))
    (k : ∀ (v : Option Value) (σ2 : Nat → va_E), Rr v σ2 → G Γ kc ks N ad σ2 (pc + 3) L (v.toList ++ rest)) : G Γ kc ks N ad σ pc L st := by
  intro H locs ls hP hD hS hl T hT X
  obtain ⟨v, st₀, t, T', L2, h0, X', hL2, e1, e2, ⟨⟨v', σ2, hv, hp, hb, hb3⟩, hz, hk⟩, go⟩ := hr H locs ls hP hD hS hl T hT X
  cases hv
  rw [h0] at hz hk
  have hF := c_in h hD hS
  obtain ⟨t2, a1, b1⟩ := k v σ2 hp T'.heap (locs ++ L2) ls (by rw [e1]; exact hb) (hb3.weaken (fun _ q _ z => hF q.1 z))
    ⟨Nat.le_trans hS.1 (by rw [e1]; exact hz), fun q h1 h2 => by
      rw [e1, hk q (Nat.lt_of_lt_of_le h1 hS.1) (fun z => h2 (hF q z))]
      exact hS.2.1 q h1 h2, fun q hq => by
      rcases List.mem_append.mp hq with z | z
      · exact hS.2.2 q z
      · exact hF _ (hL2 q z)⟩ hl T' rfl X'
  exact ⟨t2, go t2 a1, b1⟩
theorem c_blind {D : va_G} {sz : Nat} : FrameBlind (cPc D cl tys nl N ad σ sz As) := fun a U g mk q => by
  obtain ⟨q0, q1, qP, qK, qD⟩ := q
  exact ⟨q0, q1, qP, EX.blind qK, qD⟩
theorem c_good {TB : List Cond} (hG : GoodIn TB TB) (hc : Cond.code y bytes maxL ret ∈ TB) : GoodIn TB (.code y bytes maxL ret :: TB) := fun w hw => by
  rcases List.mem_cons.mp hw with rfl | z
  · exact hG _ hc
  · exact hG _ z
/-- the words of a call: the link, the method's own, its code -/
def cwsV (own : String) (index : Nat) (C : String) (y : MethodName) (bytes : ByteArray) (maxL : Nat) (ret : Option FieldType) : List Cond := wsV own index C y [.code y bytes maxL ret]
def cwsS (own : String) (index : Nat) (y : MethodName) (bytes : ByteArray) (maxL : Nat) (ret : Option FieldType) : List Cond := va_wsS own index y [.code y bytes maxL ret]
/-- what is known of a callee's name -/
def cNm (y : MethodName) (C : String) (n : Nat) : Prop := y.cls = C ∧ y.cls ≠ "java/lang/invoke/MethodHandle" ∧ y.cls ≠ "java/lang/invoke/VarHandle" ∧ (parseMethodDescriptor y.desc).map (fun d => d.parameters.length) = some n
def cRm (rmY rm : Room) (maxL kc ks : Nat) : Prop := rmY.cells = 0 ∧ rmY.slots = 0 ∧ rmY.frames + 1 ≤ rm.frames ∧ 8 + (maxL + 11) + rmY.locals ≤ rm.locals ∧ kc ≤ rm.cells ∧ ks ≤ rm.slots
/-- invokevirtual of a method of the very class of the receiver, cell q of the world -/
theorem g_callV (h : Cx Γ cc own rm Ts cl tys nl) (hG : GoodIn Ts Ts) {C : String} {T : u_T} {nf ci q : Nat} {fs : List Value} (hM : Ct (gL Γ) (gD Γ) cl tys nl N ad y (.code y bytes maxL ret :: Ts) rmY (.ref (ad q) :: As) σ Rr) (hq : q < N) (he : σ q = .inr (ci, fs)) (hc : cl[ci]? = some (C, T, nf))
    (hw : ∀ w ∈ cwsV own index C y bytes maxL ret, w ∈ Ts) (hd0 : cNm y C n) (hn : As.length = n)
    (hroom : cRm rmY rm maxL kc ks) (hst : st = As.reverse ++ .ref (ad q) :: rest) (hrest : (rest.map fun v => v.category).sum ≤ 8) (hd : decode cc pc = .ok (.invokevirtual index, 3))
    (k : ∀ (v : Option Value) (σ2 : Nat → va_E), Rr v σ2 → G Γ kc ks N ad σ2 (pc + 3) L (v.toList ++ rest)) : G Γ kc ks N ad σ pc L st := by
  have hcd : Cond.code y bytes maxL ret ∈ Ts := hw _ (by simp [cwsV, wsV])
  refine g_back h (a := (Value.ref (ad q) :: As).toArray) (fun H locs ls hP hD hS hl => ?_) k
  have hE := h.E
  have hF := c_in h hD hS
  have hcl := h.cL
  rw [hcl] at hP hE ⊢
  refine va_runV (As := As) (rest := rest) (b := ad q) (C := C) (n := n) ⟨h.x, h.b, h.ml, h.ow, h.ts⟩ (hM H.size) (cwV n h.ts ?_ rfl hroom.1 hroom.2.1 hd0 (by rw [h.R]; exact ⟨hroom.2.2.1, hroom.2.2.2.1⟩)) ⟨c_blind, va_recv hE.1 hP hc (gl_he hq he), fun U hU hW => ⟨rfl, by rw [hU], by rw [hU]; exact hP, EX.next hE hW hS hF hU, hD.weaken (fun _ _ _ _ => trivial)⟩⟩ rfl hn hl.1 hst (lv_room hrest) hd (by rw [h.R]; exact ⟨hroom.2.2.2.2.1, hroom.2.2.2.2.2⟩)
  intro w hw2
  unfold wsV at hw2
  rcases List.mem_append.mp hw2 with z | z
  · exact hG _ (hw _ (by unfold cwsV wsV; exact List.mem_append_left _ z))
  · exact c_good hG hcd _ z
/-- invokestatic of a method -/
theorem g_callS (h : Cx Γ cc own rm Ts cl tys nl) (hG : GoodIn Ts Ts) (hM : Ct (gL Γ) (gD Γ) cl tys nl N ad y (.code y bytes maxL ret :: Ts) rmY As σ Rr)
    (hw : ∀ w ∈ cwsS own index y bytes maxL ret, w ∈ Ts) (hd0 : cNm y y.cls n) (hn : As.length = n)
    (hroom : cRm rmY rm maxL kc ks) (hst : st = As.reverse ++ rest) (hrest : (rest.map fun v => v.category).sum ≤ 8) (hd : decode cc pc = .ok (.invokestatic index, 3))
    (k : ∀ (v : Option Value) (σ2 : Nat → va_E), Rr v σ2 → G Γ kc ks N ad σ2 (pc + 3) L (v.toList ++ rest)) : G Γ kc ks N ad σ pc L st := by
  have hcd : Cond.code y bytes maxL ret ∈ Ts := hw _ (by simp [cwsS, va_wsS])
  refine g_back h (a := As.toArray) (fun H locs ls hP hD hS hl => ?_) k
  have hE := h.E
  have hF := c_in h hD hS
  have hcl := h.cL
  rw [hcl] at hP hE ⊢
  refine va_runS (As := As) (rest := rest) (n := n) ⟨h.x, h.b, h.ml, h.ow, h.ts⟩ (hM H.size) (va_cwS n h.ts ?_ rfl hroom.1 hroom.2.1 hd0.2 (by rw [h.R]; exact ⟨hroom.2.2.1, hroom.2.2.2.1⟩)) ⟨c_blind, fun U hU hW => ⟨rfl, by rw [hU], by rw [hU]; exact hP, EX.next hE hW hS hF hU, hD.weaken (fun _ _ _ _ => trivial)⟩⟩ rfl hn hl.1 hst (lv_room hrest) hd (by rw [h.R]; exact ⟨hroom.2.2.2.2.1, hroom.2.2.2.2.2⟩)
  intro w hw2
  unfold va_wsS at hw2
  rcases List.mem_append.mp hw2 with z | z
  · exact hG _ (hw _ (by unfold cwsS va_wsS; exact List.mem_append_left _ z))
  · exact c_good hG hcd _ z
/-- invokestatic of a nest mate's private method -/
theorem g_callSN (h : Cx Γ cc own rm Ts cl tys nl) (hG : GoodIn Ts Ts) {host : String} (hM : Ct (gL Γ) (gD Γ) cl tys nl N ad y (.code y bytes maxL ret :: Ts) rmY As σ Rr)
    (hnl : (own, index, y, host) ∈ nl) (hcd : Cond.code y bytes maxL ret ∈ Ts) (hini : Cond.initialized y.cls ∈ Ts) (hst0 : Cond.static y ∈ Ts) (hd0 : cNm y y.cls n) (hn : As.length = n)
    (hroom : cRm rmY rm maxL kc ks) (hst : st = As.reverse ++ rest) (hrest : (rest.map fun v => v.category).sum ≤ 8) (hd : decode cc pc = .ok (.invokestatic index, 3))
    (k : ∀ (v : Option Value) (σ2 : Nat → va_E), Rr v σ2 → G Γ kc ks N ad σ2 (pc + 3) L (v.toList ++ rest)) : G Γ kc ks N ad σ pc L st := by
  refine g_back h (a := As.toArray) (fun H locs ls hP hD hS hl => ?_) k
  have hE := h.E
  have hF := c_in h hD hS
  have hcl := h.cL
  rw [hcl] at hP hE ⊢
  exact va_runSN (As := As) (rest := rest) (n := n) ⟨h.x, h.b, h.ml, h.ow, h.ts⟩ (hM H.size) ⟨va_cnB n h.ts (c_good hG hcd) rfl hroom.1 hroom.2.1 (hE.2.1 _ hnl) (h.ts _ hini) hd0.2 (by rw [h.R]; exact ⟨hroom.2.2.1, hroom.2.2.2.1⟩), h.ts _ hst0, trivial⟩ ⟨c_blind, fun U hU hW => ⟨rfl, by rw [hU], by rw [hU]; exact hP, EX.next hE hW hS hF hU, hD.weaken (fun _ _ _ _ => trivial)⟩⟩ rfl hn hl.1 hst (lv_room hrest) hd (by rw [h.R]; exact ⟨hroom.2.2.2.2.1, hroom.2.2.2.2.2⟩)
end CallRows
end

-- part 03.names
section
def R_Cell : String := "TriColourMachine$Cell"
def F_Cell : u_T := fun k => match k with
  | 0 => ("TriColourMachine$Cell", "table", "LTriColourMachine$Table;", true)
  | 1 => ("TriColourMachine$Cell", "coroutine", "LTriColourMachine$Coroutine;", true)
  | 2 => ("TriColourMachine$Cell", "kind", "I", false)
  | _ => ("TriColourMachine$Cell", "colour", "I", false)
def t_Cell : Nat → FieldType := fun k => match k with
  | 0 => .object "TriColourMachine$Table"
  | 1 => .object "TriColourMachine$Coroutine"
  | 2 => .int
  | _ => .int
theorem n_Cell : ∀ a, a < 4 → ∀ b, b < 4 → a ≠ b → (F_Cell a).2.1 ≠ (F_Cell b).2.1 := by decide +kernel
theorem t_Cell_ok : ∀ k, k < 4 → parseFieldDescriptor (F_Cell k).2.2.1 = some (t_Cell k) := by decide +kernel
theorem i_Cell : ∀ w ∈ u_ws R_Cell F_Cell 4, w ∈ TB := tb_all [164, 166, 168, 170] (by decide +kernel) (by decide +kernel)
def R_Cor : String := "TriColourMachine$Coroutine"
def F_Cor : u_T := fun k => match k with
  | 0 => ("TriColourMachine$Coroutine", "registers", "[J", true)
  | 1 => ("TriColourMachine$Coroutine", "function", "I", false)
  | 2 => ("TriColourMachine$Coroutine", "place", "I", false)
  | 3 => ("TriColourMachine$Coroutine", "state", "I", false)
  | 4 => ("TriColourMachine$Coroutine", "comesIn", "I", false)
  | _ => ("TriColourMachine$Coroutine", "awaits", "I", false)
def t_Cor : Nat → FieldType := fun k => match k with
  | 0 => .array .long
  | 1 => .int
  | 2 => .int
  | 3 => .int
  | 4 => .int
  | _ => .int
theorem n_Cor : ∀ a, a < 6 → ∀ b, b < 6 → a ≠ b → (F_Cor a).2.1 ≠ (F_Cor b).2.1 := by decide +kernel
theorem t_Cor_ok : ∀ k, k < 6 → parseFieldDescriptor (F_Cor k).2.2.1 = some (t_Cor k) := by decide +kernel
theorem i_Cor : ∀ w ∈ u_ws R_Cor F_Cor 6, w ∈ TB := tb_all [138, 140, 142, 144, 146, 148] (by decide +kernel) (by decide +kernel)
def R_Heap : String := "TriColourMachine$Heap"
def F_Heap : u_T := fun k => match k with
  | 0 => ("TriColourMachine$Heap", "globals", "[J", true)
  | 1 => ("TriColourMachine$Heap", "cells", "[LTriColourMachine$Cell;", true)
  | 2 => ("TriColourMachine$Heap", "phase", "I", false)
  | 3 => ("TriColourMachine$Heap", "sweepFrom", "I", false)
  | 4 => ("TriColourMachine$Heap", "made", "I", false)
  | 5 => ("TriColourMachine$Heap", "gone", "I", false)
  | 6 => ("TriColourMachine$Heap", "units", "I", false)
  | 7 => ("TriColourMachine$Heap", "fullCollections", "I", false)
  | _ => ("TriColourMachine$Heap", "found", "J", false)
def t_Heap : Nat → FieldType := fun k => match k with
  | 0 => .array .long
  | 1 => .array (.object "TriColourMachine$Cell")
  | 2 => .int
  | 3 => .int
  | 4 => .int
  | 5 => .int
  | 6 => .int
  | 7 => .int
  | _ => .long
theorem n_Heap : ∀ a, a < 9 → ∀ b, b < 9 → a ≠ b → (F_Heap a).2.1 ≠ (F_Heap b).2.1 := by decide +kernel
theorem t_Heap_ok : ∀ k, k < 9 → parseFieldDescriptor (F_Heap k).2.2.1 = some (t_Heap k) := by decide +kernel
theorem i_Heap : ∀ w ∈ u_ws R_Heap F_Heap 9, w ∈ TB := tb_all [194, 196, 198, 200, 202, 204, 206, 208, 210] (by decide +kernel) (by decide +kernel)
def R_Ins : String := "TriColourMachine$Instruction"
def F_Ins : u_T := fun k => match k with
  | 0 => ("TriColourMachine$Instruction", "op", "I", false)
  | 1 => ("TriColourMachine$Instruction", "a", "I", false)
  | 2 => ("TriColourMachine$Instruction", "b", "I", false)
  | _ => ("TriColourMachine$Instruction", "c", "I", false)
def t_Ins : Nat → FieldType := fun k => match k with
  | 0 => .int
  | 1 => .int
  | 2 => .int
  | _ => .int
theorem n_Ins : ∀ a, a < 4 → ∀ b, b < 4 → a ≠ b → (F_Ins a).2.1 ≠ (F_Ins b).2.1 := by decide +kernel
theorem t_Ins_ok : ∀ k, k < 4 → parseFieldDescriptor (F_Ins k).2.2.1 = some (t_Ins k) := by decide +kernel
theorem i_Ins : ∀ w ∈ u_ws R_Ins F_Ins 4, w ∈ TB := tb_all [241, 243, 245, 247] (by decide +kernel) (by decide +kernel)
def R_Pro : String := "TriColourMachine$Processor"
def F_Pro : u_T := fun k => match k with
  | 0 => ("TriColourMachine$Processor", "heap", "LTriColourMachine$Heap;", true)
  | 1 => ("TriColourMachine$Processor", "instructions", "[LTriColourMachine$Instruction;", true)
  | 2 => ("TriColourMachine$Processor", "active", "[LTriColourMachine$Coroutine;", true)
  | 3 => ("TriColourMachine$Processor", "depth", "I", false)
  | 4 => ("TriColourMachine$Processor", "begun", "I", false)
  | 5 => ("TriColourMachine$Processor", "nextPlace", "I", false)
  | _ => ("TriColourMachine$Processor", "outcome", "J", false)
def t_Pro : Nat → FieldType := fun k => match k with
  | 0 => .object "TriColourMachine$Heap"
  | 1 => .array (.object "TriColourMachine$Instruction")
  | 2 => .array (.object "TriColourMachine$Coroutine")
  | 3 => .int
  | 4 => .int
  | 5 => .int
  | _ => .long
theorem n_Pro : ∀ a, a < 7 → ∀ b, b < 7 → a ≠ b → (F_Pro a).2.1 ≠ (F_Pro b).2.1 := by decide +kernel
theorem t_Pro_ok : ∀ k, k < 7 → parseFieldDescriptor (F_Pro k).2.2.1 = some (t_Pro k) := by decide +kernel
theorem i_Pro : ∀ w ∈ u_ws R_Pro F_Pro 7, w ∈ TB := tb_all [259, 261, 263, 265, 267, 269, 271] (by decide +kernel) (by decide +kernel)
def R_Tab : String := "TriColourMachine$Table"
def F_Tab : u_T := fun k => match k with
  | 0 => ("TriColourMachine$Table", "keys", "[J", true)
  | 1 => ("TriColourMachine$Table", "values", "[J", true)
  | 2 => ("TriColourMachine$Table", "pairs", "I", false)
  | _ => ("TriColourMachine$Table", "meta", "I", false)
def t_Tab : Nat → FieldType := fun k => match k with
  | 0 => .array .long
  | 1 => .array .long
  | 2 => .int
  | _ => .int
theorem n_Tab : ∀ a, a < 4 → ∀ b, b < 4 → a ≠ b → (F_Tab a).2.1 ≠ (F_Tab b).2.1 := by decide +kernel
theorem t_Tab_ok : ∀ k, k < 4 → parseFieldDescriptor (F_Tab k).2.2.1 = some (t_Tab k) := by decide +kernel
theorem i_Tab : ∀ w ∈ u_ws R_Tab F_Tab 4, w ∈ TB := tb_all [105, 107, 109, 111] (by decide +kernel) (by decide +kernel)
def R_TCM : String := "TriColourMachine"
def F_TCM : u_T := fun k => match k with
  | 0 => ("TriColourMachine", "processor", "LTriColourMachine$Processor;", true)
  | _ => ("TriColourMachine", "heap", "LTriColourMachine$Heap;", true)
def t_TCM : Nat → FieldType := fun k => match k with
  | 0 => .object "TriColourMachine$Processor"
  | _ => .object "TriColourMachine$Heap"
theorem n_TCM : ∀ a, a < 2 → ∀ b, b < 2 → a ≠ b → (F_TCM a).2.1 ≠ (F_TCM b).2.1 := by decide +kernel
theorem t_TCM_ok : ∀ k, k < 2 → parseFieldDescriptor (F_TCM k).2.2.1 = some (t_TCM k) := by decide +kernel
theorem i_TCM : ∀ w ∈ u_ws R_TCM F_TCM 2, w ∈ TB := tb_all [276, 278] (by decide +kernel) (by decide +kernel)
def R_Mod : String := "TriColourMachineModel"
def F_Mod : u_T := fun k => match k with
  | 0 => ("TriColourMachineModel", "ops", "[I", true)
  | 1 => ("TriColourMachineModel", "as", "[I", true)
  | 2 => ("TriColourMachineModel", "bs", "[I", true)
  | 3 => ("TriColourMachineModel", "cs", "[I", true)
  | 4 => ("TriColourMachineModel", "globals", "[J", true)
  | 5 => ("TriColourMachineModel", "kind", "[I", true)
  | 6 => ("TriColourMachineModel", "colour", "[I", true)
  | 7 => ("TriColourMachineModel", "size", "[I", true)
  | 8 => ("TriColourMachineModel", "metaOf", "[I", true)
  | 9 => ("TriColourMachineModel", "keys", "[J", true)
  | 10 => ("TriColourMachineModel", "values", "[J", true)
  | 11 => ("TriColourMachineModel", "registers", "[J", true)
  | 12 => ("TriColourMachineModel", "function", "[I", true)
  | 13 => ("TriColourMachineModel", "place", "[I", true)
  | 14 => ("TriColourMachineModel", "state", "[I", true)
  | 15 => ("TriColourMachineModel", "waits", "[I", true)
  | 16 => ("TriColourMachineModel", "active", "[I", true)
  | 17 => ("TriColourMachineModel", "depth", "I", false)
  | 18 => ("TriColourMachineModel", "phase", "I", false)
  | 19 => ("TriColourMachineModel", "sweep", "I", false)
  | 20 => ("TriColourMachineModel", "made", "I", false)
  | 21 => ("TriColourMachineModel", "gone", "I", false)
  | 22 => ("TriColourMachineModel", "done", "I", false)
  | 23 => ("TriColourMachineModel", "units", "I", false)
  | 24 => ("TriColourMachineModel", "fulls", "I", false)
  | 25 => ("TriColourMachineModel", "thrown", "I", false)
  | 26 => ("TriColourMachineModel", "trouble", "I", false)
  | _ => ("TriColourMachineModel", "outcome", "J", false)
def t_Mod : Nat → FieldType := fun k => match k with
  | 0 => .array .int
  | 1 => .array .int
  | 2 => .array .int
  | 3 => .array .int
  | 4 => .array .long
  | 5 => .array .int
  | 6 => .array .int
  | 7 => .array .int
  | 8 => .array .int
  | 9 => .array .long
  | 10 => .array .long
  | 11 => .array .long
  | 12 => .array .int
  | 13 => .array .int
  | 14 => .array .int
  | 15 => .array .int
  | 16 => .array .int
  | 17 => .int
  | 18 => .int
  | 19 => .int
  | 20 => .int
  | 21 => .int
  | 22 => .int
  | 23 => .int
  | 24 => .int
  | 25 => .int
  | 26 => .int
  | _ => .long
theorem n_Mod : ∀ a, a < 28 → ∀ b, b < 28 → a ≠ b → (F_Mod a).2.1 ≠ (F_Mod b).2.1 := by decide +kernel
theorem t_Mod_ok : ∀ k, k < 28 → parseFieldDescriptor (F_Mod k).2.2.1 = some (t_Mod k) := by decide +kernel
theorem i_Mod : ∀ w ∈ u_ws R_Mod F_Mod 28, w ∈ TB := tb_all [710, 712, 714, 716, 718, 720, 722, 724, 726, 728, 730, 732, 734, 736, 738, 740, 742, 744, 746, 748, 750, 752, 754, 756, 758, 760, 762, 764] (by decide +kernel) (by decide +kernel)
abbrev CL : List vw_C := [(R_Cell, F_Cell, 4), (R_Cor, F_Cor, 6), (R_Heap, F_Heap, 9), (R_Ins, F_Ins, 4), (R_Pro, F_Pro, 7), (R_Tab, F_Tab, 4), (R_TCM, F_TCM, 2), (R_Mod, F_Mod, 28)]
abbrev b_TCM_init : ByteArray := prog_1_method_1_code
def y_TCM_init : MethodName := ⟨"TriColourMachine", "<init>", "()V"⟩
abbrev b_Heap_init : ByteArray := prog_4_method_1_code
def y_Heap_init : MethodName := ⟨"TriColourMachine$Heap", "<init>", "()V"⟩
abbrev b_Arr_fill : ByteArray := prog_18_method_101_code
def y_Arr_fill : MethodName := ⟨"java/util/Arrays", "fill", "([JJ)V"⟩
abbrev b_Cell_init : ByteArray := prog_2_method_1_code
def y_Cell_init : MethodName := ⟨"TriColourMachine$Cell", "<init>", "()V"⟩
abbrev b_Tab_init : ByteArray := prog_7_method_1_code
def y_Tab_init : MethodName := ⟨"TriColourMachine$Table", "<init>", "()V"⟩
abbrev b_Cor_init : ByteArray := prog_3_method_1_code
def y_Cor_init : MethodName := ⟨"TriColourMachine$Coroutine", "<init>", "()V"⟩
abbrev b_Pro_init : ByteArray := prog_6_method_1_code
def y_Pro_init : MethodName := ⟨"TriColourMachine$Processor", "<init>", "(LTriColourMachine$Heap;)V"⟩
abbrev b_Ins_init : ByteArray := prog_5_method_1_code
def y_Ins_init : MethodName := ⟨"TriColourMachine$Instruction", "<init>", "()V"⟩
abbrev b_TCM_full : ByteArray := prog_1_method_11_code
def y_TCM_full : MethodName := ⟨"TriColourMachine", "full", "()I"⟩
abbrev b_Heap_fullCollection : ByteArray := prog_4_method_14_code
def y_Heap_fullCollection : MethodName := ⟨"TriColourMachine$Heap", "fullCollection", "()V"⟩
abbrev b_Heap_unit : ByteArray := prog_4_method_15_code
def y_Heap_unit : MethodName := ⟨"TriColourMachine$Heap", "unit", "()V"⟩
abbrev b_Heap_sweepOne : ByteArray := prog_4_method_21_code
def y_Heap_sweepOne : MethodName := ⟨"TriColourMachine$Heap", "sweepOne", "()V"⟩
abbrev b_Heap_leastGray : ByteArray := prog_4_method_16_code
def y_Heap_leastGray : MethodName := ⟨"TriColourMachine$Heap", "leastGray", "()I"⟩
abbrev b_Heap_blacken : ByteArray := prog_4_method_17_code
def y_Heap_blacken : MethodName := ⟨"TriColourMachine$Heap", "blacken", "(LTriColourMachine$Cell;)V"⟩
abbrev b_Heap_shadeRow : ByteArray := prog_4_method_19_code
def y_Heap_shadeRow : MethodName := ⟨"TriColourMachine$Heap", "shadeRow", "([JI)I"⟩
abbrev b_Heap_shade : ByteArray := prog_4_method_20_code
def y_Heap_shade : MethodName := ⟨"TriColourMachine$Heap", "shade", "(LTriColourMachine$Cell;)I"⟩
abbrev b_Heap_shadeRoots : ByteArray := prog_4_method_18_code
def y_Heap_shadeRoots : MethodName := ⟨"TriColourMachine$Heap", "shadeRoots", "()I"⟩
abbrev b_Cell_isActive : ByteArray := prog_2_method_2_code
def y_Cell_isActive : MethodName := ⟨"TriColourMachine$Cell", "isActive", "()Z"⟩
abbrev b_TCM_count : ByteArray := prog_1_method_15_code
def y_TCM_count : MethodName := ⟨"TriColourMachine", "count", "(I)I"⟩
abbrev b_Heap_grayOnes : ByteArray := prog_4_method_22_code
def y_Heap_grayOnes : MethodName := ⟨"TriColourMachine$Heap", "grayOnes", "()I"⟩
abbrev b_Law_code : ByteArray := method_3_code
def y_Law_code : MethodName := ⟨"TriColourMachineLaw", "code", "(LTriColourMachine;IIIIII)I"⟩
abbrev b_TCM_code : ByteArray := prog_1_method_2_code
def y_TCM_code : MethodName := ⟨"TriColourMachine", "code", "(IIIIII)V"⟩
abbrev b_TCM_checkRange : ByteArray := prog_1_method_17_code
def y_TCM_checkRange : MethodName := ⟨"TriColourMachine", "checkRange", "(III)V"⟩
abbrev b_Pro_instructionAt : ByteArray := prog_6_method_2_code
def y_Pro_instructionAt : MethodName := ⟨"TriColourMachine$Processor", "instructionAt", "(II)LTriColourMachine$Instruction;"⟩
abbrev b_Law_number : ByteArray := method_4_code
def y_Law_number : MethodName := ⟨"TriColourMachineLaw", "number", "(LTriColourMachine;II)I"⟩
abbrev b_TCM_number : ByteArray := prog_1_method_3_code
def y_TCM_number : MethodName := ⟨"TriColourMachine", "number", "(II)V"⟩
abbrev b_TCM_checkGlobal : ByteArray := prog_1_method_16_code
def y_TCM_checkGlobal : MethodName := ⟨"TriColourMachine", "checkGlobal", "(I)V"⟩
abbrev b_Law_move : ByteArray := method_5_code
def y_Law_move : MethodName := ⟨"TriColourMachineLaw", "move", "(LTriColourMachine;II)I"⟩
abbrev b_TCM_move : ByteArray := prog_1_method_4_code
def y_TCM_move : MethodName := ⟨"TriColourMachine", "move", "(II)V"⟩
abbrev b_Law_make : ByteArray := method_6_code
def y_Law_make : MethodName := ⟨"TriColourMachineLaw", "make", "(LTriColourMachine;II[J)I"⟩
abbrev b_TCM_make : ByteArray := prog_1_method_5_code
def y_TCM_make : MethodName := ⟨"TriColourMachine", "make", "(II)I"⟩
abbrev b_Heap_create : ByteArray := prog_4_method_3_code
def y_Heap_create : MethodName := ⟨"TriColourMachine$Heap", "create", "(II)I"⟩
abbrev b_Heap_leastFree : ByteArray := prog_4_method_4_code
def y_Heap_leastFree : MethodName := ⟨"TriColourMachine$Heap", "leastFree", "()I"⟩
abbrev b_Heap_birthColour : ByteArray := prog_4_method_5_code
def y_Heap_birthColour : MethodName := ⟨"TriColourMachine$Heap", "birthColour", "(I)I"⟩
abbrev b_Tab_clear : ByteArray := prog_7_method_2_code
def y_Tab_clear : MethodName := ⟨"TriColourMachine$Table", "clear", "()V"⟩
abbrev b_Cor_clear : ByteArray := prog_3_method_2_code
def y_Cor_clear : MethodName := ⟨"TriColourMachine$Coroutine", "clear", "(I)V"⟩
abbrev b_TCM_raise : ByteArray := prog_1_method_18_code
def y_TCM_raise : MethodName := ⟨"TriColourMachine", "raise", "(I)V"⟩
abbrev b_TCM_numberOf : ByteArray := prog_1_method_20_code
def y_TCM_numberOf : MethodName := ⟨"TriColourMachine", "numberOf", "(J)I"⟩
abbrev b_Law_set : ByteArray := method_7_code
def y_Law_set : MethodName := ⟨"TriColourMachineLaw", "set", "(LTriColourMachine;III)I"⟩
abbrev b_TCM_set : ByteArray := prog_1_method_6_code
def y_TCM_set : MethodName := ⟨"TriColourMachine", "set", "(III)V"⟩
abbrev b_Heap_setting : ByteArray := prog_4_method_7_code
def y_Heap_setting : MethodName := ⟨"TriColourMachine$Heap", "setting", "(JJJ)I"⟩
abbrev b_Heap_isA : ByteArray := prog_4_method_2_code
def y_Heap_isA : MethodName := ⟨"TriColourMachine$Heap", "isA", "(IJ)Z"⟩
abbrev b_Heap_lastTable : ByteArray := prog_4_method_8_code
def y_Heap_lastTable : MethodName := ⟨"TriColourMachine$Heap", "lastTable", "(IJJ)I"⟩
abbrev b_Tab_find : ByteArray := prog_7_method_3_code
def y_Tab_find : MethodName := ⟨"TriColourMachine$Table", "find", "(J)I"⟩
abbrev b_Heap_linked : ByteArray := prog_4_method_9_code
def y_Heap_linked : MethodName := ⟨"TriColourMachine$Heap", "linked", "(IJ)I"⟩
abbrev b_Tab_append : ByteArray := prog_7_method_4_code
def y_Tab_append : MethodName := ⟨"TriColourMachine$Table", "append", "(JJ)V"⟩
abbrev b_Tab_takeAway : ByteArray := prog_7_method_5_code
def y_Tab_takeAway : MethodName := ⟨"TriColourMachine$Table", "takeAway", "(I)V"⟩
abbrev b_Heap_touch : ByteArray := prog_4_method_13_code
def y_Heap_touch : MethodName := ⟨"TriColourMachine$Heap", "touch", "(I)V"⟩
abbrev b_Law_get : ByteArray := method_8_code
def y_Law_get : MethodName := ⟨"TriColourMachineLaw", "get", "(LTriColourMachine;III[J)I"⟩
abbrev b_TCM_get : ByteArray := prog_1_method_7_code
def y_TCM_get : MethodName := ⟨"TriColourMachine", "get", "(III)J"⟩
abbrev b_Heap_getting : ByteArray := prog_4_method_6_code
def y_Heap_getting : MethodName := ⟨"TriColourMachine$Heap", "getting", "(JJ)I"⟩
abbrev b_Law_meta : ByteArray := method_9_code
def y_Law_meta : MethodName := ⟨"TriColourMachineLaw", "meta", "(LTriColourMachine;II)I"⟩
abbrev b_TCM_meta : ByteArray := prog_1_method_8_code
def y_TCM_meta : MethodName := ⟨"TriColourMachine", "meta", "(II)V"⟩
abbrev b_Heap_settingMeta : ByteArray := prog_4_method_10_code
def y_Heap_settingMeta : MethodName := ⟨"TriColourMachine$Heap", "settingMeta", "(JJ)I"⟩
abbrev b_Law_resume : ByteArray := method_10_code
def y_Law_resume : MethodName := ⟨"TriColourMachineLaw", "resume", "(LTriColourMachine;III[J)I"⟩
abbrev b_TCM_resume : ByteArray := prog_1_method_9_code
def y_TCM_resume : MethodName := ⟨"TriColourMachine", "resume", "(III)J"⟩
abbrev b_Pro_run : ByteArray := prog_6_method_3_code
def y_Pro_run : MethodName := ⟨"TriColourMachine$Processor", "run", "(JJ)I"⟩
abbrev b_Pro_enter : ByteArray := prog_6_method_4_code
def y_Pro_enter : MethodName := ⟨"TriColourMachine$Processor", "enter", "(JJ)I"⟩
abbrev b_Pro_perform : ByteArray := prog_6_method_7_code
def y_Pro_perform : MethodName := ⟨"TriColourMachine$Processor", "perform", "(LTriColourMachine$Coroutine;LTriColourMachine$Instruction;)I"⟩
abbrev b_Math_floorMod : ByteArray := prog_13_method_50_code
def y_Math_floorMod : MethodName := ⟨"java/lang/Math", "floorMod", "(II)I"⟩
abbrev b_Pro_keepFound : ByteArray := prog_6_method_8_code
def y_Pro_keepFound : MethodName := ⟨"TriColourMachine$Processor", "keepFound", "([JII)I"⟩
abbrev b_Pro_calculate : ByteArray := prog_6_method_9_code
def y_Pro_calculate : MethodName := ⟨"TriColourMachine$Processor", "calculate", "(I[JIJJ)I"⟩
abbrev b_TCM_isNumber : ByteArray := prog_1_method_19_code
def y_TCM_isNumber : MethodName := ⟨"TriColourMachine", "isNumber", "(J)Z"⟩
abbrev b_Pro_jumpIfBelow : ByteArray := prog_6_method_10_code
def y_Pro_jumpIfBelow : MethodName := ⟨"TriColourMachine$Processor", "jumpIfBelow", "(JJI)I"⟩
abbrev b_Pro_jumpIf : ByteArray := prog_6_method_11_code
def y_Pro_jumpIf : MethodName := ⟨"TriColourMachine$Processor", "jumpIf", "(ZI)I"⟩
abbrev b_Pro_leave : ByteArray := prog_6_method_5_code
def y_Pro_leave : MethodName := ⟨"TriColourMachine$Processor", "leave", "(J)V"⟩
abbrev b_Heap_keyAfter : ByteArray := prog_4_method_11_code
def y_Heap_keyAfter : MethodName := ⟨"TriColourMachine$Heap", "keyAfter", "(JJ)I"⟩
abbrev b_Heap_howMany : ByteArray := prog_4_method_12_code
def y_Heap_howMany : MethodName := ⟨"TriColourMachine$Heap", "howMany", "(J)I"⟩
abbrev b_Pro_endActive : ByteArray := prog_6_method_6_code
def y_Pro_endActive : MethodName := ⟨"TriColourMachine$Processor", "endActive", "()V"⟩
abbrev b_Law_collect : ByteArray := method_11_code
def y_Law_collect : MethodName := ⟨"TriColourMachineLaw", "collect", "(LTriColourMachine;I[J)I"⟩
abbrev b_TCM_collect : ByteArray := prog_1_method_10_code
def y_TCM_collect : MethodName := ⟨"TriColourMachine", "collect", "(I)I"⟩
abbrev b_Law_global : ByteArray := method_12_code
def y_Law_global : MethodName := ⟨"TriColourMachineLaw", "global", "(LTriColourMachine;I[J)I"⟩
abbrev b_TCM_global : ByteArray := prog_1_method_12_code
def y_TCM_global : MethodName := ⟨"TriColourMachine", "global", "(I)J"⟩
abbrev b_Law_object : ByteArray := method_13_code
def y_Law_object : MethodName := ⟨"TriColourMachineLaw", "object", "(LTriColourMachine;II[J)I"⟩
abbrev b_TCM_object : ByteArray := prog_1_method_13_code
def y_TCM_object : MethodName := ⟨"TriColourMachine", "object", "(II)I"⟩
abbrev b_Law_inside : ByteArray := method_14_code
def y_Law_inside : MethodName := ⟨"TriColourMachineLaw", "inside", "(LTriColourMachine;IIZ[J)I"⟩
abbrev b_TCM_inside : ByteArray := prog_1_method_14_code
def y_TCM_inside : MethodName := ⟨"TriColourMachine", "inside", "(IIZ)J"⟩
abbrev b_Cell_rows : ByteArray := prog_2_method_3_code
def y_Cell_rows : MethodName := ⟨"TriColourMachine$Cell", "rows", "(Z)I"⟩
abbrev b_Mod_init : ByteArray := prog_9_method_1_code
def y_Mod_init : MethodName := ⟨"TriColourMachineModel", "<init>", "()V"⟩
abbrev b_Mod_thrown : ByteArray := prog_9_method_2_code
def y_Mod_thrown : MethodName := ⟨"TriColourMachineModel", "thrown", "()I"⟩
abbrev b_Mod_code : ByteArray := prog_9_method_8_code
def y_Mod_code : MethodName := ⟨"TriColourMachineModel", "code", "(IIIIII)V"⟩
abbrev b_Mod_number : ByteArray := prog_9_method_9_code
def y_Mod_number : MethodName := ⟨"TriColourMachineModel", "number", "(II)V"⟩
abbrev b_Mod_badGlobal : ByteArray := prog_9_method_3_code
def y_Mod_badGlobal : MethodName := ⟨"TriColourMachineModel", "badGlobal", "(I)Z"⟩
abbrev b_Mod_move : ByteArray := prog_9_method_10_code
def y_Mod_move : MethodName := ⟨"TriColourMachineModel", "move", "(II)V"⟩
abbrev b_Mod_make : ByteArray := prog_9_method_19_code
def y_Mod_make : MethodName := ⟨"TriColourMachineModel", "make", "(II)I"⟩
abbrev b_Mod_create : ByteArray := prog_9_method_17_code
def y_Mod_create : MethodName := ⟨"TriColourMachineModel", "create", "(II)I"⟩
abbrev b_Mod_free : ByteArray := prog_9_method_18_code
def y_Mod_free : MethodName := ⟨"TriColourMachineModel", "free", "()I"⟩
abbrev b_Mod_whole : ByteArray := prog_9_method_16_code
def y_Mod_whole : MethodName := ⟨"TriColourMachineModel", "whole", "()I"⟩
abbrev b_Mod_unit : ByteArray := prog_9_method_15_code
def y_Mod_unit : MethodName := ⟨"TriColourMachineModel", "unit", "()I"⟩
abbrev b_Mod_shadeRoots : ByteArray := prog_9_method_12_code
def y_Mod_shadeRoots : MethodName := ⟨"TriColourMachineModel", "shadeRoots", "()V"⟩
abbrev b_Mod_shade : ByteArray := prog_9_method_11_code
def y_Mod_shade : MethodName := ⟨"TriColourMachineModel", "shade", "(J)V"⟩
abbrev b_Mod_objectOf : ByteArray := prog_9_method_5_code
def y_Mod_objectOf : MethodName := ⟨"TriColourMachineModel", "objectOf", "(J)I"⟩
abbrev b_Mod_leastGray : ByteArray := prog_9_method_13_code
def y_Mod_leastGray : MethodName := ⟨"TriColourMachineModel", "leastGray", "()I"⟩
abbrev b_Mod_blacken : ByteArray := prog_9_method_14_code
def y_Mod_blacken : MethodName := ⟨"TriColourMachineModel", "blacken", "(I)V"⟩
abbrev b_Mod_set : ByteArray := prog_9_method_25_code
def y_Mod_set : MethodName := ⟨"TriColourMachineModel", "set", "(III)V"⟩
abbrev b_Mod_tableOf : ByteArray := prog_9_method_6_code
def y_Mod_tableOf : MethodName := ⟨"TriColourMachineModel", "tableOf", "(J)I"⟩
abbrev b_Mod_setting : ByteArray := prog_9_method_24_code
def y_Mod_setting : MethodName := ⟨"TriColourMachineModel", "setting", "(IJJ)V"⟩
abbrev b_Mod_pairOf : ByteArray := prog_9_method_20_code
def y_Mod_pairOf : MethodName := ⟨"TriColourMachineModel", "pairOf", "(IJ)I"⟩
abbrev b_Mod_next : ByteArray := prog_9_method_21_code
def y_Mod_next : MethodName := ⟨"TriColourMachineModel", "next", "(IJ)I"⟩
abbrev b_Mod_touch : ByteArray := prog_9_method_23_code
def y_Mod_touch : MethodName := ⟨"TriColourMachineModel", "touch", "(I)V"⟩
abbrev b_Mod_get : ByteArray := prog_9_method_26_code
def y_Mod_get : MethodName := ⟨"TriColourMachineModel", "get", "(III)J"⟩
abbrev b_Mod_getting : ByteArray := prog_9_method_22_code
def y_Mod_getting : MethodName := ⟨"TriColourMachineModel", "getting", "(IJ)J"⟩
abbrev b_Mod_meta : ByteArray := prog_9_method_28_code
def y_Mod_meta : MethodName := ⟨"TriColourMachineModel", "meta", "(II)V"⟩
abbrev b_Mod_join : ByteArray := prog_9_method_27_code
def y_Mod_join : MethodName := ⟨"TriColourMachineModel", "join", "(JJ)V"⟩
abbrev b_Mod_resume : ByteArray := prog_9_method_35_code
def y_Mod_resume : MethodName := ⟨"TriColourMachineModel", "resume", "(III)J"⟩
abbrev b_Mod_enter : ByteArray := prog_9_method_29_code
def y_Mod_enter : MethodName := ⟨"TriColourMachineModel", "enter", "(JJ)V"⟩
abbrev b_Mod_coroutineOf : ByteArray := prog_9_method_7_code
def y_Mod_coroutineOf : MethodName := ⟨"TriColourMachineModel", "coroutineOf", "(J)I"⟩
abbrev b_Mod_step : ByteArray := prog_9_method_34_code
def y_Mod_step : MethodName := ⟨"TriColourMachineModel", "step", "()V"⟩
abbrev b_Mod_leave : ByteArray := prog_9_method_30_code
def y_Mod_leave : MethodName := ⟨"TriColourMachineModel", "leave", "(IJ)V"⟩
abbrev b_Mod_jumps : ByteArray := prog_9_method_33_code
def y_Mod_jumps : MethodName := ⟨"TriColourMachineModel", "jumps", "(IJJ)Z"⟩
abbrev b_Mod_isNumber : ByteArray := prog_9_method_4_code
def y_Mod_isNumber : MethodName := ⟨"TriColourMachineModel", "isNumber", "(J)Z"⟩
abbrev b_Mod_calculate : ByteArray := prog_9_method_31_code
def y_Mod_calculate : MethodName := ⟨"TriColourMachineModel", "calculate", "(IIIJJ)V"⟩
abbrev b_Mod_following : ByteArray := prog_9_method_32_code
def y_Mod_following : MethodName := ⟨"TriColourMachineModel", "following", "(IJ)J"⟩
abbrev b_Mod_collect : ByteArray := prog_9_method_36_code
def y_Mod_collect : MethodName := ⟨"TriColourMachineModel", "collect", "(I)I"⟩
abbrev b_Mod_full : ByteArray := prog_9_method_37_code
def y_Mod_full : MethodName := ⟨"TriColourMachineModel", "full", "()I"⟩
abbrev b_Mod_global : ByteArray := prog_9_method_38_code
def y_Mod_global : MethodName := ⟨"TriColourMachineModel", "global", "(I)J"⟩
abbrev b_Mod_object : ByteArray := prog_9_method_39_code
def y_Mod_object : MethodName := ⟨"TriColourMachineModel", "object", "(II)I"⟩
abbrev b_Mod_inside : ByteArray := prog_9_method_40_code
def y_Mod_inside : MethodName := ⟨"TriColourMachineModel", "inside", "(IIZ)J"⟩
abbrev b_Mod_count : ByteArray := prog_9_method_41_code
def y_Mod_count : MethodName := ⟨"TriColourMachineModel", "count", "(I)I"⟩
theorem f_TCM_12 : Cond.fieldLink "TriColourMachine" 12 "TriColourMachine" "heap" "LTriColourMachine$Heap;" ∈ TB := tb_mem 275 (by decide +kernel) rfl
theorem f_TCM_21 : Cond.fieldLink "TriColourMachine" 21 "TriColourMachine" "processor" "LTriColourMachine$Processor;" ∈ TB := tb_mem 274 (by decide +kernel) rfl
theorem f_Heap_9 : Cond.fieldLink "TriColourMachine$Heap" 9 "TriColourMachine$Heap" "globals" "[J" ∈ TB := tb_mem 173 (by decide +kernel) rfl
theorem f_Heap_17 : Cond.fieldLink "TriColourMachine$Heap" 17 "TriColourMachine$Heap" "cells" "[LTriColourMachine$Cell;" ∈ TB := tb_mem 176 (by decide +kernel) rfl
theorem f_Heap_21 : Cond.fieldLink "TriColourMachine$Heap" 21 "TriColourMachine$Heap" "phase" "I" ∈ TB := tb_mem 179 (by decide +kernel) rfl
theorem f_Heap_25 : Cond.fieldLink "TriColourMachine$Heap" 25 "TriColourMachine$Heap" "sweepFrom" "I" ∈ TB := tb_mem 181 (by decide +kernel) rfl
theorem f_Heap_28 : Cond.fieldLink "TriColourMachine$Heap" 28 "TriColourMachine$Heap" "made" "I" ∈ TB := tb_mem 183 (by decide +kernel) rfl
theorem f_Heap_31 : Cond.fieldLink "TriColourMachine$Heap" 31 "TriColourMachine$Heap" "gone" "I" ∈ TB := tb_mem 185 (by decide +kernel) rfl
theorem f_Heap_34 : Cond.fieldLink "TriColourMachine$Heap" 34 "TriColourMachine$Heap" "units" "I" ∈ TB := tb_mem 187 (by decide +kernel) rfl
theorem f_Heap_37 : Cond.fieldLink "TriColourMachine$Heap" 37 "TriColourMachine$Heap" "fullCollections" "I" ∈ TB := tb_mem 189 (by decide +kernel) rfl
theorem k_Heap_40 : Cond.constantLong "TriColourMachine$Heap" 40 (-1000000000000) ∈ TB := tb_mem 77 (by decide +kernel) rfl
theorem f_Heap_42 : Cond.fieldLink "TriColourMachine$Heap" 42 "TriColourMachine$Heap" "found" "J" ∈ TB := tb_mem 191 (by decide +kernel) rfl
theorem v_Heap_46 : ∀ w ∈ cwsS "TriColourMachine$Heap" 46 y_Arr_fill b_Arr_fill 5 none, w ∈ TB := tb_all [78, 79, 45, 80] (by decide +kernel) (by decide +kernel)
theorem f_Cell_12 : Cond.fieldLink "TriColourMachine$Cell" 12 "TriColourMachine$Cell" "table" "LTriColourMachine$Table;" ∈ TB := tb_mem 151 (by decide +kernel) rfl
theorem f_Cell_21 : Cond.fieldLink "TriColourMachine$Cell" 21 "TriColourMachine$Cell" "coroutine" "LTriColourMachine$Coroutine;" ∈ TB := tb_mem 154 (by decide +kernel) rfl
theorem f_Cell_25 : Cond.fieldLink "TriColourMachine$Cell" 25 "TriColourMachine$Cell" "kind" "I" ∈ TB := tb_mem 158 (by decide +kernel) rfl
theorem f_Cell_29 : Cond.fieldLink "TriColourMachine$Cell" 29 "TriColourMachine$Cell" "colour" "I" ∈ TB := tb_mem 161 (by decide +kernel) rfl
theorem f_Tab_9 : Cond.fieldLink "TriColourMachine$Table" 9 "TriColourMachine$Table" "keys" "[J" ∈ TB := tb_mem 92 (by decide +kernel) rfl
theorem f_Tab_15 : Cond.fieldLink "TriColourMachine$Table" 15 "TriColourMachine$Table" "values" "[J" ∈ TB := tb_mem 95 (by decide +kernel) rfl
theorem f_Tab_18 : Cond.fieldLink "TriColourMachine$Table" 18 "TriColourMachine$Table" "pairs" "I" ∈ TB := tb_mem 98 (by decide +kernel) rfl
theorem f_Tab_22 : Cond.fieldLink "TriColourMachine$Table" 22 "TriColourMachine$Table" "meta" "I" ∈ TB := tb_mem 102 (by decide +kernel) rfl
theorem f_Cor_9 : Cond.fieldLink "TriColourMachine$Coroutine" 9 "TriColourMachine$Coroutine" "registers" "[J" ∈ TB := tb_mem 121 (by decide +kernel) rfl
theorem f_Cor_15 : Cond.fieldLink "TriColourMachine$Coroutine" 15 "TriColourMachine$Coroutine" "function" "I" ∈ TB := tb_mem 125 (by decide +kernel) rfl
theorem f_Cor_19 : Cond.fieldLink "TriColourMachine$Coroutine" 19 "TriColourMachine$Coroutine" "place" "I" ∈ TB := tb_mem 127 (by decide +kernel) rfl
theorem f_Cor_22 : Cond.fieldLink "TriColourMachine$Coroutine" 22 "TriColourMachine$Coroutine" "state" "I" ∈ TB := tb_mem 130 (by decide +kernel) rfl
theorem f_Cor_25 : Cond.fieldLink "TriColourMachine$Coroutine" 25 "TriColourMachine$Coroutine" "comesIn" "I" ∈ TB := tb_mem 134 (by decide +kernel) rfl
theorem f_Cor_28 : Cond.fieldLink "TriColourMachine$Coroutine" 28 "TriColourMachine$Coroutine" "awaits" "I" ∈ TB := tb_mem 136 (by decide +kernel) rfl
theorem f_Pro_13 : Cond.fieldLink "TriColourMachine$Processor" 13 "TriColourMachine$Processor" "instructions" "[LTriColourMachine$Instruction;" ∈ TB := tb_mem 251 (by decide +kernel) rfl
theorem f_Pro_19 : Cond.fieldLink "TriColourMachine$Processor" 19 "TriColourMachine$Processor" "active" "[LTriColourMachine$Coroutine;" ∈ TB := tb_mem 252 (by decide +kernel) rfl
theorem f_Pro_23 : Cond.fieldLink "TriColourMachine$Processor" 23 "TriColourMachine$Processor" "depth" "I" ∈ TB := tb_mem 253 (by decide +kernel) rfl
theorem f_Pro_27 : Cond.fieldLink "TriColourMachine$Processor" 27 "TriColourMachine$Processor" "begun" "I" ∈ TB := tb_mem 254 (by decide +kernel) rfl
theorem f_Pro_30 : Cond.fieldLink "TriColourMachine$Processor" 30 "TriColourMachine$Processor" "nextPlace" "I" ∈ TB := tb_mem 256 (by decide +kernel) rfl
theorem k_Pro_33 : Cond.constantLong "TriColourMachine$Processor" 33 (-1000000000000) ∈ TB := tb_mem 223 (by decide +kernel) rfl
theorem f_Pro_35 : Cond.fieldLink "TriColourMachine$Processor" 35 "TriColourMachine$Processor" "outcome" "J" ∈ TB := tb_mem 257 (by decide +kernel) rfl
theorem f_Pro_39 : Cond.fieldLink "TriColourMachine$Processor" 39 "TriColourMachine$Processor" "heap" "LTriColourMachine$Heap;" ∈ TB := tb_mem 250 (by decide +kernel) rfl
theorem f_Ins_9 : Cond.fieldLink "TriColourMachine$Instruction" 9 "TriColourMachine$Instruction" "op" "I" ∈ TB := tb_mem 229 (by decide +kernel) rfl
theorem f_Ins_15 : Cond.fieldLink "TriColourMachine$Instruction" 15 "TriColourMachine$Instruction" "a" "I" ∈ TB := tb_mem 232 (by decide +kernel) rfl
theorem f_Ins_18 : Cond.fieldLink "TriColourMachine$Instruction" 18 "TriColourMachine$Instruction" "b" "I" ∈ TB := tb_mem 235 (by decide +kernel) rfl
theorem f_Ins_21 : Cond.fieldLink "TriColourMachine$Instruction" 21 "TriColourMachine$Instruction" "c" "I" ∈ TB := tb_mem 238 (by decide +kernel) rfl
theorem f_TCM_90 : Cond.fieldLink "TriColourMachine" 90 "TriColourMachine$Heap" "gone" "I" ∈ TB := tb_mem 186 (by decide +kernel) rfl
theorem v_TCM_96 : ∀ w ∈ cwsV "TriColourMachine" 96 "TriColourMachine$Heap" y_Heap_fullCollection b_Heap_fullCollection 2 none, w ∈ TB := tb_all [285, 286, 287, 44, 288] (by decide +kernel) (by decide +kernel)
theorem v_Heap_131 : ∀ w ∈ cwsV "TriColourMachine$Heap" 131 "TriColourMachine$Heap" y_Heap_unit b_Heap_unit 3 none, w ∈ TB := tb_all [289, 290, 291, 44, 292] (by decide +kernel) (by decide +kernel)
theorem v_Heap_134 : ∀ w ∈ cwsV "TriColourMachine$Heap" 134 "TriColourMachine$Heap" y_Heap_sweepOne b_Heap_sweepOne 2 none, w ∈ TB := tb_all [293, 295, 0, 44, 296] (by decide +kernel) (by decide +kernel)
theorem v_Heap_137 : ∀ w ∈ cwsV "TriColourMachine$Heap" 137 "TriColourMachine$Heap" y_Heap_leastGray b_Heap_leastGray 2 (some .int), w ∈ TB := tb_all [297, 299, 1, 44, 300] (by decide +kernel) (by decide +kernel)
theorem v_Heap_140 : ∀ w ∈ cwsV "TriColourMachine$Heap" 140 "TriColourMachine$Heap" y_Heap_blacken b_Heap_blacken 2 none, w ∈ TB := tb_all [301, 303, 2, 44, 304] (by decide +kernel) (by decide +kernel)
theorem v_Heap_144 : ∀ w ∈ cwsV "TriColourMachine$Heap" 144 "TriColourMachine$Heap" y_Heap_shadeRoots b_Heap_shadeRoots 3 (some .int), w ∈ TB := tb_all [313, 315, 4, 44, 316] (by decide +kernel) (by decide +kernel)
theorem f_Heap_59 : Cond.fieldLink "TriColourMachine$Heap" 59 "TriColourMachine$Cell" "kind" "I" ∈ TB := tb_mem 159 (by decide +kernel) rfl
theorem f_Heap_73 : Cond.fieldLink "TriColourMachine$Heap" 73 "TriColourMachine$Cell" "colour" "I" ∈ TB := tb_mem 162 (by decide +kernel) rfl
theorem f_Heap_85 : Cond.fieldLink "TriColourMachine$Heap" 85 "TriColourMachine$Cell" "coroutine" "LTriColourMachine$Coroutine;" ∈ TB := tb_mem 155 (by decide +kernel) rfl
theorem f_Heap_147 : Cond.fieldLink "TriColourMachine$Heap" 147 "TriColourMachine$Coroutine" "registers" "[J" ∈ TB := tb_mem 124 (by decide +kernel) rfl
theorem v_Heap_150 : ∀ w ∈ cwsV "TriColourMachine$Heap" 150 "TriColourMachine$Heap" y_Heap_shadeRow b_Heap_shadeRow 6 (some .int), w ∈ TB := tb_all [305, 307, 3, 44, 308] (by decide +kernel) (by decide +kernel)
theorem f_Heap_76 : Cond.fieldLink "TriColourMachine$Heap" 76 "TriColourMachine$Cell" "table" "LTriColourMachine$Table;" ∈ TB := tb_mem 152 (by decide +kernel) rfl
theorem f_Heap_128 : Cond.fieldLink "TriColourMachine$Heap" 128 "TriColourMachine$Table" "keys" "[J" ∈ TB := tb_mem 93 (by decide +kernel) rfl
theorem f_Heap_108 : Cond.fieldLink "TriColourMachine$Heap" 108 "TriColourMachine$Table" "pairs" "I" ∈ TB := tb_mem 100 (by decide +kernel) rfl
theorem f_Heap_105 : Cond.fieldLink "TriColourMachine$Heap" 105 "TriColourMachine$Table" "values" "[J" ∈ TB := tb_mem 96 (by decide +kernel) rfl
theorem f_Heap_121 : Cond.fieldLink "TriColourMachine$Heap" 121 "TriColourMachine$Table" "meta" "I" ∈ TB := tb_mem 103 (by decide +kernel) rfl
theorem v_Heap_154 : ∀ w ∈ cwsS "TriColourMachine$Heap" 154 y_Heap_shade b_Heap_shade 1 (some .int), w ∈ TB := tb_all [310, 311, 44, 312] (by decide +kernel) (by decide +kernel)
theorem k_Heap_53 : Cond.constantLong "TriColourMachine$Heap" 53 (10000000000) ∈ TB := tb_mem 309 (by decide +kernel) rfl
theorem v_Heap_158 : ∀ w ∈ cwsV "TriColourMachine$Heap" 158 "TriColourMachine$Cell" y_Cell_isActive b_Cell_isActive 1 (some .boolean), w ∈ TB := tb_all [317, 318, 319, 46, 320] (by decide +kernel) (by decide +kernel)
theorem f_Cell_32 : Cond.fieldLink "TriColourMachine$Cell" 32 "TriColourMachine$Coroutine" "state" "I" ∈ TB := tb_mem 131 (by decide +kernel) rfl
theorem f_TCM_154 : Cond.fieldLink "TriColourMachine" 154 "TriColourMachine$Heap" "made" "I" ∈ TB := tb_mem 184 (by decide +kernel) rfl
theorem f_TCM_157 : Cond.fieldLink "TriColourMachine" 157 "TriColourMachine$Heap" "phase" "I" ∈ TB := tb_mem 180 (by decide +kernel) rfl
theorem f_TCM_160 : Cond.fieldLink "TriColourMachine" 160 "TriColourMachine$Heap" "sweepFrom" "I" ∈ TB := tb_mem 182 (by decide +kernel) rfl
theorem f_TCM_163 : Cond.fieldLink "TriColourMachine" 163 "TriColourMachine$Processor" "begun" "I" ∈ TB := tb_mem 255 (by decide +kernel) rfl
theorem v_TCM_166 : ∀ w ∈ cwsV "TriColourMachine" 166 "TriColourMachine$Heap" y_Heap_grayOnes b_Heap_grayOnes 3 (some .int), w ∈ TB := tb_all [325, 326, 327, 44, 328] (by decide +kernel) (by decide +kernel)
theorem f_TCM_170 : Cond.fieldLink "TriColourMachine" 170 "TriColourMachine$Heap" "units" "I" ∈ TB := tb_mem 188 (by decide +kernel) rfl
theorem f_TCM_173 : Cond.fieldLink "TriColourMachine" 173 "TriColourMachine$Heap" "fullCollections" "I" ∈ TB := tb_mem 190 (by decide +kernel) rfl
theorem v_TCM_25 : ∀ w ∈ cwsS "TriColourMachine" 25 y_TCM_checkRange b_TCM_checkRange 3 none, w ∈ TB := tb_all [337, 338, 43, 339] (by decide +kernel) (by decide +kernel)
theorem v_TCM_29 : ∀ w ∈ cwsV "TriColourMachine" 29 "TriColourMachine$Processor" y_Pro_instructionAt b_Pro_instructionAt 3 (some (.object "TriColourMachine$Instruction")), w ∈ TB := tb_all [404, 405, 406, 49, 407] (by decide +kernel) (by decide +kernel)
theorem f_TCM_33 : Cond.fieldLink "TriColourMachine" 33 "TriColourMachine$Instruction" "op" "I" ∈ TB := tb_mem 230 (by decide +kernel) rfl
theorem f_TCM_39 : Cond.fieldLink "TriColourMachine" 39 "TriColourMachine$Instruction" "a" "I" ∈ TB := tb_mem 233 (by decide +kernel) rfl
theorem f_TCM_42 : Cond.fieldLink "TriColourMachine" 42 "TriColourMachine$Instruction" "b" "I" ∈ TB := tb_mem 236 (by decide +kernel) rfl
theorem f_TCM_45 : Cond.fieldLink "TriColourMachine" 45 "TriColourMachine$Instruction" "c" "I" ∈ TB := tb_mem 239 (by decide +kernel) rfl
theorem v_TCM_48 : ∀ w ∈ cwsS "TriColourMachine" 48 y_TCM_checkGlobal b_TCM_checkGlobal 1 none, w ∈ TB := tb_all [415, 416, 43, 417] (by decide +kernel) (by decide +kernel)
theorem f_TCM_52 : Cond.fieldLink "TriColourMachine" 52 "TriColourMachine$Heap" "globals" "[J" ∈ TB := tb_mem 174 (by decide +kernel) rfl
theorem k_TCM_56 : Cond.constantLong "TriColourMachine" 56 (-1000000000000) ∈ TB := tb_mem 425 (by decide +kernel) rfl
theorem v_TCM_58 : ∀ w ∈ cwsV "TriColourMachine" 58 "TriColourMachine$Heap" y_Heap_create b_Heap_create 5 (some .int), w ∈ TB := tb_all [434, 435, 436, 44, 437] (by decide +kernel) (by decide +kernel)
theorem v_TCM_62 : ∀ w ∈ cwsS "TriColourMachine" 62 y_TCM_raise b_TCM_raise 1 none, w ∈ TB := tb_all [457, 458, 43, 459] (by decide +kernel) (by decide +kernel)
theorem f_TCM_65 : Cond.fieldLink "TriColourMachine" 65 "TriColourMachine$Heap" "found" "J" ∈ TB := tb_mem 192 (by decide +kernel) rfl
theorem v_TCM_69 : ∀ w ∈ cwsS "TriColourMachine" 69 y_TCM_numberOf b_TCM_numberOf 2 (some .int), w ∈ TB := tb_all [490, 491, 43, 492] (by decide +kernel) (by decide +kernel)
theorem v_Heap_62 : ∀ w ∈ cwsV "TriColourMachine$Heap" 62 "TriColourMachine$Heap" y_Heap_leastFree b_Heap_leastFree 2 (some .int), w ∈ TB := tb_all [438, 440, 6, 44, 441] (by decide +kernel) (by decide +kernel)
theorem v_Heap_66 : ∀ w ∈ cwsV "TriColourMachine$Heap" 66 "TriColourMachine$Heap" y_Heap_fullCollection b_Heap_fullCollection 2 none, w ∈ TB := tb_all [442, 286, 287, 44, 288] (by decide +kernel) (by decide +kernel)
theorem v_Heap_69 : ∀ w ∈ cwsV "TriColourMachine$Heap" 69 "TriColourMachine$Heap" y_Heap_birthColour b_Heap_birthColour 2 (some .int), w ∈ TB := tb_all [443, 445, 7, 44, 446] (by decide +kernel) (by decide +kernel)
theorem v_Heap_80 : ∀ w ∈ cwsV "TriColourMachine$Heap" 80 "TriColourMachine$Table" y_Tab_clear b_Tab_clear 1 none, w ∈ TB := tb_all [447, 448, 449, 47, 450] (by decide +kernel) (by decide +kernel)
theorem v_Heap_89 : ∀ w ∈ cwsV "TriColourMachine$Heap" 89 "TriColourMachine$Coroutine" y_Cor_clear b_Cor_clear 2 none, w ∈ TB := tb_all [451, 452, 453, 48, 454] (by decide +kernel) (by decide +kernel)
theorem k_Cor_31 : Cond.constantLong "TriColourMachine$Coroutine" 31 (-1000000000000) ∈ TB := tb_mem 455 (by decide +kernel) rfl
theorem v_Cor_33 : ∀ w ∈ cwsS "TriColourMachine$Coroutine" 33 y_Arr_fill b_Arr_fill 5 none, w ∈ TB := tb_all [456, 79, 45, 80] (by decide +kernel) (by decide +kernel)
theorem k_TCM_186 : Cond.constantLong "TriColourMachine" 186 (10000000000) ∈ TB := tb_mem 493 (by decide +kernel) rfl
theorem v_TCM_73 : ∀ w ∈ cwsV "TriColourMachine" 73 "TriColourMachine$Heap" y_Heap_setting b_Heap_setting 10 (some .int), w ∈ TB := tb_all [502, 503, 504, 44, 505] (by decide +kernel) (by decide +kernel)
theorem v_Heap_94 : ∀ w ∈ cwsV "TriColourMachine$Heap" 94 "TriColourMachine$Heap" y_Heap_isA b_Heap_isA 4 (some .boolean), w ∈ TB := tb_all [506, 507, 508, 44, 509] (by decide +kernel) (by decide +kernel)
theorem v_Heap_98 : ∀ w ∈ cwsV "TriColourMachine$Heap" 98 "TriColourMachine$Heap" y_Heap_lastTable b_Heap_lastTable 10 (some .int), w ∈ TB := tb_all [511, 513, 8, 44, 514] (by decide +kernel) (by decide +kernel)
theorem v_Heap_102 : ∀ w ∈ cwsV "TriColourMachine$Heap" 102 "TriColourMachine$Table" y_Tab_find b_Tab_find 4 (some .int), w ∈ TB := tb_all [515, 516, 517, 47, 518] (by decide +kernel) (by decide +kernel)
theorem v_Heap_111 : ∀ w ∈ cwsV "TriColourMachine$Heap" 111 "TriColourMachine$Table" y_Tab_append b_Tab_append 5 none, w ∈ TB := tb_all [523, 524, 525, 47, 526] (by decide +kernel) (by decide +kernel)
theorem v_Heap_115 : ∀ w ∈ cwsV "TriColourMachine$Heap" 115 "TriColourMachine$Table" y_Tab_takeAway b_Tab_takeAway 3 none, w ∈ TB := tb_all [527, 528, 529, 47, 530] (by decide +kernel) (by decide +kernel)
theorem v_Heap_118 : ∀ w ∈ cwsV "TriColourMachine$Heap" 118 "TriColourMachine$Heap" y_Heap_touch b_Heap_touch 2 none, w ∈ TB := tb_all [534, 535, 536, 44, 537] (by decide +kernel) (by decide +kernel)
theorem v_Heap_124 : ∀ w ∈ cwsV "TriColourMachine$Heap" 124 "TriColourMachine$Heap" y_Heap_linked b_Heap_linked 6 (some .int), w ∈ TB := tb_all [519, 521, 9, 44, 522] (by decide +kernel) (by decide +kernel)
theorem v_TCM_77 : ∀ w ∈ cwsV "TriColourMachine" 77 "TriColourMachine$Heap" y_Heap_getting b_Heap_getting 8 (some .int), w ∈ TB := tb_all [545, 546, 547, 44, 548] (by decide +kernel) (by decide +kernel)
theorem v_TCM_81 : ∀ w ∈ cwsV "TriColourMachine" 81 "TriColourMachine$Heap" y_Heap_settingMeta b_Heap_settingMeta 6 (some .int), w ∈ TB := tb_all [556, 557, 558, 44, 559] (by decide +kernel) (by decide +kernel)
theorem v_TCM_84 : ∀ w ∈ cwsV "TriColourMachine" 84 "TriColourMachine$Processor" y_Pro_run b_Pro_run 8 (some .int), w ∈ TB := tb_all [567, 568, 569, 49, 570] (by decide +kernel) (by decide +kernel)
theorem f_TCM_87 : Cond.fieldLink "TriColourMachine" 87 "TriColourMachine$Processor" "outcome" "J" ∈ TB := tb_mem 258 (by decide +kernel) rfl
theorem v_Pro_44 : ∀ w ∈ cwsV "TriColourMachine$Processor" 44 "TriColourMachine$Processor" y_Pro_enter b_Pro_enter 7 (some .int), w ∈ TB := tb_all [571, 573, 10, 49, 574] (by decide +kernel) (by decide +kernel)
theorem f_Pro_48 : Cond.fieldLink "TriColourMachine$Processor" 48 "TriColourMachine$Coroutine" "function" "I" ∈ TB := tb_mem 126 (by decide +kernel) rfl
theorem f_Pro_51 : Cond.fieldLink "TriColourMachine$Processor" 51 "TriColourMachine$Coroutine" "place" "I" ∈ TB := tb_mem 128 (by decide +kernel) rfl
theorem v_Pro_54 : ∀ w ∈ cwsV "TriColourMachine$Processor" 54 "TriColourMachine$Processor" y_Pro_instructionAt b_Pro_instructionAt 3 (some (.object "TriColourMachine$Instruction")), w ∈ TB := tb_all [578, 405, 406, 49, 407] (by decide +kernel) (by decide +kernel)
theorem v_Pro_58 : ∀ w ∈ cwsV "TriColourMachine$Processor" 58 "TriColourMachine$Processor" y_Pro_perform b_Pro_perform 7 (some .int), w ∈ TB := tb_all [579, 581, 11, 49, 582] (by decide +kernel) (by decide +kernel)
theorem v_Pro_62 : ∀ w ∈ cwsV "TriColourMachine$Processor" 62 "TriColourMachine$Processor" y_Pro_endActive b_Pro_endActive 2 none, w ∈ TB := tb_all [622, 624, 16, 49, 625] (by decide +kernel) (by decide +kernel)
theorem v_Pro_65 : ∀ w ∈ cwsV "TriColourMachine$Processor" 65 "TriColourMachine$Heap" y_Heap_isA b_Heap_isA 4 (some .boolean), w ∈ TB := tb_all [575, 507, 508, 44, 509] (by decide +kernel) (by decide +kernel)
theorem f_Pro_75 : Cond.fieldLink "TriColourMachine$Processor" 75 "TriColourMachine$Heap" "cells" "[LTriColourMachine$Cell;" ∈ TB := tb_mem 177 (by decide +kernel) rfl
theorem f_Pro_79 : Cond.fieldLink "TriColourMachine$Processor" 79 "TriColourMachine$Cell" "coroutine" "LTriColourMachine$Coroutine;" ∈ TB := tb_mem 156 (by decide +kernel) rfl
theorem f_Pro_85 : Cond.fieldLink "TriColourMachine$Processor" 85 "TriColourMachine$Coroutine" "state" "I" ∈ TB := tb_mem 132 (by decide +kernel) rfl
theorem f_Pro_88 : Cond.fieldLink "TriColourMachine$Processor" 88 "TriColourMachine$Coroutine" "registers" "[J" ∈ TB := tb_mem 122 (by decide +kernel) rfl
theorem f_Pro_92 : Cond.fieldLink "TriColourMachine$Processor" 92 "TriColourMachine$Coroutine" "comesIn" "I" ∈ TB := tb_mem 135 (by decide +kernel) rfl
theorem v_Pro_95 : ∀ w ∈ cwsV "TriColourMachine$Processor" 95 "TriColourMachine$Heap" y_Heap_touch b_Heap_touch 2 none, w ∈ TB := tb_all [577, 535, 536, 44, 537] (by decide +kernel) (by decide +kernel)
theorem f_Pro_102 : Cond.fieldLink "TriColourMachine$Processor" 102 "TriColourMachine$Instruction" "op" "I" ∈ TB := tb_mem 231 (by decide +kernel) rfl
theorem f_Pro_105 : Cond.fieldLink "TriColourMachine$Processor" 105 "TriColourMachine$Instruction" "a" "I" ∈ TB := tb_mem 234 (by decide +kernel) rfl
theorem v_Pro_108 : ∀ w ∈ cwsS "TriColourMachine$Processor" 108 y_Math_floorMod b_Math_floorMod 3 (some .int), w ∈ TB := tb_all [583, 584, 59, 585] (by decide +kernel) (by decide +kernel)
theorem f_Pro_114 : Cond.fieldLink "TriColourMachine$Processor" 114 "TriColourMachine$Instruction" "b" "I" ∈ TB := tb_mem 237 (by decide +kernel) rfl
theorem f_Pro_117 : Cond.fieldLink "TriColourMachine$Processor" 117 "TriColourMachine$Instruction" "c" "I" ∈ TB := tb_mem 240 (by decide +kernel) rfl
theorem f_Pro_120 : Cond.fieldLink "TriColourMachine$Processor" 120 "TriColourMachine$Heap" "globals" "[J" ∈ TB := tb_mem 175 (by decide +kernel) rfl
theorem v_Pro_123 : ∀ w ∈ cwsV "TriColourMachine$Processor" 123 "TriColourMachine$Heap" y_Heap_create b_Heap_create 5 (some .int), w ∈ TB := tb_all [586, 435, 436, 44, 437] (by decide +kernel) (by decide +kernel)
theorem v_Pro_126 : ∀ w ∈ cwsV "TriColourMachine$Processor" 126 "TriColourMachine$Processor" y_Pro_keepFound b_Pro_keepFound 4 (some .int), w ∈ TB := tb_all [587, 589, 12, 49, 590] (by decide +kernel) (by decide +kernel)
theorem v_Pro_130 : ∀ w ∈ cwsV "TriColourMachine$Processor" 130 "TriColourMachine$Heap" y_Heap_getting b_Heap_getting 8 (some .int), w ∈ TB := tb_all [591, 546, 547, 44, 548] (by decide +kernel) (by decide +kernel)
theorem v_Pro_133 : ∀ w ∈ cwsV "TriColourMachine$Processor" 133 "TriColourMachine$Heap" y_Heap_setting b_Heap_setting 10 (some .int), w ∈ TB := tb_all [592, 503, 504, 44, 505] (by decide +kernel) (by decide +kernel)
theorem v_Pro_137 : ∀ w ∈ cwsS "TriColourMachine$Processor" 137 y_Pro_calculate b_Pro_calculate 9 (some .int), w ∈ TB := tb_all [593, 594, 49, 595] (by decide +kernel) (by decide +kernel)
theorem v_Pro_141 : ∀ w ∈ cwsV "TriColourMachine$Processor" 141 "TriColourMachine$Processor" y_Pro_jumpIfBelow b_Pro_jumpIfBelow 6 (some .int), w ∈ TB := tb_all [601, 603, 13, 49, 604] (by decide +kernel) (by decide +kernel)
theorem v_Pro_145 : ∀ w ∈ cwsV "TriColourMachine$Processor" 145 "TriColourMachine$Processor" y_Pro_jumpIf b_Pro_jumpIf 3 (some .int), w ∈ TB := tb_all [605, 607, 14, 49, 608] (by decide +kernel) (by decide +kernel)
theorem v_Pro_149 : ∀ w ∈ cwsV "TriColourMachine$Processor" 149 "TriColourMachine$Heap" y_Heap_settingMeta b_Heap_settingMeta 6 (some .int), w ∈ TB := tb_all [609, 557, 558, 44, 559] (by decide +kernel) (by decide +kernel)
theorem f_Pro_99 : Cond.fieldLink "TriColourMachine$Processor" 99 "TriColourMachine$Coroutine" "awaits" "I" ∈ TB := tb_mem 137 (by decide +kernel) rfl
theorem v_Pro_152 : ∀ w ∈ cwsV "TriColourMachine$Processor" 152 "TriColourMachine$Processor" y_Pro_leave b_Pro_leave 4 none, w ∈ TB := tb_all [610, 612, 15, 49, 613] (by decide +kernel) (by decide +kernel)
theorem v_Pro_156 : ∀ w ∈ cwsV "TriColourMachine$Processor" 156 "TriColourMachine$Heap" y_Heap_keyAfter b_Heap_keyAfter 7 (some .int), w ∈ TB := tb_all [614, 615, 616, 44, 617] (by decide +kernel) (by decide +kernel)
theorem v_Pro_159 : ∀ w ∈ cwsV "TriColourMachine$Processor" 159 "TriColourMachine$Heap" y_Heap_howMany b_Heap_howMany 3 (some .int), w ∈ TB := tb_all [618, 619, 620, 44, 621] (by decide +kernel) (by decide +kernel)
theorem f_Pro_162 : Cond.fieldLink "TriColourMachine$Processor" 162 "TriColourMachine$Heap" "found" "J" ∈ TB := tb_mem 193 (by decide +kernel) rfl
theorem k_TCM_182 : Cond.constantLong "TriColourMachine" 182 (-2147483648) ∈ TB := tb_mem 599 (by decide +kernel) rfl
theorem k_TCM_184 : Cond.constantLong "TriColourMachine" 184 (2147483647) ∈ TB := tb_mem 600 (by decide +kernel) rfl
theorem v_TCM_93 : ∀ w ∈ cwsV "TriColourMachine" 93 "TriColourMachine$Heap" y_Heap_unit b_Heap_unit 3 none, w ∈ TB := tb_all [633, 290, 291, 44, 292] (by decide +kernel) (by decide +kernel)
theorem f_TCM_99 : Cond.fieldLink "TriColourMachine" 99 "TriColourMachine$Heap" "cells" "[LTriColourMachine$Cell;" ∈ TB := tb_mem 178 (by decide +kernel) rfl
theorem f_TCM_103 : Cond.fieldLink "TriColourMachine" 103 "TriColourMachine$Cell" "kind" "I" ∈ TB := tb_mem 160 (by decide +kernel) rfl
theorem f_TCM_111 : Cond.fieldLink "TriColourMachine" 111 "TriColourMachine$Cell" "colour" "I" ∈ TB := tb_mem 163 (by decide +kernel) rfl
theorem f_TCM_114 : Cond.fieldLink "TriColourMachine" 114 "TriColourMachine$Cell" "table" "LTriColourMachine$Table;" ∈ TB := tb_mem 153 (by decide +kernel) rfl
theorem f_TCM_118 : Cond.fieldLink "TriColourMachine" 118 "TriColourMachine$Table" "pairs" "I" ∈ TB := tb_mem 101 (by decide +kernel) rfl
theorem f_TCM_123 : Cond.fieldLink "TriColourMachine" 123 "TriColourMachine$Table" "meta" "I" ∈ TB := tb_mem 104 (by decide +kernel) rfl
theorem f_TCM_126 : Cond.fieldLink "TriColourMachine" 126 "TriColourMachine$Cell" "coroutine" "LTriColourMachine$Coroutine;" ∈ TB := tb_mem 157 (by decide +kernel) rfl
theorem f_TCM_130 : Cond.fieldLink "TriColourMachine" 130 "TriColourMachine$Coroutine" "place" "I" ∈ TB := tb_mem 129 (by decide +kernel) rfl
theorem f_TCM_135 : Cond.fieldLink "TriColourMachine" 135 "TriColourMachine$Coroutine" "state" "I" ∈ TB := tb_mem 133 (by decide +kernel) rfl
theorem v_TCM_141 : ∀ w ∈ cwsV "TriColourMachine" 141 "TriColourMachine$Cell" y_Cell_rows b_Cell_rows 2 (some .int), w ∈ TB := tb_all [671, 672, 673, 46, 674] (by decide +kernel) (by decide +kernel)
theorem f_TCM_145 : Cond.fieldLink "TriColourMachine" 145 "TriColourMachine$Coroutine" "registers" "[J" ∈ TB := tb_mem 123 (by decide +kernel) rfl
theorem f_TCM_148 : Cond.fieldLink "TriColourMachine" 148 "TriColourMachine$Table" "values" "[J" ∈ TB := tb_mem 97 (by decide +kernel) rfl
theorem f_TCM_151 : Cond.fieldLink "TriColourMachine" 151 "TriColourMachine$Table" "keys" "[J" ∈ TB := tb_mem 94 (by decide +kernel) rfl
theorem f_Cell_35 : Cond.fieldLink "TriColourMachine$Cell" 35 "TriColourMachine$Table" "pairs" "I" ∈ TB := tb_mem 99 (by decide +kernel) rfl
end
