section
-- ===== PART A: goes FIRST, ahead of the names: the tables' words, and 'selects' of the private methods out of them =====
/-- a private method of a class that the tables say can be made, by its rows of tables_1 -/
def lw_okq (q : MethodName × Nat) : Prop := (q.1.cls ≠ "java/lang/invoke/MethodHandle" ∧ q.1.cls ≠ "java/lang/invoke/VarHandle") ∧ Cond.instantiable q.1.cls q.2 ∈ tables_1 ∧ Cond.privateMethod q.1 ∈ tables_1 ∧ Cond.instanceMethod q.1 ∈ tables_1
theorem lw_p0 : lw_okq (⟨"TriColourMachine$Heap", "sweepOne", "()V"⟩, 9) := ⟨⟨by decide +kernel, by decide +kernel⟩, List.mem_of_getElem? (i := 28) (by decide +kernel), List.mem_of_getElem? (i := 252) (by decide +kernel), List.mem_of_getElem? (i := 253) (by decide +kernel)⟩
theorem lw_p1 : lw_okq (⟨"TriColourMachine$Heap", "leastGray", "()I"⟩, 9) := ⟨⟨by decide +kernel, by decide +kernel⟩, List.mem_of_getElem? (i := 28) (by decide +kernel), List.mem_of_getElem? (i := 256) (by decide +kernel), List.mem_of_getElem? (i := 257) (by decide +kernel)⟩
theorem lw_p2 : lw_okq (⟨"TriColourMachine$Heap", "blacken", "(LTriColourMachine$Cell;)V"⟩, 9) := ⟨⟨by decide +kernel, by decide +kernel⟩, List.mem_of_getElem? (i := 28) (by decide +kernel), List.mem_of_getElem? (i := 260) (by decide +kernel), List.mem_of_getElem? (i := 261) (by decide +kernel)⟩
theorem lw_p3 : lw_okq (⟨"TriColourMachine$Heap", "shadeRow", "([JI)I"⟩, 9) := ⟨⟨by decide +kernel, by decide +kernel⟩, List.mem_of_getElem? (i := 28) (by decide +kernel), List.mem_of_getElem? (i := 264) (by decide +kernel), List.mem_of_getElem? (i := 265) (by decide +kernel)⟩
theorem lw_p4 : lw_okq (⟨"TriColourMachine$Heap", "shadeRoots", "()I"⟩, 9) := ⟨⟨by decide +kernel, by decide +kernel⟩, List.mem_of_getElem? (i := 28) (by decide +kernel), List.mem_of_getElem? (i := 272) (by decide +kernel), List.mem_of_getElem? (i := 273) (by decide +kernel)⟩
theorem lw_p5 : lw_okq (⟨"java/lang/Throwable", "fillInStackTrace", "(I)Ljava/lang/Throwable;"⟩, 6) := ⟨⟨by decide +kernel, by decide +kernel⟩, List.mem_of_getElem? (i := 338) (by decide +kernel), List.mem_of_getElem? (i := 336) (by decide +kernel), List.mem_of_getElem? (i := 337) (by decide +kernel)⟩
theorem lw_p6 : lw_okq (⟨"TriColourMachine$Heap", "leastFree", "()I"⟩, 9) := ⟨⟨by decide +kernel, by decide +kernel⟩, List.mem_of_getElem? (i := 28) (by decide +kernel), List.mem_of_getElem? (i := 397) (by decide +kernel), List.mem_of_getElem? (i := 398) (by decide +kernel)⟩
theorem lw_p7 : lw_okq (⟨"TriColourMachine$Heap", "birthColour", "(I)I"⟩, 9) := ⟨⟨by decide +kernel, by decide +kernel⟩, List.mem_of_getElem? (i := 28) (by decide +kernel), List.mem_of_getElem? (i := 402) (by decide +kernel), List.mem_of_getElem? (i := 403) (by decide +kernel)⟩
theorem lw_p8 : lw_okq (⟨"TriColourMachine$Heap", "lastTable", "(IJJ)I"⟩, 9) := ⟨⟨by decide +kernel, by decide +kernel⟩, List.mem_of_getElem? (i := 28) (by decide +kernel), List.mem_of_getElem? (i := 470) (by decide +kernel), List.mem_of_getElem? (i := 471) (by decide +kernel)⟩
theorem lw_p9 : lw_okq (⟨"TriColourMachine$Heap", "linked", "(IJ)I"⟩, 9) := ⟨⟨by decide +kernel, by decide +kernel⟩, List.mem_of_getElem? (i := 28) (by decide +kernel), List.mem_of_getElem? (i := 478) (by decide +kernel), List.mem_of_getElem? (i := 479) (by decide +kernel)⟩
theorem lw_p10 : lw_okq (⟨"TriColourMachine$Processor", "enter", "(JJ)I"⟩, 7) := ⟨⟨by decide +kernel, by decide +kernel⟩, List.mem_of_getElem? (i := 172) (by decide +kernel), List.mem_of_getElem? (i := 530) (by decide +kernel), List.mem_of_getElem? (i := 531) (by decide +kernel)⟩
theorem lw_p11 : lw_okq (⟨"TriColourMachine$Processor", "perform", "(LTriColourMachine$Coroutine;LTriColourMachine$Instruction;)I"⟩, 7) := ⟨⟨by decide +kernel, by decide +kernel⟩, List.mem_of_getElem? (i := 172) (by decide +kernel), List.mem_of_getElem? (i := 538) (by decide +kernel), List.mem_of_getElem? (i := 539) (by decide +kernel)⟩
theorem lw_p12 : lw_okq (⟨"TriColourMachine$Processor", "keepFound", "([JII)I"⟩, 7) := ⟨⟨by decide +kernel, by decide +kernel⟩, List.mem_of_getElem? (i := 172) (by decide +kernel), List.mem_of_getElem? (i := 546) (by decide +kernel), List.mem_of_getElem? (i := 547) (by decide +kernel)⟩
theorem lw_p13 : lw_okq (⟨"TriColourMachine$Processor", "jumpIfBelow", "(JJI)I"⟩, 7) := ⟨⟨by decide +kernel, by decide +kernel⟩, List.mem_of_getElem? (i := 172) (by decide +kernel), List.mem_of_getElem? (i := 560) (by decide +kernel), List.mem_of_getElem? (i := 561) (by decide +kernel)⟩
theorem lw_p14 : lw_okq (⟨"TriColourMachine$Processor", "jumpIf", "(ZI)I"⟩, 7) := ⟨⟨by decide +kernel, by decide +kernel⟩, List.mem_of_getElem? (i := 172) (by decide +kernel), List.mem_of_getElem? (i := 564) (by decide +kernel), List.mem_of_getElem? (i := 565) (by decide +kernel)⟩
theorem lw_p15 : lw_okq (⟨"TriColourMachine$Processor", "leave", "(J)V"⟩, 7) := ⟨⟨by decide +kernel, by decide +kernel⟩, List.mem_of_getElem? (i := 172) (by decide +kernel), List.mem_of_getElem? (i := 569) (by decide +kernel), List.mem_of_getElem? (i := 570) (by decide +kernel)⟩
def lw_privs_1 : List (MethodName × Nat) := [(⟨"TriColourMachine$Heap", "sweepOne", "()V"⟩, 9), (⟨"TriColourMachine$Heap", "leastGray", "()I"⟩, 9), (⟨"TriColourMachine$Heap", "blacken", "(LTriColourMachine$Cell;)V"⟩, 9), (⟨"TriColourMachine$Heap", "shadeRow", "([JI)I"⟩, 9), (⟨"TriColourMachine$Heap", "shadeRoots", "()I"⟩, 9), (⟨"java/lang/Throwable", "fillInStackTrace", "(I)Ljava/lang/Throwable;"⟩, 6), (⟨"TriColourMachine$Heap", "leastFree", "()I"⟩, 9), (⟨"TriColourMachine$Heap", "birthColour", "(I)I"⟩, 9), (⟨"TriColourMachine$Heap", "lastTable", "(IJJ)I"⟩, 9), (⟨"TriColourMachine$Heap", "linked", "(IJ)I"⟩, 9), (⟨"TriColourMachine$Processor", "enter", "(JJ)I"⟩, 7), (⟨"TriColourMachine$Processor", "perform", "(LTriColourMachine$Coroutine;LTriColourMachine$Instruction;)I"⟩, 7), (⟨"TriColourMachine$Processor", "keepFound", "([JII)I"⟩, 7), (⟨"TriColourMachine$Processor", "jumpIfBelow", "(JJI)I"⟩, 7), (⟨"TriColourMachine$Processor", "jumpIf", "(ZI)I"⟩, 7), (⟨"TriColourMachine$Processor", "leave", "(J)V"⟩, 7)]
theorem lw_r1 : ∀ q ∈ lw_privs_1, lw_okq q := List.forall_mem_cons.mpr ⟨lw_p0, List.forall_mem_cons.mpr ⟨lw_p1, List.forall_mem_cons.mpr ⟨lw_p2, List.forall_mem_cons.mpr ⟨lw_p3, List.forall_mem_cons.mpr ⟨lw_p4, List.forall_mem_cons.mpr ⟨lw_p5, List.forall_mem_cons.mpr ⟨lw_p6, List.forall_mem_cons.mpr ⟨lw_p7, List.forall_mem_cons.mpr ⟨lw_p8, List.forall_mem_cons.mpr ⟨lw_p9, List.forall_mem_cons.mpr ⟨lw_p10, List.forall_mem_cons.mpr ⟨lw_p11, List.forall_mem_cons.mpr ⟨lw_p12, List.forall_mem_cons.mpr ⟨lw_p13, List.forall_mem_cons.mpr ⟨lw_p14, List.forall_mem_cons.mpr ⟨lw_p15, fun _ h => absurd h List.not_mem_nil⟩⟩⟩⟩⟩⟩⟩⟩⟩⟩⟩⟩⟩⟩⟩⟩
theorem lw_p16 : lw_okq (⟨"TriColourMachine$Processor", "endActive", "()V"⟩, 7) := ⟨⟨by decide +kernel, by decide +kernel⟩, List.mem_of_getElem? (i := 172) (by decide +kernel), List.mem_of_getElem? (i := 581) (by decide +kernel), List.mem_of_getElem? (i := 582) (by decide +kernel)⟩
theorem lw_p17 : lw_okq (⟨"TriColourMachineModel", "badGlobal", "(I)Z"⟩, 28) := ⟨⟨by decide +kernel, by decide +kernel⟩, List.mem_of_getElem? (i := 634) (by decide +kernel), List.mem_of_getElem? (i := 739) (by decide +kernel), List.mem_of_getElem? (i := 740) (by decide +kernel)⟩
theorem lw_p18 : lw_okq (⟨"TriColourMachineModel", "create", "(II)I"⟩, 28) := ⟨⟨by decide +kernel, by decide +kernel⟩, List.mem_of_getElem? (i := 634) (by decide +kernel), List.mem_of_getElem? (i := 751) (by decide +kernel), List.mem_of_getElem? (i := 752) (by decide +kernel)⟩
theorem lw_p19 : lw_okq (⟨"TriColourMachineModel", "free", "()I"⟩, 28) := ⟨⟨by decide +kernel, by decide +kernel⟩, List.mem_of_getElem? (i := 634) (by decide +kernel), List.mem_of_getElem? (i := 755) (by decide +kernel), List.mem_of_getElem? (i := 756) (by decide +kernel)⟩
theorem lw_p20 : lw_okq (⟨"TriColourMachineModel", "whole", "()I"⟩, 28) := ⟨⟨by decide +kernel, by decide +kernel⟩, List.mem_of_getElem? (i := 634) (by decide +kernel), List.mem_of_getElem? (i := 759) (by decide +kernel), List.mem_of_getElem? (i := 760) (by decide +kernel)⟩
theorem lw_p21 : lw_okq (⟨"TriColourMachineModel", "unit", "()I"⟩, 28) := ⟨⟨by decide +kernel, by decide +kernel⟩, List.mem_of_getElem? (i := 634) (by decide +kernel), List.mem_of_getElem? (i := 763) (by decide +kernel), List.mem_of_getElem? (i := 764) (by decide +kernel)⟩
theorem lw_p22 : lw_okq (⟨"TriColourMachineModel", "shadeRoots", "()V"⟩, 28) := ⟨⟨by decide +kernel, by decide +kernel⟩, List.mem_of_getElem? (i := 634) (by decide +kernel), List.mem_of_getElem? (i := 767) (by decide +kernel), List.mem_of_getElem? (i := 768) (by decide +kernel)⟩
theorem lw_p23 : lw_okq (⟨"TriColourMachineModel", "shade", "(J)V"⟩, 28) := ⟨⟨by decide +kernel, by decide +kernel⟩, List.mem_of_getElem? (i := 634) (by decide +kernel), List.mem_of_getElem? (i := 771) (by decide +kernel), List.mem_of_getElem? (i := 772) (by decide +kernel)⟩
theorem lw_p24 : lw_okq (⟨"TriColourMachineModel", "objectOf", "(J)I"⟩, 28) := ⟨⟨by decide +kernel, by decide +kernel⟩, List.mem_of_getElem? (i := 634) (by decide +kernel), List.mem_of_getElem? (i := 775) (by decide +kernel), List.mem_of_getElem? (i := 776) (by decide +kernel)⟩
theorem lw_p25 : lw_okq (⟨"TriColourMachineModel", "leastGray", "()I"⟩, 28) := ⟨⟨by decide +kernel, by decide +kernel⟩, List.mem_of_getElem? (i := 634) (by decide +kernel), List.mem_of_getElem? (i := 780) (by decide +kernel), List.mem_of_getElem? (i := 781) (by decide +kernel)⟩
theorem lw_p26 : lw_okq (⟨"TriColourMachineModel", "blacken", "(I)V"⟩, 28) := ⟨⟨by decide +kernel, by decide +kernel⟩, List.mem_of_getElem? (i := 634) (by decide +kernel), List.mem_of_getElem? (i := 784) (by decide +kernel), List.mem_of_getElem? (i := 785) (by decide +kernel)⟩
theorem lw_p27 : lw_okq (⟨"TriColourMachineModel", "tableOf", "(J)I"⟩, 28) := ⟨⟨by decide +kernel, by decide +kernel⟩, List.mem_of_getElem? (i := 634) (by decide +kernel), List.mem_of_getElem? (i := 792) (by decide +kernel), List.mem_of_getElem? (i := 793) (by decide +kernel)⟩
theorem lw_p28 : lw_okq (⟨"TriColourMachineModel", "setting", "(IJJ)V"⟩, 28) := ⟨⟨by decide +kernel, by decide +kernel⟩, List.mem_of_getElem? (i := 634) (by decide +kernel), List.mem_of_getElem? (i := 796) (by decide +kernel), List.mem_of_getElem? (i := 797) (by decide +kernel)⟩
theorem lw_p29 : lw_okq (⟨"TriColourMachineModel", "pairOf", "(IJ)I"⟩, 28) := ⟨⟨by decide +kernel, by decide +kernel⟩, List.mem_of_getElem? (i := 634) (by decide +kernel), List.mem_of_getElem? (i := 800) (by decide +kernel), List.mem_of_getElem? (i := 801) (by decide +kernel)⟩
theorem lw_p30 : lw_okq (⟨"TriColourMachineModel", "next", "(IJ)I"⟩, 28) := ⟨⟨by decide +kernel, by decide +kernel⟩, List.mem_of_getElem? (i := 634) (by decide +kernel), List.mem_of_getElem? (i := 804) (by decide +kernel), List.mem_of_getElem? (i := 805) (by decide +kernel)⟩
theorem lw_p31 : lw_okq (⟨"TriColourMachineModel", "touch", "(I)V"⟩, 28) := ⟨⟨by decide +kernel, by decide +kernel⟩, List.mem_of_getElem? (i := 634) (by decide +kernel), List.mem_of_getElem? (i := 808) (by decide +kernel), List.mem_of_getElem? (i := 809) (by decide +kernel)⟩
def lw_privs_2 : List (MethodName × Nat) := [(⟨"TriColourMachine$Processor", "endActive", "()V"⟩, 7), (⟨"TriColourMachineModel", "badGlobal", "(I)Z"⟩, 28), (⟨"TriColourMachineModel", "create", "(II)I"⟩, 28), (⟨"TriColourMachineModel", "free", "()I"⟩, 28), (⟨"TriColourMachineModel", "whole", "()I"⟩, 28), (⟨"TriColourMachineModel", "unit", "()I"⟩, 28), (⟨"TriColourMachineModel", "shadeRoots", "()V"⟩, 28), (⟨"TriColourMachineModel", "shade", "(J)V"⟩, 28), (⟨"TriColourMachineModel", "objectOf", "(J)I"⟩, 28), (⟨"TriColourMachineModel", "leastGray", "()I"⟩, 28), (⟨"TriColourMachineModel", "blacken", "(I)V"⟩, 28), (⟨"TriColourMachineModel", "tableOf", "(J)I"⟩, 28), (⟨"TriColourMachineModel", "setting", "(IJJ)V"⟩, 28), (⟨"TriColourMachineModel", "pairOf", "(IJ)I"⟩, 28), (⟨"TriColourMachineModel", "next", "(IJ)I"⟩, 28), (⟨"TriColourMachineModel", "touch", "(I)V"⟩, 28)]
theorem lw_r2 : ∀ q ∈ lw_privs_2, lw_okq q := List.forall_mem_cons.mpr ⟨lw_p16, List.forall_mem_cons.mpr ⟨lw_p17, List.forall_mem_cons.mpr ⟨lw_p18, List.forall_mem_cons.mpr ⟨lw_p19, List.forall_mem_cons.mpr ⟨lw_p20, List.forall_mem_cons.mpr ⟨lw_p21, List.forall_mem_cons.mpr ⟨lw_p22, List.forall_mem_cons.mpr ⟨lw_p23, List.forall_mem_cons.mpr ⟨lw_p24, List.forall_mem_cons.mpr ⟨lw_p25, List.forall_mem_cons.mpr ⟨lw_p26, List.forall_mem_cons.mpr ⟨lw_p27, List.forall_mem_cons.mpr ⟨lw_p28, List.forall_mem_cons.mpr ⟨lw_p29, List.forall_mem_cons.mpr ⟨lw_p30, List.forall_mem_cons.mpr ⟨lw_p31, fun _ h => absurd h List.not_mem_nil⟩⟩⟩⟩⟩⟩⟩⟩⟩⟩⟩⟩⟩⟩⟩⟩
theorem lw_p32 : lw_okq (⟨"TriColourMachineModel", "getting", "(IJ)J"⟩, 28) := ⟨⟨by decide +kernel, by decide +kernel⟩, List.mem_of_getElem? (i := 634) (by decide +kernel), List.mem_of_getElem? (i := 816) (by decide +kernel), List.mem_of_getElem? (i := 817) (by decide +kernel)⟩
theorem lw_p33 : lw_okq (⟨"TriColourMachineModel", "join", "(JJ)V"⟩, 28) := ⟨⟨by decide +kernel, by decide +kernel⟩, List.mem_of_getElem? (i := 634) (by decide +kernel), List.mem_of_getElem? (i := 824) (by decide +kernel), List.mem_of_getElem? (i := 825) (by decide +kernel)⟩
theorem lw_p34 : lw_okq (⟨"TriColourMachineModel", "enter", "(JJ)V"⟩, 28) := ⟨⟨by decide +kernel, by decide +kernel⟩, List.mem_of_getElem? (i := 634) (by decide +kernel), List.mem_of_getElem? (i := 832) (by decide +kernel), List.mem_of_getElem? (i := 833) (by decide +kernel)⟩
theorem lw_p35 : lw_okq (⟨"TriColourMachineModel", "coroutineOf", "(J)I"⟩, 28) := ⟨⟨by decide +kernel, by decide +kernel⟩, List.mem_of_getElem? (i := 634) (by decide +kernel), List.mem_of_getElem? (i := 836) (by decide +kernel), List.mem_of_getElem? (i := 837) (by decide +kernel)⟩
theorem lw_p36 : lw_okq (⟨"TriColourMachineModel", "step", "()V"⟩, 28) := ⟨⟨by decide +kernel, by decide +kernel⟩, List.mem_of_getElem? (i := 634) (by decide +kernel), List.mem_of_getElem? (i := 840) (by decide +kernel), List.mem_of_getElem? (i := 841) (by decide +kernel)⟩
theorem lw_p37 : lw_okq (⟨"TriColourMachineModel", "leave", "(IJ)V"⟩, 28) := ⟨⟨by decide +kernel, by decide +kernel⟩, List.mem_of_getElem? (i := 634) (by decide +kernel), List.mem_of_getElem? (i := 844) (by decide +kernel), List.mem_of_getElem? (i := 845) (by decide +kernel)⟩
theorem lw_p38 : lw_okq (⟨"TriColourMachineModel", "jumps", "(IJJ)Z"⟩, 28) := ⟨⟨by decide +kernel, by decide +kernel⟩, List.mem_of_getElem? (i := 634) (by decide +kernel), List.mem_of_getElem? (i := 848) (by decide +kernel), List.mem_of_getElem? (i := 849) (by decide +kernel)⟩
theorem lw_p39 : lw_okq (⟨"TriColourMachineModel", "isNumber", "(J)Z"⟩, 28) := ⟨⟨by decide +kernel, by decide +kernel⟩, List.mem_of_getElem? (i := 634) (by decide +kernel), List.mem_of_getElem? (i := 852) (by decide +kernel), List.mem_of_getElem? (i := 853) (by decide +kernel)⟩
theorem lw_p40 : lw_okq (⟨"TriColourMachineModel", "calculate", "(IIIJJ)V"⟩, 28) := ⟨⟨by decide +kernel, by decide +kernel⟩, List.mem_of_getElem? (i := 634) (by decide +kernel), List.mem_of_getElem? (i := 858) (by decide +kernel), List.mem_of_getElem? (i := 859) (by decide +kernel)⟩
theorem lw_p41 : lw_okq (⟨"TriColourMachineModel", "following", "(IJ)J"⟩, 28) := ⟨⟨by decide +kernel, by decide +kernel⟩, List.mem_of_getElem? (i := 634) (by decide +kernel), List.mem_of_getElem? (i := 862) (by decide +kernel), List.mem_of_getElem? (i := 863) (by decide +kernel)⟩
def lw_privs_3 : List (MethodName × Nat) := [(⟨"TriColourMachineModel", "getting", "(IJ)J"⟩, 28), (⟨"TriColourMachineModel", "join", "(JJ)V"⟩, 28), (⟨"TriColourMachineModel", "enter", "(JJ)V"⟩, 28), (⟨"TriColourMachineModel", "coroutineOf", "(J)I"⟩, 28), (⟨"TriColourMachineModel", "step", "()V"⟩, 28), (⟨"TriColourMachineModel", "leave", "(IJ)V"⟩, 28), (⟨"TriColourMachineModel", "jumps", "(IJJ)Z"⟩, 28), (⟨"TriColourMachineModel", "isNumber", "(J)Z"⟩, 28), (⟨"TriColourMachineModel", "calculate", "(IIIJJ)V"⟩, 28), (⟨"TriColourMachineModel", "following", "(IJ)J"⟩, 28)]
theorem lw_r3 : ∀ q ∈ lw_privs_3, lw_okq q := List.forall_mem_cons.mpr ⟨lw_p32, List.forall_mem_cons.mpr ⟨lw_p33, List.forall_mem_cons.mpr ⟨lw_p34, List.forall_mem_cons.mpr ⟨lw_p35, List.forall_mem_cons.mpr ⟨lw_p36, List.forall_mem_cons.mpr ⟨lw_p37, List.forall_mem_cons.mpr ⟨lw_p38, List.forall_mem_cons.mpr ⟨lw_p39, List.forall_mem_cons.mpr ⟨lw_p40, List.forall_mem_cons.mpr ⟨lw_p41, fun _ h => absurd h List.not_mem_nil⟩⟩⟩⟩⟩⟩⟩⟩⟩⟩
def lw_privs : List (MethodName × Nat) := lw_privs_1 ++ (lw_privs_2 ++ (lw_privs_3))
def lw_tbl : List Cond := k2_sels lw_privs ++ tables_1
theorem lw_privs_ok : ∀ q ∈ lw_privs, lw_okq q := by
  show ∀ q ∈ lw_privs_1 ++ (lw_privs_2 ++ (lw_privs_3)), lw_okq q
  exact List.forall_mem_append.mpr ⟨lw_r1, List.forall_mem_append.mpr ⟨lw_r2, lw_r3⟩⟩
/-- the words that a warmer table keeps -/
def TB : List Cond := lw_tbl.filter goodWord
theorem tb_mem (i : Nat) {w : Cond} (h : lw_tbl[i]? = some w) (hg : goodWord w = true) : w ∈ TB := List.mem_filter.mpr ⟨List.mem_of_getElem? h, hg⟩
theorem tb_good : GoodIn TB TB := fun w hw => ⟨hw, good_of_word (List.mem_filter.mp hw).2⟩
theorem tb_all {ws : List Cond} (ps : List Nat) (h : ws = ps.filterMap (fun i => lw_tbl[i]?)) (hg : ws.all goodWord = true) : ∀ w ∈ ws, w ∈ TB := fun w hw => by
  have h1 := List.all_eq_true.mp hg w hw
  rw [h] at hw
  obtain ⟨i, -, hi⟩ := List.mem_filterMap.mp hw
  exact List.mem_filter.mpr ⟨List.mem_of_getElem? hi, h1⟩
theorem tb_tbl {w : Cond} (h : w ∈ TB) : w ∈ lw_tbl := (List.mem_filter.mp h).1
end
section
/-! THE LAYER: G, a walk over one world of N cells; a row an instruction; a contract a method (Ct), a row a call -/
abbrev GT : Type := Program × Launch × Env × Room × State × MethodId × Array Value × List Frame × Method × Code × (State → Prop) × va_G × List vw_C × (Nat → Prop) × Nat
def gp (Γ : GT) : Program := Γ.1
def gL (Γ : GT) : Launch := Γ.2.1
def ge (Γ : GT) : Env := Γ.2.2.1
def gR (Γ : GT) : Room := Γ.2.2.2.1
def gs (Γ : GT) : State := Γ.2.2.2.2.1
def gm (Γ : GT) : MethodId := Γ.2.2.2.2.2.1
def ga (Γ : GT) : Array Value := Γ.2.2.2.2.2.2.1
def gb (Γ : GT) : List Frame := Γ.2.2.2.2.2.2.2.1
def gM (Γ : GT) : Method := Γ.2.2.2.2.2.2.2.2.1
def gc (Γ : GT) : Code := Γ.2.2.2.2.2.2.2.2.2.1
def gZ (Γ : GT) : State → Prop := Γ.2.2.2.2.2.2.2.2.2.2.1
def gD (Γ : GT) : va_G := Γ.2.2.2.2.2.2.2.2.2.2.2.1
def gC (Γ : GT) : List vw_C := Γ.2.2.2.2.2.2.2.2.2.2.2.2.1
def gA (Γ : GT) : Nat → Prop := Γ.2.2.2.2.2.2.2.2.2.2.2.2.2.1
def gN (Γ : GT) : Nat := Γ.2.2.2.2.2.2.2.2.2.2.2.2.2.2
def gW (Γ : GT) (H : Heap) (locs : List Loc) (kc ks : Nat) (f : JFrame) : Prop := W (gp Γ) (gL Γ) (ge Γ) (gR Γ) (gs Γ) (gm Γ) (ga Γ) (gb Γ) (gM Γ) (gc Γ) H locs kc ks (gZ Γ) f
/-- a world of N cells: cell k at the address ad k, holding σ k -/
def gl (N : Nat) (ad : Nat → Nat) (σ : Nat → va_E) : va_W := (List.range N).map fun k => (ad k, σ k)
theorem gl_at {N : Nat} {ad : Nat → Nat} {σ : Nat → va_E} {k : Nat} (h : k < N) : (gl N ad σ)[k]? = some (ad k, σ k) := by
  simp [gl, List.getElem?_map, List.getElem?_range h]
theorem gl_out {N : Nat} {ad : Nat → Nat} {σ : Nat → va_E} {k : Nat} {q : Nat × va_E} (h : (gl N ad σ)[k]? = some q) : k < N ∧ q = (ad k, σ k) := by
  have hk : k < N := by
    have := (List.getElem?_eq_some_iff.mp h).1
    simpa [gl] using this
  exact ⟨hk, (Option.some.inj ((gl_at hk).symm.trans h)).symm⟩
theorem gl_len (N : Nat) (ad : Nat → Nat) (σ : Nat → va_E) : (gl N ad σ).length = N := by simp [gl]
theorem gl_set {N : Nat} {ad : Nat → Nat} {σ : Nat → va_E} {k : Nat} (h : k < N) (e : va_E) : (gl N ad σ).set k (ad k, e) = gl N ad (va_up σ k e) := by
  apply List.ext_getElem?
  intro i
  by_cases hi : i < N
  · rw [gl_at hi]
    by_cases hk : i = k
    · subst hk
      rw [List.getElem?_set_self (by rw [gl_len]; exact h)]
      simp [va_up]
    · rw [List.getElem?_set_ne (Ne.symm hk), gl_at hi]
      simp [va_up, hk]
  · rw [List.getElem?_eq_none (by rw [List.length_set, gl_len]; omega), List.getElem?_eq_none (by rw [gl_len]; omega)]
theorem gl_push {N : Nat} {ad : Nat → Nat} {σ : Nat → va_E} {q : Nat} {e : va_E} : gl N ad σ ++ [(q, e)] = gl (N + 1) (va_up ad N q) (va_up σ N e) := by
  apply List.ext_getElem?
  intro i
  by_cases hi : i < N
  · rw [List.getElem?_append_left (by rw [gl_len]; exact hi), gl_at hi, gl_at (show i < N + 1 by omega)]
    have : i ≠ N := by omega
    simp [va_up, this]
  · by_cases hn : i = N
    · subst hn
      rw [List.getElem?_append_right (by rw [gl_len]; exact Nat.le_refl _), gl_len, Nat.sub_self, gl_at (show i < i + 1 by omega)]
      simp [va_up]
    · rw [List.getElem?_eq_none (by simp [gl_len]; omega), List.getElem?_eq_none (by rw [gl_len]; omega)]
theorem gl_congr {N : Nat} {ad ad' : Nat → Nat} {σ σ' : Nat → va_E} (h : ∀ k, k < N → ad k = ad' k ∧ σ k = σ' k) : gl N ad σ = gl N ad' σ' := by
  apply List.ext_getElem?
  intro i
  by_cases hi : i < N
  · rw [gl_at hi, gl_at hi, (h i hi).1, (h i hi).2]
  · rw [List.getElem?_eq_none (by rw [gl_len]; omega), List.getElem?_eq_none (by rw [gl_len]; omega)]
/-- the locals: a list; none: not known -/
def hasL (ls : Array Slot) (nL : Nat) (L : List (Option Value)) : Prop := ls.size = nL ∧ lv_wf ls ∧ ∀ (i : Nat) (v : Value), L[i]? = some (some v) → ls[i]? = some (.val v)
def asL (L : List (Option Value)) : List (Nat × Value) := (List.range L.length).filterMap fun i => match L[i]? with
  | some (some v) => some (i, v)
  | _ => none
theorem asL_in {L : List (Option Value)} {i : Nat} {v : Value} : (i, v) ∈ asL L ↔ L[i]? = some (some v) := by
  unfold asL
  rw [List.mem_filterMap]
  constructor
  · rintro ⟨j, -, hj⟩
    split at hj
    · rename_i w hw
      cases hj
      exact hw
    · cases hj
  · intro h
    refine ⟨i, List.mem_range.mpr (List.getElem?_eq_some_iff.mp h).1, ?_⟩
    rw [h]
theorem hasL.lv {ls : Array Slot} {nL : Nat} {L : List (Option Value)} (h : hasL ls nL L) : lv_has ls nL (asL L) := ⟨h.1, h.2.1, fun q hq => h.2.2 q.1 q.2 (asL_in.mp hq)⟩
/-- place i can be stored to: no long begins just ahead of it -/
def okS (L : List (Option Value)) (i : Nat) : Bool := match i with
  | 0 => true
  | j + 1 => match L[j]? with
    | some (some v) => !(v.category == 2)
    | _ => true
theorem okS_ok {L : List (Option Value)} {i j : Nat} {v : Value} (h : okS L i = true) (hj : j + 1 = i) (hv : L[j]? = some (some v)) : (v.category == 2) = false := by
  subst hj
  simp only [okS, hv] at h
  simpa using h
theorem hasL_1 {ls ls' : Array Slot} {nL : Nat} {L : List (Option Value)} {i : Nat} {v : Value} (ho : okS L i = true)
    (h' : lv_has ls' nL ((i, v) :: (asL L).filter (fun q => !(q.1 == i) && !(q.1 + 1 == i && q.2.category == 2)))) : hasL ls' nL (L.set i (some v)) := by
  refine ⟨h'.1, h'.2.1, fun j w hj => ?_⟩
  by_cases hi : i = j
  · subst hi
    have hlt : i < L.length := by
      have := (List.getElem?_eq_some_iff.mp hj).1
      simpa using this
    rw [List.getElem?_set_self hlt] at hj
    cases hj
    exact h'.2.2 (i, v) List.mem_cons_self
  · rw [List.getElem?_set_ne hi] at hj
    refine h'.2.2 (j, w) (List.mem_cons_of_mem _ (List.mem_filter.mpr ⟨asL_in.mpr hj, ?_⟩))
    have e1 : (j == i) = false := by simpa using (Ne.symm hi)
    by_cases h2 : j + 1 = i
    · simp [e1, okS_ok ho h2 hj]
    · have e2 : (j + 1 == i) = false := by simpa using h2
      simp [e1, e2]
theorem hasL_2 {ls ls' : Array Slot} {nL : Nat} {L : List (Option Value)} {i : Nat} {v : Value} (ho : okS L i = true)
    (h' : lv_has ls' nL ((i, v) :: (asL L).filter (fun q => !(q.1 == i) && (!(q.1 == i + 1) && !(q.1 + 1 == i && q.2.category == 2))))) : hasL ls' nL ((L.set i (some v)).set (i + 1) none) := by
  refine ⟨h'.1, h'.2.1, fun j w hj => ?_⟩
  by_cases h1 : i + 1 = j
  · subst h1
    by_cases hlt : i + 1 < (L.set i (some v)).length
    · rw [List.getElem?_set_self hlt] at hj
      cases hj
    · rw [List.getElem?_eq_none (by rw [List.length_set]; omega)] at hj
      cases hj
  · rw [List.getElem?_set_ne h1] at hj
    by_cases hi : i = j
    · subst hi
      have hlt : i < L.length := by
        have := (List.getElem?_eq_some_iff.mp hj).1
        simpa using this
      rw [List.getElem?_set_self hlt] at hj
      cases hj
      exact h'.2.2 (i, v) List.mem_cons_self
    · rw [List.getElem?_set_ne hi] at hj
      refine h'.2.2 (j, w) (List.mem_cons_of_mem _ (List.mem_filter.mpr ⟨asL_in.mpr hj, ?_⟩))
      have e1 : (j == i) = false := by simpa using (Ne.symm hi)
      have e3 : (j == i + 1) = false := by simpa using (Ne.symm h1)
      by_cases h2 : j + 1 = i
      · simp [e1, e3, okS_ok ho h2 hj]
      · have e2 : (j + 1 == i) = false := by simpa using h2
        simp [e1, e2, e3]
/-- the walk from pc with the locals L, the stack st, over the world -/
def G (Γ : GT) (kc ks N : Nat) (ad : Nat → Nat) (σ : Nat → va_E) (pc : Nat) (L : List (Option Value)) (st : List Value) : Prop :=
  ∀ (H : Heap) (locs : List Loc) (ls : Array Slot), va_P (gD Γ) (gC Γ) (gl N ad σ) H → va_D (gA Γ) (gl N ad σ) → va_S (gA Γ) (gs Γ).heap H locs → hasL ls (gN Γ) L → gW Γ H locs kc ks (F0 (gm Γ) pc ls st)
/-- what a walk stands on: the code, the class of the method, the room, the tables' words, the classes and array classes -/
def zL (C n d : String) (A : Nat → Prop) (U : State) (H : Heap) : Prop := ∃ (c : ClassId) (k : Class) (i : Nat) (f : Field) (a : Nat) (cell : Cell), (U.vm.findClass C = some c ∧ U.fieldFound? C n d = some (c, k, i, f) ∧ f.isStatic = true ∧ k.statics = some a ∧ k.staticTypes[f.slot]? = some f.type) ∧ H[a]? = some cell ∧ (cell.vm.isStatics = true ∧ cell.cls = c ∧ f.slot < cell.slots.size) ∧ ¬ A a
/-- a static field of the JDK's that nobody writes: where it lies, and that it holds a reference or null -/
def zq (C n d : String) (A : Nat → Prop) (U : State) (H : Heap) : Prop := va_Zq C n d A U H ∧ zL C n d A U H
theorem zq.moved {C n d : String} {A : Nat → Prop} {u U : State} {H : Heap} (hvm : u.vm.Alike U.vm) (h : zq C n d A u H) : zq C n d A U H := by
  obtain ⟨h0, c, k, i, f, a, cell, ⟨h1, h2, h3, h4, h5⟩, h6⟩ := h
  obtain ⟨k', hi', he⟩ := State.fieldFound?_setVm hvm h2
  exact ⟨va_Zq.moved hvm h0, c, k', i, f, a, cell, ⟨by rw [hvm.findClass]; exact h1, hi', h3, by rw [he]; exact h4, by rw [he]; exact h5⟩, h6⟩
theorem zq.kept {C n d : String} {A : Nat → Prop} {U : State} {H H1 : Heap} (h : zq C n d A U H) (hq : ∀ a : Nat, a < H.size → ¬ A a → H1[a]? = H[a]?) : zq C n d A U H1 := by
  obtain ⟨h0, c, k, i, f, a, cell, h1, h2, h3, h4⟩ := h
  exact ⟨va_Zq.kept h0 hq, c, k, i, f, a, cell, h1, by rw [hq a (Array.getElem?_eq_some_iff.mp h2).1 h4]; exact h2, h3, h4⟩
theorem zq.narrow {C n d : String} {A B : Nat → Prop} {U : State} {H : Heap} (h : zq C n d A U H) (hAB : ∀ q, B q → A q) : zq C n d B U H := by
  obtain ⟨h0, c, k, i, f, a, cell, h1, h2, h3, h4⟩ := h
  exact ⟨va_Zq.narrow h0 hAB, c, k, i, f, a, cell, h1, h2, h3, fun z => h4 (hAB _ z)⟩
def EX (D : va_G) (cl : List vw_C) (tys : List (ClassId × FieldType)) (nl : List (String × Nat × MethodName × String)) (A : Nat → Prop) (U : State) (H : Heap) : Prop :=
  va_K D cl tys U ∧ (∀ q ∈ nl, va_Nw (.methodLinkNest q.1 q.2.1 q.2.2.1 q.2.2.2) U) ∧ zq Bundle.tN "UNASSIGNED_STACK" Bundle.steD A U H ∧ zq Bundle.tN "SUPPRESSED_SENTINEL" Bundle.listD A U H
def Cx (Γ : GT) (cc : ByteArray) (own : String) (rm : Room) (Ts : List Cond) (cl : List vw_C) (tys : List (ClassId × FieldType)) (nl : List (String × Nat × MethodName × String)) : Prop :=
  (gp Γ).tables.exec = Jvm.exec ∧ (gc Γ).code = cc ∧ (gc Γ).maxLocals = gN Γ ∧ (gs Γ).vm.findClass own = some (gm Γ).cls ∧ gR Γ = rm ∧ (∀ w ∈ Ts, w.before (ga Γ) (gs Γ) = true) ∧ gC Γ = cl ∧ EX (gD Γ) (gC Γ) tys nl (gA Γ) (gs Γ) (gs Γ).heap ∧ (∀ q, (gs Γ).heap.size ≤ q → gA Γ q)
section Rows
variable {Γ : GT} {cc : ByteArray} {own : String} {rm : Room} {Ts : List Cond} {cl : List vw_C} {tys : List (ClassId × FieldType)} {nl : List (String × Nat × MethodName × String)} {kc ks N pc : Nat} {ad : Nat → Nat} {σ : Nat → va_E} {L : List (Option Value)} {st : List Value}
theorem Cx.x (h : Cx Γ cc own rm Ts cl tys nl) : (gp Γ).tables.exec = Jvm.exec := h.1
theorem Cx.b (h : Cx Γ cc own rm Ts cl tys nl) : (gc Γ).code = cc := h.2.1
theorem Cx.ml (h : Cx Γ cc own rm Ts cl tys nl) : (gc Γ).maxLocals = gN Γ := h.2.2.1
theorem Cx.ow (h : Cx Γ cc own rm Ts cl tys nl) : (gs Γ).vm.findClass own = some (gm Γ).cls := h.2.2.2.1
theorem Cx.R (h : Cx Γ cc own rm Ts cl tys nl) : gR Γ = rm := h.2.2.2.2.1
theorem Cx.ts (h : Cx Γ cc own rm Ts cl tys nl) : ∀ w ∈ Ts, w.before (ga Γ) (gs Γ) = true := h.2.2.2.2.2.1
theorem Cx.cL (h : Cx Γ cc own rm Ts cl tys nl) : gC Γ = cl := h.2.2.2.2.2.2.1
theorem Cx.E (h : Cx Γ cc own rm Ts cl tys nl) : EX (gD Γ) (gC Γ) tys nl (gA Γ) (gs Γ) (gs Γ).heap := h.2.2.2.2.2.2.2.1
theorem Cx.K (h : Cx Γ cc own rm Ts cl tys nl) : va_K (gD Γ) (gC Γ) tys (gs Γ) := h.2.2.2.2.2.2.2.1.1
theorem Cx.A (h : Cx Γ cc own rm Ts cl tys nl) : ∀ q, (gs Γ).heap.size ≤ q → gA Γ q := h.2.2.2.2.2.2.2.2
/-- another spelling of the same point -/
theorem g_at {pc' : Nat} {L' : List (Option Value)} {st' : List Value} (e1 : pc = pc') (e2 : L = L') (e3 : st = st') (k : G Γ kc ks N ad σ pc' L' st') : G Γ kc ks N ad σ pc L st := by subst e1; subst e2; subst e3; exact k
theorem g_world {σ' : Nat → va_E} (e : ∀ k, k < N → σ k = σ' k) (k : G Γ kc ks N ad σ' pc L st) : G Γ kc ks N ad σ pc L st := fun H locs ls hP hD hS hl => by
  rw [gl_congr (fun j hj => ⟨rfl, e j hj⟩)] at hP hD
  exact k H locs ls hP hD hS hl
theorem g_widen {k2 n2 : Nat} (h1 : kc ≤ k2) (h2 : ks ≤ n2) (k : G Γ k2 n2 N ad σ pc L st) : G Γ kc ks N ad σ pc L st := fun H locs ls hP hD hS hl => W.widen h1 h2 (k H locs ls hP hD hS hl)
/-- fewer locals are known -/
theorem g_less {L' : List (Option Value)} (h : ∀ (i : Nat) (v : Value), L'[i]? = some (some v) → L[i]? = some (some v)) (k : G Γ kc ks N ad σ pc L' st) : G Γ kc ks N ad σ pc L st := fun H locs ls hP hD hS hl => k H locs ls hP hD hS ⟨hl.1, hl.2.1, fun i v hi => hl.2.2 i v (h i v hi)⟩
theorem g_iadd (h : Cx Γ cc own rm Ts cl tys nl) {x y : Int32} (hd : decode cc pc = .ok (.iadd, 1)) (k : G Γ kc ks N ad σ (pc + 1) L (.int (x + y) :: st)) : G Γ kc ks N ad σ pc L (.int y :: .int x :: st) := fun H locs ls hP hD hS hl => lv_iadd h.x h.b hd (k H locs ls hP hD hS hl)
theorem g_isub (h : Cx Γ cc own rm Ts cl tys nl) {x y : Int32} (hd : decode cc pc = .ok (.isub, 1)) (k : G Γ kc ks N ad σ (pc + 1) L (.int (x - y) :: st)) : G Γ kc ks N ad σ pc L (.int y :: .int x :: st) := fun H locs ls hP hD hS hl => lv_isub h.x h.b hd (k H locs ls hP hD hS hl)
theorem g_imul (h : Cx Γ cc own rm Ts cl tys nl) {x y : Int32} (hd : decode cc pc = .ok (.imul, 1)) (k : G Γ kc ks N ad σ (pc + 1) L (.int (x * y) :: st)) : G Γ kc ks N ad σ pc L (.int y :: .int x :: st) := fun H locs ls hP hD hS hl => lv_imul h.x h.b hd (k H locs ls hP hD hS hl)
theorem g_iand (h : Cx Γ cc own rm Ts cl tys nl) {x y : Int32} (hd : decode cc pc = .ok (.iand, 1)) (k : G Γ kc ks N ad σ (pc + 1) L (.int (x &&& y) :: st)) : G Γ kc ks N ad σ pc L (.int y :: .int x :: st) := fun H locs ls hP hD hS hl => lv_iand h.x h.b hd (k H locs ls hP hD hS hl)
theorem g_ior (h : Cx Γ cc own rm Ts cl tys nl) {x y : Int32} (hd : decode cc pc = .ok (.ior, 1)) (k : G Γ kc ks N ad σ (pc + 1) L (.int (x ||| y) :: st)) : G Γ kc ks N ad σ pc L (.int y :: .int x :: st) := fun H locs ls hP hD hS hl => lv_ior h.x h.b hd (k H locs ls hP hD hS hl)
theorem g_ixor (h : Cx Γ cc own rm Ts cl tys nl) {x y : Int32} (hd : decode cc pc = .ok (.ixor, 1)) (k : G Γ kc ks N ad σ (pc + 1) L (.int (x ^^^ y) :: st)) : G Γ kc ks N ad σ pc L (.int y :: .int x :: st) := fun H locs ls hP hD hS hl => lv_ixor h.x h.b hd (k H locs ls hP hD hS hl)
theorem g_ladd (h : Cx Γ cc own rm Ts cl tys nl) {x y : Int64} (hd : decode cc pc = .ok (.ladd, 1)) (k : G Γ kc ks N ad σ (pc + 1) L (.long (x + y) :: st)) : G Γ kc ks N ad σ pc L (.long y :: .long x :: st) := fun H locs ls hP hD hS hl => lv_ladd h.x h.b hd (k H locs ls hP hD hS hl)
theorem g_lsub (h : Cx Γ cc own rm Ts cl tys nl) {x y : Int64} (hd : decode cc pc = .ok (.lsub, 1)) (k : G Γ kc ks N ad σ (pc + 1) L (.long (x - y) :: st)) : G Γ kc ks N ad σ pc L (.long y :: .long x :: st) := fun H locs ls hP hD hS hl => lv_lsub h.x h.b hd (k H locs ls hP hD hS hl)
theorem g_lmul (h : Cx Γ cc own rm Ts cl tys nl) {x y : Int64} (hd : decode cc pc = .ok (.lmul, 1)) (k : G Γ kc ks N ad σ (pc + 1) L (.long (x * y) :: st)) : G Γ kc ks N ad σ pc L (.long y :: .long x :: st) := fun H locs ls hP hD hS hl => lv_lmul h.x h.b hd (k H locs ls hP hD hS hl)
theorem g_idiv (h : Cx Γ cc own rm Ts cl tys nl) {x y : Int32} (hd : decode cc pc = .ok (.idiv, 1)) (hne : ¬ y = 0) (k : G Γ kc ks N ad σ (pc + 1) L (.int (x / y) :: st)) : G Γ kc ks N ad σ pc L (.int y :: .int x :: st) := fun H locs ls hP hD hS hl => lv_idiv h.x h.b hd hne (k H locs ls hP hD hS hl)
theorem g_irem (h : Cx Γ cc own rm Ts cl tys nl) {x y : Int32} (hd : decode cc pc = .ok (.irem, 1)) (hne : ¬ y = 0) (k : G Γ kc ks N ad σ (pc + 1) L (.int (x - x / y * y) :: st)) : G Γ kc ks N ad σ pc L (.int y :: .int x :: st) := fun H locs ls hP hD hS hl => lv_irem h.x h.b hd hne (k H locs ls hP hD hS hl)
theorem g_ineg (h : Cx Γ cc own rm Ts cl tys nl) {x : Int32} (hd : decode cc pc = .ok (.ineg, 1)) (k : G Γ kc ks N ad σ (pc + 1) L (.int (-x) :: st)) : G Γ kc ks N ad σ pc L (.int x :: st) := fun H locs ls hP hD hS hl => lv_ineg h.x h.b hd (k H locs ls hP hD hS hl)
theorem g_i2l (h : Cx Γ cc own rm Ts cl tys nl) {x : Int32} (hd : decode cc pc = .ok (.i2l, 1)) (k : G Γ kc ks N ad σ (pc + 1) L (.long x.toInt64 :: st)) : G Γ kc ks N ad σ pc L (.int x :: st) := fun H locs ls hP hD hS hl => lv_i2l h.x h.b hd rfl (k H locs ls hP hD hS hl)
theorem g_l2i (h : Cx Γ cc own rm Ts cl tys nl) {x : Int64} (hd : decode cc pc = .ok (.l2i, 1)) (k : G Γ kc ks N ad σ (pc + 1) L (.int x.toInt32 :: st)) : G Γ kc ks N ad σ pc L (.long x :: st) := fun H locs ls hP hD hS hl => lv_l2i h.x h.b hd rfl (k H locs ls hP hD hS hl)
theorem g_iconst (h : Cx Γ cc own rm Ts cl tys nl) {n : Int} {v : Int32} (hd : decode cc pc = .ok (.iconst n, 1)) (hv : Int32.ofInt n = v) (k : G Γ kc ks N ad σ (pc + 1) L (.int v :: st)) : G Γ kc ks N ad σ pc L (st) := fun H locs ls hP hD hS hl => lv_iconst h.x h.b hd hv (k H locs ls hP hD hS hl)
theorem g_bipush (h : Cx Γ cc own rm Ts cl tys nl) {n : Int} {v : Int32} (hd : decode cc pc = .ok (.bipush n, 2)) (hv : (Int8.ofInt n).toInt32 = v) (k : G Γ kc ks N ad σ (pc + 2) L (.int v :: st)) : G Γ kc ks N ad σ pc L (st) := fun H locs ls hP hD hS hl => lv_bipush h.x h.b hd hv (k H locs ls hP hD hS hl)
theorem g_sipush (h : Cx Γ cc own rm Ts cl tys nl) {n : Int} {v : Int32} (hd : decode cc pc = .ok (.sipush n, 3)) (hv : (Int16.ofInt n).toInt32 = v) (k : G Γ kc ks N ad σ (pc + 3) L (.int v :: st)) : G Γ kc ks N ad σ pc L (st) := fun H locs ls hP hD hS hl => lv_sipush h.x h.b hd hv (k H locs ls hP hD hS hl)
theorem g_lconst (h : Cx Γ cc own rm Ts cl tys nl) {n : Fin 2} {v : Int64} (hd : decode cc pc = .ok (.lconst n, 1)) (hv : Int64.ofNat (n : Nat) = v) (k : G Γ kc ks N ad σ (pc + 1) L (.long v :: st)) : G Γ kc ks N ad σ pc L (st) := fun H locs ls hP hD hS hl => lv_lconst h.x h.b hd hv (k H locs ls hP hD hS hl)
theorem g_ldc (h : Cx Γ cc own rm Ts cl tys nl) {index : Nat} {v : Int32} (hd : decode cc pc = .ok (.ldc index, 2)) (hw : Jvm.Cond.constant own index v ∈ Ts) (k : G Γ kc ks N ad σ (pc + 2) L (.int v :: st)) : G Γ kc ks N ad σ pc L (st) := fun H locs ls hP hD hS hl => lv_ldc h.x h.b h.ow (h.ts _ hw) hd (k H locs ls hP hD hS hl)
theorem g_ldc2 (h : Cx Γ cc own rm Ts cl tys nl) {index : Nat} {v : Int64} (hd : decode cc pc = .ok (.ldc2_w index, 3)) (hw : Jvm.Cond.constantLong own index v ∈ Ts) (k : G Γ kc ks N ad σ (pc + 3) L (.long v :: st)) : G Γ kc ks N ad σ pc L (st) := fun H locs ls hP hD hS hl => lv_ldc2 h.x h.b h.ow (h.ts _ hw) hd (k H locs ls hP hD hS hl)
theorem g_null (h : Cx Γ cc own rm Ts cl tys nl) (hd : decode cc pc = .ok (.aconst_null, 1)) (k : G Γ kc ks N ad σ (pc + 1) L (.null :: st)) : G Γ kc ks N ad σ pc L (st) := fun H locs ls hP hD hS hl => lv_null h.x h.b hd (k H locs ls hP hD hS hl)
theorem g_iload_n (h : Cx Γ cc own rm Ts cl tys nl) {k4 : Fin 4} {i : Nat} {x : Int32} (hd : decode cc pc = .ok (.iload_n k4, 1)) (hi : (k4 : Nat) = i) (hx : L[i]? = some (some (.int x))) (k : G Γ kc ks N ad σ (pc + 1) L (.int x :: st)) : G Γ kc ks N ad σ pc L (st) := fun H locs ls hP hD hS hl => lv_iload_n h.x h.b hd hi (hl.2.2 _ _ hx) (k H locs ls hP hD hS hl)
theorem g_iload (h : Cx Γ cc own rm Ts cl tys nl) {i : Nat} {x : Int32} (hd : decode cc pc = .ok (.iload i, 2)) (hx : L[i]? = some (some (.int x))) (k : G Γ kc ks N ad σ (pc + 2) L (.int x :: st)) : G Γ kc ks N ad σ pc L (st) := fun H locs ls hP hD hS hl => lv_iload h.x h.b hd (hl.2.2 _ _ hx) (k H locs ls hP hD hS hl)
theorem g_istore_n (h : Cx Γ cc own rm Ts cl tys nl) {k4 : Fin 4} {i : Nat} {x : Int32} (hd : decode cc pc = .ok (.istore_n k4, 1)) (hi : (k4 : Nat) = i) (ho : okS L i = true) (hn : i < gN Γ) (k : G Γ kc ks N ad σ (pc + 1) (L.set i (some (.int x))) st) : G Γ kc ks N ad σ pc L (.int x :: st) := fun H locs ls hP hD hS hl => lv_istore_n h.x h.b hd hi hl.lv hn rfl (fun ls2 h2 => k H locs ls2 hP hD hS (hasL_1 (ls := ls) ho h2))
theorem g_istore (h : Cx Γ cc own rm Ts cl tys nl) {i : Nat} {x : Int32} (hd : decode cc pc = .ok (.istore i, 2)) (ho : okS L i = true) (hn : i < gN Γ) (k : G Γ kc ks N ad σ (pc + 2) (L.set i (some (.int x))) st) : G Γ kc ks N ad σ pc L (.int x :: st) := fun H locs ls hP hD hS hl => lv_istore h.x h.b hd hl.lv hn rfl (fun ls2 h2 => k H locs ls2 hP hD hS (hasL_1 (ls := ls) ho h2))
theorem g_lload_n (h : Cx Γ cc own rm Ts cl tys nl) {k4 : Fin 4} {i : Nat} {x : Int64} (hd : decode cc pc = .ok (.lload_n k4, 1)) (hi : (k4 : Nat) = i) (hx : L[i]? = some (some (.long x))) (k : G Γ kc ks N ad σ (pc + 1) L (.long x :: st)) : G Γ kc ks N ad σ pc L (st) := fun H locs ls hP hD hS hl => lv_lload_n h.x h.b hd hi (hl.2.2 _ _ hx) (k H locs ls hP hD hS hl)
theorem g_lload (h : Cx Γ cc own rm Ts cl tys nl) {i : Nat} {x : Int64} (hd : decode cc pc = .ok (.lload i, 2)) (hx : L[i]? = some (some (.long x))) (k : G Γ kc ks N ad σ (pc + 2) L (.long x :: st)) : G Γ kc ks N ad σ pc L (st) := fun H locs ls hP hD hS hl => lv_lload h.x h.b hd (hl.2.2 _ _ hx) (k H locs ls hP hD hS hl)
theorem g_lstore_n (h : Cx Γ cc own rm Ts cl tys nl) {k4 : Fin 4} {i : Nat} {x : Int64} (hd : decode cc pc = .ok (.lstore_n k4, 1)) (hi : (k4 : Nat) = i) (ho : okS L i = true) (hn : i + 1 < gN Γ) (k : G Γ kc ks N ad σ (pc + 1) ((L.set i (some (.long x))).set (i + 1) none) st) : G Γ kc ks N ad σ pc L (.long x :: st) := fun H locs ls hP hD hS hl => lv_lstore_n h.x h.b hd hi hl.lv hn rfl (fun ls2 h2 => k H locs ls2 hP hD hS (hasL_2 (ls := ls) ho h2))
theorem g_lstore (h : Cx Γ cc own rm Ts cl tys nl) {i : Nat} {x : Int64} (hd : decode cc pc = .ok (.lstore i, 2)) (ho : okS L i = true) (hn : i + 1 < gN Γ) (k : G Γ kc ks N ad σ (pc + 2) ((L.set i (some (.long x))).set (i + 1) none) st) : G Γ kc ks N ad σ pc L (.long x :: st) := fun H locs ls hP hD hS hl => lv_lstore h.x h.b hd hl.lv hn rfl (fun ls2 h2 => k H locs ls2 hP hD hS (hasL_2 (ls := ls) ho h2))
theorem g_aload_n (h : Cx Γ cc own rm Ts cl tys nl) {k4 : Fin 4} {i : Nat} {x : Nat} (hd : decode cc pc = .ok (.aload_n k4, 1)) (hi : (k4 : Nat) = i) (hx : L[i]? = some (some (.ref x))) (k : G Γ kc ks N ad σ (pc + 1) L (.ref x :: st)) : G Γ kc ks N ad σ pc L (st) := fun H locs ls hP hD hS hl => lv_aload_n h.x h.b hd hi (hl.2.2 _ _ hx) (k H locs ls hP hD hS hl)
theorem g_aload (h : Cx Γ cc own rm Ts cl tys nl) {i : Nat} {x : Nat} (hd : decode cc pc = .ok (.aload i, 2)) (hx : L[i]? = some (some (.ref x))) (k : G Γ kc ks N ad σ (pc + 2) L (.ref x :: st)) : G Γ kc ks N ad σ pc L (st) := fun H locs ls hP hD hS hl => lv_aload h.x h.b hd (hl.2.2 _ _ hx) (k H locs ls hP hD hS hl)
theorem g_astore_n (h : Cx Γ cc own rm Ts cl tys nl) {k4 : Fin 4} {i : Nat} {x : Nat} (hd : decode cc pc = .ok (.astore_n k4, 1)) (hi : (k4 : Nat) = i) (ho : okS L i = true) (hn : i < gN Γ) (k : G Γ kc ks N ad σ (pc + 1) (L.set i (some (.ref x))) st) : G Γ kc ks N ad σ pc L (.ref x :: st) := fun H locs ls hP hD hS hl => lv_astore_n h.x h.b hd hi hl.lv hn rfl (fun ls2 h2 => k H locs ls2 hP hD hS (hasL_1 (ls := ls) ho h2))
theorem g_astore (h : Cx Γ cc own rm Ts cl tys nl) {i : Nat} {x : Nat} (hd : decode cc pc = .ok (.astore i, 2)) (ho : okS L i = true) (hn : i < gN Γ) (k : G Γ kc ks N ad σ (pc + 2) (L.set i (some (.ref x))) st) : G Γ kc ks N ad σ pc L (.ref x :: st) := fun H locs ls hP hD hS hl => lv_astore h.x h.b hd hl.lv hn rfl (fun ls2 h2 => k H locs ls2 hP hD hS (hasL_1 (ls := ls) ho h2))
theorem g_iinc (h : Cx Γ cc own rm Ts cl tys nl) {i : Nat} {n : Int} {x v : Int32} (hd : decode cc pc = .ok (.iinc i n, 3)) (hx : L[i]? = some (some (.int x))) (hv : x + Int32.ofInt n = v) (ho : okS L i = true) (hn : i < gN Γ) (k : G Γ kc ks N ad σ (pc + 3) (L.set i (some (.int v))) st) : G Γ kc ks N ad σ pc L st := fun H locs ls hP hD hS hl => by
  obtain ⟨j, hj⟩ := List.getElem?_of_mem (asL_in.mpr hx)
  exact lv_iinc h.x h.b hd hl.lv (k := j) hj hv hn rfl (fun ls2 h2 => k H locs ls2 hP hD hS (hasL_1 (ls := ls) ho h2))
theorem g_dup (h : Cx Γ cc own rm Ts cl tys nl) {v : Value} (hd : decode cc pc = .ok (.dup, 1)) (hv : v.category = 1) (k : G Γ kc ks N ad σ (pc + 1) L (v :: v :: st)) : G Γ kc ks N ad σ pc L (v :: st) := fun H locs ls hP hD hS hl => lv_dup h.x h.b hd hv (k H locs ls hP hD hS hl)
theorem g_pop (h : Cx Γ cc own rm Ts cl tys nl) {v : Value} (hd : decode cc pc = .ok (.pop, 1)) (hv : v.category = 1) (k : G Γ kc ks N ad σ (pc + 1) L (st)) : G Γ kc ks N ad σ pc L (v :: st) := fun H locs ls hP hD hS hl => lv_pop h.x h.b hd hv (k H locs ls hP hD hS hl)
theorem g_pop2 (h : Cx Γ cc own rm Ts cl tys nl) {v : Value} (hd : decode cc pc = .ok (.pop2, 1)) (hv : v.category = 2) (k : G Γ kc ks N ad σ (pc + 1) L (st)) : G Γ kc ks N ad σ pc L (v :: st) := fun H locs ls hP hD hS hl => lv_pop2_2 h.x h.b hd hv (k H locs ls hP hD hS hl)
theorem g_dup_x1 (h : Cx Γ cc own rm Ts cl tys nl) {v u : Value} (hd : decode cc pc = .ok (.dup_x1, 1)) (hv : v.category = 1) (hu : u.category = 1) (k : G Γ kc ks N ad σ (pc + 1) L (v :: u :: v :: st)) : G Γ kc ks N ad σ pc L (v :: u :: st) := fun H locs ls hP hD hS hl => lv_dup_x1 h.x h.b hd hv hu (k H locs ls hP hD hS hl)
theorem g_dup2 (h : Cx Γ cc own rm Ts cl tys nl) {v u : Value} (hd : decode cc pc = .ok (.dup2, 1)) (hv : v.category = 1) (hu : u.category = 1) (k : G Γ kc ks N ad σ (pc + 1) L (v :: u :: v :: u :: st)) : G Γ kc ks N ad σ pc L (v :: u :: st) := fun H locs ls hP hD hS hl => lv_dup2_11 h.x h.b hd hv hu (k H locs ls hP hD hS hl)
theorem g_dup2l (h : Cx Γ cc own rm Ts cl tys nl) {v : Value} (hd : decode cc pc = .ok (.dup2, 1)) (hv : v.category = 2) (k : G Γ kc ks N ad σ (pc + 1) L (v :: v :: st)) : G Γ kc ks N ad σ pc L (v :: st) := fun H locs ls hP hD hS hl => lv_dup2_2 h.x h.b hd hv (k H locs ls hP hD hS hl)
theorem g_dup2_x1 (h : Cx Γ cc own rm Ts cl tys nl) {v u : Value} (hd : decode cc pc = .ok (.dup2_x1, 1)) (hv : v.category = 2) (hu : u.category = 1) (k : G Γ kc ks N ad σ (pc + 1) L (v :: u :: v :: st)) : G Γ kc ks N ad σ pc L (v :: u :: st) := fun H locs ls hP hD hS hl => lv_dup2_x1_2 h.x h.b hd hv hu (k H locs ls hP hD hS hl)
theorem g_if_eq (h : Cx Γ cc own rm Ts cl tys nl) {x : Int32} {off : Int} {tgt : Nat} (hd : decode cc pc = .ok (.ifCond .eq off, 3)) (ht : (pc : Int) + off = (tgt : Int)) (kt : x = 0 → G Γ kc ks N ad σ tgt L st) (kf : ¬ x = 0 → G Γ kc ks N ad σ (pc + 3) L st) : G Γ kc ks N ad σ pc L (.int x :: st) := fun H locs ls hP hD hS hl => lv_if_eq h.x h.b hd ht (fun q => kt q H locs ls hP hD hS hl) (fun q => kf (q) H locs ls hP hD hS hl)
theorem g_icmp_eq (h : Cx Γ cc own rm Ts cl tys nl) {x y : Int32} {off : Int} {tgt : Nat} (hd : decode cc pc = .ok (.if_icmp .eq off, 3)) (ht : (pc : Int) + off = (tgt : Int)) (kt : x = y → G Γ kc ks N ad σ tgt L st) (kf : ¬ x = y → G Γ kc ks N ad σ (pc + 3) L st) : G Γ kc ks N ad σ pc L (.int y :: .int x :: st) := fun H locs ls hP hD hS hl => lv_icmp_eq h.x h.b hd ht (fun q => kt q H locs ls hP hD hS hl) (fun q => kf (q) H locs ls hP hD hS hl)
theorem g_if_ne (h : Cx Γ cc own rm Ts cl tys nl) {x : Int32} {off : Int} {tgt : Nat} (hd : decode cc pc = .ok (.ifCond .ne off, 3)) (ht : (pc : Int) + off = (tgt : Int)) (kt : ¬ x = 0 → G Γ kc ks N ad σ tgt L st) (kf : x = 0 → G Γ kc ks N ad σ (pc + 3) L st) : G Γ kc ks N ad σ pc L (.int x :: st) := fun H locs ls hP hD hS hl => lv_if_ne h.x h.b hd ht (fun q => kt q H locs ls hP hD hS hl) (fun q => kf (q) H locs ls hP hD hS hl)
theorem g_icmp_ne (h : Cx Γ cc own rm Ts cl tys nl) {x y : Int32} {off : Int} {tgt : Nat} (hd : decode cc pc = .ok (.if_icmp .ne off, 3)) (ht : (pc : Int) + off = (tgt : Int)) (kt : ¬ x = y → G Γ kc ks N ad σ tgt L st) (kf : x = y → G Γ kc ks N ad σ (pc + 3) L st) : G Γ kc ks N ad σ pc L (.int y :: .int x :: st) := fun H locs ls hP hD hS hl => lv_icmp_ne h.x h.b hd ht (fun q => kt q H locs ls hP hD hS hl) (fun q => kf (q) H locs ls hP hD hS hl)
theorem g_if_lt (h : Cx Γ cc own rm Ts cl tys nl) {x : Int32} {off : Int} {tgt : Nat} (hd : decode cc pc = .ok (.ifCond .lt off, 3)) (ht : (pc : Int) + off = (tgt : Int)) (kt : x < 0 → G Γ kc ks N ad σ tgt L st) (kf : ¬ x < 0 → G Γ kc ks N ad σ (pc + 3) L st) : G Γ kc ks N ad σ pc L (.int x :: st) := fun H locs ls hP hD hS hl => lv_if_lt h.x h.b hd ht (fun q => kt q H locs ls hP hD hS hl) (fun q => kf (q) H locs ls hP hD hS hl)
theorem g_icmp_lt (h : Cx Γ cc own rm Ts cl tys nl) {x y : Int32} {off : Int} {tgt : Nat} (hd : decode cc pc = .ok (.if_icmp .lt off, 3)) (ht : (pc : Int) + off = (tgt : Int)) (kt : x < y → G Γ kc ks N ad σ tgt L st) (kf : ¬ x < y → G Γ kc ks N ad σ (pc + 3) L st) : G Γ kc ks N ad σ pc L (.int y :: .int x :: st) := fun H locs ls hP hD hS hl => lv_icmp_lt h.x h.b hd ht (fun q => kt q H locs ls hP hD hS hl) (fun q => kf (q) H locs ls hP hD hS hl)
theorem g_if_ge (h : Cx Γ cc own rm Ts cl tys nl) {x : Int32} {off : Int} {tgt : Nat} (hd : decode cc pc = .ok (.ifCond .ge off, 3)) (ht : (pc : Int) + off = (tgt : Int)) (kt : 0 ≤ x → G Γ kc ks N ad σ tgt L st) (kf : ¬ 0 ≤ x → G Γ kc ks N ad σ (pc + 3) L st) : G Γ kc ks N ad σ pc L (.int x :: st) := fun H locs ls hP hD hS hl => lv_if_ge h.x h.b hd ht (fun q => kt q H locs ls hP hD hS hl) (fun q => kf (q) H locs ls hP hD hS hl)
theorem g_icmp_ge (h : Cx Γ cc own rm Ts cl tys nl) {x y : Int32} {off : Int} {tgt : Nat} (hd : decode cc pc = .ok (.if_icmp .ge off, 3)) (ht : (pc : Int) + off = (tgt : Int)) (kt : y ≤ x → G Γ kc ks N ad σ tgt L st) (kf : ¬ y ≤ x → G Γ kc ks N ad σ (pc + 3) L st) : G Γ kc ks N ad σ pc L (.int y :: .int x :: st) := fun H locs ls hP hD hS hl => lv_icmp_ge h.x h.b hd ht (fun q => kt q H locs ls hP hD hS hl) (fun q => kf (q) H locs ls hP hD hS hl)
theorem g_if_gt (h : Cx Γ cc own rm Ts cl tys nl) {x : Int32} {off : Int} {tgt : Nat} (hd : decode cc pc = .ok (.ifCond .gt off, 3)) (ht : (pc : Int) + off = (tgt : Int)) (kt : 0 < x → G Γ kc ks N ad σ tgt L st) (kf : ¬ 0 < x → G Γ kc ks N ad σ (pc + 3) L st) : G Γ kc ks N ad σ pc L (.int x :: st) := fun H locs ls hP hD hS hl => lv_if_gt h.x h.b hd ht (fun q => kt q H locs ls hP hD hS hl) (fun q => kf (q) H locs ls hP hD hS hl)
theorem g_icmp_gt (h : Cx Γ cc own rm Ts cl tys nl) {x y : Int32} {off : Int} {tgt : Nat} (hd : decode cc pc = .ok (.if_icmp .gt off, 3)) (ht : (pc : Int) + off = (tgt : Int)) (kt : y < x → G Γ kc ks N ad σ tgt L st) (kf : ¬ y < x → G Γ kc ks N ad σ (pc + 3) L st) : G Γ kc ks N ad σ pc L (.int y :: .int x :: st) := fun H locs ls hP hD hS hl => lv_icmp_gt h.x h.b hd ht (fun q => kt q H locs ls hP hD hS hl) (fun q => kf (q) H locs ls hP hD hS hl)
theorem g_if_le (h : Cx Γ cc own rm Ts cl tys nl) {x : Int32} {off : Int} {tgt : Nat} (hd : decode cc pc = .ok (.ifCond .le off, 3)) (ht : (pc : Int) + off = (tgt : Int)) (kt : x ≤ 0 → G Γ kc ks N ad σ tgt L st) (kf : ¬ x ≤ 0 → G Γ kc ks N ad σ (pc + 3) L st) : G Γ kc ks N ad σ pc L (.int x :: st) := fun H locs ls hP hD hS hl => lv_if_le h.x h.b hd ht (fun q => kt q H locs ls hP hD hS hl) (fun q => kf (q) H locs ls hP hD hS hl)
theorem g_icmp_le (h : Cx Γ cc own rm Ts cl tys nl) {x y : Int32} {off : Int} {tgt : Nat} (hd : decode cc pc = .ok (.if_icmp .le off, 3)) (ht : (pc : Int) + off = (tgt : Int)) (kt : x ≤ y → G Γ kc ks N ad σ tgt L st) (kf : ¬ x ≤ y → G Γ kc ks N ad σ (pc + 3) L st) : G Γ kc ks N ad σ pc L (.int y :: .int x :: st) := fun H locs ls hP hD hS hl => lv_icmp_le h.x h.b hd ht (fun q => kt q H locs ls hP hD hS hl) (fun q => kf (q) H locs ls hP hD hS hl)
theorem g_goto (h : Cx Γ cc own rm Ts cl tys nl) {off : Int} {tgt : Nat} (hd : decode cc pc = .ok (.goto off, 3)) (ht : (pc : Int) + off = (tgt : Int)) (k : G Γ kc ks N ad σ tgt L st) : G Γ kc ks N ad σ pc L st := fun H locs ls hP hD hS hl => lv_goto h.x h.b hd ht (k H locs ls hP hD hS hl)
theorem g_lcmp (h : Cx Γ cc own rm Ts cl tys nl) {x y : Int64} (hd : decode cc pc = .ok (.lcmp, 1)) (k : G Γ kc ks N ad σ (pc + 1) L (.int (lg_cmp x y) :: st)) : G Γ kc ks N ad σ pc L (.long y :: .long x :: st) := fun H locs ls hP hD hS hl => W.lcmp h.x h.b hd (k H locs ls hP hD hS hl)
theorem lc_eq (x y : Int64) : lg_cmp x y = 0 ↔ x = y := by
  unfold lg_cmp
  split
  · rename_i q
    exact ⟨fun z => absurd z (by decide), fun z => by subst z; exact absurd q (Int64.lt_irrefl)⟩
  · split
    · rename_i q; exact ⟨fun _ => q, fun _ => rfl⟩
    · rename_i q; exact ⟨fun z => absurd z (by decide), fun z => absurd z q⟩
theorem lc_lt (x y : Int64) : lg_cmp x y < 0 ↔ x < y := by
  unfold lg_cmp
  split
  · rename_i q
    exact ⟨fun z => absurd z (by decide), fun z => absurd q (Int64.not_lt.mpr (Int64.le_of_lt z))⟩
  · rename_i q
    split
    · rename_i q2; subst q2; exact ⟨fun z => absurd z (by decide), fun z => absurd z Int64.lt_irrefl⟩
    · rename_i q2
      refine ⟨fun _ => ?_, fun _ => by decide⟩
      exact Int64.lt_of_le_of_ne (Int64.not_lt.mp q) q2
theorem lc_gt (x y : Int64) : 0 < lg_cmp x y ↔ y < x := by
  unfold lg_cmp
  split
  · rename_i q; exact ⟨fun _ => q, fun _ => by decide⟩
  · rename_i q
    split
    · exact ⟨fun z => absurd z (by decide), fun z => absurd z q⟩
    · exact ⟨fun z => absurd z (by decide), fun z => absurd z q⟩
theorem g_lc_eq (h : Cx Γ cc own rm Ts cl tys nl) {x y : Int64} {off : Int} {tgt : Nat} (hd : decode cc pc = .ok (.lcmp, 1)) (hd2 : decode cc (pc + 1) = .ok (.ifCond .eq off, 3)) (ht : ((pc + 1 : Nat) : Int) + off = (tgt : Int)) (kt : x = y → G Γ kc ks N ad σ tgt L st) (kf : ¬ x = y → G Γ kc ks N ad σ (pc + 1 + 3) L st) : G Γ kc ks N ad σ pc L (.long y :: .long x :: st) := g_lcmp h hd (g_if_eq h hd2 ht (fun q => kt ((lc_eq x y).mp q)) (fun q => kf (fun z => q ((lc_eq x y).mpr z))))
theorem g_lc_ne (h : Cx Γ cc own rm Ts cl tys nl) {x y : Int64} {off : Int} {tgt : Nat} (hd : decode cc pc = .ok (.lcmp, 1)) (hd2 : decode cc (pc + 1) = .ok (.ifCond .ne off, 3)) (ht : ((pc + 1 : Nat) : Int) + off = (tgt : Int)) (kt : ¬ x = y → G Γ kc ks N ad σ tgt L st) (kf : x = y → G Γ kc ks N ad σ (pc + 1 + 3) L st) : G Γ kc ks N ad σ pc L (.long y :: .long x :: st) := g_lcmp h hd (g_if_ne h hd2 ht (fun q => kt (fun z => q ((lc_eq x y).mpr z))) (fun q => kf ((lc_eq x y).mp q)))
theorem g_lc_lt (h : Cx Γ cc own rm Ts cl tys nl) {x y : Int64} {off : Int} {tgt : Nat} (hd : decode cc pc = .ok (.lcmp, 1)) (hd2 : decode cc (pc + 1) = .ok (.ifCond .lt off, 3)) (ht : ((pc + 1 : Nat) : Int) + off = (tgt : Int)) (kt : x < y → G Γ kc ks N ad σ tgt L st) (kf : ¬ x < y → G Γ kc ks N ad σ (pc + 1 + 3) L st) : G Γ kc ks N ad σ pc L (.long y :: .long x :: st) := g_lcmp h hd (g_if_lt h hd2 ht (fun q => kt ((lc_lt x y).mp q)) (fun q => kf (fun z => q ((lc_lt x y).mpr z))))
theorem g_lc_ge (h : Cx Γ cc own rm Ts cl tys nl) {x y : Int64} {off : Int} {tgt : Nat} (hd : decode cc pc = .ok (.lcmp, 1)) (hd2 : decode cc (pc + 1) = .ok (.ifCond .ge off, 3)) (ht : ((pc + 1 : Nat) : Int) + off = (tgt : Int)) (kt : y ≤ x → G Γ kc ks N ad σ tgt L st) (kf : ¬ y ≤ x → G Γ kc ks N ad σ (pc + 1 + 3) L st) : G Γ kc ks N ad σ pc L (.long y :: .long x :: st) := g_lcmp h hd (g_if_ge h hd2 ht (fun q => kt (Int64.not_lt.mp (fun z => Int32.not_lt.mpr q ((lc_lt x y).mpr z)))) (fun q => kf (fun z => q (Int32.not_lt.mp (fun y2 => Int64.not_lt.mpr z ((lc_lt x y).mp y2))))))
theorem g_lc_gt (h : Cx Γ cc own rm Ts cl tys nl) {x y : Int64} {off : Int} {tgt : Nat} (hd : decode cc pc = .ok (.lcmp, 1)) (hd2 : decode cc (pc + 1) = .ok (.ifCond .gt off, 3)) (ht : ((pc + 1 : Nat) : Int) + off = (tgt : Int)) (kt : y < x → G Γ kc ks N ad σ tgt L st) (kf : ¬ y < x → G Γ kc ks N ad σ (pc + 1 + 3) L st) : G Γ kc ks N ad σ pc L (.long y :: .long x :: st) := g_lcmp h hd (g_if_gt h hd2 ht (fun q => kt ((lc_gt x y).mp q)) (fun q => kf (fun z => q ((lc_gt x y).mpr z))))
theorem g_lc_le (h : Cx Γ cc own rm Ts cl tys nl) {x y : Int64} {off : Int} {tgt : Nat} (hd : decode cc pc = .ok (.lcmp, 1)) (hd2 : decode cc (pc + 1) = .ok (.ifCond .le off, 3)) (ht : ((pc + 1 : Nat) : Int) + off = (tgt : Int)) (kt : x ≤ y → G Γ kc ks N ad σ tgt L st) (kf : ¬ x ≤ y → G Γ kc ks N ad σ (pc + 1 + 3) L st) : G Γ kc ks N ad σ pc L (.long y :: .long x :: st) := g_lcmp h hd (g_if_le h hd2 ht (fun q => kt (Int64.not_lt.mp (fun z => Int32.not_lt.mpr q ((lc_gt x y).mpr z)))) (fun q => kf (fun z => q (Int32.not_lt.mp (fun y2 => Int64.not_lt.mpr z ((lc_gt x y).mp y2))))))
theorem g_tableIn (h : Cx Γ cc own rm Ts cl tys nl) {dflt lo hi : Int} {offs : Array Int} {len : Nat} {x : Int32} {off : Int} {tgt : Nat} (hd : decode cc pc = .ok (.tableswitch dflt lo hi offs, len)) (h1 : ¬ x.toInt < lo) (h2 : ¬ hi < x.toInt) (ho : offs[(x.toInt - lo).toNat]? = some off) (ht : (pc : Int) + off = (tgt : Int)) (k : G Γ kc ks N ad σ tgt L st) : G Γ kc ks N ad σ pc L (.int x :: st) := fun H locs ls hP hD hS hl => lv_tableIn h.x h.b hd h1 h2 ho ht (k H locs ls hP hD hS hl)
theorem g_tableOut (h : Cx Γ cc own rm Ts cl tys nl) {dflt lo hi : Int} {offs : Array Int} {len : Nat} {x : Int32} {tgt : Nat} (hd : decode cc pc = .ok (.tableswitch dflt lo hi offs, len)) (h1 : x.toInt < lo ∨ hi < x.toInt) (ht : (pc : Int) + dflt = (tgt : Int)) (k : G Γ kc ks N ad σ tgt L st) : G Γ kc ks N ad σ pc L (.int x :: st) := fun H locs ls hP hD hS hl => lv_tableOut h.x h.b hd h1 ht (k H locs ls hP hD hS hl)
theorem g_lookup (h : Cx Γ cc own rm Ts cl tys nl) {dflt : Int} {ps : Array (Int × Int)} {len : Nat} {x : Int32} {off : Int} {tgt : Nat} (hd : decode cc pc = .ok (.lookupswitch dflt ps, len)) (hp : (ps.toList.zip (ps.toList.drop 1)).all (fun (a, next) => a.1 < next.1) = true) (ho : Op.lookupswitch.offset ps.toList dflt x.toInt = off) (ht : (pc : Int) + off = (tgt : Int)) (k : G Γ kc ks N ad σ tgt L st) : G Γ kc ks N ad σ pc L (.int x :: st) := fun H locs ls hP hD hS hl => lv_lookup h.x h.b hd hp ho ht (k H locs ls hP hD hS hl)
theorem gl_he {q : Nat} {e : va_E} (hq : q < N) (he : σ q = e) : (gl N ad σ)[q]? = some (ad q, e) := by rw [gl_at hq, he]
theorem g_get (h : Cx Γ cc own rm Ts cl tys nl) {C : String} {T : u_T} {n ci index : Nat} {fs : List Value} (hin : ∀ w ∈ u_ws C T n, w ∈ Ts) (q : Nat) (hq : q < N) (he : σ q = .inr (ci, fs)) (hc : cl[ci]? = some (C, T, n)) (j : Nat) (hj : j < n) (hlink : Cond.fieldLink own index (T j).1 (T j).2.1 (T j).2.2.1 ∈ Ts) {v : Value} (hv : fs[j]? = some v) (hd : decode cc pc = .ok (.getfield index, 3)) (k : G Γ kc ks N ad σ (pc + 3) L (v :: st)) : G Γ kc ks N ad σ pc L (.ref (ad q) :: st) := fun H locs ls hP hD hS hl => va_get h.x h.b h.ts hin h.ow h.K hP q (gl_he hq he) (by rw [h.cL]; exact hc) j hj (h.ts _ hlink) (fun _ z => z) hv hd (k H locs ls hP hD hS hl)
theorem g_put (h : Cx Γ cc own rm Ts cl tys nl) {C : String} {T : u_T} {n ci index : Nat} {fs : List Value} (hin : ∀ w ∈ u_ws C T n, w ∈ Ts) (q : Nat) (hq : q < N) (he : σ q = .inr (ci, fs)) (hc : cl[ci]? = some (C, T, n)) (j : Nat) (hj : j < n) (ty0 : Nat → FieldType) (hty : ∀ k, k < n → parseFieldDescriptor (T k).2.2.1 = some (ty0 k)) (hnm : ∀ a, a < n → ∀ b, b < n → a ≠ b → (T a).2.1 ≠ (T b).2.1) (hlink : Cond.fieldLink own index (T j).1 (T j).2.1 (T j).2.2.1 ∈ Ts) (hfin : (T j).2.2.2 = false) {v : Value} (hn : narrow (ty0 j) v = v) (hfit : fits (ty0 j) v = true) (hl0 : j < fs.length) (hd : decode cc pc = .ok (.putfield index, 3)) (k : G Γ kc ks N ad (va_up σ q (.inr (ci, fs.set j v))) (pc + 3) L st) : G Γ kc ks N ad σ pc L (v :: .ref (ad q) :: st) := fun H locs ls hP hD hS hl => va_put h.x h.b h.ts hin ty0 hty hnm h.ow h.K hP hD hS q (gl_he hq he) (by rw [h.cL]; exact hc) j hj (h.ts _ hlink) (fun _ z => z) hfin (hty j hj) hn hfit hl0 hd (fun H1 locs1 hP hD hS => by rw [gl_set hq] at hP hD; exact k H1 locs1 ls hP hD hS hl)
theorem g_putF (h : Cx Γ cc own rm Ts cl tys nl) {C : String} {T : u_T} {n ci index : Nat} {fs : List Value} (hin : ∀ w ∈ u_ws C T n, w ∈ Ts) (q : Nat) (hq : q < N) (he : σ q = .inr (ci, fs)) (hc : cl[ci]? = some (C, T, n)) (j : Nat) (hj : j < n) (ty0 : Nat → FieldType) (hty : ∀ k, k < n → parseFieldDescriptor (T k).2.2.1 = some (ty0 k)) (hnm : ∀ a, a < n → ∀ b, b < n → a ≠ b → (T a).2.1 ≠ (T b).2.1) (hlink : Cond.fieldLink own index (T j).1 (T j).2.1 (T j).2.2.1 ∈ Ts) (hfin : (T j).2.2.2 = true) (hini : (gM Γ).name = "<init>") (hdecl : (T j).1 = own) {v : Value} (hn : narrow (ty0 j) v = v) (hfit : fits (ty0 j) v = true) (hl0 : j < fs.length) (hd : decode cc pc = .ok (.putfield index, 3)) (k : G Γ kc ks N ad (va_up σ q (.inr (ci, fs.set j v))) (pc + 3) L st) : G Γ kc ks N ad σ pc L (v :: .ref (ad q) :: st) := fun H locs ls hP hD hS hl => va_putF h.x h.b h.ts hin ty0 hty hnm h.ow h.K hP hD hS q (gl_he hq he) (by rw [h.cL]; exact hc) j hj (h.ts _ hlink) (fun _ z => z) hfin hini hdecl (hty j hj) hn hfit hl0 hd (fun H1 locs1 hP hD hS => by rw [gl_set hq] at hP hD; exact k H1 locs1 ls hP hD hS hl)
theorem g_laload (h : Cx Γ cc own rm Ts cl tys nl) (q t0 : Nat) (hq : q < N) {cA : ClassId} {n : Nat} {f : Nat → Int64} (he : σ q = .inl (cA, n, .inr (.inl f))) (ht : tys[t0]? = some (cA, .long)) {i : Int32} (hi : vp_in i n) (hd : decode cc pc = .ok (.laload, 1)) (k : G Γ kc ks N ad σ (pc + 1) L (.long (f i.toNatClampNeg) :: st)) : G Γ kc ks N ad σ pc L (.int i :: .ref (ad q) :: st) := fun H locs ls hP hD hS hl => va_lald h.x h.b h.K hP q t0 (gl_he hq he) ht hi hd (k H locs ls hP hD hS hl)
theorem g_iaload (h : Cx Γ cc own rm Ts cl tys nl) (q t0 : Nat) (hq : q < N) {cA : ClassId} {n : Nat} {f : Nat → Int32} (he : σ q = .inl (cA, n, .inl f)) (ht : tys[t0]? = some (cA, .int)) {i : Int32} (hi : vp_in i n) (hd : decode cc pc = .ok (.iaload, 1)) (k : G Γ kc ks N ad σ (pc + 1) L (.int (f i.toNatClampNeg) :: st)) : G Γ kc ks N ad σ pc L (.int i :: .ref (ad q) :: st) := fun H locs ls hP hD hS hl => va_iald h.x h.b h.K hP q t0 (gl_he hq he) ht hi hd (k H locs ls hP hD hS hl)
theorem g_aaload (h : Cx Γ cc own rm Ts cl tys nl) (q t0 : Nat) (hq : q < N) {cA : ClassId} {C : String} {n : Nat} {f : Nat → Option Nat} (he : σ q = .inl (cA, n, .inr (.inr (.inr (.inr f))))) (ht : tys[t0]? = some (cA, .object C)) {i : Int32} (hi : vp_in i n) (hd : decode cc pc = .ok (.aaload, 1)) (k : G Γ kc ks N ad σ (pc + 1) L (va_rf (f i.toNatClampNeg) :: st)) : G Γ kc ks N ad σ pc L (.int i :: .ref (ad q) :: st) := fun H locs ls hP hD hS hl => va_aldq h.x h.b h.K hP q t0 (gl_he hq he) ht hi hd (k H locs ls hP hD hS hl)
theorem g_lastore (h : Cx Γ cc own rm Ts cl tys nl) (q t0 : Nat) (hq : q < N) {cA : ClassId} {n : Nat} {f : Nat → Int64} (he : σ q = .inl (cA, n, .inr (.inl f))) (ht : tys[t0]? = some (cA, .long)) {i : Int32} {x : Int64} (hi : vp_in i n) (hd : decode cc pc = .ok (.lastore, 1)) (k : G Γ kc ks N ad (va_up σ q (.inl (cA, n, .inr (.inl (vp_updL f i.toNatClampNeg x))))) (pc + 1) L st) : G Γ kc ks N ad σ pc L (.long x :: .int i :: .ref (ad q) :: st) := fun H locs ls hP hD hS hl => va_last h.x h.b h.K hP hD hS q t0 (gl_he hq he) ht hi hd (fun H1 locs1 hP hD hS => by rw [gl_set hq] at hP hD; exact k H1 locs1 ls hP hD hS hl)
theorem g_iastore (h : Cx Γ cc own rm Ts cl tys nl) (q t0 : Nat) (hq : q < N) {cA : ClassId} {n : Nat} {f : Nat → Int32} (he : σ q = .inl (cA, n, .inl f)) (ht : tys[t0]? = some (cA, .int)) {i : Int32} {x : Int32} (hi : vp_in i n) (hd : decode cc pc = .ok (.iastore, 1)) (k : G Γ kc ks N ad (va_up σ q (.inl (cA, n, .inl (upd f i.toNatClampNeg x)))) (pc + 1) L st) : G Γ kc ks N ad σ pc L (.int x :: .int i :: .ref (ad q) :: st) := fun H locs ls hP hD hS hl => va_iast h.x h.b h.K hP hD hS q t0 (gl_he hq he) ht hi hd (fun H1 locs1 hP hD hS => by rw [gl_set hq] at hP hD; exact k H1 locs1 ls hP hD hS hl)
theorem g_aastore (h : Cx Γ cc own rm Ts cl tys nl) (q t0 qk : Nat) {ci : Nat} {r : vw_C} (hq : q < N) (hqk : qk < N) {cA : ClassId} {n : Nat} {vs : List Value} {f : Nat → Option Nat} (he : σ q = .inl (cA, n, .inr (.inr (.inr (.inr f))))) (ht : tys[t0]? = some (cA, .object r.1)) (hv : σ qk = .inr (ci, vs)) (hc : cl[ci]? = some r) {i : Int32} (hi : vp_in i n) (hd : decode cc pc = .ok (.aastore, 1)) (k : G Γ kc ks N ad (va_up σ q (.inl (cA, n, .inr (.inr (.inr (.inr (va_up f i.toNatClampNeg (some (ad qk))))))))) (pc + 1) L st) : G Γ kc ks N ad σ pc L (.ref (ad qk) :: .int i :: .ref (ad q) :: st) := fun H locs ls hP hD hS hl => va_astq h.x h.b h.K hP hD hS q t0 qk ci (gl_he hq he) ht (gl_he hqk hv) (by rw [h.cL]; exact hc) hi hd (fun H1 locs1 hP hD hS => by rw [gl_set hq] at hP hD; exact k H1 locs1 ls hP hD hS hl)
theorem g_alen (h : Cx Γ cc own rm Ts cl tys nl) (q t0 : Nat) (hq : q < N) {cA : ClassId} {x : vp_A} (he : σ q = .inl (cA, x)) {ty : FieldType} (ht : tys[t0]? = some (cA, ty)) {v : Int32} (hv : Int32.ofNat x.1 = v) (hd : decode cc pc = .ok (.arraylength, 1)) (k : G Γ kc ks N ad σ (pc + 1) L (.int v :: st)) : G Γ kc ks N ad σ pc L (.ref (ad q) :: st) := fun H locs ls hP hD hS hl => va_alen h.x h.b h.K hP q t0 (gl_he hq he) ht hv hd (k H locs ls hP hD hS hl)
end Rows
/-- the bundle, later and for fewer cells -/
theorem EX.next {D : va_G} {cl : List vw_C} {tys : List (ClassId × FieldType)} {nl : List (String × Nat × MethodName × String)} {A B : Nat → Prop} {s U : State} {H : Heap} {locs : List Loc} (h : EX D cl tys nl A s s.heap) (hW : s.WarmedH U.vm) (hS : va_S A s.heap H locs) (hAB : ∀ q, B q → A q) (hU : U.heap = H) : EX D cl tys nl B U U.heap := by
  obtain ⟨h1, h2, h3, h4⟩ := h
  refine ⟨va_K.moved hW.alike h1, fun q hq => va_Nw.warmM hW (h2 q hq), ?_, ?_⟩
  · rw [hU]; exact zq.narrow (zq.moved hW.alike (h3.kept hS.2.1)) hAB
  · rw [hU]; exact zq.narrow (zq.moved hW.alike (h4.kept hS.2.1)) hAB
theorem EX.blind {D : va_G} {cl : List vw_C} {tys : List (ClassId × FieldType)} {nl : List (String × Nat × MethodName × String)} {A : Nat → Prop} {U : State} {H : Heap} {g : JFrame} {mk : MethodId} {a : Array Value} (h : EX D cl tys nl A U H) : EX D cl tys nl A (U.calling g mk a) H := by
  obtain ⟨h1, h2, h3, h4⟩ := h
  exact ⟨va_K.moved (u := U) (U := U.calling g mk a) (Vm.Alike.refl U.vm) h1, fun q hq => va_Nw.same rfl (u := U) (U := U.calling g mk a) rfl (h2 q hq), zq.moved (u := U) (U := U.calling g mk a) (Vm.Alike.refl U.vm) h3, zq.moved (u := U) (U := U.calling g mk a) (Vm.Alike.refl U.vm) h4⟩
/-! contracts: a method of the world: from σ with the arguments As it returns v and leaves σ2, Rr v σ2 -/
def cPc (D : va_G) (cl : List vw_C) (tys : List (ClassId × FieldType)) (nl : List (String × Nat × MethodName × String)) (N : Nat) (ad : Nat → Nat) (σ : Nat → va_E) (sz : Nat) (As : List Value) : Array Value → State → Prop := va_Pc As (fun U => U.heap.size = sz ∧ va_P D cl (gl N ad σ) U.heap ∧ EX D cl tys nl (va_A (gl N ad σ) sz) U U.heap ∧ va_D (fun _ => True) (gl N ad σ))
def cQc (D : va_G) (cl : List vw_C) (N : Nat) (ad : Nat → Nat) (A : Nat → Prop) (Rr : Option Value → (Nat → va_E) → Prop) : Array Value → State → Outcome → State → Prop := fun _ st oc t => (∃ (v : Option Value) (σ2 : Nat → va_E), oc = .returned v ∧ Rr v σ2 ∧ va_P D cl (gl N ad σ2) t.heap ∧ va_D A (gl N ad σ2)) ∧ va_F A st t
/-- the contract of a method that makes nothing -/
def Ct (l : Launch) (D : va_G) (cl : List vw_C) (tys : List (ClassId × FieldType)) (nl : List (String × Nat × MethodName × String)) (N : Nat) (ad : Nat → Nat) (y : MethodName) (ws : List Cond) (rm : Room) (As : List Value) (σ : Nat → va_E) (Rr : Option Value → (Nat → va_E) → Prop) : Prop :=
  ∀ sz : Nat, Met l y ws rm (cPc D cl tys nl N ad σ sz As) (cQc D cl N ad (va_A (gl N ad σ) sz) Rr) 0 0 (va_A (gl N ad σ) sz)
/-- what a walk's end must be -/
def Rx (Γ : GT) (N : Nat) (ad : Nat → Nat) (ret : Option FieldType) (Rr : Option Value → (Nat → va_E) → Prop) (kc ks : Nat) : Prop :=
  (gM Γ).sig.returnType = ret ∧ (gM Γ).locks = false ∧ gZ Γ = MQ (gb Γ) (cQc (gD Γ) (gC Γ) N ad (gA Γ) Rr) (ga Γ) (gs Γ) kc ks (gA Γ)
def inL (As : List Value) (n : Nat) : List (Option Value) := (As.flatMap fun v => if v.category = 2 then [some v, none] else [some v]) ++ List.replicate (n - (lg_sl As).length) none
theorem inL_key (v : Value) : ∀ (vs : List Value) (j : Nat), (vs.flatMap fun v => if v.category = 2 then [some v, (none : Option Value)] else [some v])[j]? = some (some v) → (lg_sl vs)[j]? = some (.val v) := by
  intro vs
  induction vs with
  | nil => intro j hj; simp at hj
  | cons a r ih =>
    intro j hj
    unfold lg_sl at ih ⊢
    rw [List.flatMap_cons] at hj ⊢
    by_cases hc : a.category = 2
    · simp only [hc, if_true] at hj ⊢
      match j, hj with
      | 0, hj => simp at hj; subst hj; rfl
      | 1, hj => simp at hj
      | j + 2, hj => exact ih j (by simpa using hj)
    · simp only [hc, if_false] at hj ⊢
      match j, hj with
      | 0, hj => simp at hj; subst hj; rfl
      | j + 1, hj => exact ih j (by simpa using hj)
theorem inL_len (As : List Value) : (As.flatMap fun v => if v.category = 2 then [some v, (none : Option Value)] else [some v]).length = (lg_sl As).length := by
  unfold lg_sl
  induction As with
  | nil => rfl
  | cons a r ih =>
    rw [List.flatMap_cons, List.flatMap_cons, List.length_append, List.length_append, ih]
    by_cases hc : a.category = 2 <;> simp [hc]
theorem inL_has {As : List Value} {n : Nat} (h : (lg_sl As).length ≤ n) : hasL ((lg_sl As ++ List.replicate (n - (lg_sl As).length) Slot.unset).toArray) n (inL As n) := by
  have h0 := lv_entry As h
  refine ⟨h0.1, h0.2.1, fun i v hi => ?_⟩
  unfold inL at hi
  by_cases hj : i < (lg_sl As).length
  · rw [List.getElem?_append_left (by rw [inL_len]; exact hj)] at hi
    have := inL_key v As i hi
    simp [List.getElem?_append_left hj, this]
  · rw [List.getElem?_append_right (by rw [inL_len]; omega)] at hi
    have := List.mem_of_getElem? hi
    rw [List.mem_replicate] at this
    cases this.2
/-- a contract out of a walk -/
theorem ct_of {l : Launch} {D : va_G} {cl : List vw_C} {tys : List (ClassId × FieldType)} {nl : List (String × Nat × MethodName × String)} {N : Nat} {ad : Nat → Nat} {y : MethodName} {TB : List Cond} {rm : Room} {As : List Value} {σ : Nat → va_E} {Rr : Option Value → (Nat → va_E) → Prop} {cc : ByteArray} {n : Nat} {ret : Option FieldType}
    (hy : plainName y.cls = true) (hn : (lg_sl As).length ≤ n)
    (body : ∀ Γ : GT, gL Γ = l → gD Γ = D → gN Γ = n → Cx Γ cc y.cls rm TB cl tys nl → Rx Γ N ad ret Rr 0 0 → G Γ 0 0 N ad σ 0 (inL As n) []) : Ct l D cl tys nl N ad y (.code y cc n ret :: TB) rm As σ Rr := by
  intro sz
  refine Met.ofW (cc := cc) (maxL := n) (ret := ret) hy rfl ?_
  intro p e s m args below meth c s₁ B hml hv
  obtain ⟨rfl, hsz, hP, hK, hD0⟩ := hv
  have hts := atoms_spec (ws := .code y cc n ret :: TB) B.pre
  have hown : s.vm.findClass y.cls = some m.cls := findClass_of_methodNamed B.named
  subst hsz
  have hD := hD0.self (sz := s.heap.size)
  rw [lg_entry_eq]
  exact body (p, l, e, rm, s, m, As.toArray, below, meth, c, MQ below (cQc D cl N ad (va_A (gl N ad σ) s.heap.size) Rr) As.toArray s 0 0 (va_A (gl N ad σ) s.heap.size), D, cl, va_A (gl N ad σ) s.heap.size, n) rfl rfl rfl
    ⟨B.exec, B.bytes, hml, hown, rfl, fun w hw => hts w (List.mem_cons_of_mem _ hw), rfl, hK, fun q h => Or.inr h⟩ ⟨B.returns, B.notSynchronized, rfl⟩ s.heap [] _ hP hD va_S.rf (inL_has hn)
section Ends
variable {Γ : GT} {cc : ByteArray} {own : String} {rm : Room} {Ts : List Cond} {cl : List vw_C} {tys : List (ClassId × FieldType)} {nl : List (String × Nat × MethodName × String)} {kc ks N pc : Nat} {ad : Nat → Nat} {σ : Nat → va_E} {L : List (Option Value)} {st : List Value} {Rr : Option Value → (Nat → va_E) → Prop}
theorem g_iret (h : Cx Γ cc own rm Ts cl tys nl) (r : Rx Γ N ad (some .int) Rr kc ks) {v : Int32} (hd : decode cc pc = .ok (.ireturn, 1)) (hv : Rr (some (.int v)) σ) : G Γ kc ks N ad σ pc L [.int v] := fun H locs ls hP hD hS hl => by
  unfold gW
  rw [r.2.2]
  exact W.iret h.x h.b r.1 (fun t ht hW => ⟨⟨_, σ, rfl, hv, by rw [ht]; exact hP, hD⟩, hS.F ht⟩) hS.2.2 hd r.2.1
theorem g_zret (h : Cx Γ cc own rm Ts cl tys nl) (r : Rx Γ N ad (some .boolean) Rr kc ks) {v : Int32} (hn : narrow .boolean (.int v) = .int v) (hd : decode cc pc = .ok (.ireturn, 1)) (hv : Rr (some (.int v)) σ) : G Γ kc ks N ad σ pc L [.int v] := fun H locs ls hP hD hS hl => by
  unfold gW
  rw [r.2.2]
  exact W.zret h.x h.b r.1 hn (fun t ht hW => ⟨⟨_, σ, rfl, hv, by rw [ht]; exact hP, hD⟩, hS.F ht⟩) hS.2.2 hd r.2.1
theorem g_lret (h : Cx Γ cc own rm Ts cl tys nl) (r : Rx Γ N ad (some .long) Rr kc ks) {v : Int64} (hd : decode cc pc = .ok (.lreturn, 1)) (hv : Rr (some (.long v)) σ) : G Γ kc ks N ad σ pc L [.long v] := fun H locs ls hP hD hS hl => by
  unfold gW
  rw [r.2.2]
  exact W.lret h.x h.b r.1 (fun t ht hW => ⟨⟨_, σ, rfl, hv, by rw [ht]; exact hP, hD⟩, hS.F ht⟩) hS.2.2 hd r.2.1
theorem g_aret (h : Cx Γ cc own rm Ts cl tys nl) {C : String} (r : Rx Γ N ad (some (.object C)) Rr kc ks) {v : Nat} (hd : decode cc pc = .ok (.areturn, 1)) (hv : Rr (some (.ref v)) σ) : G Γ kc ks N ad σ pc L [.ref v] := fun H locs ls hP hD hS hl => by
  unfold gW
  rw [r.2.2]
  exact W.aret h.x h.b r.1 (Or.inl ⟨_, rfl⟩) (Or.inr ⟨_, rfl⟩) (fun t ht hW => ⟨⟨_, σ, rfl, hv, by rw [ht]; exact hP, hD⟩, hS.F ht⟩) hS.2.2 hd r.2.1
theorem g_vret (h : Cx Γ cc own rm Ts cl tys nl) (r : Rx Γ N ad (none) Rr kc ks) (hd : decode cc pc = .ok (.return_, 1)) (hv : Rr (none) σ) : G Γ kc ks N ad σ pc L [] := fun H locs ls hP hD hS hl => by
  unfold gW
  rw [r.2.2]
  exact W.vret h.x h.b r.1 (fun t ht hW => ⟨⟨_, σ, rfl, hv, by rw [ht]; exact hP, hD⟩, hS.F ht⟩) hS.2.2 hd r.2.1
end Ends
section CallRows
variable {Γ : GT} {cc : ByteArray} {own : String} {rm : Room} {Ts : List Cond} {cl : List vw_C} {tys : List (ClassId × FieldType)} {nl : List (String × Nat × MethodName × String)} {kc ks N pc : Nat} {ad : Nat → Nat} {σ : Nat → va_E} {L : List (Option Value)} {st rest : List Value} {Rr : Option Value → (Nat → va_E) → Prop}
variable {y : MethodName} {bytes : ByteArray} {maxL n index : Nat} {ret : Option FieldType} {rmY : Room} {As : List Value}
theorem c_in {H : Heap} {locs : List Loc} (h : Cx Γ cc own rm Ts cl tys nl) (hD : va_D (gA Γ) (gl N ad σ)) (hS : va_S (gA Γ) (gs Γ).heap H locs) : ∀ q, va_A (gl N ad σ) H.size q → gA Γ q := by
  intro q hq
  rcases hq with ⟨j, e, hj⟩ | hq
  · exact hD.2 j _ hj
  · exact h.A q (Nat.le_trans hS.1 hq)
/-- behind a call that has run -/
theorem g_back (h : Cx Γ cc own rm Ts cl tys nl) {a : Array Value}
    (hr : ∀ (H : Heap) (locs : List Loc) (ls : Array Slot), va_P (gD Γ) (gC Γ) (gl N ad σ) H → va_D (gA Γ) (gl N ad σ) → va_S (gA Γ) (gs Γ).heap H locs → hasL ls (gN Γ) L → va_Run (gp Γ) (gL Γ) (ge Γ) (gR Γ) (gs Γ) (gm Γ) (ga Γ) (gb Γ) (gM Γ) (gc Γ) H locs kc ks 0 0 (F0 (gm Γ) pc ls st) rest (cQc (gD Γ) (gC Γ) N ad (va_A (gl N ad σ) H.size) Rr a) (va_A (gl N ad σ) H.size))
    (k : ∀ (v : Option Value) (σ2 : Nat → va_E), Rr v σ2 → G Γ kc ks N ad σ2 (pc + 3) L (v.toList ++ rest)) : G Γ kc ks N ad σ pc L st := by
  intro H locs ls hP hD hS hl T hT X
  obtain ⟨v, st₀, t, T', L2, h0, X', hL2, e1, e2, ⟨⟨v', σ2, hv, hp, hb, hb3⟩, hz, hk⟩, go⟩ := hr H locs ls hP hD hS hl T hT X
  cases hv
  rw [h0] at hz hk
  have hF := c_in h hD hS
  obtain ⟨t2, a1, b1⟩ := k v σ2 hp T'.heap (locs ++ L2) ls (by rw [e1]; exact hb) (hb3.weaken (fun _ q _ z => hF q.1 z))
    ⟨Nat.le_trans hS.1 (by rw [e1]; exact hz), fun q h1 h2 => by
      rw [e1, hk q (Nat.lt_of_lt_of_le h1 hS.1) (fun z => h2 (hF q z))]
      exact hS.2.1 q h1 h2, fun q hq => by
      rcases List.mem_append.mp hq with z | z
      · exact hS.2.2 q z
      · exact hF _ (hL2 q z)⟩ hl T' rfl X'
  exact ⟨t2, go t2 a1, b1⟩
theorem c_blind {D : va_G} {sz : Nat} : FrameBlind (cPc D cl tys nl N ad σ sz As) := fun a U g mk q => by
  obtain ⟨q0, q1, qP, qK, qD⟩ := q
  exact ⟨q0, q1, qP, EX.blind qK, qD⟩
theorem c_good {TB : List Cond} (hG : GoodIn TB TB) (hc : Cond.code y bytes maxL ret ∈ TB) : GoodIn TB (.code y bytes maxL ret :: TB) := fun w hw => by
  rcases List.mem_cons.mp hw with rfl | z
  · exact hG _ hc
  · exact hG _ z
/-- the words of a call: the link, the method's own, its code -/
def cwsV (own : String) (index : Nat) (C : String) (y : MethodName) (bytes : ByteArray) (maxL : Nat) (ret : Option FieldType) : List Cond := wsV own index C y [.code y bytes maxL ret]
def cwsS (own : String) (index : Nat) (y : MethodName) (bytes : ByteArray) (maxL : Nat) (ret : Option FieldType) : List Cond := va_wsS own index y [.code y bytes maxL ret]
/-- what is known of a callee's name -/
def cNm (y : MethodName) (C : String) (n : Nat) : Prop := y.cls = C ∧ y.cls ≠ "java/lang/invoke/MethodHandle" ∧ y.cls ≠ "java/lang/invoke/VarHandle" ∧ (parseMethodDescriptor y.desc).map (fun d => d.parameters.length) = some n
def cRm (rmY rm : Room) (maxL kc ks : Nat) : Prop := rmY.cells = 0 ∧ rmY.slots = 0 ∧ rmY.frames + 1 ≤ rm.frames ∧ 8 + (maxL + 11) + rmY.locals ≤ rm.locals ∧ kc ≤ rm.cells ∧ ks ≤ rm.slots
/-- invokevirtual of a method of the very class of the receiver, cell q of the world -/
theorem g_callV (h : Cx Γ cc own rm Ts cl tys nl) (hG : GoodIn Ts Ts) {C : String} {T : u_T} {nf ci q : Nat} {fs : List Value} (hM : Ct (gL Γ) (gD Γ) cl tys nl N ad y (.code y bytes maxL ret :: Ts) rmY (.ref (ad q) :: As) σ Rr) (hq : q < N) (he : σ q = .inr (ci, fs)) (hc : cl[ci]? = some (C, T, nf))
    (hw : ∀ w ∈ cwsV own index C y bytes maxL ret, w ∈ Ts) (hd0 : cNm y C n) (hn : As.length = n)
    (hroom : cRm rmY rm maxL kc ks) (hst : st = As.reverse ++ .ref (ad q) :: rest) (hrest : (rest.map fun v => v.category).sum ≤ 8) (hd : decode cc pc = .ok (.invokevirtual index, 3))
    (k : ∀ (v : Option Value) (σ2 : Nat → va_E), Rr v σ2 → G Γ kc ks N ad σ2 (pc + 3) L (v.toList ++ rest)) : G Γ kc ks N ad σ pc L st := by
  have hcd : Cond.code y bytes maxL ret ∈ Ts := hw _ (by simp [cwsV, wsV])
  refine g_back h (a := (Value.ref (ad q) :: As).toArray) (fun H locs ls hP hD hS hl => ?_) k
  have hE := h.E
  have hF := c_in h hD hS
  have hcl := h.cL
  rw [hcl] at hP hE ⊢
  refine va_runV (As := As) (rest := rest) (b := ad q) (C := C) (n := n) ⟨h.x, h.b, h.ml, h.ow, h.ts⟩ (hM H.size) (cwV n h.ts ?_ rfl hroom.1 hroom.2.1 hd0 (by rw [h.R]; exact ⟨hroom.2.2.1, hroom.2.2.2.1⟩)) ⟨c_blind, va_recv hE.1 hP hc (gl_he hq he), fun U hU hW => ⟨rfl, by rw [hU], by rw [hU]; exact hP, EX.next hE hW hS hF hU, hD.weaken (fun _ _ _ _ => trivial)⟩⟩ rfl hn hl.1 hst (lv_room hrest) hd (by rw [h.R]; exact ⟨hroom.2.2.2.2.1, hroom.2.2.2.2.2⟩)
  intro w hw2
  unfold wsV at hw2
  rcases List.mem_append.mp hw2 with z | z
  · exact hG _ (hw _ (by unfold cwsV wsV; exact List.mem_append_left _ z))
  · exact c_good hG hcd _ z
/-- invokestatic of a method -/
theorem g_callS (h : Cx Γ cc own rm Ts cl tys nl) (hG : GoodIn Ts Ts) (hM : Ct (gL Γ) (gD Γ) cl tys nl N ad y (.code y bytes maxL ret :: Ts) rmY As σ Rr)
    (hw : ∀ w ∈ cwsS own index y bytes maxL ret, w ∈ Ts) (hd0 : cNm y y.cls n) (hn : As.length = n)
    (hroom : cRm rmY rm maxL kc ks) (hst : st = As.reverse ++ rest) (hrest : (rest.map fun v => v.category).sum ≤ 8) (hd : decode cc pc = .ok (.invokestatic index, 3))
    (k : ∀ (v : Option Value) (σ2 : Nat → va_E), Rr v σ2 → G Γ kc ks N ad σ2 (pc + 3) L (v.toList ++ rest)) : G Γ kc ks N ad σ pc L st := by
  have hcd : Cond.code y bytes maxL ret ∈ Ts := hw _ (by simp [cwsS, va_wsS])
  refine g_back h (a := As.toArray) (fun H locs ls hP hD hS hl => ?_) k
  have hE := h.E
  have hF := c_in h hD hS
  have hcl := h.cL
  rw [hcl] at hP hE ⊢
  refine va_runS (As := As) (rest := rest) (n := n) ⟨h.x, h.b, h.ml, h.ow, h.ts⟩ (hM H.size) (va_cwS n h.ts ?_ rfl hroom.1 hroom.2.1 hd0.2 (by rw [h.R]; exact ⟨hroom.2.2.1, hroom.2.2.2.1⟩)) ⟨c_blind, fun U hU hW => ⟨rfl, by rw [hU], by rw [hU]; exact hP, EX.next hE hW hS hF hU, hD.weaken (fun _ _ _ _ => trivial)⟩⟩ rfl hn hl.1 hst (lv_room hrest) hd (by rw [h.R]; exact ⟨hroom.2.2.2.2.1, hroom.2.2.2.2.2⟩)
  intro w hw2
  unfold va_wsS at hw2
  rcases List.mem_append.mp hw2 with z | z
  · exact hG _ (hw _ (by unfold cwsS va_wsS; exact List.mem_append_left _ z))
  · exact c_good hG hcd _ z
/-- invokestatic of a nest mate's private method -/
theorem g_callSN (h : Cx Γ cc own rm Ts cl tys nl) (hG : GoodIn Ts Ts) {host : String} (hM : Ct (gL Γ) (gD Γ) cl tys nl N ad y (.code y bytes maxL ret :: Ts) rmY As σ Rr)
    (hnl : (own, index, y, host) ∈ nl) (hcd : Cond.code y bytes maxL ret ∈ Ts) (hini : Cond.initialized y.cls ∈ Ts) (hst0 : Cond.static y ∈ Ts) (hd0 : cNm y y.cls n) (hn : As.length = n)
    (hroom : cRm rmY rm maxL kc ks) (hst : st = As.reverse ++ rest) (hrest : (rest.map fun v => v.category).sum ≤ 8) (hd : decode cc pc = .ok (.invokestatic index, 3))
    (k : ∀ (v : Option Value) (σ2 : Nat → va_E), Rr v σ2 → G Γ kc ks N ad σ2 (pc + 3) L (v.toList ++ rest)) : G Γ kc ks N ad σ pc L st := by
  refine g_back h (a := As.toArray) (fun H locs ls hP hD hS hl => ?_) k
  have hE := h.E
  have hF := c_in h hD hS
  have hcl := h.cL
  rw [hcl] at hP hE ⊢
  exact va_runSN (As := As) (rest := rest) (n := n) ⟨h.x, h.b, h.ml, h.ow, h.ts⟩ (hM H.size) ⟨va_cnB n h.ts (c_good hG hcd) rfl hroom.1 hroom.2.1 (hE.2.1 _ hnl) (h.ts _ hini) hd0.2 (by rw [h.R]; exact ⟨hroom.2.2.1, hroom.2.2.2.1⟩), h.ts _ hst0, trivial⟩ ⟨c_blind, fun U hU hW => ⟨rfl, by rw [hU], by rw [hU]; exact hP, EX.next hE hW hS hF hU, hD.weaken (fun _ _ _ _ => trivial)⟩⟩ rfl hn hl.1 hst (lv_room hrest) hd (by rw [h.R]; exact ⟨hroom.2.2.2.2.1, hroom.2.2.2.2.2⟩)
end CallRows
end
section
def R_Cell : String := "TriColourMachine$Cell"
def F_Cell : u_T := fun k => match k with
  | 0 => ("TriColourMachine$Cell", "table", "LTriColourMachine$Table;", true)
  | 1 => ("TriColourMachine$Cell", "coroutine", "LTriColourMachine$Coroutine;", true)
  | 2 => ("TriColourMachine$Cell", "kind", "I", false)
  | _ => ("TriColourMachine$Cell", "colour", "I", false)
def t_Cell : Nat → FieldType := fun k => match k with
  | 0 => .object "TriColourMachine$Table"
  | 1 => .object "TriColourMachine$Coroutine"
  | 2 => .int
  | _ => .int
theorem n_Cell : ∀ a, a < 4 → ∀ b, b < 4 → a ≠ b → (F_Cell a).2.1 ≠ (F_Cell b).2.1 := by decide +kernel
theorem t_Cell_ok : ∀ k, k < 4 → parseFieldDescriptor (F_Cell k).2.2.1 = some (t_Cell k) := by decide +kernel
theorem i_Cell : ∀ w ∈ u_ws R_Cell F_Cell 4, w ∈ TB := tb_all [164, 166, 168, 170] (by decide +kernel) (by decide +kernel)
def R_Cor : String := "TriColourMachine$Coroutine"
def F_Cor : u_T := fun k => match k with
  | 0 => ("TriColourMachine$Coroutine", "registers", "[J", true)
  | 1 => ("TriColourMachine$Coroutine", "function", "I", false)
  | 2 => ("TriColourMachine$Coroutine", "place", "I", false)
  | 3 => ("TriColourMachine$Coroutine", "state", "I", false)
  | 4 => ("TriColourMachine$Coroutine", "comesIn", "I", false)
  | _ => ("TriColourMachine$Coroutine", "awaits", "I", false)
def t_Cor : Nat → FieldType := fun k => match k with
  | 0 => .array .long
  | 1 => .int
  | 2 => .int
  | 3 => .int
  | 4 => .int
  | _ => .int
theorem n_Cor : ∀ a, a < 6 → ∀ b, b < 6 → a ≠ b → (F_Cor a).2.1 ≠ (F_Cor b).2.1 := by decide +kernel
theorem t_Cor_ok : ∀ k, k < 6 → parseFieldDescriptor (F_Cor k).2.2.1 = some (t_Cor k) := by decide +kernel
theorem i_Cor : ∀ w ∈ u_ws R_Cor F_Cor 6, w ∈ TB := tb_all [138, 140, 142, 144, 146, 148] (by decide +kernel) (by decide +kernel)
def R_Heap : String := "TriColourMachine$Heap"
def F_Heap : u_T := fun k => match k with
  | 0 => ("TriColourMachine$Heap", "globals", "[J", true)
  | 1 => ("TriColourMachine$Heap", "cells", "[LTriColourMachine$Cell;", true)
  | 2 => ("TriColourMachine$Heap", "phase", "I", false)
  | 3 => ("TriColourMachine$Heap", "sweepFrom", "I", false)
  | 4 => ("TriColourMachine$Heap", "made", "I", false)
  | 5 => ("TriColourMachine$Heap", "gone", "I", false)
  | 6 => ("TriColourMachine$Heap", "units", "I", false)
  | 7 => ("TriColourMachine$Heap", "fullCollections", "I", false)
  | _ => ("TriColourMachine$Heap", "found", "J", false)
def t_Heap : Nat → FieldType := fun k => match k with
  | 0 => .array .long
  | 1 => .array (.object "TriColourMachine$Cell")
  | 2 => .int
  | 3 => .int
  | 4 => .int
  | 5 => .int
  | 6 => .int
  | 7 => .int
  | _ => .long
theorem n_Heap : ∀ a, a < 9 → ∀ b, b < 9 → a ≠ b → (F_Heap a).2.1 ≠ (F_Heap b).2.1 := by decide +kernel
theorem t_Heap_ok : ∀ k, k < 9 → parseFieldDescriptor (F_Heap k).2.2.1 = some (t_Heap k) := by decide +kernel
theorem i_Heap : ∀ w ∈ u_ws R_Heap F_Heap 9, w ∈ TB := tb_all [194, 196, 198, 200, 202, 204, 206, 208, 210] (by decide +kernel) (by decide +kernel)
def R_Ins : String := "TriColourMachine$Instruction"
def F_Ins : u_T := fun k => match k with
  | 0 => ("TriColourMachine$Instruction", "op", "I", false)
  | 1 => ("TriColourMachine$Instruction", "a", "I", false)
  | 2 => ("TriColourMachine$Instruction", "b", "I", false)
  | _ => ("TriColourMachine$Instruction", "c", "I", false)
def t_Ins : Nat → FieldType := fun k => match k with
  | 0 => .int
  | 1 => .int
  | 2 => .int
  | _ => .int
theorem n_Ins : ∀ a, a < 4 → ∀ b, b < 4 → a ≠ b → (F_Ins a).2.1 ≠ (F_Ins b).2.1 := by decide +kernel
theorem t_Ins_ok : ∀ k, k < 4 → parseFieldDescriptor (F_Ins k).2.2.1 = some (t_Ins k) := by decide +kernel
theorem i_Ins : ∀ w ∈ u_ws R_Ins F_Ins 4, w ∈ TB := tb_all [241, 243, 245, 247] (by decide +kernel) (by decide +kernel)
def R_Pro : String := "TriColourMachine$Processor"
def F_Pro : u_T := fun k => match k with
  | 0 => ("TriColourMachine$Processor", "heap", "LTriColourMachine$Heap;", true)
  | 1 => ("TriColourMachine$Processor", "instructions", "[LTriColourMachine$Instruction;", true)
  | 2 => ("TriColourMachine$Processor", "active", "[LTriColourMachine$Coroutine;", true)
  | 3 => ("TriColourMachine$Processor", "depth", "I", false)
  | 4 => ("TriColourMachine$Processor", "begun", "I", false)
  | 5 => ("TriColourMachine$Processor", "nextPlace", "I", false)
  | _ => ("TriColourMachine$Processor", "outcome", "J", false)
def t_Pro : Nat → FieldType := fun k => match k with
  | 0 => .object "TriColourMachine$Heap"
  | 1 => .array (.object "TriColourMachine$Instruction")
  | 2 => .array (.object "TriColourMachine$Coroutine")
  | 3 => .int
  | 4 => .int
  | 5 => .int
  | _ => .long
theorem n_Pro : ∀ a, a < 7 → ∀ b, b < 7 → a ≠ b → (F_Pro a).2.1 ≠ (F_Pro b).2.1 := by decide +kernel
theorem t_Pro_ok : ∀ k, k < 7 → parseFieldDescriptor (F_Pro k).2.2.1 = some (t_Pro k) := by decide +kernel
theorem i_Pro : ∀ w ∈ u_ws R_Pro F_Pro 7, w ∈ TB := tb_all [259, 261, 263, 265, 267, 269, 271] (by decide +kernel) (by decide +kernel)
def R_Tab : String := "TriColourMachine$Table"
def F_Tab : u_T := fun k => match k with
  | 0 => ("TriColourMachine$Table", "keys", "[J", true)
  | 1 => ("TriColourMachine$Table", "values", "[J", true)
  | 2 => ("TriColourMachine$Table", "pairs", "I", false)
  | _ => ("TriColourMachine$Table", "meta", "I", false)
def t_Tab : Nat → FieldType := fun k => match k with
  | 0 => .array .long
  | 1 => .array .long
  | 2 => .int
  | _ => .int
theorem n_Tab : ∀ a, a < 4 → ∀ b, b < 4 → a ≠ b → (F_Tab a).2.1 ≠ (F_Tab b).2.1 := by decide +kernel
theorem t_Tab_ok : ∀ k, k < 4 → parseFieldDescriptor (F_Tab k).2.2.1 = some (t_Tab k) := by decide +kernel
theorem i_Tab : ∀ w ∈ u_ws R_Tab F_Tab 4, w ∈ TB := tb_all [105, 107, 109, 111] (by decide +kernel) (by decide +kernel)
def R_TCM : String := "TriColourMachine"
def F_TCM : u_T := fun k => match k with
  | 0 => ("TriColourMachine", "processor", "LTriColourMachine$Processor;", true)
  | _ => ("TriColourMachine", "heap", "LTriColourMachine$Heap;", true)
def t_TCM : Nat → FieldType := fun k => match k with
  | 0 => .object "TriColourMachine$Processor"
  | _ => .object "TriColourMachine$Heap"
theorem n_TCM : ∀ a, a < 2 → ∀ b, b < 2 → a ≠ b → (F_TCM a).2.1 ≠ (F_TCM b).2.1 := by decide +kernel
theorem t_TCM_ok : ∀ k, k < 2 → parseFieldDescriptor (F_TCM k).2.2.1 = some (t_TCM k) := by decide +kernel
theorem i_TCM : ∀ w ∈ u_ws R_TCM F_TCM 2, w ∈ TB := tb_all [276, 278] (by decide +kernel) (by decide +kernel)
def R_Mod : String := "TriColourMachineModel"
def F_Mod : u_T := fun k => match k with
  | 0 => ("TriColourMachineModel", "ops", "[I", true)
  | 1 => ("TriColourMachineModel", "as", "[I", true)
  | 2 => ("TriColourMachineModel", "bs", "[I", true)
  | 3 => ("TriColourMachineModel", "cs", "[I", true)
  | 4 => ("TriColourMachineModel", "globals", "[J", true)
  | 5 => ("TriColourMachineModel", "kind", "[I", true)
  | 6 => ("TriColourMachineModel", "colour", "[I", true)
  | 7 => ("TriColourMachineModel", "size", "[I", true)
  | 8 => ("TriColourMachineModel", "metaOf", "[I", true)
  | 9 => ("TriColourMachineModel", "keys", "[J", true)
  | 10 => ("TriColourMachineModel", "values", "[J", true)
  | 11 => ("TriColourMachineModel", "registers", "[J", true)
  | 12 => ("TriColourMachineModel", "function", "[I", true)
  | 13 => ("TriColourMachineModel", "place", "[I", true)
  | 14 => ("TriColourMachineModel", "state", "[I", true)
  | 15 => ("TriColourMachineModel", "waits", "[I", true)
  | 16 => ("TriColourMachineModel", "active", "[I", true)
  | 17 => ("TriColourMachineModel", "depth", "I", false)
  | 18 => ("TriColourMachineModel", "phase", "I", false)
  | 19 => ("TriColourMachineModel", "sweep", "I", false)
  | 20 => ("TriColourMachineModel", "made", "I", false)
  | 21 => ("TriColourMachineModel", "gone", "I", false)
  | 22 => ("TriColourMachineModel", "done", "I", false)
  | 23 => ("TriColourMachineModel", "units", "I", false)
  | 24 => ("TriColourMachineModel", "fulls", "I", false)
  | 25 => ("TriColourMachineModel", "thrown", "I", false)
  | 26 => ("TriColourMachineModel", "trouble", "I", false)
  | _ => ("TriColourMachineModel", "outcome", "J", false)
def t_Mod : Nat → FieldType := fun k => match k with
  | 0 => .array .int
  | 1 => .array .int
  | 2 => .array .int
  | 3 => .array .int
  | 4 => .array .long
  | 5 => .array .int
  | 6 => .array .int
  | 7 => .array .int
  | 8 => .array .int
  | 9 => .array .long
  | 10 => .array .long
  | 11 => .array .long
  | 12 => .array .int
  | 13 => .array .int
  | 14 => .array .int
  | 15 => .array .int
  | 16 => .array .int
  | 17 => .int
  | 18 => .int
  | 19 => .int
  | 20 => .int
  | 21 => .int
  | 22 => .int
  | 23 => .int
  | 24 => .int
  | 25 => .int
  | 26 => .int
  | _ => .long
theorem n_Mod : ∀ a, a < 28 → ∀ b, b < 28 → a ≠ b → (F_Mod a).2.1 ≠ (F_Mod b).2.1 := by decide +kernel
theorem t_Mod_ok : ∀ k, k < 28 → parseFieldDescriptor (F_Mod k).2.2.1 = some (t_Mod k) := by decide +kernel
theorem i_Mod : ∀ w ∈ u_ws R_Mod F_Mod 28, w ∈ TB := tb_all [710, 712, 714, 716, 718, 720, 722, 724, 726, 728, 730, 732, 734, 736, 738, 740, 742, 744, 746, 748, 750, 752, 754, 756, 758, 760, 762, 764] (by decide +kernel) (by decide +kernel)
abbrev CL : List vw_C := [(R_Cell, F_Cell, 4), (R_Cor, F_Cor, 6), (R_Heap, F_Heap, 9), (R_Ins, F_Ins, 4), (R_Pro, F_Pro, 7), (R_Tab, F_Tab, 4), (R_TCM, F_TCM, 2), (R_Mod, F_Mod, 28)]
abbrev b_TCM_init : ByteArray := prog_1_method_1_code
def y_TCM_init : MethodName := ⟨"TriColourMachine", "<init>", "()V"⟩
abbrev b_Heap_init : ByteArray := prog_4_method_1_code
def y_Heap_init : MethodName := ⟨"TriColourMachine$Heap", "<init>", "()V"⟩
abbrev b_Arr_fill : ByteArray := prog_18_method_101_code
def y_Arr_fill : MethodName := ⟨"java/util/Arrays", "fill", "([JJ)V"⟩
abbrev b_Cell_init : ByteArray := prog_2_method_1_code
def y_Cell_init : MethodName := ⟨"TriColourMachine$Cell", "<init>", "()V"⟩
abbrev b_Tab_init : ByteArray := prog_7_method_1_code
def y_Tab_init : MethodName := ⟨"TriColourMachine$Table", "<init>", "()V"⟩
abbrev b_Cor_init : ByteArray := prog_3_method_1_code
def y_Cor_init : MethodName := ⟨"TriColourMachine$Coroutine", "<init>", "()V"⟩
abbrev b_Pro_init : ByteArray := prog_6_method_1_code
def y_Pro_init : MethodName := ⟨"TriColourMachine$Processor", "<init>", "(LTriColourMachine$Heap;)V"⟩
abbrev b_Ins_init : ByteArray := prog_5_method_1_code
def y_Ins_init : MethodName := ⟨"TriColourMachine$Instruction", "<init>", "()V"⟩
abbrev b_TCM_full : ByteArray := prog_1_method_11_code
def y_TCM_full : MethodName := ⟨"TriColourMachine", "full", "()I"⟩
abbrev b_Heap_fullCollection : ByteArray := prog_4_method_14_code
def y_Heap_fullCollection : MethodName := ⟨"TriColourMachine$Heap", "fullCollection", "()V"⟩
abbrev b_Heap_unit : ByteArray := prog_4_method_15_code
def y_Heap_unit : MethodName := ⟨"TriColourMachine$Heap", "unit", "()V"⟩
abbrev b_Heap_sweepOne : ByteArray := prog_4_method_21_code
def y_Heap_sweepOne : MethodName := ⟨"TriColourMachine$Heap", "sweepOne", "()V"⟩
abbrev b_Heap_leastGray : ByteArray := prog_4_method_16_code
def y_Heap_leastGray : MethodName := ⟨"TriColourMachine$Heap", "leastGray", "()I"⟩
abbrev b_Heap_blacken : ByteArray := prog_4_method_17_code
def y_Heap_blacken : MethodName := ⟨"TriColourMachine$Heap", "blacken", "(LTriColourMachine$Cell;)V"⟩
abbrev b_Heap_shadeRow : ByteArray := prog_4_method_19_code
def y_Heap_shadeRow : MethodName := ⟨"TriColourMachine$Heap", "shadeRow", "([JI)I"⟩
abbrev b_Heap_shade : ByteArray := prog_4_method_20_code
def y_Heap_shade : MethodName := ⟨"TriColourMachine$Heap", "shade", "(LTriColourMachine$Cell;)I"⟩
abbrev b_Heap_shadeRoots : ByteArray := prog_4_method_18_code
def y_Heap_shadeRoots : MethodName := ⟨"TriColourMachine$Heap", "shadeRoots", "()I"⟩
abbrev b_Cell_isActive : ByteArray := prog_2_method_2_code
def y_Cell_isActive : MethodName := ⟨"TriColourMachine$Cell", "isActive", "()Z"⟩
abbrev b_TCM_count : ByteArray := prog_1_method_15_code
def y_TCM_count : MethodName := ⟨"TriColourMachine", "count", "(I)I"⟩
abbrev b_Heap_grayOnes : ByteArray := prog_4_method_22_code
def y_Heap_grayOnes : MethodName := ⟨"TriColourMachine$Heap", "grayOnes", "()I"⟩
abbrev b_Law_code : ByteArray := method_3_code
def y_Law_code : MethodName := ⟨"TriColourMachineLaw", "code", "(LTriColourMachine;IIIIII)I"⟩
abbrev b_TCM_code : ByteArray := prog_1_method_2_code
def y_TCM_code : MethodName := ⟨"TriColourMachine", "code", "(IIIIII)V"⟩
abbrev b_TCM_checkRange : ByteArray := prog_1_method_17_code
def y_TCM_checkRange : MethodName := ⟨"TriColourMachine", "checkRange", "(III)V"⟩
abbrev b_Pro_instructionAt : ByteArray := prog_6_method_2_code
def y_Pro_instructionAt : MethodName := ⟨"TriColourMachine$Processor", "instructionAt", "(II)LTriColourMachine$Instruction;"⟩
abbrev b_Law_number : ByteArray := method_4_code
def y_Law_number : MethodName := ⟨"TriColourMachineLaw", "number", "(LTriColourMachine;II)I"⟩
abbrev b_TCM_number : ByteArray := prog_1_method_3_code
def y_TCM_number : MethodName := ⟨"TriColourMachine", "number", "(II)V"⟩
abbrev b_TCM_checkGlobal : ByteArray := prog_1_method_16_code
def y_TCM_checkGlobal : MethodName := ⟨"TriColourMachine", "checkGlobal", "(I)V"⟩
abbrev b_Law_move : ByteArray := method_5_code
def y_Law_move : MethodName := ⟨"TriColourMachineLaw", "move", "(LTriColourMachine;II)I"⟩
abbrev b_TCM_move : ByteArray := prog_1_method_4_code
def y_TCM_move : MethodName := ⟨"TriColourMachine", "move", "(II)V"⟩
abbrev b_Law_make : ByteArray := method_6_code
def y_Law_make : MethodName := ⟨"TriColourMachineLaw", "make", "(LTriColourMachine;II[J)I"⟩
abbrev b_TCM_make : ByteArray := prog_1_method_5_code
def y_TCM_make : MethodName := ⟨"TriColourMachine", "make", "(II)I"⟩
abbrev b_Heap_create : ByteArray := prog_4_method_3_code
def y_Heap_create : MethodName := ⟨"TriColourMachine$Heap", "create", "(II)I"⟩
abbrev b_Heap_leastFree : ByteArray := prog_4_method_4_code
def y_Heap_leastFree : MethodName := ⟨"TriColourMachine$Heap", "leastFree", "()I"⟩
abbrev b_Heap_birthColour : ByteArray := prog_4_method_5_code
def y_Heap_birthColour : MethodName := ⟨"TriColourMachine$Heap", "birthColour", "(I)I"⟩
abbrev b_Tab_clear : ByteArray := prog_7_method_2_code
def y_Tab_clear : MethodName := ⟨"TriColourMachine$Table", "clear", "()V"⟩
abbrev b_Cor_clear : ByteArray := prog_3_method_2_code
def y_Cor_clear : MethodName := ⟨"TriColourMachine$Coroutine", "clear", "(I)V"⟩
abbrev b_TCM_raise : ByteArray := prog_1_method_18_code
def y_TCM_raise : MethodName := ⟨"TriColourMachine", "raise", "(I)V"⟩
abbrev b_TCM_numberOf : ByteArray := prog_1_method_20_code
def y_TCM_numberOf : MethodName := ⟨"TriColourMachine", "numberOf", "(J)I"⟩
abbrev b_Law_set : ByteArray := method_7_code
def y_Law_set : MethodName := ⟨"TriColourMachineLaw", "set", "(LTriColourMachine;III)I"⟩
abbrev b_TCM_set : ByteArray := prog_1_method_6_code
def y_TCM_set : MethodName := ⟨"TriColourMachine", "set", "(III)V"⟩
abbrev b_Heap_setting : ByteArray := prog_4_method_7_code
def y_Heap_setting : MethodName := ⟨"TriColourMachine$Heap", "setting", "(JJJ)I"⟩
abbrev b_Heap_isA : ByteArray := prog_4_method_2_code
def y_Heap_isA : MethodName := ⟨"TriColourMachine$Heap", "isA", "(IJ)Z"⟩
abbrev b_Heap_lastTable : ByteArray := prog_4_method_8_code
def y_Heap_lastTable : MethodName := ⟨"TriColourMachine$Heap", "lastTable", "(IJJ)I"⟩
abbrev b_Tab_find : ByteArray := prog_7_method_3_code
def y_Tab_find : MethodName := ⟨"TriColourMachine$Table", "find", "(J)I"⟩
abbrev b_Heap_linked : ByteArray := prog_4_method_9_code
def y_Heap_linked : MethodName := ⟨"TriColourMachine$Heap", "linked", "(IJ)I"⟩
abbrev b_Tab_append : ByteArray := prog_7_method_4_code
def y_Tab_append : MethodName := ⟨"TriColourMachine$Table", "append", "(JJ)V"⟩
abbrev b_Tab_takeAway : ByteArray := prog_7_method_5_code
def y_Tab_takeAway : MethodName := ⟨"TriColourMachine$Table", "takeAway", "(I)V"⟩
abbrev b_Heap_touch : ByteArray := prog_4_method_13_code
def y_Heap_touch : MethodName := ⟨"TriColourMachine$Heap", "touch", "(I)V"⟩
abbrev b_Law_get : ByteArray := method_8_code
def y_Law_get : MethodName := ⟨"TriColourMachineLaw", "get", "(LTriColourMachine;III[J)I"⟩
abbrev b_TCM_get : ByteArray := prog_1_method_7_code
def y_TCM_get : MethodName := ⟨"TriColourMachine", "get", "(III)J"⟩
abbrev b_Heap_getting : ByteArray := prog_4_method_6_code
def y_Heap_getting : MethodName := ⟨"TriColourMachine$Heap", "getting", "(JJ)I"⟩
abbrev b_Law_meta : ByteArray := method_9_code
def y_Law_meta : MethodName := ⟨"TriColourMachineLaw", "meta", "(LTriColourMachine;II)I"⟩
abbrev b_TCM_meta : ByteArray := prog_1_method_8_code
def y_TCM_meta : MethodName := ⟨"TriColourMachine", "meta", "(II)V"⟩
abbrev b_Heap_settingMeta : ByteArray := prog_4_method_10_code
def y_Heap_settingMeta : MethodName := ⟨"TriColourMachine$Heap", "settingMeta", "(JJ)I"⟩
abbrev b_Law_resume : ByteArray := method_10_code
def y_Law_resume : MethodName := ⟨"TriColourMachineLaw", "resume", "(LTriColourMachine;III[J)I"⟩
abbrev b_TCM_resume : ByteArray := prog_1_method_9_code
def y_TCM_resume : MethodName := ⟨"TriColourMachine", "resume", "(III)J"⟩
abbrev b_Pro_run : ByteArray := prog_6_method_3_code
def y_Pro_run : MethodName := ⟨"TriColourMachine$Processor", "run", "(JJ)I"⟩
abbrev b_Pro_enter : ByteArray := prog_6_method_4_code
def y_Pro_enter : MethodName := ⟨"TriColourMachine$Processor", "enter", "(JJ)I"⟩
abbrev b_Pro_perform : ByteArray := prog_6_method_7_code
def y_Pro_perform : MethodName := ⟨"TriColourMachine$Processor", "perform", "(LTriColourMachine$Coroutine;LTriColourMachine$Instruction;)I"⟩
abbrev b_Math_floorMod : ByteArray := prog_13_method_50_code
def y_Math_floorMod : MethodName := ⟨"java/lang/Math", "floorMod", "(II)I"⟩
abbrev b_Pro_keepFound : ByteArray := prog_6_method_8_code
def y_Pro_keepFound : MethodName := ⟨"TriColourMachine$Processor", "keepFound", "([JII)I"⟩
abbrev b_Pro_calculate : ByteArray := prog_6_method_9_code
def y_Pro_calculate : MethodName := ⟨"TriColourMachine$Processor", "calculate", "(I[JIJJ)I"⟩
abbrev b_TCM_isNumber : ByteArray := prog_1_method_19_code
def y_TCM_isNumber : MethodName := ⟨"TriColourMachine", "isNumber", "(J)Z"⟩
abbrev b_Pro_jumpIfBelow : ByteArray := prog_6_method_10_code
def y_Pro_jumpIfBelow : MethodName := ⟨"TriColourMachine$Processor", "jumpIfBelow", "(JJI)I"⟩
abbrev b_Pro_jumpIf : ByteArray := prog_6_method_11_code
def y_Pro_jumpIf : MethodName := ⟨"TriColourMachine$Processor", "jumpIf", "(ZI)I"⟩
abbrev b_Pro_leave : ByteArray := prog_6_method_5_code
def y_Pro_leave : MethodName := ⟨"TriColourMachine$Processor", "leave", "(J)V"⟩
abbrev b_Heap_keyAfter : ByteArray := prog_4_method_11_code
def y_Heap_keyAfter : MethodName := ⟨"TriColourMachine$Heap", "keyAfter", "(JJ)I"⟩
abbrev b_Heap_howMany : ByteArray := prog_4_method_12_code
def y_Heap_howMany : MethodName := ⟨"TriColourMachine$Heap", "howMany", "(J)I"⟩
abbrev b_Pro_endActive : ByteArray := prog_6_method_6_code
def y_Pro_endActive : MethodName := ⟨"TriColourMachine$Processor", "endActive", "()V"⟩
abbrev b_Law_collect : ByteArray := method_11_code
def y_Law_collect : MethodName := ⟨"TriColourMachineLaw", "collect", "(LTriColourMachine;I[J)I"⟩
abbrev b_TCM_collect : ByteArray := prog_1_method_10_code
def y_TCM_collect : MethodName := ⟨"TriColourMachine", "collect", "(I)I"⟩
abbrev b_Law_global : ByteArray := method_12_code
def y_Law_global : MethodName := ⟨"TriColourMachineLaw", "global", "(LTriColourMachine;I[J)I"⟩
abbrev b_TCM_global : ByteArray := prog_1_method_12_code
def y_TCM_global : MethodName := ⟨"TriColourMachine", "global", "(I)J"⟩
abbrev b_Law_object : ByteArray := method_13_code
def y_Law_object : MethodName := ⟨"TriColourMachineLaw", "object", "(LTriColourMachine;II[J)I"⟩
abbrev b_TCM_object : ByteArray := prog_1_method_13_code
def y_TCM_object : MethodName := ⟨"TriColourMachine", "object", "(II)I"⟩
abbrev b_Law_inside : ByteArray := method_14_code
def y_Law_inside : MethodName := ⟨"TriColourMachineLaw", "inside", "(LTriColourMachine;IIZ[J)I"⟩
abbrev b_TCM_inside : ByteArray := prog_1_method_14_code
def y_TCM_inside : MethodName := ⟨"TriColourMachine", "inside", "(IIZ)J"⟩
abbrev b_Cell_rows : ByteArray := prog_2_method_3_code
def y_Cell_rows : MethodName := ⟨"TriColourMachine$Cell", "rows", "(Z)I"⟩
abbrev b_Mod_init : ByteArray := prog_9_method_1_code
def y_Mod_init : MethodName := ⟨"TriColourMachineModel", "<init>", "()V"⟩
abbrev b_Mod_thrown : ByteArray := prog_9_method_2_code
def y_Mod_thrown : MethodName := ⟨"TriColourMachineModel", "thrown", "()I"⟩
abbrev b_Mod_code : ByteArray := prog_9_method_8_code
def y_Mod_code : MethodName := ⟨"TriColourMachineModel", "code", "(IIIIII)V"⟩
abbrev b_Mod_number : ByteArray := prog_9_method_9_code
def y_Mod_number : MethodName := ⟨"TriColourMachineModel", "number", "(II)V"⟩
abbrev b_Mod_badGlobal : ByteArray := prog_9_method_3_code
def y_Mod_badGlobal : MethodName := ⟨"TriColourMachineModel", "badGlobal", "(I)Z"⟩
abbrev b_Mod_move : ByteArray := prog_9_method_10_code
def y_Mod_move : MethodName := ⟨"TriColourMachineModel", "move", "(II)V"⟩
abbrev b_Mod_make : ByteArray := prog_9_method_19_code
def y_Mod_make : MethodName := ⟨"TriColourMachineModel", "make", "(II)I"⟩
abbrev b_Mod_create : ByteArray := prog_9_method_17_code
def y_Mod_create : MethodName := ⟨"TriColourMachineModel", "create", "(II)I"⟩
abbrev b_Mod_free : ByteArray := prog_9_method_18_code
def y_Mod_free : MethodName := ⟨"TriColourMachineModel", "free", "()I"⟩
abbrev b_Mod_whole : ByteArray := prog_9_method_16_code
def y_Mod_whole : MethodName := ⟨"TriColourMachineModel", "whole", "()I"⟩
abbrev b_Mod_unit : ByteArray := prog_9_method_15_code
def y_Mod_unit : MethodName := ⟨"TriColourMachineModel", "unit", "()I"⟩
abbrev b_Mod_shadeRoots : ByteArray := prog_9_method_12_code
def y_Mod_shadeRoots : MethodName := ⟨"TriColourMachineModel", "shadeRoots", "()V"⟩
abbrev b_Mod_shade : ByteArray := prog_9_method_11_code
def y_Mod_shade : MethodName := ⟨"TriColourMachineModel", "shade", "(J)V"⟩
abbrev b_Mod_objectOf : ByteArray := prog_9_method_5_code
def y_Mod_objectOf : MethodName := ⟨"TriColourMachineModel", "objectOf", "(J)I"⟩
abbrev b_Mod_leastGray : ByteArray := prog_9_method_13_code
def y_Mod_leastGray : MethodName := ⟨"TriColourMachineModel", "leastGray", "()I"⟩
abbrev b_Mod_blacken : ByteArray := prog_9_method_14_code
def y_Mod_blacken : MethodName := ⟨"TriColourMachineModel", "blacken", "(I)V"⟩
abbrev b_Mod_set : ByteArray := prog_9_method_25_code
def y_Mod_set : MethodName := ⟨"TriColourMachineModel", "set", "(III)V"⟩
abbrev b_Mod_tableOf : ByteArray := prog_9_method_6_code
def y_Mod_tableOf : MethodName := ⟨"TriColourMachineModel", "tableOf", "(J)I"⟩
abbrev b_Mod_setting : ByteArray := prog_9_method_24_code
def y_Mod_setting : MethodName := ⟨"TriColourMachineModel", "setting", "(IJJ)V"⟩
abbrev b_Mod_pairOf : ByteArray := prog_9_method_20_code
def y_Mod_pairOf : MethodName := ⟨"TriColourMachineModel", "pairOf", "(IJ)I"⟩
abbrev b_Mod_next : ByteArray := prog_9_method_21_code
def y_Mod_next : MethodName := ⟨"TriColourMachineModel", "next", "(IJ)I"⟩
abbrev b_Mod_touch : ByteArray := prog_9_method_23_code
def y_Mod_touch : MethodName := ⟨"TriColourMachineModel", "touch", "(I)V"⟩
abbrev b_Mod_get : ByteArray := prog_9_method_26_code
def y_Mod_get : MethodName := ⟨"TriColourMachineModel", "get", "(III)J"⟩
abbrev b_Mod_getting : ByteArray := prog_9_method_22_code
def y_Mod_getting : MethodName := ⟨"TriColourMachineModel", "getting", "(IJ)J"⟩
abbrev b_Mod_meta : ByteArray := prog_9_method_28_code
def y_Mod_meta : MethodName := ⟨"TriColourMachineModel", "meta", "(II)V"⟩
abbrev b_Mod_join : ByteArray := prog_9_method_27_code
def y_Mod_join : MethodName := ⟨"TriColourMachineModel", "join", "(JJ)V"⟩
abbrev b_Mod_resume : ByteArray := prog_9_method_35_code
def y_Mod_resume : MethodName := ⟨"TriColourMachineModel", "resume", "(III)J"⟩
abbrev b_Mod_enter : ByteArray := prog_9_method_29_code
def y_Mod_enter : MethodName := ⟨"TriColourMachineModel", "enter", "(JJ)V"⟩
abbrev b_Mod_coroutineOf : ByteArray := prog_9_method_7_code
def y_Mod_coroutineOf : MethodName := ⟨"TriColourMachineModel", "coroutineOf", "(J)I"⟩
abbrev b_Mod_step : ByteArray := prog_9_method_34_code
def y_Mod_step : MethodName := ⟨"TriColourMachineModel", "step", "()V"⟩
abbrev b_Mod_leave : ByteArray := prog_9_method_30_code
def y_Mod_leave : MethodName := ⟨"TriColourMachineModel", "leave", "(IJ)V"⟩
abbrev b_Mod_jumps : ByteArray := prog_9_method_33_code
def y_Mod_jumps : MethodName := ⟨"TriColourMachineModel", "jumps", "(IJJ)Z"⟩
abbrev b_Mod_isNumber : ByteArray := prog_9_method_4_code
def y_Mod_isNumber : MethodName := ⟨"TriColourMachineModel", "isNumber", "(J)Z"⟩
abbrev b_Mod_calculate : ByteArray := prog_9_method_31_code
def y_Mod_calculate : MethodName := ⟨"TriColourMachineModel", "calculate", "(IIIJJ)V"⟩
abbrev b_Mod_following : ByteArray := prog_9_method_32_code
def y_Mod_following : MethodName := ⟨"TriColourMachineModel", "following", "(IJ)J"⟩
abbrev b_Mod_collect : ByteArray := prog_9_method_36_code
def y_Mod_collect : MethodName := ⟨"TriColourMachineModel", "collect", "(I)I"⟩
abbrev b_Mod_full : ByteArray := prog_9_method_37_code
def y_Mod_full : MethodName := ⟨"TriColourMachineModel", "full", "()I"⟩
abbrev b_Mod_global : ByteArray := prog_9_method_38_code
def y_Mod_global : MethodName := ⟨"TriColourMachineModel", "global", "(I)J"⟩
abbrev b_Mod_object : ByteArray := prog_9_method_39_code
def y_Mod_object : MethodName := ⟨"TriColourMachineModel", "object", "(II)I"⟩
abbrev b_Mod_inside : ByteArray := prog_9_method_40_code
def y_Mod_inside : MethodName := ⟨"TriColourMachineModel", "inside", "(IIZ)J"⟩
abbrev b_Mod_count : ByteArray := prog_9_method_41_code
def y_Mod_count : MethodName := ⟨"TriColourMachineModel", "count", "(I)I"⟩
theorem f_TCM_12 : Cond.fieldLink "TriColourMachine" 12 "TriColourMachine" "heap" "LTriColourMachine$Heap;" ∈ TB := tb_mem 275 (by decide +kernel) rfl
theorem f_TCM_21 : Cond.fieldLink "TriColourMachine" 21 "TriColourMachine" "processor" "LTriColourMachine$Processor;" ∈ TB := tb_mem 274 (by decide +kernel) rfl
theorem f_Heap_9 : Cond.fieldLink "TriColourMachine$Heap" 9 "TriColourMachine$Heap" "globals" "[J" ∈ TB := tb_mem 173 (by decide +kernel) rfl
theorem f_Heap_17 : Cond.fieldLink "TriColourMachine$Heap" 17 "TriColourMachine$Heap" "cells" "[LTriColourMachine$Cell;" ∈ TB := tb_mem 176 (by decide +kernel) rfl
theorem f_Heap_21 : Cond.fieldLink "TriColourMachine$Heap" 21 "TriColourMachine$Heap" "phase" "I" ∈ TB := tb_mem 179 (by decide +kernel) rfl
theorem f_Heap_25 : Cond.fieldLink "TriColourMachine$Heap" 25 "TriColourMachine$Heap" "sweepFrom" "I" ∈ TB := tb_mem 181 (by decide +kernel) rfl
theorem f_Heap_28 : Cond.fieldLink "TriColourMachine$Heap" 28 "TriColourMachine$Heap" "made" "I" ∈ TB := tb_mem 183 (by decide +kernel) rfl
theorem f_Heap_31 : Cond.fieldLink "TriColourMachine$Heap" 31 "TriColourMachine$Heap" "gone" "I" ∈ TB := tb_mem 185 (by decide +kernel) rfl
theorem f_Heap_34 : Cond.fieldLink "TriColourMachine$Heap" 34 "TriColourMachine$Heap" "units" "I" ∈ TB := tb_mem 187 (by decide +kernel) rfl
theorem f_Heap_37 : Cond.fieldLink "TriColourMachine$Heap" 37 "TriColourMachine$Heap" "fullCollections" "I" ∈ TB := tb_mem 189 (by decide +kernel) rfl
theorem k_Heap_40 : Cond.constantLong "TriColourMachine$Heap" 40 (-1000000000000) ∈ TB := tb_mem 77 (by decide +kernel) rfl
theorem f_Heap_42 : Cond.fieldLink "TriColourMachine$Heap" 42 "TriColourMachine$Heap" "found" "J" ∈ TB := tb_mem 191 (by decide +kernel) rfl
theorem v_Heap_46 : ∀ w ∈ cwsS "TriColourMachine$Heap" 46 y_Arr_fill b_Arr_fill 5 none, w ∈ TB := tb_all [78, 79, 45, 80] (by decide +kernel) (by decide +kernel)
theorem f_Cell_12 : Cond.fieldLink "TriColourMachine$Cell" 12 "TriColourMachine$Cell" "table" "LTriColourMachine$Table;" ∈ TB := tb_mem 151 (by decide +kernel) rfl
theorem f_Cell_21 : Cond.fieldLink "TriColourMachine$Cell" 21 "TriColourMachine$Cell" "coroutine" "LTriColourMachine$Coroutine;" ∈ TB := tb_mem 154 (by decide +kernel) rfl
theorem f_Cell_25 : Cond.fieldLink "TriColourMachine$Cell" 25 "TriColourMachine$Cell" "kind" "I" ∈ TB := tb_mem 158 (by decide +kernel) rfl
theorem f_Cell_29 : Cond.fieldLink "TriColourMachine$Cell" 29 "TriColourMachine$Cell" "colour" "I" ∈ TB := tb_mem 161 (by decide +kernel) rfl
theorem f_Tab_9 : Cond.fieldLink "TriColourMachine$Table" 9 "TriColourMachine$Table" "keys" "[J" ∈ TB := tb_mem 92 (by decide +kernel) rfl
theorem f_Tab_15 : Cond.fieldLink "TriColourMachine$Table" 15 "TriColourMachine$Table" "values" "[J" ∈ TB := tb_mem 95 (by decide +kernel) rfl
theorem f_Tab_18 : Cond.fieldLink "TriColourMachine$Table" 18 "TriColourMachine$Table" "pairs" "I" ∈ TB := tb_mem 98 (by decide +kernel) rfl
theorem f_Tab_22 : Cond.fieldLink "TriColourMachine$Table" 22 "TriColourMachine$Table" "meta" "I" ∈ TB := tb_mem 102 (by decide +kernel) rfl
theorem f_Cor_9 : Cond.fieldLink "TriColourMachine$Coroutine" 9 "TriColourMachine$Coroutine" "registers" "[J" ∈ TB := tb_mem 121 (by decide +kernel) rfl
theorem f_Cor_15 : Cond.fieldLink "TriColourMachine$Coroutine" 15 "TriColourMachine$Coroutine" "function" "I" ∈ TB := tb_mem 125 (by decide +kernel) rfl
theorem f_Cor_19 : Cond.fieldLink "TriColourMachine$Coroutine" 19 "TriColourMachine$Coroutine" "place" "I" ∈ TB := tb_mem 127 (by decide +kernel) rfl
theorem f_Cor_22 : Cond.fieldLink "TriColourMachine$Coroutine" 22 "TriColourMachine$Coroutine" "state" "I" ∈ TB := tb_mem 130 (by decide +kernel) rfl
theorem f_Cor_25 : Cond.fieldLink "TriColourMachine$Coroutine" 25 "TriColourMachine$Coroutine" "comesIn" "I" ∈ TB := tb_mem 134 (by decide +kernel) rfl
theorem f_Cor_28 : Cond.fieldLink "TriColourMachine$Coroutine" 28 "TriColourMachine$Coroutine" "awaits" "I" ∈ TB := tb_mem 136 (by decide +kernel) rfl
theorem f_Pro_13 : Cond.fieldLink "TriColourMachine$Processor" 13 "TriColourMachine$Processor" "instructions" "[LTriColourMachine$Instruction;" ∈ TB := tb_mem 251 (by decide +kernel) rfl
theorem f_Pro_19 : Cond.fieldLink "TriColourMachine$Processor" 19 "TriColourMachine$Processor" "active" "[LTriColourMachine$Coroutine;" ∈ TB := tb_mem 252 (by decide +kernel) rfl
theorem f_Pro_23 : Cond.fieldLink "TriColourMachine$Processor" 23 "TriColourMachine$Processor" "depth" "I" ∈ TB := tb_mem 253 (by decide +kernel) rfl
theorem f_Pro_27 : Cond.fieldLink "TriColourMachine$Processor" 27 "TriColourMachine$Processor" "begun" "I" ∈ TB := tb_mem 254 (by decide +kernel) rfl
theorem f_Pro_30 : Cond.fieldLink "TriColourMachine$Processor" 30 "TriColourMachine$Processor" "nextPlace" "I" ∈ TB := tb_mem 256 (by decide +kernel) rfl
theorem k_Pro_33 : Cond.constantLong "TriColourMachine$Processor" 33 (-1000000000000) ∈ TB := tb_mem 223 (by decide +kernel) rfl
theorem f_Pro_35 : Cond.fieldLink "TriColourMachine$Processor" 35 "TriColourMachine$Processor" "outcome" "J" ∈ TB := tb_mem 257 (by decide +kernel) rfl
theorem f_Pro_39 : Cond.fieldLink "TriColourMachine$Processor" 39 "TriColourMachine$Processor" "heap" "LTriColourMachine$Heap;" ∈ TB := tb_mem 250 (by decide +kernel) rfl
theorem f_Ins_9 : Cond.fieldLink "TriColourMachine$Instruction" 9 "TriColourMachine$Instruction" "op" "I" ∈ TB := tb_mem 229 (by decide +kernel) rfl
theorem f_Ins_15 : Cond.fieldLink "TriColourMachine$Instruction" 15 "TriColourMachine$Instruction" "a" "I" ∈ TB := tb_mem 232 (by decide +kernel) rfl
theorem f_Ins_18 : Cond.fieldLink "TriColourMachine$Instruction" 18 "TriColourMachine$Instruction" "b" "I" ∈ TB := tb_mem 235 (by decide +kernel) rfl
theorem f_Ins_21 : Cond.fieldLink "TriColourMachine$Instruction" 21 "TriColourMachine$Instruction" "c" "I" ∈ TB := tb_mem 238 (by decide +kernel) rfl
theorem f_TCM_90 : Cond.fieldLink "TriColourMachine" 90 "TriColourMachine$Heap" "gone" "I" ∈ TB := tb_mem 186 (by decide +kernel) rfl
theorem v_TCM_96 : ∀ w ∈ cwsV "TriColourMachine" 96 "TriColourMachine$Heap" y_Heap_fullCollection b_Heap_fullCollection 2 none, w ∈ TB := tb_all [285, 286, 287, 44, 288] (by decide +kernel) (by decide +kernel)
theorem v_Heap_131 : ∀ w ∈ cwsV "TriColourMachine$Heap" 131 "TriColourMachine$Heap" y_Heap_unit b_Heap_unit 3 none, w ∈ TB := tb_all [289, 290, 291, 44, 292] (by decide +kernel) (by decide +kernel)
theorem v_Heap_134 : ∀ w ∈ cwsV "TriColourMachine$Heap" 134 "TriColourMachine$Heap" y_Heap_sweepOne b_Heap_sweepOne 2 none, w ∈ TB := tb_all [293, 295, 0, 44, 296] (by decide +kernel) (by decide +kernel)
theorem v_Heap_137 : ∀ w ∈ cwsV "TriColourMachine$Heap" 137 "TriColourMachine$Heap" y_Heap_leastGray b_Heap_leastGray 2 (some .int), w ∈ TB := tb_all [297, 299, 1, 44, 300] (by decide +kernel) (by decide +kernel)
theorem v_Heap_140 : ∀ w ∈ cwsV "TriColourMachine$Heap" 140 "TriColourMachine$Heap" y_Heap_blacken b_Heap_blacken 2 none, w ∈ TB := tb_all [301, 303, 2, 44, 304] (by decide +kernel) (by decide +kernel)
theorem v_Heap_144 : ∀ w ∈ cwsV "TriColourMachine$Heap" 144 "TriColourMachine$Heap" y_Heap_shadeRoots b_Heap_shadeRoots 3 (some .int), w ∈ TB := tb_all [313, 315, 4, 44, 316] (by decide +kernel) (by decide +kernel)
theorem f_Heap_59 : Cond.fieldLink "TriColourMachine$Heap" 59 "TriColourMachine$Cell" "kind" "I" ∈ TB := tb_mem 159 (by decide +kernel) rfl
theorem f_Heap_73 : Cond.fieldLink "TriColourMachine$Heap" 73 "TriColourMachine$Cell" "colour" "I" ∈ TB := tb_mem 162 (by decide +kernel) rfl
theorem f_Heap_85 : Cond.fieldLink "TriColourMachine$Heap" 85 "TriColourMachine$Cell" "coroutine" "LTriColourMachine$Coroutine;" ∈ TB := tb_mem 155 (by decide +kernel) rfl
theorem f_Heap_147 : Cond.fieldLink "TriColourMachine$Heap" 147 "TriColourMachine$Coroutine" "registers" "[J" ∈ TB := tb_mem 124 (by decide +kernel) rfl
theorem v_Heap_150 : ∀ w ∈ cwsV "TriColourMachine$Heap" 150 "TriColourMachine$Heap" y_Heap_shadeRow b_Heap_shadeRow 6 (some .int), w ∈ TB := tb_all [305, 307, 3, 44, 308] (by decide +kernel) (by decide +kernel)
theorem f_Heap_76 : Cond.fieldLink "TriColourMachine$Heap" 76 "TriColourMachine$Cell" "table" "LTriColourMachine$Table;" ∈ TB := tb_mem 152 (by decide +kernel) rfl
theorem f_Heap_128 : Cond.fieldLink "TriColourMachine$Heap" 128 "TriColourMachine$Table" "keys" "[J" ∈ TB := tb_mem 93 (by decide +kernel) rfl
theorem f_Heap_108 : Cond.fieldLink "TriColourMachine$Heap" 108 "TriColourMachine$Table" "pairs" "I" ∈ TB := tb_mem 100 (by decide +kernel) rfl
theorem f_Heap_105 : Cond.fieldLink "TriColourMachine$Heap" 105 "TriColourMachine$Table" "values" "[J" ∈ TB := tb_mem 96 (by decide +kernel) rfl
theorem f_Heap_121 : Cond.fieldLink "TriColourMachine$Heap" 121 "TriColourMachine$Table" "meta" "I" ∈ TB := tb_mem 103 (by decide +kernel) rfl
theorem v_Heap_154 : ∀ w ∈ cwsS "TriColourMachine$Heap" 154 y_Heap_shade b_Heap_shade 1 (some .int), w ∈ TB := tb_all [310, 311, 44, 312] (by decide +kernel) (by decide +kernel)
theorem k_Heap_53 : Cond.constantLong "TriColourMachine$Heap" 53 (10000000000) ∈ TB := tb_mem 309 (by decide +kernel) rfl
theorem v_Heap_158 : ∀ w ∈ cwsV "TriColourMachine$Heap" 158 "TriColourMachine$Cell" y_Cell_isActive b_Cell_isActive 1 (some .boolean), w ∈ TB := tb_all [317, 318, 319, 46, 320] (by decide +kernel) (by decide +kernel)
theorem f_Cell_32 : Cond.fieldLink "TriColourMachine$Cell" 32 "TriColourMachine$Coroutine" "state" "I" ∈ TB := tb_mem 131 (by decide +kernel) rfl
theorem f_TCM_154 : Cond.fieldLink "TriColourMachine" 154 "TriColourMachine$Heap" "made" "I" ∈ TB := tb_mem 184 (by decide +kernel) rfl
theorem f_TCM_157 : Cond.fieldLink "TriColourMachine" 157 "TriColourMachine$Heap" "phase" "I" ∈ TB := tb_mem 180 (by decide +kernel) rfl
theorem f_TCM_160 : Cond.fieldLink "TriColourMachine" 160 "TriColourMachine$Heap" "sweepFrom" "I" ∈ TB := tb_mem 182 (by decide +kernel) rfl
theorem f_TCM_163 : Cond.fieldLink "TriColourMachine" 163 "TriColourMachine$Processor" "begun" "I" ∈ TB := tb_mem 255 (by decide +kernel) rfl
theorem v_TCM_166 : ∀ w ∈ cwsV "TriColourMachine" 166 "TriColourMachine$Heap" y_Heap_grayOnes b_Heap_grayOnes 3 (some .int), w ∈ TB := tb_all [325, 326, 327, 44, 328] (by decide +kernel) (by decide +kernel)
theorem f_TCM_170 : Cond.fieldLink "TriColourMachine" 170 "TriColourMachine$Heap" "units" "I" ∈ TB := tb_mem 188 (by decide +kernel) rfl
theorem f_TCM_173 : Cond.fieldLink "TriColourMachine" 173 "TriColourMachine$Heap" "fullCollections" "I" ∈ TB := tb_mem 190 (by decide +kernel) rfl
theorem v_TCM_25 : ∀ w ∈ cwsS "TriColourMachine" 25 y_TCM_checkRange b_TCM_checkRange 3 none, w ∈ TB := tb_all [337, 338, 43, 339] (by decide +kernel) (by decide +kernel)
theorem v_TCM_29 : ∀ w ∈ cwsV "TriColourMachine" 29 "TriColourMachine$Processor" y_Pro_instructionAt b_Pro_instructionAt 3 (some (.object "TriColourMachine$Instruction")), w ∈ TB := tb_all [404, 405, 406, 49, 407] (by decide +kernel) (by decide +kernel)
theorem f_TCM_33 : Cond.fieldLink "TriColourMachine" 33 "TriColourMachine$Instruction" "op" "I" ∈ TB := tb_mem 230 (by decide +kernel) rfl
theorem f_TCM_39 : Cond.fieldLink "TriColourMachine" 39 "TriColourMachine$Instruction" "a" "I" ∈ TB := tb_mem 233 (by decide +kernel) rfl
theorem f_TCM_42 : Cond.fieldLink "TriColourMachine" 42 "TriColourMachine$Instruction" "b" "I" ∈ TB := tb_mem 236 (by decide +kernel) rfl
theorem f_TCM_45 : Cond.fieldLink "TriColourMachine" 45 "TriColourMachine$Instruction" "c" "I" ∈ TB := tb_mem 239 (by decide +kernel) rfl
theorem v_TCM_48 : ∀ w ∈ cwsS "TriColourMachine" 48 y_TCM_checkGlobal b_TCM_checkGlobal 1 none, w ∈ TB := tb_all [415, 416, 43, 417] (by decide +kernel) (by decide +kernel)
theorem f_TCM_52 : Cond.fieldLink "TriColourMachine" 52 "TriColourMachine$Heap" "globals" "[J" ∈ TB := tb_mem 174 (by decide +kernel) rfl
theorem k_TCM_56 : Cond.constantLong "TriColourMachine" 56 (-1000000000000) ∈ TB := tb_mem 425 (by decide +kernel) rfl
theorem v_TCM_58 : ∀ w ∈ cwsV "TriColourMachine" 58 "TriColourMachine$Heap" y_Heap_create b_Heap_create 5 (some .int), w ∈ TB := tb_all [434, 435, 436, 44, 437] (by decide +kernel) (by decide +kernel)
theorem v_TCM_62 : ∀ w ∈ cwsS "TriColourMachine" 62 y_TCM_raise b_TCM_raise 1 none, w ∈ TB := tb_all [457, 458, 43, 459] (by decide +kernel) (by decide +kernel)
theorem f_TCM_65 : Cond.fieldLink "TriColourMachine" 65 "TriColourMachine$Heap" "found" "J" ∈ TB := tb_mem 192 (by decide +kernel) rfl
theorem v_TCM_69 : ∀ w ∈ cwsS "TriColourMachine" 69 y_TCM_numberOf b_TCM_numberOf 2 (some .int), w ∈ TB := tb_all [490, 491, 43, 492] (by decide +kernel) (by decide +kernel)
theorem v_Heap_62 : ∀ w ∈ cwsV "TriColourMachine$Heap" 62 "TriColourMachine$Heap" y_Heap_leastFree b_Heap_leastFree 2 (some .int), w ∈ TB := tb_all [438, 440, 6, 44, 441] (by decide +kernel) (by decide +kernel)
theorem v_Heap_66 : ∀ w ∈ cwsV "TriColourMachine$Heap" 66 "TriColourMachine$Heap" y_Heap_fullCollection b_Heap_fullCollection 2 none, w ∈ TB := tb_all [442, 286, 287, 44, 288] (by decide +kernel) (by decide +kernel)
theorem v_Heap_69 : ∀ w ∈ cwsV "TriColourMachine$Heap" 69 "TriColourMachine$Heap" y_Heap_birthColour b_Heap_birthColour 2 (some .int), w ∈ TB := tb_all [443, 445, 7, 44, 446] (by decide +kernel) (by decide +kernel)
theorem v_Heap_80 : ∀ w ∈ cwsV "TriColourMachine$Heap" 80 "TriColourMachine$Table" y_Tab_clear b_Tab_clear 1 none, w ∈ TB := tb_all [447, 448, 449, 47, 450] (by decide +kernel) (by decide +kernel)
theorem v_Heap_89 : ∀ w ∈ cwsV "TriColourMachine$Heap" 89 "TriColourMachine$Coroutine" y_Cor_clear b_Cor_clear 2 none, w ∈ TB := tb_all [451, 452, 453, 48, 454] (by decide +kernel) (by decide +kernel)
theorem k_Cor_31 : Cond.constantLong "TriColourMachine$Coroutine" 31 (-1000000000000) ∈ TB := tb_mem 455 (by decide +kernel) rfl
theorem v_Cor_33 : ∀ w ∈ cwsS "TriColourMachine$Coroutine" 33 y_Arr_fill b_Arr_fill 5 none, w ∈ TB := tb_all [456, 79, 45, 80] (by decide +kernel) (by decide +kernel)
theorem k_TCM_186 : Cond.constantLong "TriColourMachine" 186 (10000000000) ∈ TB := tb_mem 493 (by decide +kernel) rfl
theorem v_TCM_73 : ∀ w ∈ cwsV "TriColourMachine" 73 "TriColourMachine$Heap" y_Heap_setting b_Heap_setting 10 (some .int), w ∈ TB := tb_all [502, 503, 504, 44, 505] (by decide +kernel) (by decide +kernel)
theorem v_Heap_94 : ∀ w ∈ cwsV "TriColourMachine$Heap" 94 "TriColourMachine$Heap" y_Heap_isA b_Heap_isA 4 (some .boolean), w ∈ TB := tb_all [506, 507, 508, 44, 509] (by decide +kernel) (by decide +kernel)
theorem v_Heap_98 : ∀ w ∈ cwsV "TriColourMachine$Heap" 98 "TriColourMachine$Heap" y_Heap_lastTable b_Heap_lastTable 10 (some .int), w ∈ TB := tb_all [511, 513, 8, 44, 514] (by decide +kernel) (by decide +kernel)
theorem v_Heap_102 : ∀ w ∈ cwsV "TriColourMachine$Heap" 102 "TriColourMachine$Table" y_Tab_find b_Tab_find 4 (some .int), w ∈ TB := tb_all [515, 516, 517, 47, 518] (by decide +kernel) (by decide +kernel)
theorem v_Heap_111 : ∀ w ∈ cwsV "TriColourMachine$Heap" 111 "TriColourMachine$Table" y_Tab_append b_Tab_append 5 none, w ∈ TB := tb_all [523, 524, 525, 47, 526] (by decide +kernel) (by decide +kernel)
theorem v_Heap_115 : ∀ w ∈ cwsV "TriColourMachine$Heap" 115 "TriColourMachine$Table" y_Tab_takeAway b_Tab_takeAway 3 none, w ∈ TB := tb_all [527, 528, 529, 47, 530] (by decide +kernel) (by decide +kernel)
theorem v_Heap_118 : ∀ w ∈ cwsV "TriColourMachine$Heap" 118 "TriColourMachine$Heap" y_Heap_touch b_Heap_touch 2 none, w ∈ TB := tb_all [534, 535, 536, 44, 537] (by decide +kernel) (by decide +kernel)
theorem v_Heap_124 : ∀ w ∈ cwsV "TriColourMachine$Heap" 124 "TriColourMachine$Heap" y_Heap_linked b_Heap_linked 6 (some .int), w ∈ TB := tb_all [519, 521, 9, 44, 522] (by decide +kernel) (by decide +kernel)
theorem v_TCM_77 : ∀ w ∈ cwsV "TriColourMachine" 77 "TriColourMachine$Heap" y_Heap_getting b_Heap_getting 8 (some .int), w ∈ TB := tb_all [545, 546, 547, 44, 548] (by decide +kernel) (by decide +kernel)
theorem v_TCM_81 : ∀ w ∈ cwsV "TriColourMachine" 81 "TriColourMachine$Heap" y_Heap_settingMeta b_Heap_settingMeta 6 (some .int), w ∈ TB := tb_all [556, 557, 558, 44, 559] (by decide +kernel) (by decide +kernel)
theorem v_TCM_84 : ∀ w ∈ cwsV "TriColourMachine" 84 "TriColourMachine$Processor" y_Pro_run b_Pro_run 8 (some .int), w ∈ TB := tb_all [567, 568, 569, 49, 570] (by decide +kernel) (by decide +kernel)
theorem f_TCM_87 : Cond.fieldLink "TriColourMachine" 87 "TriColourMachine$Processor" "outcome" "J" ∈ TB := tb_mem 258 (by decide +kernel) rfl
theorem v_Pro_44 : ∀ w ∈ cwsV "TriColourMachine$Processor" 44 "TriColourMachine$Processor" y_Pro_enter b_Pro_enter 7 (some .int), w ∈ TB := tb_all [571, 573, 10, 49, 574] (by decide +kernel) (by decide +kernel)
theorem f_Pro_48 : Cond.fieldLink "TriColourMachine$Processor" 48 "TriColourMachine$Coroutine" "function" "I" ∈ TB := tb_mem 126 (by decide +kernel) rfl
theorem f_Pro_51 : Cond.fieldLink "TriColourMachine$Processor" 51 "TriColourMachine$Coroutine" "place" "I" ∈ TB := tb_mem 128 (by decide +kernel) rfl
theorem v_Pro_54 : ∀ w ∈ cwsV "TriColourMachine$Processor" 54 "TriColourMachine$Processor" y_Pro_instructionAt b_Pro_instructionAt 3 (some (.object "TriColourMachine$Instruction")), w ∈ TB := tb_all [578, 405, 406, 49, 407] (by decide +kernel) (by decide +kernel)
theorem v_Pro_58 : ∀ w ∈ cwsV "TriColourMachine$Processor" 58 "TriColourMachine$Processor" y_Pro_perform b_Pro_perform 7 (some .int), w ∈ TB := tb_all [579, 581, 11, 49, 582] (by decide +kernel) (by decide +kernel)
theorem v_Pro_62 : ∀ w ∈ cwsV "TriColourMachine$Processor" 62 "TriColourMachine$Processor" y_Pro_endActive b_Pro_endActive 2 none, w ∈ TB := tb_all [622, 624, 16, 49, 625] (by decide +kernel) (by decide +kernel)
theorem v_Pro_65 : ∀ w ∈ cwsV "TriColourMachine$Processor" 65 "TriColourMachine$Heap" y_Heap_isA b_Heap_isA 4 (some .boolean), w ∈ TB := tb_all [575, 507, 508, 44, 509] (by decide +kernel) (by decide +kernel)
theorem f_Pro_75 : Cond.fieldLink "TriColourMachine$Processor" 75 "TriColourMachine$Heap" "cells" "[LTriColourMachine$Cell;" ∈ TB := tb_mem 177 (by decide +kernel) rfl
theorem f_Pro_79 : Cond.fieldLink "TriColourMachine$Processor" 79 "TriColourMachine$Cell" "coroutine" "LTriColourMachine$Coroutine;" ∈ TB := tb_mem 156 (by decide +kernel) rfl
theorem f_Pro_85 : Cond.fieldLink "TriColourMachine$Processor" 85 "TriColourMachine$Coroutine" "state" "I" ∈ TB := tb_mem 132 (by decide +kernel) rfl
theorem f_Pro_88 : Cond.fieldLink "TriColourMachine$Processor" 88 "TriColourMachine$Coroutine" "registers" "[J" ∈ TB := tb_mem 122 (by decide +kernel) rfl
theorem f_Pro_92 : Cond.fieldLink "TriColourMachine$Processor" 92 "TriColourMachine$Coroutine" "comesIn" "I" ∈ TB := tb_mem 135 (by decide +kernel) rfl
theorem v_Pro_95 : ∀ w ∈ cwsV "TriColourMachine$Processor" 95 "TriColourMachine$Heap" y_Heap_touch b_Heap_touch 2 none, w ∈ TB := tb_all [577, 535, 536, 44, 537] (by decide +kernel) (by decide +kernel)
theorem f_Pro_102 : Cond.fieldLink "TriColourMachine$Processor" 102 "TriColourMachine$Instruction" "op" "I" ∈ TB := tb_mem 231 (by decide +kernel) rfl
theorem f_Pro_105 : Cond.fieldLink "TriColourMachine$Processor" 105 "TriColourMachine$Instruction" "a" "I" ∈ TB := tb_mem 234 (by decide +kernel) rfl
theorem v_Pro_108 : ∀ w ∈ cwsS "TriColourMachine$Processor" 108 y_Math_floorMod b_Math_floorMod 3 (some .int), w ∈ TB := tb_all [583, 584, 59, 585] (by decide +kernel) (by decide +kernel)
theorem f_Pro_114 : Cond.fieldLink "TriColourMachine$Processor" 114 "TriColourMachine$Instruction" "b" "I" ∈ TB := tb_mem 237 (by decide +kernel) rfl
theorem f_Pro_117 : Cond.fieldLink "TriColourMachine$Processor" 117 "TriColourMachine$Instruction" "c" "I" ∈ TB := tb_mem 240 (by decide +kernel) rfl
theorem f_Pro_120 : Cond.fieldLink "TriColourMachine$Processor" 120 "TriColourMachine$Heap" "globals" "[J" ∈ TB := tb_mem 175 (by decide +kernel) rfl
theorem v_Pro_123 : ∀ w ∈ cwsV "TriColourMachine$Processor" 123 "TriColourMachine$Heap" y_Heap_create b_Heap_create 5 (some .int), w ∈ TB := tb_all [586, 435, 436, 44, 437] (by decide +kernel) (by decide +kernel)
theorem v_Pro_126 : ∀ w ∈ cwsV "TriColourMachine$Processor" 126 "TriColourMachine$Processor" y_Pro_keepFound b_Pro_keepFound 4 (some .int), w ∈ TB := tb_all [587, 589, 12, 49, 590] (by decide +kernel) (by decide +kernel)
theorem v_Pro_130 : ∀ w ∈ cwsV "TriColourMachine$Processor" 130 "TriColourMachine$Heap" y_Heap_getting b_Heap_getting 8 (some .int), w ∈ TB := tb_all [591, 546, 547, 44, 548] (by decide +kernel) (by decide +kernel)
theorem v_Pro_133 : ∀ w ∈ cwsV "TriColourMachine$Processor" 133 "TriColourMachine$Heap" y_Heap_setting b_Heap_setting 10 (some .int), w ∈ TB := tb_all [592, 503, 504, 44, 505] (by decide +kernel) (by decide +kernel)
theorem v_Pro_137 : ∀ w ∈ cwsS "TriColourMachine$Processor" 137 y_Pro_calculate b_Pro_calculate 9 (some .int), w ∈ TB := tb_all [593, 594, 49, 595] (by decide +kernel) (by decide +kernel)
theorem v_Pro_141 : ∀ w ∈ cwsV "TriColourMachine$Processor" 141 "TriColourMachine$Processor" y_Pro_jumpIfBelow b_Pro_jumpIfBelow 6 (some .int), w ∈ TB := tb_all [601, 603, 13, 49, 604] (by decide +kernel) (by decide +kernel)
theorem v_Pro_145 : ∀ w ∈ cwsV "TriColourMachine$Processor" 145 "TriColourMachine$Processor" y_Pro_jumpIf b_Pro_jumpIf 3 (some .int), w ∈ TB := tb_all [605, 607, 14, 49, 608] (by decide +kernel) (by decide +kernel)
theorem v_Pro_149 : ∀ w ∈ cwsV "TriColourMachine$Processor" 149 "TriColourMachine$Heap" y_Heap_settingMeta b_Heap_settingMeta 6 (some .int), w ∈ TB := tb_all [609, 557, 558, 44, 559] (by decide +kernel) (by decide +kernel)
theorem f_Pro_99 : Cond.fieldLink "TriColourMachine$Processor" 99 "TriColourMachine$Coroutine" "awaits" "I" ∈ TB := tb_mem 137 (by decide +kernel) rfl
theorem v_Pro_152 : ∀ w ∈ cwsV "TriColourMachine$Processor" 152 "TriColourMachine$Processor" y_Pro_leave b_Pro_leave 4 none, w ∈ TB := tb_all [610, 612, 15, 49, 613] (by decide +kernel) (by decide +kernel)
theorem v_Pro_156 : ∀ w ∈ cwsV "TriColourMachine$Processor" 156 "TriColourMachine$Heap" y_Heap_keyAfter b_Heap_keyAfter 7 (some .int), w ∈ TB := tb_all [614, 615, 616, 44, 617] (by decide +kernel) (by decide +kernel)
theorem v_Pro_159 : ∀ w ∈ cwsV "TriColourMachine$Processor" 159 "TriColourMachine$Heap" y_Heap_howMany b_Heap_howMany 3 (some .int), w ∈ TB := tb_all [618, 619, 620, 44, 621] (by decide +kernel) (by decide +kernel)
theorem f_Pro_162 : Cond.fieldLink "TriColourMachine$Processor" 162 "TriColourMachine$Heap" "found" "J" ∈ TB := tb_mem 193 (by decide +kernel) rfl
theorem k_TCM_182 : Cond.constantLong "TriColourMachine" 182 (-2147483648) ∈ TB := tb_mem 599 (by decide +kernel) rfl
theorem k_TCM_184 : Cond.constantLong "TriColourMachine" 184 (2147483647) ∈ TB := tb_mem 600 (by decide +kernel) rfl
theorem v_TCM_93 : ∀ w ∈ cwsV "TriColourMachine" 93 "TriColourMachine$Heap" y_Heap_unit b_Heap_unit 3 none, w ∈ TB := tb_all [633, 290, 291, 44, 292] (by decide +kernel) (by decide +kernel)
theorem f_TCM_99 : Cond.fieldLink "TriColourMachine" 99 "TriColourMachine$Heap" "cells" "[LTriColourMachine$Cell;" ∈ TB := tb_mem 178 (by decide +kernel) rfl
theorem f_TCM_103 : Cond.fieldLink "TriColourMachine" 103 "TriColourMachine$Cell" "kind" "I" ∈ TB := tb_mem 160 (by decide +kernel) rfl
theorem f_TCM_111 : Cond.fieldLink "TriColourMachine" 111 "TriColourMachine$Cell" "colour" "I" ∈ TB := tb_mem 163 (by decide +kernel) rfl
theorem f_TCM_114 : Cond.fieldLink "TriColourMachine" 114 "TriColourMachine$Cell" "table" "LTriColourMachine$Table;" ∈ TB := tb_mem 153 (by decide +kernel) rfl
theorem f_TCM_118 : Cond.fieldLink "TriColourMachine" 118 "TriColourMachine$Table" "pairs" "I" ∈ TB := tb_mem 101 (by decide +kernel) rfl
theorem f_TCM_123 : Cond.fieldLink "TriColourMachine" 123 "TriColourMachine$Table" "meta" "I" ∈ TB := tb_mem 104 (by decide +kernel) rfl
theorem f_TCM_126 : Cond.fieldLink "TriColourMachine" 126 "TriColourMachine$Cell" "coroutine" "LTriColourMachine$Coroutine;" ∈ TB := tb_mem 157 (by decide +kernel) rfl
theorem f_TCM_130 : Cond.fieldLink "TriColourMachine" 130 "TriColourMachine$Coroutine" "place" "I" ∈ TB := tb_mem 129 (by decide +kernel) rfl
theorem f_TCM_135 : Cond.fieldLink "TriColourMachine" 135 "TriColourMachine$Coroutine" "state" "I" ∈ TB := tb_mem 133 (by decide +kernel) rfl
theorem v_TCM_141 : ∀ w ∈ cwsV "TriColourMachine" 141 "TriColourMachine$Cell" y_Cell_rows b_Cell_rows 2 (some .int), w ∈ TB := tb_all [671, 672, 673, 46, 674] (by decide +kernel) (by decide +kernel)
theorem f_TCM_145 : Cond.fieldLink "TriColourMachine" 145 "TriColourMachine$Coroutine" "registers" "[J" ∈ TB := tb_mem 123 (by decide +kernel) rfl
theorem f_TCM_148 : Cond.fieldLink "TriColourMachine" 148 "TriColourMachine$Table" "values" "[J" ∈ TB := tb_mem 97 (by decide +kernel) rfl
theorem f_TCM_151 : Cond.fieldLink "TriColourMachine" 151 "TriColourMachine$Table" "keys" "[J" ∈ TB := tb_mem 94 (by decide +kernel) rfl
theorem f_Cell_35 : Cond.fieldLink "TriColourMachine$Cell" 35 "TriColourMachine$Table" "pairs" "I" ∈ TB := tb_mem 99 (by decide +kernel) rfl
end
section
theorem d_Heap_init_0 : decode b_Heap_init 0 = .ok (.aload_n 0, 1) := by decide +kernel
theorem d_Heap_init_1 : decode b_Heap_init 1 = .ok (.invokespecial 3, 3) := by decide +kernel
theorem d_Heap_init_4 : decode b_Heap_init 4 = .ok (.aload_n 0, 1) := by decide +kernel
theorem d_Heap_init_5 : decode b_Heap_init 5 = .ok (.bipush 6, 2) := by decide +kernel
theorem d_Heap_init_7 : decode b_Heap_init 7 = .ok (.newarray .long, 2) := by decide +kernel
theorem d_Heap_init_9 : decode b_Heap_init 9 = .ok (.putfield 9, 3) := by decide +kernel
theorem d_Heap_init_12 : decode b_Heap_init 12 = .ok (.aload_n 0, 1) := by decide +kernel
theorem d_Heap_init_13 : decode b_Heap_init 13 = .ok (.bipush 16, 2) := by decide +kernel
theorem d_Heap_init_15 : decode b_Heap_init 15 = .ok (.anewarray 15, 3) := by decide +kernel
theorem d_Heap_init_18 : decode b_Heap_init 18 = .ok (.putfield 17, 3) := by decide +kernel
theorem d_Heap_init_21 : decode b_Heap_init 21 = .ok (.aload_n 0, 1) := by decide +kernel
theorem d_Heap_init_22 : decode b_Heap_init 22 = .ok (.iconst 0, 1) := by decide +kernel
theorem d_Heap_init_23 : decode b_Heap_init 23 = .ok (.putfield 21, 3) := by decide +kernel
theorem d_Heap_init_26 : decode b_Heap_init 26 = .ok (.aload_n 0, 1) := by decide +kernel
theorem d_Heap_init_27 : decode b_Heap_init 27 = .ok (.iconst 0, 1) := by decide +kernel
theorem d_Heap_init_28 : decode b_Heap_init 28 = .ok (.putfield 25, 3) := by decide +kernel
theorem d_Heap_init_31 : decode b_Heap_init 31 = .ok (.aload_n 0, 1) := by decide +kernel
theorem d_Heap_init_32 : decode b_Heap_init 32 = .ok (.iconst 0, 1) := by decide +kernel
theorem d_Heap_init_33 : decode b_Heap_init 33 = .ok (.putfield 28, 3) := by decide +kernel
theorem d_Heap_init_36 : decode b_Heap_init 36 = .ok (.aload_n 0, 1) := by decide +kernel
theorem d_Heap_init_37 : decode b_Heap_init 37 = .ok (.iconst 0, 1) := by decide +kernel
theorem d_Heap_init_38 : decode b_Heap_init 38 = .ok (.putfield 31, 3) := by decide +kernel
theorem d_Heap_init_41 : decode b_Heap_init 41 = .ok (.aload_n 0, 1) := by decide +kernel
theorem d_Heap_init_42 : decode b_Heap_init 42 = .ok (.iconst 0, 1) := by decide +kernel
theorem d_Heap_init_43 : decode b_Heap_init 43 = .ok (.putfield 34, 3) := by decide +kernel
theorem d_Heap_init_46 : decode b_Heap_init 46 = .ok (.aload_n 0, 1) := by decide +kernel
theorem d_Heap_init_47 : decode b_Heap_init 47 = .ok (.iconst 0, 1) := by decide +kernel
theorem d_Heap_init_48 : decode b_Heap_init 48 = .ok (.putfield 37, 3) := by decide +kernel
theorem d_Heap_init_51 : decode b_Heap_init 51 = .ok (.aload_n 0, 1) := by decide +kernel
theorem d_Heap_init_52 : decode b_Heap_init 52 = .ok (.ldc2_w 40, 3) := by decide +kernel
theorem d_Heap_init_55 : decode b_Heap_init 55 = .ok (.putfield 42, 3) := by decide +kernel
theorem d_Heap_init_58 : decode b_Heap_init 58 = .ok (.aload_n 0, 1) := by decide +kernel
theorem d_Heap_init_59 : decode b_Heap_init 59 = .ok (.getfield 9, 3) := by decide +kernel
theorem d_Heap_init_62 : decode b_Heap_init 62 = .ok (.ldc2_w 40, 3) := by decide +kernel
theorem d_Heap_init_65 : decode b_Heap_init 65 = .ok (.invokestatic 46, 3) := by decide +kernel
theorem d_Heap_init_68 : decode b_Heap_init 68 = .ok (.iconst 0, 1) := by decide +kernel
theorem d_Heap_init_69 : decode b_Heap_init 69 = .ok (.istore_n 1, 1) := by decide +kernel
theorem d_Heap_init_70 : decode b_Heap_init 70 = .ok (.iload_n 1, 1) := by decide +kernel
theorem d_Heap_init_71 : decode b_Heap_init 71 = .ok (.bipush 16, 2) := by decide +kernel
theorem d_Heap_init_73 : decode b_Heap_init 73 = .ok (.if_icmp .ge 22, 3) := by decide +kernel
theorem d_Heap_init_76 : decode b_Heap_init 76 = .ok (.aload_n 0, 1) := by decide +kernel
theorem d_Heap_init_77 : decode b_Heap_init 77 = .ok (.getfield 17, 3) := by decide +kernel
theorem d_Heap_init_80 : decode b_Heap_init 80 = .ok (.iload_n 1, 1) := by decide +kernel
theorem d_Heap_init_81 : decode b_Heap_init 81 = .ok (.new 15, 3) := by decide +kernel
theorem d_Heap_init_84 : decode b_Heap_init 84 = .ok (.dup, 1) := by decide +kernel
theorem d_Heap_init_85 : decode b_Heap_init 85 = .ok (.invokespecial 52, 3) := by decide +kernel
theorem d_Heap_init_88 : decode b_Heap_init 88 = .ok (.aastore, 1) := by decide +kernel
theorem d_Heap_init_89 : decode b_Heap_init 89 = .ok (.iinc 1 1, 3) := by decide +kernel
theorem d_Heap_init_92 : decode b_Heap_init 92 = .ok (.goto (-22), 3) := by decide +kernel
theorem d_Heap_init_95 : decode b_Heap_init 95 = .ok (.return_, 1) := by decide +kernel
theorem d_Cell_init_0 : decode b_Cell_init 0 = .ok (.aload_n 0, 1) := by decide +kernel
theorem d_Cell_init_1 : decode b_Cell_init 1 = .ok (.invokespecial 3, 3) := by decide +kernel
theorem d_Cell_init_4 : decode b_Cell_init 4 = .ok (.aload_n 0, 1) := by decide +kernel
theorem d_Cell_init_5 : decode b_Cell_init 5 = .ok (.new 9, 3) := by decide +kernel
theorem d_Cell_init_8 : decode b_Cell_init 8 = .ok (.dup, 1) := by decide +kernel
theorem d_Cell_init_9 : decode b_Cell_init 9 = .ok (.invokespecial 11, 3) := by decide +kernel
theorem d_Cell_init_12 : decode b_Cell_init 12 = .ok (.putfield 12, 3) := by decide +kernel
theorem d_Cell_init_15 : decode b_Cell_init 15 = .ok (.aload_n 0, 1) := by decide +kernel
theorem d_Cell_init_16 : decode b_Cell_init 16 = .ok (.new 18, 3) := by decide +kernel
theorem d_Cell_init_19 : decode b_Cell_init 19 = .ok (.dup, 1) := by decide +kernel
theorem d_Cell_init_20 : decode b_Cell_init 20 = .ok (.invokespecial 20, 3) := by decide +kernel
theorem d_Cell_init_23 : decode b_Cell_init 23 = .ok (.putfield 21, 3) := by decide +kernel
theorem d_Cell_init_26 : decode b_Cell_init 26 = .ok (.aload_n 0, 1) := by decide +kernel
theorem d_Cell_init_27 : decode b_Cell_init 27 = .ok (.iconst 0, 1) := by decide +kernel
theorem d_Cell_init_28 : decode b_Cell_init 28 = .ok (.putfield 25, 3) := by decide +kernel
theorem d_Cell_init_31 : decode b_Cell_init 31 = .ok (.aload_n 0, 1) := by decide +kernel
theorem d_Cell_init_32 : decode b_Cell_init 32 = .ok (.iconst 0, 1) := by decide +kernel
theorem d_Cell_init_33 : decode b_Cell_init 33 = .ok (.putfield 29, 3) := by decide +kernel
theorem d_Cell_init_36 : decode b_Cell_init 36 = .ok (.return_, 1) := by decide +kernel
theorem d_Tab_init_0 : decode b_Tab_init 0 = .ok (.aload_n 0, 1) := by decide +kernel
theorem d_Tab_init_1 : decode b_Tab_init 1 = .ok (.invokespecial 3, 3) := by decide +kernel
theorem d_Tab_init_4 : decode b_Tab_init 4 = .ok (.aload_n 0, 1) := by decide +kernel
theorem d_Tab_init_5 : decode b_Tab_init 5 = .ok (.bipush 6, 2) := by decide +kernel
theorem d_Tab_init_7 : decode b_Tab_init 7 = .ok (.newarray .long, 2) := by decide +kernel
theorem d_Tab_init_9 : decode b_Tab_init 9 = .ok (.putfield 9, 3) := by decide +kernel
theorem d_Tab_init_12 : decode b_Tab_init 12 = .ok (.aload_n 0, 1) := by decide +kernel
theorem d_Tab_init_13 : decode b_Tab_init 13 = .ok (.bipush 6, 2) := by decide +kernel
theorem d_Tab_init_15 : decode b_Tab_init 15 = .ok (.newarray .long, 2) := by decide +kernel
theorem d_Tab_init_17 : decode b_Tab_init 17 = .ok (.putfield 15, 3) := by decide +kernel
theorem d_Tab_init_20 : decode b_Tab_init 20 = .ok (.aload_n 0, 1) := by decide +kernel
theorem d_Tab_init_21 : decode b_Tab_init 21 = .ok (.iconst 0, 1) := by decide +kernel
theorem d_Tab_init_22 : decode b_Tab_init 22 = .ok (.putfield 18, 3) := by decide +kernel
theorem d_Tab_init_25 : decode b_Tab_init 25 = .ok (.aload_n 0, 1) := by decide +kernel
theorem d_Tab_init_26 : decode b_Tab_init 26 = .ok (.iconst (-1), 1) := by decide +kernel
theorem d_Tab_init_27 : decode b_Tab_init 27 = .ok (.putfield 22, 3) := by decide +kernel
theorem d_Tab_init_30 : decode b_Tab_init 30 = .ok (.return_, 1) := by decide +kernel
theorem d_Cor_init_0 : decode b_Cor_init 0 = .ok (.aload_n 0, 1) := by decide +kernel
theorem d_Cor_init_1 : decode b_Cor_init 1 = .ok (.invokespecial 3, 3) := by decide +kernel
theorem d_Cor_init_4 : decode b_Cor_init 4 = .ok (.aload_n 0, 1) := by decide +kernel
theorem d_Cor_init_5 : decode b_Cor_init 5 = .ok (.iconst 4, 1) := by decide +kernel
theorem d_Cor_init_6 : decode b_Cor_init 6 = .ok (.newarray .long, 2) := by decide +kernel
theorem d_Cor_init_8 : decode b_Cor_init 8 = .ok (.putfield 9, 3) := by decide +kernel
theorem d_Cor_init_11 : decode b_Cor_init 11 = .ok (.aload_n 0, 1) := by decide +kernel
theorem d_Cor_init_12 : decode b_Cor_init 12 = .ok (.iconst 0, 1) := by decide +kernel
theorem d_Cor_init_13 : decode b_Cor_init 13 = .ok (.putfield 15, 3) := by decide +kernel
theorem d_Cor_init_16 : decode b_Cor_init 16 = .ok (.aload_n 0, 1) := by decide +kernel
theorem d_Cor_init_17 : decode b_Cor_init 17 = .ok (.iconst 0, 1) := by decide +kernel
theorem d_Cor_init_18 : decode b_Cor_init 18 = .ok (.putfield 19, 3) := by decide +kernel
theorem d_Cor_init_21 : decode b_Cor_init 21 = .ok (.aload_n 0, 1) := by decide +kernel
theorem d_Cor_init_22 : decode b_Cor_init 22 = .ok (.iconst 0, 1) := by decide +kernel
theorem d_Cor_init_23 : decode b_Cor_init 23 = .ok (.putfield 22, 3) := by decide +kernel
theorem d_Cor_init_26 : decode b_Cor_init 26 = .ok (.aload_n 0, 1) := by decide +kernel
theorem d_Cor_init_27 : decode b_Cor_init 27 = .ok (.iconst 0, 1) := by decide +kernel
theorem d_Cor_init_28 : decode b_Cor_init 28 = .ok (.putfield 25, 3) := by decide +kernel
theorem d_Cor_init_31 : decode b_Cor_init 31 = .ok (.aload_n 0, 1) := by decide +kernel
theorem d_Cor_init_32 : decode b_Cor_init 32 = .ok (.iconst 0, 1) := by decide +kernel
theorem d_Cor_init_33 : decode b_Cor_init 33 = .ok (.putfield 28, 3) := by decide +kernel
theorem d_Cor_init_36 : decode b_Cor_init 36 = .ok (.return_, 1) := by decide +kernel
theorem d_Ins_init_0 : decode b_Ins_init 0 = .ok (.aload_n 0, 1) := by decide +kernel
theorem d_Ins_init_1 : decode b_Ins_init 1 = .ok (.invokespecial 3, 3) := by decide +kernel
theorem d_Ins_init_4 : decode b_Ins_init 4 = .ok (.aload_n 0, 1) := by decide +kernel
theorem d_Ins_init_5 : decode b_Ins_init 5 = .ok (.iconst (-1), 1) := by decide +kernel
theorem d_Ins_init_6 : decode b_Ins_init 6 = .ok (.putfield 9, 3) := by decide +kernel
theorem d_Ins_init_9 : decode b_Ins_init 9 = .ok (.aload_n 0, 1) := by decide +kernel
theorem d_Ins_init_10 : decode b_Ins_init 10 = .ok (.iconst 0, 1) := by decide +kernel
theorem d_Ins_init_11 : decode b_Ins_init 11 = .ok (.putfield 15, 3) := by decide +kernel
theorem d_Ins_init_14 : decode b_Ins_init 14 = .ok (.aload_n 0, 1) := by decide +kernel
theorem d_Ins_init_15 : decode b_Ins_init 15 = .ok (.iconst 0, 1) := by decide +kernel
theorem d_Ins_init_16 : decode b_Ins_init 16 = .ok (.putfield 18, 3) := by decide +kernel
theorem d_Ins_init_19 : decode b_Ins_init 19 = .ok (.aload_n 0, 1) := by decide +kernel
theorem d_Ins_init_20 : decode b_Ins_init 20 = .ok (.iconst 0, 1) := by decide +kernel
theorem d_Ins_init_21 : decode b_Ins_init 21 = .ok (.putfield 21, 3) := by decide +kernel
theorem d_Ins_init_24 : decode b_Ins_init 24 = .ok (.return_, 1) := by decide +kernel
theorem d_Heap_fullCollection_0 : decode b_Heap_fullCollection 0 = .ok (.aload_n 0, 1) := by decide +kernel
theorem d_Heap_fullCollection_1 : decode b_Heap_fullCollection 1 = .ok (.dup, 1) := by decide +kernel
theorem d_Heap_fullCollection_2 : decode b_Heap_fullCollection 2 = .ok (.getfield 37, 3) := by decide +kernel
theorem d_Heap_fullCollection_5 : decode b_Heap_fullCollection 5 = .ok (.iconst 1, 1) := by decide +kernel
theorem d_Heap_fullCollection_6 : decode b_Heap_fullCollection 6 = .ok (.iadd, 1) := by decide +kernel
theorem d_Heap_fullCollection_7 : decode b_Heap_fullCollection 7 = .ok (.putfield 37, 3) := by decide +kernel
theorem d_Heap_fullCollection_10 : decode b_Heap_fullCollection 10 = .ok (.iconst 0, 1) := by decide +kernel
theorem d_Heap_fullCollection_11 : decode b_Heap_fullCollection 11 = .ok (.istore_n 1, 1) := by decide +kernel
theorem d_Heap_fullCollection_12 : decode b_Heap_fullCollection 12 = .ok (.iload_n 1, 1) := by decide +kernel
theorem d_Heap_fullCollection_13 : decode b_Heap_fullCollection 13 = .ok (.sipush 1000, 3) := by decide +kernel
theorem d_Heap_fullCollection_16 : decode b_Heap_fullCollection 16 = .ok (.if_icmp .ge 20, 3) := by decide +kernel
theorem d_Heap_fullCollection_19 : decode b_Heap_fullCollection 19 = .ok (.aload_n 0, 1) := by decide +kernel
theorem d_Heap_fullCollection_20 : decode b_Heap_fullCollection 20 = .ok (.getfield 21, 3) := by decide +kernel
theorem d_Heap_fullCollection_23 : decode b_Heap_fullCollection 23 = .ok (.ifCond .eq 13, 3) := by decide +kernel
theorem d_Heap_fullCollection_26 : decode b_Heap_fullCollection 26 = .ok (.aload_n 0, 1) := by decide +kernel
theorem d_Heap_fullCollection_27 : decode b_Heap_fullCollection 27 = .ok (.invokevirtual 131, 3) := by decide +kernel
theorem d_Heap_fullCollection_30 : decode b_Heap_fullCollection 30 = .ok (.iinc 1 1, 3) := by decide +kernel
theorem d_Heap_fullCollection_33 : decode b_Heap_fullCollection 33 = .ok (.goto (-21), 3) := by decide +kernel
theorem d_Heap_fullCollection_36 : decode b_Heap_fullCollection 36 = .ok (.aload_n 0, 1) := by decide +kernel
theorem d_Heap_fullCollection_37 : decode b_Heap_fullCollection 37 = .ok (.invokevirtual 131, 3) := by decide +kernel
theorem d_Heap_fullCollection_40 : decode b_Heap_fullCollection 40 = .ok (.iconst 0, 1) := by decide +kernel
theorem d_Heap_fullCollection_41 : decode b_Heap_fullCollection 41 = .ok (.istore_n 1, 1) := by decide +kernel
theorem d_Heap_fullCollection_42 : decode b_Heap_fullCollection 42 = .ok (.iload_n 1, 1) := by decide +kernel
theorem d_Heap_fullCollection_43 : decode b_Heap_fullCollection 43 = .ok (.sipush 1000, 3) := by decide +kernel
theorem d_Heap_fullCollection_46 : decode b_Heap_fullCollection 46 = .ok (.if_icmp .ge 20, 3) := by decide +kernel
theorem d_Heap_fullCollection_49 : decode b_Heap_fullCollection 49 = .ok (.aload_n 0, 1) := by decide +kernel
theorem d_Heap_fullCollection_50 : decode b_Heap_fullCollection 50 = .ok (.getfield 21, 3) := by decide +kernel
theorem d_Heap_fullCollection_53 : decode b_Heap_fullCollection 53 = .ok (.ifCond .eq 13, 3) := by decide +kernel
theorem d_Heap_fullCollection_56 : decode b_Heap_fullCollection 56 = .ok (.aload_n 0, 1) := by decide +kernel
theorem d_Heap_fullCollection_57 : decode b_Heap_fullCollection 57 = .ok (.invokevirtual 131, 3) := by decide +kernel
theorem d_Heap_fullCollection_60 : decode b_Heap_fullCollection 60 = .ok (.iinc 1 1, 3) := by decide +kernel
theorem d_Heap_fullCollection_63 : decode b_Heap_fullCollection 63 = .ok (.goto (-21), 3) := by decide +kernel
theorem d_Heap_fullCollection_66 : decode b_Heap_fullCollection 66 = .ok (.return_, 1) := by decide +kernel
theorem d_Heap_unit_0 : decode b_Heap_unit 0 = .ok (.aload_n 0, 1) := by decide +kernel
theorem d_Heap_unit_1 : decode b_Heap_unit 1 = .ok (.dup, 1) := by decide +kernel
theorem d_Heap_unit_2 : decode b_Heap_unit 2 = .ok (.getfield 34, 3) := by decide +kernel
theorem d_Heap_unit_5 : decode b_Heap_unit 5 = .ok (.iconst 1, 1) := by decide +kernel
theorem d_Heap_unit_6 : decode b_Heap_unit 6 = .ok (.iadd, 1) := by decide +kernel
theorem d_Heap_unit_7 : decode b_Heap_unit 7 = .ok (.putfield 34, 3) := by decide +kernel
theorem d_Heap_unit_10 : decode b_Heap_unit 10 = .ok (.aload_n 0, 1) := by decide +kernel
theorem d_Heap_unit_11 : decode b_Heap_unit 11 = .ok (.getfield 21, 3) := by decide +kernel
theorem d_Heap_unit_14 : decode b_Heap_unit 14 = .ok (.iconst 2, 1) := by decide +kernel
theorem d_Heap_unit_15 : decode b_Heap_unit 15 = .ok (.if_icmp .ne 8, 3) := by decide +kernel
theorem d_Heap_unit_18 : decode b_Heap_unit 18 = .ok (.aload_n 0, 1) := by decide +kernel
theorem d_Heap_unit_19 : decode b_Heap_unit 19 = .ok (.invokevirtual 134, 3) := by decide +kernel
theorem d_Heap_unit_22 : decode b_Heap_unit 22 = .ok (.return_, 1) := by decide +kernel
theorem d_Heap_unit_23 : decode b_Heap_unit 23 = .ok (.aload_n 0, 1) := by decide +kernel
theorem d_Heap_unit_24 : decode b_Heap_unit 24 = .ok (.invokevirtual 137, 3) := by decide +kernel
theorem d_Heap_unit_27 : decode b_Heap_unit 27 = .ok (.istore_n 1, 1) := by decide +kernel
theorem d_Heap_unit_28 : decode b_Heap_unit 28 = .ok (.iload_n 1, 1) := by decide +kernel
theorem d_Heap_unit_29 : decode b_Heap_unit 29 = .ok (.ifCond .lt 14, 3) := by decide +kernel
theorem d_Heap_unit_32 : decode b_Heap_unit 32 = .ok (.aload_n 0, 1) := by decide +kernel
theorem d_Heap_unit_33 : decode b_Heap_unit 33 = .ok (.aload_n 0, 1) := by decide +kernel
theorem d_Heap_unit_34 : decode b_Heap_unit 34 = .ok (.getfield 17, 3) := by decide +kernel
theorem d_Heap_unit_37 : decode b_Heap_unit 37 = .ok (.iload_n 1, 1) := by decide +kernel
theorem d_Heap_unit_38 : decode b_Heap_unit 38 = .ok (.aaload, 1) := by decide +kernel
theorem d_Heap_unit_39 : decode b_Heap_unit 39 = .ok (.invokevirtual 140, 3) := by decide +kernel
theorem d_Heap_unit_42 : decode b_Heap_unit 42 = .ok (.return_, 1) := by decide +kernel
theorem d_Heap_unit_43 : decode b_Heap_unit 43 = .ok (.aload_n 0, 1) := by decide +kernel
theorem d_Heap_unit_44 : decode b_Heap_unit 44 = .ok (.invokevirtual 144, 3) := by decide +kernel
theorem d_Heap_unit_47 : decode b_Heap_unit 47 = .ok (.ifCond .le 7, 3) := by decide +kernel
theorem d_Heap_unit_50 : decode b_Heap_unit 50 = .ok (.iconst 1, 1) := by decide +kernel
theorem d_Heap_unit_51 : decode b_Heap_unit 51 = .ok (.goto 4, 3) := by decide +kernel
theorem d_Heap_unit_54 : decode b_Heap_unit 54 = .ok (.iconst 0, 1) := by decide +kernel
theorem d_Heap_unit_55 : decode b_Heap_unit 55 = .ok (.istore_n 2, 1) := by decide +kernel
theorem d_Heap_unit_56 : decode b_Heap_unit 56 = .ok (.aload_n 0, 1) := by decide +kernel
theorem d_Heap_unit_57 : decode b_Heap_unit 57 = .ok (.aload_n 0, 1) := by decide +kernel
theorem d_Heap_unit_58 : decode b_Heap_unit 58 = .ok (.getfield 21, 3) := by decide +kernel
theorem d_Heap_unit_61 : decode b_Heap_unit 61 = .ok (.ifCond .eq 7, 3) := by decide +kernel
theorem d_Heap_unit_64 : decode b_Heap_unit 64 = .ok (.iload_n 2, 1) := by decide +kernel
theorem d_Heap_unit_65 : decode b_Heap_unit 65 = .ok (.ifCond .eq 7, 3) := by decide +kernel
theorem d_Heap_unit_68 : decode b_Heap_unit 68 = .ok (.iconst 1, 1) := by decide +kernel
theorem d_Heap_unit_69 : decode b_Heap_unit 69 = .ok (.goto 4, 3) := by decide +kernel
theorem d_Heap_unit_72 : decode b_Heap_unit 72 = .ok (.iconst 2, 1) := by decide +kernel
theorem d_Heap_unit_73 : decode b_Heap_unit 73 = .ok (.putfield 21, 3) := by decide +kernel
theorem d_Heap_unit_76 : decode b_Heap_unit 76 = .ok (.return_, 1) := by decide +kernel
theorem d_Heap_sweepOne_0 : decode b_Heap_sweepOne 0 = .ok (.aload_n 0, 1) := by decide +kernel
theorem d_Heap_sweepOne_1 : decode b_Heap_sweepOne 1 = .ok (.getfield 17, 3) := by decide +kernel
theorem d_Heap_sweepOne_4 : decode b_Heap_sweepOne 4 = .ok (.aload_n 0, 1) := by decide +kernel
theorem d_Heap_sweepOne_5 : decode b_Heap_sweepOne 5 = .ok (.getfield 25, 3) := by decide +kernel
theorem d_Heap_sweepOne_8 : decode b_Heap_sweepOne 8 = .ok (.aaload, 1) := by decide +kernel
theorem d_Heap_sweepOne_9 : decode b_Heap_sweepOne 9 = .ok (.astore_n 1, 1) := by decide +kernel
theorem d_Heap_sweepOne_10 : decode b_Heap_sweepOne 10 = .ok (.aload_n 1, 1) := by decide +kernel
theorem d_Heap_sweepOne_11 : decode b_Heap_sweepOne 11 = .ok (.getfield 59, 3) := by decide +kernel
theorem d_Heap_sweepOne_14 : decode b_Heap_sweepOne 14 = .ok (.ifCond .eq 25, 3) := by decide +kernel
theorem d_Heap_sweepOne_17 : decode b_Heap_sweepOne 17 = .ok (.aload_n 1, 1) := by decide +kernel
theorem d_Heap_sweepOne_18 : decode b_Heap_sweepOne 18 = .ok (.getfield 73, 3) := by decide +kernel
theorem d_Heap_sweepOne_21 : decode b_Heap_sweepOne 21 = .ok (.ifCond .ne 18, 3) := by decide +kernel
theorem d_Heap_sweepOne_24 : decode b_Heap_sweepOne 24 = .ok (.aload_n 1, 1) := by decide +kernel
theorem d_Heap_sweepOne_25 : decode b_Heap_sweepOne 25 = .ok (.iconst 0, 1) := by decide +kernel
theorem d_Heap_sweepOne_26 : decode b_Heap_sweepOne 26 = .ok (.putfield 59, 3) := by decide +kernel
theorem d_Heap_sweepOne_29 : decode b_Heap_sweepOne 29 = .ok (.aload_n 0, 1) := by decide +kernel
theorem d_Heap_sweepOne_30 : decode b_Heap_sweepOne 30 = .ok (.dup, 1) := by decide +kernel
theorem d_Heap_sweepOne_31 : decode b_Heap_sweepOne 31 = .ok (.getfield 31, 3) := by decide +kernel
theorem d_Heap_sweepOne_34 : decode b_Heap_sweepOne 34 = .ok (.iconst 1, 1) := by decide +kernel
theorem d_Heap_sweepOne_35 : decode b_Heap_sweepOne 35 = .ok (.iadd, 1) := by decide +kernel
theorem d_Heap_sweepOne_36 : decode b_Heap_sweepOne 36 = .ok (.putfield 31, 3) := by decide +kernel
theorem d_Heap_sweepOne_39 : decode b_Heap_sweepOne 39 = .ok (.aload_n 1, 1) := by decide +kernel
theorem d_Heap_sweepOne_40 : decode b_Heap_sweepOne 40 = .ok (.iconst 0, 1) := by decide +kernel
theorem d_Heap_sweepOne_41 : decode b_Heap_sweepOne 41 = .ok (.putfield 73, 3) := by decide +kernel
theorem d_Heap_sweepOne_44 : decode b_Heap_sweepOne 44 = .ok (.aload_n 0, 1) := by decide +kernel
theorem d_Heap_sweepOne_45 : decode b_Heap_sweepOne 45 = .ok (.dup, 1) := by decide +kernel
theorem d_Heap_sweepOne_46 : decode b_Heap_sweepOne 46 = .ok (.getfield 25, 3) := by decide +kernel
theorem d_Heap_sweepOne_49 : decode b_Heap_sweepOne 49 = .ok (.iconst 1, 1) := by decide +kernel
theorem d_Heap_sweepOne_50 : decode b_Heap_sweepOne 50 = .ok (.iadd, 1) := by decide +kernel
theorem d_Heap_sweepOne_51 : decode b_Heap_sweepOne 51 = .ok (.putfield 25, 3) := by decide +kernel
theorem d_Heap_sweepOne_54 : decode b_Heap_sweepOne 54 = .ok (.aload_n 0, 1) := by decide +kernel
theorem d_Heap_sweepOne_55 : decode b_Heap_sweepOne 55 = .ok (.getfield 25, 3) := by decide +kernel
theorem d_Heap_sweepOne_58 : decode b_Heap_sweepOne 58 = .ok (.bipush 16, 2) := by decide +kernel
theorem d_Heap_sweepOne_60 : decode b_Heap_sweepOne 60 = .ok (.if_icmp .ne 13, 3) := by decide +kernel
theorem d_Heap_sweepOne_63 : decode b_Heap_sweepOne 63 = .ok (.aload_n 0, 1) := by decide +kernel
theorem d_Heap_sweepOne_64 : decode b_Heap_sweepOne 64 = .ok (.iconst 0, 1) := by decide +kernel
theorem d_Heap_sweepOne_65 : decode b_Heap_sweepOne 65 = .ok (.putfield 25, 3) := by decide +kernel
theorem d_Heap_sweepOne_68 : decode b_Heap_sweepOne 68 = .ok (.aload_n 0, 1) := by decide +kernel
theorem d_Heap_sweepOne_69 : decode b_Heap_sweepOne 69 = .ok (.iconst 0, 1) := by decide +kernel
theorem d_Heap_sweepOne_70 : decode b_Heap_sweepOne 70 = .ok (.putfield 21, 3) := by decide +kernel
theorem d_Heap_sweepOne_73 : decode b_Heap_sweepOne 73 = .ok (.return_, 1) := by decide +kernel
theorem d_Heap_leastGray_0 : decode b_Heap_leastGray 0 = .ok (.iconst 0, 1) := by decide +kernel
theorem d_Heap_leastGray_1 : decode b_Heap_leastGray 1 = .ok (.istore_n 1, 1) := by decide +kernel
theorem d_Heap_leastGray_2 : decode b_Heap_leastGray 2 = .ok (.iload_n 1, 1) := by decide +kernel
theorem d_Heap_leastGray_3 : decode b_Heap_leastGray 3 = .ok (.bipush 16, 2) := by decide +kernel
theorem d_Heap_leastGray_5 : decode b_Heap_leastGray 5 = .ok (.if_icmp .ge 24, 3) := by decide +kernel
theorem d_Heap_leastGray_8 : decode b_Heap_leastGray 8 = .ok (.aload_n 0, 1) := by decide +kernel
theorem d_Heap_leastGray_9 : decode b_Heap_leastGray 9 = .ok (.getfield 17, 3) := by decide +kernel
theorem d_Heap_leastGray_12 : decode b_Heap_leastGray 12 = .ok (.iload_n 1, 1) := by decide +kernel
theorem d_Heap_leastGray_13 : decode b_Heap_leastGray 13 = .ok (.aaload, 1) := by decide +kernel
theorem d_Heap_leastGray_14 : decode b_Heap_leastGray 14 = .ok (.getfield 73, 3) := by decide +kernel
theorem d_Heap_leastGray_17 : decode b_Heap_leastGray 17 = .ok (.iconst 1, 1) := by decide +kernel
theorem d_Heap_leastGray_18 : decode b_Heap_leastGray 18 = .ok (.if_icmp .ne 5, 3) := by decide +kernel
theorem d_Heap_leastGray_21 : decode b_Heap_leastGray 21 = .ok (.iload_n 1, 1) := by decide +kernel
theorem d_Heap_leastGray_22 : decode b_Heap_leastGray 22 = .ok (.ireturn, 1) := by decide +kernel
theorem d_Heap_leastGray_23 : decode b_Heap_leastGray 23 = .ok (.iinc 1 1, 3) := by decide +kernel
theorem d_Heap_leastGray_26 : decode b_Heap_leastGray 26 = .ok (.goto (-24), 3) := by decide +kernel
theorem d_Heap_leastGray_29 : decode b_Heap_leastGray 29 = .ok (.iconst (-1), 1) := by decide +kernel
theorem d_Heap_leastGray_30 : decode b_Heap_leastGray 30 = .ok (.ireturn, 1) := by decide +kernel
theorem d_Heap_blacken_0 : decode b_Heap_blacken 0 = .ok (.aload_n 1, 1) := by decide +kernel
theorem d_Heap_blacken_1 : decode b_Heap_blacken 1 = .ok (.iconst 2, 1) := by decide +kernel
theorem d_Heap_blacken_2 : decode b_Heap_blacken 2 = .ok (.putfield 73, 3) := by decide +kernel
theorem d_Heap_blacken_5 : decode b_Heap_blacken 5 = .ok (.aload_n 1, 1) := by decide +kernel
theorem d_Heap_blacken_6 : decode b_Heap_blacken 6 = .ok (.getfield 59, 3) := by decide +kernel
theorem d_Heap_blacken_9 : decode b_Heap_blacken 9 = .ok (.iconst 2, 1) := by decide +kernel
theorem d_Heap_blacken_10 : decode b_Heap_blacken 10 = .ok (.if_icmp .ne 17, 3) := by decide +kernel
theorem d_Heap_blacken_13 : decode b_Heap_blacken 13 = .ok (.aload_n 0, 1) := by decide +kernel
theorem d_Heap_blacken_14 : decode b_Heap_blacken 14 = .ok (.aload_n 1, 1) := by decide +kernel
theorem d_Heap_blacken_15 : decode b_Heap_blacken 15 = .ok (.getfield 85, 3) := by decide +kernel
theorem d_Heap_blacken_18 : decode b_Heap_blacken 18 = .ok (.getfield 147, 3) := by decide +kernel
theorem d_Heap_blacken_21 : decode b_Heap_blacken 21 = .ok (.iconst 4, 1) := by decide +kernel
theorem d_Heap_blacken_22 : decode b_Heap_blacken 22 = .ok (.invokevirtual 150, 3) := by decide +kernel
theorem d_Heap_blacken_25 : decode b_Heap_blacken 25 = .ok (.pop, 1) := by decide +kernel
theorem d_Heap_blacken_26 : decode b_Heap_blacken 26 = .ok (.return_, 1) := by decide +kernel
theorem d_Heap_blacken_27 : decode b_Heap_blacken 27 = .ok (.aload_n 0, 1) := by decide +kernel
theorem d_Heap_blacken_28 : decode b_Heap_blacken 28 = .ok (.aload_n 1, 1) := by decide +kernel
theorem d_Heap_blacken_29 : decode b_Heap_blacken 29 = .ok (.getfield 76, 3) := by decide +kernel
theorem d_Heap_blacken_32 : decode b_Heap_blacken 32 = .ok (.getfield 128, 3) := by decide +kernel
theorem d_Heap_blacken_35 : decode b_Heap_blacken 35 = .ok (.aload_n 1, 1) := by decide +kernel
theorem d_Heap_blacken_36 : decode b_Heap_blacken 36 = .ok (.getfield 76, 3) := by decide +kernel
theorem d_Heap_blacken_39 : decode b_Heap_blacken 39 = .ok (.getfield 108, 3) := by decide +kernel
theorem d_Heap_blacken_42 : decode b_Heap_blacken 42 = .ok (.invokevirtual 150, 3) := by decide +kernel
theorem d_Heap_blacken_45 : decode b_Heap_blacken 45 = .ok (.pop, 1) := by decide +kernel
theorem d_Heap_blacken_46 : decode b_Heap_blacken 46 = .ok (.aload_n 0, 1) := by decide +kernel
theorem d_Heap_blacken_47 : decode b_Heap_blacken 47 = .ok (.aload_n 1, 1) := by decide +kernel
theorem d_Heap_blacken_48 : decode b_Heap_blacken 48 = .ok (.getfield 76, 3) := by decide +kernel
theorem d_Heap_blacken_51 : decode b_Heap_blacken 51 = .ok (.getfield 105, 3) := by decide +kernel
theorem d_Heap_blacken_54 : decode b_Heap_blacken 54 = .ok (.aload_n 1, 1) := by decide +kernel
theorem d_Heap_blacken_55 : decode b_Heap_blacken 55 = .ok (.getfield 76, 3) := by decide +kernel
theorem d_Heap_blacken_58 : decode b_Heap_blacken 58 = .ok (.getfield 108, 3) := by decide +kernel
theorem d_Heap_blacken_61 : decode b_Heap_blacken 61 = .ok (.invokevirtual 150, 3) := by decide +kernel
theorem d_Heap_blacken_64 : decode b_Heap_blacken 64 = .ok (.pop, 1) := by decide +kernel
theorem d_Heap_blacken_65 : decode b_Heap_blacken 65 = .ok (.aload_n 1, 1) := by decide +kernel
theorem d_Heap_blacken_66 : decode b_Heap_blacken 66 = .ok (.getfield 76, 3) := by decide +kernel
theorem d_Heap_blacken_69 : decode b_Heap_blacken 69 = .ok (.getfield 121, 3) := by decide +kernel
theorem d_Heap_blacken_72 : decode b_Heap_blacken 72 = .ok (.ifCond .lt 19, 3) := by decide +kernel
theorem d_Heap_blacken_75 : decode b_Heap_blacken 75 = .ok (.aload_n 0, 1) := by decide +kernel
theorem d_Heap_blacken_76 : decode b_Heap_blacken 76 = .ok (.getfield 17, 3) := by decide +kernel
theorem d_Heap_blacken_79 : decode b_Heap_blacken 79 = .ok (.aload_n 1, 1) := by decide +kernel
theorem d_Heap_blacken_80 : decode b_Heap_blacken 80 = .ok (.getfield 76, 3) := by decide +kernel
theorem d_Heap_blacken_83 : decode b_Heap_blacken 83 = .ok (.getfield 121, 3) := by decide +kernel
theorem d_Heap_blacken_86 : decode b_Heap_blacken 86 = .ok (.aaload, 1) := by decide +kernel
theorem d_Heap_blacken_87 : decode b_Heap_blacken 87 = .ok (.invokestatic 154, 3) := by decide +kernel
theorem d_Heap_blacken_90 : decode b_Heap_blacken 90 = .ok (.pop, 1) := by decide +kernel
theorem d_Heap_blacken_91 : decode b_Heap_blacken 91 = .ok (.return_, 1) := by decide +kernel
theorem d_Heap_shadeRow_0 : decode b_Heap_shadeRow 0 = .ok (.iconst 0, 1) := by decide +kernel
theorem d_Heap_shadeRow_1 : decode b_Heap_shadeRow 1 = .ok (.istore_n 3, 1) := by decide +kernel
theorem d_Heap_shadeRow_2 : decode b_Heap_shadeRow 2 = .ok (.iconst 0, 1) := by decide +kernel
theorem d_Heap_shadeRow_3 : decode b_Heap_shadeRow 3 = .ok (.istore 4, 2) := by decide +kernel
theorem d_Heap_shadeRow_5 : decode b_Heap_shadeRow 5 = .ok (.iload 4, 2) := by decide +kernel
theorem d_Heap_shadeRow_7 : decode b_Heap_shadeRow 7 = .ok (.iload_n 2, 1) := by decide +kernel
theorem d_Heap_shadeRow_8 : decode b_Heap_shadeRow 8 = .ok (.if_icmp .ge 67, 3) := by decide +kernel
theorem d_Heap_shadeRow_11 : decode b_Heap_shadeRow 11 = .ok (.aload_n 1, 1) := by decide +kernel
theorem d_Heap_shadeRow_12 : decode b_Heap_shadeRow 12 = .ok (.iload 4, 2) := by decide +kernel
theorem d_Heap_shadeRow_14 : decode b_Heap_shadeRow 14 = .ok (.laload, 1) := by decide +kernel
theorem d_Heap_shadeRow_15 : decode b_Heap_shadeRow 15 = .ok (.ldc2_w 53, 3) := by decide +kernel
theorem d_Heap_shadeRow_18 : decode b_Heap_shadeRow 18 = .ok (.lcmp, 1) := by decide +kernel
theorem d_Heap_shadeRow_19 : decode b_Heap_shadeRow 19 = .ok (.ifCond .lt 15, 3) := by decide +kernel
theorem d_Heap_shadeRow_22 : decode b_Heap_shadeRow 22 = .ok (.aload_n 1, 1) := by decide +kernel
theorem d_Heap_shadeRow_23 : decode b_Heap_shadeRow 23 = .ok (.iload 4, 2) := by decide +kernel
theorem d_Heap_shadeRow_25 : decode b_Heap_shadeRow 25 = .ok (.laload, 1) := by decide +kernel
theorem d_Heap_shadeRow_26 : decode b_Heap_shadeRow 26 = .ok (.ldc2_w 53, 3) := by decide +kernel
theorem d_Heap_shadeRow_29 : decode b_Heap_shadeRow 29 = .ok (.lsub, 1) := by decide +kernel
theorem d_Heap_shadeRow_30 : decode b_Heap_shadeRow 30 = .ok (.l2i, 1) := by decide +kernel
theorem d_Heap_shadeRow_31 : decode b_Heap_shadeRow 31 = .ok (.goto 4, 3) := by decide +kernel
theorem d_Heap_shadeRow_34 : decode b_Heap_shadeRow 34 = .ok (.iconst (-1), 1) := by decide +kernel
theorem d_Heap_shadeRow_35 : decode b_Heap_shadeRow 35 = .ok (.istore 5, 2) := by decide +kernel
theorem d_Heap_shadeRow_37 : decode b_Heap_shadeRow 37 = .ok (.iload 5, 2) := by decide +kernel
theorem d_Heap_shadeRow_39 : decode b_Heap_shadeRow 39 = .ok (.ifCond .lt 30, 3) := by decide +kernel
theorem d_Heap_shadeRow_42 : decode b_Heap_shadeRow 42 = .ok (.aload_n 0, 1) := by decide +kernel
theorem d_Heap_shadeRow_43 : decode b_Heap_shadeRow 43 = .ok (.getfield 17, 3) := by decide +kernel
theorem d_Heap_shadeRow_46 : decode b_Heap_shadeRow 46 = .ok (.iload 5, 2) := by decide +kernel
theorem d_Heap_shadeRow_48 : decode b_Heap_shadeRow 48 = .ok (.aaload, 1) := by decide +kernel
theorem d_Heap_shadeRow_49 : decode b_Heap_shadeRow 49 = .ok (.getfield 73, 3) := by decide +kernel
theorem d_Heap_shadeRow_52 : decode b_Heap_shadeRow 52 = .ok (.ifCond .ne 17, 3) := by decide +kernel
theorem d_Heap_shadeRow_55 : decode b_Heap_shadeRow 55 = .ok (.aload_n 0, 1) := by decide +kernel
theorem d_Heap_shadeRow_56 : decode b_Heap_shadeRow 56 = .ok (.getfield 17, 3) := by decide +kernel
theorem d_Heap_shadeRow_59 : decode b_Heap_shadeRow 59 = .ok (.iload 5, 2) := by decide +kernel
theorem d_Heap_shadeRow_61 : decode b_Heap_shadeRow 61 = .ok (.aaload, 1) := by decide +kernel
theorem d_Heap_shadeRow_62 : decode b_Heap_shadeRow 62 = .ok (.iconst 1, 1) := by decide +kernel
theorem d_Heap_shadeRow_63 : decode b_Heap_shadeRow 63 = .ok (.putfield 73, 3) := by decide +kernel
theorem d_Heap_shadeRow_66 : decode b_Heap_shadeRow 66 = .ok (.iinc 3 1, 3) := by decide +kernel
theorem d_Heap_shadeRow_69 : decode b_Heap_shadeRow 69 = .ok (.iinc 4 1, 3) := by decide +kernel
theorem d_Heap_shadeRow_72 : decode b_Heap_shadeRow 72 = .ok (.goto (-67), 3) := by decide +kernel
theorem d_Heap_shadeRow_75 : decode b_Heap_shadeRow 75 = .ok (.iload_n 3, 1) := by decide +kernel
theorem d_Heap_shadeRow_76 : decode b_Heap_shadeRow 76 = .ok (.ireturn, 1) := by decide +kernel
theorem d_Heap_shade_0 : decode b_Heap_shade 0 = .ok (.aload_n 0, 1) := by decide +kernel
theorem d_Heap_shade_1 : decode b_Heap_shade 1 = .ok (.getfield 73, 3) := by decide +kernel
theorem d_Heap_shade_4 : decode b_Heap_shade 4 = .ok (.ifCond .eq 5, 3) := by decide +kernel
theorem d_Heap_shade_7 : decode b_Heap_shade 7 = .ok (.iconst 0, 1) := by decide +kernel
theorem d_Heap_shade_8 : decode b_Heap_shade 8 = .ok (.ireturn, 1) := by decide +kernel
theorem d_Heap_shade_9 : decode b_Heap_shade 9 = .ok (.aload_n 0, 1) := by decide +kernel
theorem d_Heap_shade_10 : decode b_Heap_shade 10 = .ok (.iconst 1, 1) := by decide +kernel
theorem d_Heap_shade_11 : decode b_Heap_shade 11 = .ok (.putfield 73, 3) := by decide +kernel
theorem d_Heap_shade_14 : decode b_Heap_shade 14 = .ok (.iconst 1, 1) := by decide +kernel
theorem d_Heap_shade_15 : decode b_Heap_shade 15 = .ok (.ireturn, 1) := by decide +kernel
theorem d_Heap_shadeRoots_0 : decode b_Heap_shadeRoots 0 = .ok (.aload_n 0, 1) := by decide +kernel
theorem d_Heap_shadeRoots_1 : decode b_Heap_shadeRoots 1 = .ok (.aload_n 0, 1) := by decide +kernel
theorem d_Heap_shadeRoots_2 : decode b_Heap_shadeRoots 2 = .ok (.getfield 9, 3) := by decide +kernel
theorem d_Heap_shadeRoots_5 : decode b_Heap_shadeRoots 5 = .ok (.bipush 6, 2) := by decide +kernel
theorem d_Heap_shadeRoots_7 : decode b_Heap_shadeRoots 7 = .ok (.invokevirtual 150, 3) := by decide +kernel
theorem d_Heap_shadeRoots_10 : decode b_Heap_shadeRoots 10 = .ok (.istore_n 1, 1) := by decide +kernel
theorem d_Heap_shadeRoots_11 : decode b_Heap_shadeRoots 11 = .ok (.iconst 0, 1) := by decide +kernel
theorem d_Heap_shadeRoots_12 : decode b_Heap_shadeRoots 12 = .ok (.istore_n 2, 1) := by decide +kernel
theorem d_Heap_shadeRoots_13 : decode b_Heap_shadeRoots 13 = .ok (.iload_n 2, 1) := by decide +kernel
theorem d_Heap_shadeRoots_14 : decode b_Heap_shadeRoots 14 = .ok (.bipush 16, 2) := by decide +kernel
theorem d_Heap_shadeRoots_16 : decode b_Heap_shadeRoots 16 = .ok (.if_icmp .ge 53, 3) := by decide +kernel
theorem d_Heap_shadeRoots_19 : decode b_Heap_shadeRoots 19 = .ok (.aload_n 0, 1) := by decide +kernel
theorem d_Heap_shadeRoots_20 : decode b_Heap_shadeRoots 20 = .ok (.getfield 17, 3) := by decide +kernel
theorem d_Heap_shadeRoots_23 : decode b_Heap_shadeRoots 23 = .ok (.iload_n 2, 1) := by decide +kernel
theorem d_Heap_shadeRoots_24 : decode b_Heap_shadeRoots 24 = .ok (.aaload, 1) := by decide +kernel
theorem d_Heap_shadeRoots_25 : decode b_Heap_shadeRoots 25 = .ok (.invokevirtual 158, 3) := by decide +kernel
theorem d_Heap_shadeRoots_28 : decode b_Heap_shadeRoots 28 = .ok (.ifCond .eq 35, 3) := by decide +kernel
theorem d_Heap_shadeRoots_31 : decode b_Heap_shadeRoots 31 = .ok (.iload_n 1, 1) := by decide +kernel
theorem d_Heap_shadeRoots_32 : decode b_Heap_shadeRoots 32 = .ok (.aload_n 0, 1) := by decide +kernel
theorem d_Heap_shadeRoots_33 : decode b_Heap_shadeRoots 33 = .ok (.getfield 17, 3) := by decide +kernel
theorem d_Heap_shadeRoots_36 : decode b_Heap_shadeRoots 36 = .ok (.iload_n 2, 1) := by decide +kernel
theorem d_Heap_shadeRoots_37 : decode b_Heap_shadeRoots 37 = .ok (.aaload, 1) := by decide +kernel
theorem d_Heap_shadeRoots_38 : decode b_Heap_shadeRoots 38 = .ok (.invokestatic 154, 3) := by decide +kernel
theorem d_Heap_shadeRoots_41 : decode b_Heap_shadeRoots 41 = .ok (.iadd, 1) := by decide +kernel
theorem d_Heap_shadeRoots_42 : decode b_Heap_shadeRoots 42 = .ok (.istore_n 1, 1) := by decide +kernel
theorem d_Heap_shadeRoots_43 : decode b_Heap_shadeRoots 43 = .ok (.iload_n 1, 1) := by decide +kernel
theorem d_Heap_shadeRoots_44 : decode b_Heap_shadeRoots 44 = .ok (.aload_n 0, 1) := by decide +kernel
theorem d_Heap_shadeRoots_45 : decode b_Heap_shadeRoots 45 = .ok (.aload_n 0, 1) := by decide +kernel
theorem d_Heap_shadeRoots_46 : decode b_Heap_shadeRoots 46 = .ok (.getfield 17, 3) := by decide +kernel
theorem d_Heap_shadeRoots_49 : decode b_Heap_shadeRoots 49 = .ok (.iload_n 2, 1) := by decide +kernel
theorem d_Heap_shadeRoots_50 : decode b_Heap_shadeRoots 50 = .ok (.aaload, 1) := by decide +kernel
theorem d_Heap_shadeRoots_51 : decode b_Heap_shadeRoots 51 = .ok (.getfield 85, 3) := by decide +kernel
theorem d_Heap_shadeRoots_54 : decode b_Heap_shadeRoots 54 = .ok (.getfield 147, 3) := by decide +kernel
theorem d_Heap_shadeRoots_57 : decode b_Heap_shadeRoots 57 = .ok (.iconst 4, 1) := by decide +kernel
theorem d_Heap_shadeRoots_58 : decode b_Heap_shadeRoots 58 = .ok (.invokevirtual 150, 3) := by decide +kernel
theorem d_Heap_shadeRoots_61 : decode b_Heap_shadeRoots 61 = .ok (.iadd, 1) := by decide +kernel
theorem d_Heap_shadeRoots_62 : decode b_Heap_shadeRoots 62 = .ok (.istore_n 1, 1) := by decide +kernel
theorem d_Heap_shadeRoots_63 : decode b_Heap_shadeRoots 63 = .ok (.iinc 2 1, 3) := by decide +kernel
theorem d_Heap_shadeRoots_66 : decode b_Heap_shadeRoots 66 = .ok (.goto (-53), 3) := by decide +kernel
theorem d_Heap_shadeRoots_69 : decode b_Heap_shadeRoots 69 = .ok (.iload_n 1, 1) := by decide +kernel
theorem d_Heap_shadeRoots_70 : decode b_Heap_shadeRoots 70 = .ok (.ireturn, 1) := by decide +kernel
theorem d_Cell_isActive_0 : decode b_Cell_isActive 0 = .ok (.aload_n 0, 1) := by decide +kernel
theorem d_Cell_isActive_1 : decode b_Cell_isActive 1 = .ok (.getfield 25, 3) := by decide +kernel
theorem d_Cell_isActive_4 : decode b_Cell_isActive 4 = .ok (.iconst 2, 1) := by decide +kernel
theorem d_Cell_isActive_5 : decode b_Cell_isActive 5 = .ok (.if_icmp .ne 18, 3) := by decide +kernel
theorem d_Cell_isActive_8 : decode b_Cell_isActive 8 = .ok (.aload_n 0, 1) := by decide +kernel
theorem d_Cell_isActive_9 : decode b_Cell_isActive 9 = .ok (.getfield 21, 3) := by decide +kernel
theorem d_Cell_isActive_12 : decode b_Cell_isActive 12 = .ok (.getfield 32, 3) := by decide +kernel
theorem d_Cell_isActive_15 : decode b_Cell_isActive 15 = .ok (.iconst 2, 1) := by decide +kernel
theorem d_Cell_isActive_16 : decode b_Cell_isActive 16 = .ok (.if_icmp .ne 7, 3) := by decide +kernel
theorem d_Cell_isActive_19 : decode b_Cell_isActive 19 = .ok (.iconst 1, 1) := by decide +kernel
theorem d_Cell_isActive_20 : decode b_Cell_isActive 20 = .ok (.goto 4, 3) := by decide +kernel
theorem d_Cell_isActive_23 : decode b_Cell_isActive 23 = .ok (.iconst 0, 1) := by decide +kernel
theorem d_Cell_isActive_24 : decode b_Cell_isActive 24 = .ok (.ireturn, 1) := by decide +kernel
theorem d_Heap_grayOnes_0 : decode b_Heap_grayOnes 0 = .ok (.iconst 0, 1) := by decide +kernel
theorem d_Heap_grayOnes_1 : decode b_Heap_grayOnes 1 = .ok (.istore_n 1, 1) := by decide +kernel
theorem d_Heap_grayOnes_2 : decode b_Heap_grayOnes 2 = .ok (.iconst 0, 1) := by decide +kernel
theorem d_Heap_grayOnes_3 : decode b_Heap_grayOnes 3 = .ok (.istore_n 2, 1) := by decide +kernel
theorem d_Heap_grayOnes_4 : decode b_Heap_grayOnes 4 = .ok (.iload_n 2, 1) := by decide +kernel
theorem d_Heap_grayOnes_5 : decode b_Heap_grayOnes 5 = .ok (.bipush 16, 2) := by decide +kernel
theorem d_Heap_grayOnes_7 : decode b_Heap_grayOnes 7 = .ok (.if_icmp .ge 25, 3) := by decide +kernel
theorem d_Heap_grayOnes_10 : decode b_Heap_grayOnes 10 = .ok (.aload_n 0, 1) := by decide +kernel
theorem d_Heap_grayOnes_11 : decode b_Heap_grayOnes 11 = .ok (.getfield 17, 3) := by decide +kernel
theorem d_Heap_grayOnes_14 : decode b_Heap_grayOnes 14 = .ok (.iload_n 2, 1) := by decide +kernel
theorem d_Heap_grayOnes_15 : decode b_Heap_grayOnes 15 = .ok (.aaload, 1) := by decide +kernel
theorem d_Heap_grayOnes_16 : decode b_Heap_grayOnes 16 = .ok (.getfield 73, 3) := by decide +kernel
theorem d_Heap_grayOnes_19 : decode b_Heap_grayOnes 19 = .ok (.iconst 1, 1) := by decide +kernel
theorem d_Heap_grayOnes_20 : decode b_Heap_grayOnes 20 = .ok (.if_icmp .ne 6, 3) := by decide +kernel
theorem d_Heap_grayOnes_23 : decode b_Heap_grayOnes 23 = .ok (.iinc 1 1, 3) := by decide +kernel
theorem d_Heap_grayOnes_26 : decode b_Heap_grayOnes 26 = .ok (.iinc 2 1, 3) := by decide +kernel
theorem d_Heap_grayOnes_29 : decode b_Heap_grayOnes 29 = .ok (.goto (-25), 3) := by decide +kernel
theorem d_Heap_grayOnes_32 : decode b_Heap_grayOnes 32 = .ok (.iload_n 1, 1) := by decide +kernel
theorem d_Heap_grayOnes_33 : decode b_Heap_grayOnes 33 = .ok (.ireturn, 1) := by decide +kernel
theorem d_Heap_create_0 : decode b_Heap_create 0 = .ok (.aload_n 0, 1) := by decide +kernel
theorem d_Heap_create_1 : decode b_Heap_create 1 = .ok (.invokevirtual 62, 3) := by decide +kernel
theorem d_Heap_create_4 : decode b_Heap_create 4 = .ok (.istore_n 3, 1) := by decide +kernel
theorem d_Heap_create_5 : decode b_Heap_create 5 = .ok (.iload_n 3, 1) := by decide +kernel
theorem d_Heap_create_6 : decode b_Heap_create 6 = .ok (.ifCond .ge 12, 3) := by decide +kernel
theorem d_Heap_create_9 : decode b_Heap_create 9 = .ok (.aload_n 0, 1) := by decide +kernel
theorem d_Heap_create_10 : decode b_Heap_create 10 = .ok (.invokevirtual 66, 3) := by decide +kernel
theorem d_Heap_create_13 : decode b_Heap_create 13 = .ok (.aload_n 0, 1) := by decide +kernel
theorem d_Heap_create_14 : decode b_Heap_create 14 = .ok (.invokevirtual 62, 3) := by decide +kernel
theorem d_Heap_create_17 : decode b_Heap_create 17 = .ok (.istore_n 3, 1) := by decide +kernel
theorem d_Heap_create_18 : decode b_Heap_create 18 = .ok (.iload_n 3, 1) := by decide +kernel
theorem d_Heap_create_19 : decode b_Heap_create 19 = .ok (.ifCond .ge 5, 3) := by decide +kernel
theorem d_Heap_create_22 : decode b_Heap_create 22 = .ok (.iconst 3, 1) := by decide +kernel
theorem d_Heap_create_23 : decode b_Heap_create 23 = .ok (.ireturn, 1) := by decide +kernel
theorem d_Heap_create_24 : decode b_Heap_create 24 = .ok (.aload_n 0, 1) := by decide +kernel
theorem d_Heap_create_25 : decode b_Heap_create 25 = .ok (.getfield 17, 3) := by decide +kernel
theorem d_Heap_create_28 : decode b_Heap_create 28 = .ok (.iload_n 3, 1) := by decide +kernel
theorem d_Heap_create_29 : decode b_Heap_create 29 = .ok (.aaload, 1) := by decide +kernel
theorem d_Heap_create_30 : decode b_Heap_create 30 = .ok (.astore 4, 2) := by decide +kernel
theorem d_Heap_create_32 : decode b_Heap_create 32 = .ok (.aload 4, 2) := by decide +kernel
theorem d_Heap_create_34 : decode b_Heap_create 34 = .ok (.iload_n 1, 1) := by decide +kernel
theorem d_Heap_create_35 : decode b_Heap_create 35 = .ok (.putfield 59, 3) := by decide +kernel
theorem d_Heap_create_38 : decode b_Heap_create 38 = .ok (.aload 4, 2) := by decide +kernel
theorem d_Heap_create_40 : decode b_Heap_create 40 = .ok (.aload_n 0, 1) := by decide +kernel
theorem d_Heap_create_41 : decode b_Heap_create 41 = .ok (.iload_n 3, 1) := by decide +kernel
theorem d_Heap_create_42 : decode b_Heap_create 42 = .ok (.invokevirtual 69, 3) := by decide +kernel
theorem d_Heap_create_45 : decode b_Heap_create 45 = .ok (.putfield 73, 3) := by decide +kernel
theorem d_Heap_create_48 : decode b_Heap_create 48 = .ok (.iload_n 1, 1) := by decide +kernel
theorem d_Heap_create_49 : decode b_Heap_create 49 = .ok (.iconst 1, 1) := by decide +kernel
theorem d_Heap_create_50 : decode b_Heap_create 50 = .ok (.if_icmp .ne 14, 3) := by decide +kernel
theorem d_Heap_create_53 : decode b_Heap_create 53 = .ok (.aload 4, 2) := by decide +kernel
theorem d_Heap_create_55 : decode b_Heap_create 55 = .ok (.getfield 76, 3) := by decide +kernel
theorem d_Heap_create_58 : decode b_Heap_create 58 = .ok (.invokevirtual 80, 3) := by decide +kernel
theorem d_Heap_create_61 : decode b_Heap_create 61 = .ok (.goto 12, 3) := by decide +kernel
theorem d_Heap_create_64 : decode b_Heap_create 64 = .ok (.aload 4, 2) := by decide +kernel
theorem d_Heap_create_66 : decode b_Heap_create 66 = .ok (.getfield 85, 3) := by decide +kernel
theorem d_Heap_create_69 : decode b_Heap_create 69 = .ok (.iload_n 2, 1) := by decide +kernel
theorem d_Heap_create_70 : decode b_Heap_create 70 = .ok (.invokevirtual 89, 3) := by decide +kernel
theorem d_Heap_create_73 : decode b_Heap_create 73 = .ok (.aload_n 0, 1) := by decide +kernel
theorem d_Heap_create_74 : decode b_Heap_create 74 = .ok (.dup, 1) := by decide +kernel
theorem d_Heap_create_75 : decode b_Heap_create 75 = .ok (.getfield 28, 3) := by decide +kernel
theorem d_Heap_create_78 : decode b_Heap_create 78 = .ok (.iconst 1, 1) := by decide +kernel
theorem d_Heap_create_79 : decode b_Heap_create 79 = .ok (.iadd, 1) := by decide +kernel
theorem d_Heap_create_80 : decode b_Heap_create 80 = .ok (.putfield 28, 3) := by decide +kernel
theorem d_Heap_create_83 : decode b_Heap_create 83 = .ok (.aload_n 0, 1) := by decide +kernel
theorem d_Heap_create_84 : decode b_Heap_create 84 = .ok (.ldc2_w 53, 3) := by decide +kernel
theorem d_Heap_create_87 : decode b_Heap_create 87 = .ok (.iload_n 3, 1) := by decide +kernel
theorem d_Heap_create_88 : decode b_Heap_create 88 = .ok (.i2l, 1) := by decide +kernel
theorem d_Heap_create_89 : decode b_Heap_create 89 = .ok (.ladd, 1) := by decide +kernel
theorem d_Heap_create_90 : decode b_Heap_create 90 = .ok (.putfield 42, 3) := by decide +kernel
theorem d_Heap_create_93 : decode b_Heap_create 93 = .ok (.iconst 0, 1) := by decide +kernel
theorem d_Heap_create_94 : decode b_Heap_create 94 = .ok (.ireturn, 1) := by decide +kernel
theorem d_Heap_leastFree_0 : decode b_Heap_leastFree 0 = .ok (.iconst 0, 1) := by decide +kernel
theorem d_Heap_leastFree_1 : decode b_Heap_leastFree 1 = .ok (.istore_n 1, 1) := by decide +kernel
theorem d_Heap_leastFree_2 : decode b_Heap_leastFree 2 = .ok (.iload_n 1, 1) := by decide +kernel
theorem d_Heap_leastFree_3 : decode b_Heap_leastFree 3 = .ok (.bipush 16, 2) := by decide +kernel
theorem d_Heap_leastFree_5 : decode b_Heap_leastFree 5 = .ok (.if_icmp .ge 23, 3) := by decide +kernel
theorem d_Heap_leastFree_8 : decode b_Heap_leastFree 8 = .ok (.aload_n 0, 1) := by decide +kernel
theorem d_Heap_leastFree_9 : decode b_Heap_leastFree 9 = .ok (.getfield 17, 3) := by decide +kernel
theorem d_Heap_leastFree_12 : decode b_Heap_leastFree 12 = .ok (.iload_n 1, 1) := by decide +kernel
theorem d_Heap_leastFree_13 : decode b_Heap_leastFree 13 = .ok (.aaload, 1) := by decide +kernel
theorem d_Heap_leastFree_14 : decode b_Heap_leastFree 14 = .ok (.getfield 59, 3) := by decide +kernel
theorem d_Heap_leastFree_17 : decode b_Heap_leastFree 17 = .ok (.ifCond .ne 5, 3) := by decide +kernel
theorem d_Heap_leastFree_20 : decode b_Heap_leastFree 20 = .ok (.iload_n 1, 1) := by decide +kernel
theorem d_Heap_leastFree_21 : decode b_Heap_leastFree 21 = .ok (.ireturn, 1) := by decide +kernel
theorem d_Heap_leastFree_22 : decode b_Heap_leastFree 22 = .ok (.iinc 1 1, 3) := by decide +kernel
theorem d_Heap_leastFree_25 : decode b_Heap_leastFree 25 = .ok (.goto (-23), 3) := by decide +kernel
theorem d_Heap_leastFree_28 : decode b_Heap_leastFree 28 = .ok (.iconst (-1), 1) := by decide +kernel
theorem d_Heap_leastFree_29 : decode b_Heap_leastFree 29 = .ok (.ireturn, 1) := by decide +kernel
theorem d_Heap_birthColour_0 : decode b_Heap_birthColour 0 = .ok (.aload_n 0, 1) := by decide +kernel
theorem d_Heap_birthColour_1 : decode b_Heap_birthColour 1 = .ok (.getfield 21, 3) := by decide +kernel
theorem d_Heap_birthColour_4 : decode b_Heap_birthColour 4 = .ok (.iconst 1, 1) := by decide +kernel
theorem d_Heap_birthColour_5 : decode b_Heap_birthColour 5 = .ok (.if_icmp .eq 19, 3) := by decide +kernel
theorem d_Heap_birthColour_8 : decode b_Heap_birthColour 8 = .ok (.aload_n 0, 1) := by decide +kernel
theorem d_Heap_birthColour_9 : decode b_Heap_birthColour 9 = .ok (.getfield 21, 3) := by decide +kernel
theorem d_Heap_birthColour_12 : decode b_Heap_birthColour 12 = .ok (.iconst 2, 1) := by decide +kernel
theorem d_Heap_birthColour_13 : decode b_Heap_birthColour 13 = .ok (.if_icmp .ne 13, 3) := by decide +kernel
theorem d_Heap_birthColour_16 : decode b_Heap_birthColour 16 = .ok (.iload_n 1, 1) := by decide +kernel
theorem d_Heap_birthColour_17 : decode b_Heap_birthColour 17 = .ok (.aload_n 0, 1) := by decide +kernel
theorem d_Heap_birthColour_18 : decode b_Heap_birthColour 18 = .ok (.getfield 25, 3) := by decide +kernel
theorem d_Heap_birthColour_21 : decode b_Heap_birthColour 21 = .ok (.if_icmp .lt 5, 3) := by decide +kernel
theorem d_Heap_birthColour_24 : decode b_Heap_birthColour 24 = .ok (.iconst 2, 1) := by decide +kernel
theorem d_Heap_birthColour_25 : decode b_Heap_birthColour 25 = .ok (.ireturn, 1) := by decide +kernel
theorem d_Heap_birthColour_26 : decode b_Heap_birthColour 26 = .ok (.iconst 0, 1) := by decide +kernel
theorem d_Heap_birthColour_27 : decode b_Heap_birthColour 27 = .ok (.ireturn, 1) := by decide +kernel
theorem d_Tab_clear_0 : decode b_Tab_clear 0 = .ok (.aload_n 0, 1) := by decide +kernel
theorem d_Tab_clear_1 : decode b_Tab_clear 1 = .ok (.iconst 0, 1) := by decide +kernel
theorem d_Tab_clear_2 : decode b_Tab_clear 2 = .ok (.putfield 18, 3) := by decide +kernel
theorem d_Tab_clear_5 : decode b_Tab_clear 5 = .ok (.aload_n 0, 1) := by decide +kernel
theorem d_Tab_clear_6 : decode b_Tab_clear 6 = .ok (.iconst (-1), 1) := by decide +kernel
theorem d_Tab_clear_7 : decode b_Tab_clear 7 = .ok (.putfield 22, 3) := by decide +kernel
theorem d_Tab_clear_10 : decode b_Tab_clear 10 = .ok (.return_, 1) := by decide +kernel
theorem d_Cor_clear_0 : decode b_Cor_clear 0 = .ok (.aload_n 0, 1) := by decide +kernel
theorem d_Cor_clear_1 : decode b_Cor_clear 1 = .ok (.getfield 9, 3) := by decide +kernel
theorem d_Cor_clear_4 : decode b_Cor_clear 4 = .ok (.ldc2_w 31, 3) := by decide +kernel
theorem d_Cor_clear_7 : decode b_Cor_clear 7 = .ok (.invokestatic 33, 3) := by decide +kernel
theorem d_Cor_clear_10 : decode b_Cor_clear 10 = .ok (.aload_n 0, 1) := by decide +kernel
theorem d_Cor_clear_11 : decode b_Cor_clear 11 = .ok (.iload_n 1, 1) := by decide +kernel
theorem d_Cor_clear_12 : decode b_Cor_clear 12 = .ok (.putfield 15, 3) := by decide +kernel
theorem d_Cor_clear_15 : decode b_Cor_clear 15 = .ok (.aload_n 0, 1) := by decide +kernel
theorem d_Cor_clear_16 : decode b_Cor_clear 16 = .ok (.iconst 0, 1) := by decide +kernel
theorem d_Cor_clear_17 : decode b_Cor_clear 17 = .ok (.putfield 19, 3) := by decide +kernel
theorem d_Cor_clear_20 : decode b_Cor_clear 20 = .ok (.aload_n 0, 1) := by decide +kernel
theorem d_Cor_clear_21 : decode b_Cor_clear 21 = .ok (.iconst 0, 1) := by decide +kernel
theorem d_Cor_clear_22 : decode b_Cor_clear 22 = .ok (.putfield 22, 3) := by decide +kernel
theorem d_Cor_clear_25 : decode b_Cor_clear 25 = .ok (.aload_n 0, 1) := by decide +kernel
theorem d_Cor_clear_26 : decode b_Cor_clear 26 = .ok (.iconst 0, 1) := by decide +kernel
theorem d_Cor_clear_27 : decode b_Cor_clear 27 = .ok (.putfield 25, 3) := by decide +kernel
theorem d_Cor_clear_30 : decode b_Cor_clear 30 = .ok (.return_, 1) := by decide +kernel
theorem d_Heap_setting_0 : decode b_Heap_setting 0 = .ok (.aload_n 0, 1) := by decide +kernel
theorem d_Heap_setting_1 : decode b_Heap_setting 1 = .ok (.iconst 1, 1) := by decide +kernel
theorem d_Heap_setting_2 : decode b_Heap_setting 2 = .ok (.lload_n 1, 1) := by decide +kernel
theorem d_Heap_setting_3 : decode b_Heap_setting 3 = .ok (.invokevirtual 94, 3) := by decide +kernel
theorem d_Heap_setting_6 : decode b_Heap_setting 6 = .ok (.ifCond .eq 11, 3) := by decide +kernel
theorem d_Heap_setting_9 : decode b_Heap_setting 9 = .ok (.lload_n 3, 1) := by decide +kernel
theorem d_Heap_setting_10 : decode b_Heap_setting 10 = .ok (.ldc2_w 40, 3) := by decide +kernel
theorem d_Heap_setting_13 : decode b_Heap_setting 13 = .ok (.lcmp, 1) := by decide +kernel
theorem d_Heap_setting_14 : decode b_Heap_setting 14 = .ok (.ifCond .ne 5, 3) := by decide +kernel
theorem d_Heap_setting_17 : decode b_Heap_setting 17 = .ok (.iconst 1, 1) := by decide +kernel
theorem d_Heap_setting_18 : decode b_Heap_setting 18 = .ok (.ireturn, 1) := by decide +kernel
theorem d_Heap_setting_19 : decode b_Heap_setting 19 = .ok (.aload_n 0, 1) := by decide +kernel
theorem d_Heap_setting_20 : decode b_Heap_setting 20 = .ok (.lload_n 1, 1) := by decide +kernel
theorem d_Heap_setting_21 : decode b_Heap_setting 21 = .ok (.invokestatic 55, 3) := by decide +kernel
theorem d_Heap_setting_24 : decode b_Heap_setting 24 = .ok (.lload_n 3, 1) := by decide +kernel
theorem d_Heap_setting_25 : decode b_Heap_setting 25 = .ok (.lconst 1, 1) := by decide +kernel
theorem d_Heap_setting_26 : decode b_Heap_setting 26 = .ok (.invokevirtual 98, 3) := by decide +kernel
theorem d_Heap_setting_29 : decode b_Heap_setting 29 = .ok (.istore 7, 2) := by decide +kernel
theorem d_Heap_setting_31 : decode b_Heap_setting 31 = .ok (.iload 7, 2) := by decide +kernel
theorem d_Heap_setting_33 : decode b_Heap_setting 33 = .ok (.ifCond .ge 5, 3) := by decide +kernel
theorem d_Heap_setting_36 : decode b_Heap_setting 36 = .ok (.iconst 2, 1) := by decide +kernel
theorem d_Heap_setting_37 : decode b_Heap_setting 37 = .ok (.ireturn, 1) := by decide +kernel
theorem d_Heap_setting_38 : decode b_Heap_setting 38 = .ok (.aload_n 0, 1) := by decide +kernel
theorem d_Heap_setting_39 : decode b_Heap_setting 39 = .ok (.getfield 17, 3) := by decide +kernel
theorem d_Heap_setting_42 : decode b_Heap_setting 42 = .ok (.iload 7, 2) := by decide +kernel
theorem d_Heap_setting_44 : decode b_Heap_setting 44 = .ok (.aaload, 1) := by decide +kernel
theorem d_Heap_setting_45 : decode b_Heap_setting 45 = .ok (.getfield 76, 3) := by decide +kernel
theorem d_Heap_setting_48 : decode b_Heap_setting 48 = .ok (.astore 8, 2) := by decide +kernel
theorem d_Heap_setting_50 : decode b_Heap_setting 50 = .ok (.aload 8, 2) := by decide +kernel
theorem d_Heap_setting_52 : decode b_Heap_setting 52 = .ok (.lload_n 3, 1) := by decide +kernel
theorem d_Heap_setting_53 : decode b_Heap_setting 53 = .ok (.invokevirtual 102, 3) := by decide +kernel
theorem d_Heap_setting_56 : decode b_Heap_setting 56 = .ok (.istore 9, 2) := by decide +kernel
theorem d_Heap_setting_58 : decode b_Heap_setting 58 = .ok (.iload 9, 2) := by decide +kernel
theorem d_Heap_setting_60 : decode b_Heap_setting 60 = .ok (.ifCond .ge 14, 3) := by decide +kernel
theorem d_Heap_setting_63 : decode b_Heap_setting 63 = .ok (.lload 5, 2) := by decide +kernel
theorem d_Heap_setting_65 : decode b_Heap_setting 65 = .ok (.ldc2_w 40, 3) := by decide +kernel
theorem d_Heap_setting_68 : decode b_Heap_setting 68 = .ok (.lcmp, 1) := by decide +kernel
theorem d_Heap_setting_69 : decode b_Heap_setting 69 = .ok (.ifCond .ne 5, 3) := by decide +kernel
theorem d_Heap_setting_72 : decode b_Heap_setting 72 = .ok (.iconst 0, 1) := by decide +kernel
theorem d_Heap_setting_73 : decode b_Heap_setting 73 = .ok (.ireturn, 1) := by decide +kernel
theorem d_Heap_setting_74 : decode b_Heap_setting 74 = .ok (.iload 9, 2) := by decide +kernel
theorem d_Heap_setting_76 : decode b_Heap_setting 76 = .ok (.ifCond .ge 15, 3) := by decide +kernel
theorem d_Heap_setting_79 : decode b_Heap_setting 79 = .ok (.aload 8, 2) := by decide +kernel
theorem d_Heap_setting_81 : decode b_Heap_setting 81 = .ok (.getfield 108, 3) := by decide +kernel
theorem d_Heap_setting_84 : decode b_Heap_setting 84 = .ok (.bipush 6, 2) := by decide +kernel
theorem d_Heap_setting_86 : decode b_Heap_setting 86 = .ok (.if_icmp .ne 5, 3) := by decide +kernel
theorem d_Heap_setting_89 : decode b_Heap_setting 89 = .ok (.iconst 3, 1) := by decide +kernel
theorem d_Heap_setting_90 : decode b_Heap_setting 90 = .ok (.ireturn, 1) := by decide +kernel
theorem d_Heap_setting_91 : decode b_Heap_setting 91 = .ok (.iload 9, 2) := by decide +kernel
theorem d_Heap_setting_93 : decode b_Heap_setting 93 = .ok (.ifCond .ge 14, 3) := by decide +kernel
theorem d_Heap_setting_96 : decode b_Heap_setting 96 = .ok (.aload 8, 2) := by decide +kernel
theorem d_Heap_setting_98 : decode b_Heap_setting 98 = .ok (.lload_n 3, 1) := by decide +kernel
theorem d_Heap_setting_99 : decode b_Heap_setting 99 = .ok (.lload 5, 2) := by decide +kernel
theorem d_Heap_setting_101 : decode b_Heap_setting 101 = .ok (.invokevirtual 111, 3) := by decide +kernel
theorem d_Heap_setting_104 : decode b_Heap_setting 104 = .ok (.goto 32, 3) := by decide +kernel
theorem d_Heap_setting_107 : decode b_Heap_setting 107 = .ok (.lload 5, 2) := by decide +kernel
theorem d_Heap_setting_109 : decode b_Heap_setting 109 = .ok (.ldc2_w 40, 3) := by decide +kernel
theorem d_Heap_setting_112 : decode b_Heap_setting 112 = .ok (.lcmp, 1) := by decide +kernel
theorem d_Heap_setting_113 : decode b_Heap_setting 113 = .ok (.ifCond .ne 13, 3) := by decide +kernel
theorem d_Heap_setting_116 : decode b_Heap_setting 116 = .ok (.aload 8, 2) := by decide +kernel
theorem d_Heap_setting_118 : decode b_Heap_setting 118 = .ok (.iload 9, 2) := by decide +kernel
theorem d_Heap_setting_120 : decode b_Heap_setting 120 = .ok (.invokevirtual 115, 3) := by decide +kernel
theorem d_Heap_setting_123 : decode b_Heap_setting 123 = .ok (.goto 13, 3) := by decide +kernel
theorem d_Heap_setting_126 : decode b_Heap_setting 126 = .ok (.aload 8, 2) := by decide +kernel
theorem d_Heap_setting_128 : decode b_Heap_setting 128 = .ok (.getfield 105, 3) := by decide +kernel
theorem d_Heap_setting_131 : decode b_Heap_setting 131 = .ok (.iload 9, 2) := by decide +kernel
theorem d_Heap_setting_133 : decode b_Heap_setting 133 = .ok (.lload 5, 2) := by decide +kernel
theorem d_Heap_setting_135 : decode b_Heap_setting 135 = .ok (.lastore, 1) := by decide +kernel
theorem d_Heap_setting_136 : decode b_Heap_setting 136 = .ok (.aload_n 0, 1) := by decide +kernel
theorem d_Heap_setting_137 : decode b_Heap_setting 137 = .ok (.iload 7, 2) := by decide +kernel
theorem d_Heap_setting_139 : decode b_Heap_setting 139 = .ok (.invokevirtual 118, 3) := by decide +kernel
theorem d_Heap_setting_142 : decode b_Heap_setting 142 = .ok (.iconst 0, 1) := by decide +kernel
theorem d_Heap_setting_143 : decode b_Heap_setting 143 = .ok (.ireturn, 1) := by decide +kernel
theorem d_Heap_isA_0 : decode b_Heap_isA 0 = .ok (.lload_n 2, 1) := by decide +kernel
theorem d_Heap_isA_1 : decode b_Heap_isA 1 = .ok (.ldc2_w 53, 3) := by decide +kernel
theorem d_Heap_isA_4 : decode b_Heap_isA 4 = .ok (.lcmp, 1) := by decide +kernel
theorem d_Heap_isA_5 : decode b_Heap_isA 5 = .ok (.ifCond .lt 23, 3) := by decide +kernel
theorem d_Heap_isA_8 : decode b_Heap_isA 8 = .ok (.aload_n 0, 1) := by decide +kernel
theorem d_Heap_isA_9 : decode b_Heap_isA 9 = .ok (.getfield 17, 3) := by decide +kernel
theorem d_Heap_isA_12 : decode b_Heap_isA 12 = .ok (.lload_n 2, 1) := by decide +kernel
theorem d_Heap_isA_13 : decode b_Heap_isA 13 = .ok (.invokestatic 55, 3) := by decide +kernel
theorem d_Heap_isA_16 : decode b_Heap_isA 16 = .ok (.aaload, 1) := by decide +kernel
theorem d_Heap_isA_17 : decode b_Heap_isA 17 = .ok (.getfield 59, 3) := by decide +kernel
theorem d_Heap_isA_20 : decode b_Heap_isA 20 = .ok (.iload_n 1, 1) := by decide +kernel
theorem d_Heap_isA_21 : decode b_Heap_isA 21 = .ok (.if_icmp .ne 7, 3) := by decide +kernel
theorem d_Heap_isA_24 : decode b_Heap_isA 24 = .ok (.iconst 1, 1) := by decide +kernel
theorem d_Heap_isA_25 : decode b_Heap_isA 25 = .ok (.goto 4, 3) := by decide +kernel
theorem d_Heap_isA_28 : decode b_Heap_isA 28 = .ok (.iconst 0, 1) := by decide +kernel
theorem d_Heap_isA_29 : decode b_Heap_isA 29 = .ok (.ireturn, 1) := by decide +kernel
theorem d_Heap_lastTable_0 : decode b_Heap_lastTable 0 = .ok (.iload_n 1, 1) := by decide +kernel
theorem d_Heap_lastTable_1 : decode b_Heap_lastTable 1 = .ok (.istore 6, 2) := by decide +kernel
theorem d_Heap_lastTable_3 : decode b_Heap_lastTable 3 = .ok (.iconst 0, 1) := by decide +kernel
theorem d_Heap_lastTable_4 : decode b_Heap_lastTable 4 = .ok (.istore 7, 2) := by decide +kernel
theorem d_Heap_lastTable_6 : decode b_Heap_lastTable 6 = .ok (.iload 7, 2) := by decide +kernel
theorem d_Heap_lastTable_8 : decode b_Heap_lastTable 8 = .ok (.iconst 5, 1) := by decide +kernel
theorem d_Heap_lastTable_9 : decode b_Heap_lastTable 9 = .ok (.if_icmp .ge 59, 3) := by decide +kernel
theorem d_Heap_lastTable_12 : decode b_Heap_lastTable 12 = .ok (.aload_n 0, 1) := by decide +kernel
theorem d_Heap_lastTable_13 : decode b_Heap_lastTable 13 = .ok (.getfield 17, 3) := by decide +kernel
theorem d_Heap_lastTable_16 : decode b_Heap_lastTable 16 = .ok (.iload 6, 2) := by decide +kernel
theorem d_Heap_lastTable_18 : decode b_Heap_lastTable 18 = .ok (.aaload, 1) := by decide +kernel
theorem d_Heap_lastTable_19 : decode b_Heap_lastTable 19 = .ok (.getfield 76, 3) := by decide +kernel
theorem d_Heap_lastTable_22 : decode b_Heap_lastTable 22 = .ok (.astore 8, 2) := by decide +kernel
theorem d_Heap_lastTable_24 : decode b_Heap_lastTable 24 = .ok (.aload 8, 2) := by decide +kernel
theorem d_Heap_lastTable_26 : decode b_Heap_lastTable 26 = .ok (.lload_n 2, 1) := by decide +kernel
theorem d_Heap_lastTable_27 : decode b_Heap_lastTable 27 = .ok (.invokevirtual 102, 3) := by decide +kernel
theorem d_Heap_lastTable_30 : decode b_Heap_lastTable 30 = .ok (.ifCond .lt 7, 3) := by decide +kernel
theorem d_Heap_lastTable_33 : decode b_Heap_lastTable 33 = .ok (.iconst (-1), 1) := by decide +kernel
theorem d_Heap_lastTable_34 : decode b_Heap_lastTable 34 = .ok (.goto 14, 3) := by decide +kernel
theorem d_Heap_lastTable_37 : decode b_Heap_lastTable 37 = .ok (.aload_n 0, 1) := by decide +kernel
theorem d_Heap_lastTable_38 : decode b_Heap_lastTable 38 = .ok (.aload 8, 2) := by decide +kernel
theorem d_Heap_lastTable_40 : decode b_Heap_lastTable 40 = .ok (.getfield 121, 3) := by decide +kernel
theorem d_Heap_lastTable_43 : decode b_Heap_lastTable 43 = .ok (.lload 4, 2) := by decide +kernel
theorem d_Heap_lastTable_45 : decode b_Heap_lastTable 45 = .ok (.invokevirtual 124, 3) := by decide +kernel
theorem d_Heap_lastTable_48 : decode b_Heap_lastTable 48 = .ok (.istore 9, 2) := by decide +kernel
theorem d_Heap_lastTable_50 : decode b_Heap_lastTable 50 = .ok (.iload 9, 2) := by decide +kernel
theorem d_Heap_lastTable_52 : decode b_Heap_lastTable 52 = .ok (.ifCond .ge 6, 3) := by decide +kernel
theorem d_Heap_lastTable_55 : decode b_Heap_lastTable 55 = .ok (.iload 6, 2) := by decide +kernel
theorem d_Heap_lastTable_57 : decode b_Heap_lastTable 57 = .ok (.ireturn, 1) := by decide +kernel
theorem d_Heap_lastTable_58 : decode b_Heap_lastTable 58 = .ok (.iload 9, 2) := by decide +kernel
theorem d_Heap_lastTable_60 : decode b_Heap_lastTable 60 = .ok (.istore 6, 2) := by decide +kernel
theorem d_Heap_lastTable_62 : decode b_Heap_lastTable 62 = .ok (.iinc 7 1, 3) := by decide +kernel
theorem d_Heap_lastTable_65 : decode b_Heap_lastTable 65 = .ok (.goto (-59), 3) := by decide +kernel
theorem d_Heap_lastTable_68 : decode b_Heap_lastTable 68 = .ok (.iconst (-1), 1) := by decide +kernel
theorem d_Heap_lastTable_69 : decode b_Heap_lastTable 69 = .ok (.ireturn, 1) := by decide +kernel
theorem d_Tab_find_0 : decode b_Tab_find 0 = .ok (.iconst 0, 1) := by decide +kernel
theorem d_Tab_find_1 : decode b_Tab_find 1 = .ok (.istore_n 3, 1) := by decide +kernel
theorem d_Tab_find_2 : decode b_Tab_find 2 = .ok (.iload_n 3, 1) := by decide +kernel
theorem d_Tab_find_3 : decode b_Tab_find 3 = .ok (.aload_n 0, 1) := by decide +kernel
theorem d_Tab_find_4 : decode b_Tab_find 4 = .ok (.getfield 18, 3) := by decide +kernel
theorem d_Tab_find_7 : decode b_Tab_find 7 = .ok (.if_icmp .ge 22, 3) := by decide +kernel
theorem d_Tab_find_10 : decode b_Tab_find 10 = .ok (.aload_n 0, 1) := by decide +kernel
theorem d_Tab_find_11 : decode b_Tab_find 11 = .ok (.getfield 9, 3) := by decide +kernel
theorem d_Tab_find_14 : decode b_Tab_find 14 = .ok (.iload_n 3, 1) := by decide +kernel
theorem d_Tab_find_15 : decode b_Tab_find 15 = .ok (.laload, 1) := by decide +kernel
theorem d_Tab_find_16 : decode b_Tab_find 16 = .ok (.lload_n 1, 1) := by decide +kernel
theorem d_Tab_find_17 : decode b_Tab_find 17 = .ok (.lcmp, 1) := by decide +kernel
theorem d_Tab_find_18 : decode b_Tab_find 18 = .ok (.ifCond .ne 5, 3) := by decide +kernel
theorem d_Tab_find_21 : decode b_Tab_find 21 = .ok (.iload_n 3, 1) := by decide +kernel
theorem d_Tab_find_22 : decode b_Tab_find 22 = .ok (.ireturn, 1) := by decide +kernel
theorem d_Tab_find_23 : decode b_Tab_find 23 = .ok (.iinc 3 1, 3) := by decide +kernel
theorem d_Tab_find_26 : decode b_Tab_find 26 = .ok (.goto (-24), 3) := by decide +kernel
theorem d_Tab_find_29 : decode b_Tab_find 29 = .ok (.iconst (-1), 1) := by decide +kernel
theorem d_Tab_find_30 : decode b_Tab_find 30 = .ok (.ireturn, 1) := by decide +kernel
theorem d_Heap_linked_0 : decode b_Heap_linked 0 = .ok (.iload_n 1, 1) := by decide +kernel
theorem d_Heap_linked_1 : decode b_Heap_linked 1 = .ok (.ifCond .ge 5, 3) := by decide +kernel
theorem d_Heap_linked_4 : decode b_Heap_linked 4 = .ok (.iconst (-1), 1) := by decide +kernel
theorem d_Heap_linked_5 : decode b_Heap_linked 5 = .ok (.ireturn, 1) := by decide +kernel
theorem d_Heap_linked_6 : decode b_Heap_linked 6 = .ok (.aload_n 0, 1) := by decide +kernel
theorem d_Heap_linked_7 : decode b_Heap_linked 7 = .ok (.getfield 17, 3) := by decide +kernel
theorem d_Heap_linked_10 : decode b_Heap_linked 10 = .ok (.iload_n 1, 1) := by decide +kernel
theorem d_Heap_linked_11 : decode b_Heap_linked 11 = .ok (.aaload, 1) := by decide +kernel
theorem d_Heap_linked_12 : decode b_Heap_linked 12 = .ok (.getfield 76, 3) := by decide +kernel
theorem d_Heap_linked_15 : decode b_Heap_linked 15 = .ok (.astore 4, 2) := by decide +kernel
theorem d_Heap_linked_17 : decode b_Heap_linked 17 = .ok (.aload 4, 2) := by decide +kernel
theorem d_Heap_linked_19 : decode b_Heap_linked 19 = .ok (.lload_n 2, 1) := by decide +kernel
theorem d_Heap_linked_20 : decode b_Heap_linked 20 = .ok (.invokevirtual 102, 3) := by decide +kernel
theorem d_Heap_linked_23 : decode b_Heap_linked 23 = .ok (.istore 5, 2) := by decide +kernel
theorem d_Heap_linked_25 : decode b_Heap_linked 25 = .ok (.iload 5, 2) := by decide +kernel
theorem d_Heap_linked_27 : decode b_Heap_linked 27 = .ok (.ifCond .lt 19, 3) := by decide +kernel
theorem d_Heap_linked_30 : decode b_Heap_linked 30 = .ok (.aload_n 0, 1) := by decide +kernel
theorem d_Heap_linked_31 : decode b_Heap_linked 31 = .ok (.iconst 1, 1) := by decide +kernel
theorem d_Heap_linked_32 : decode b_Heap_linked 32 = .ok (.aload 4, 2) := by decide +kernel
theorem d_Heap_linked_34 : decode b_Heap_linked 34 = .ok (.getfield 105, 3) := by decide +kernel
theorem d_Heap_linked_37 : decode b_Heap_linked 37 = .ok (.iload 5, 2) := by decide +kernel
theorem d_Heap_linked_39 : decode b_Heap_linked 39 = .ok (.laload, 1) := by decide +kernel
theorem d_Heap_linked_40 : decode b_Heap_linked 40 = .ok (.invokevirtual 94, 3) := by decide +kernel
theorem d_Heap_linked_43 : decode b_Heap_linked 43 = .ok (.ifCond .ne 5, 3) := by decide +kernel
theorem d_Heap_linked_46 : decode b_Heap_linked 46 = .ok (.iconst (-1), 1) := by decide +kernel
theorem d_Heap_linked_47 : decode b_Heap_linked 47 = .ok (.ireturn, 1) := by decide +kernel
theorem d_Heap_linked_48 : decode b_Heap_linked 48 = .ok (.aload 4, 2) := by decide +kernel
theorem d_Heap_linked_50 : decode b_Heap_linked 50 = .ok (.getfield 105, 3) := by decide +kernel
theorem d_Heap_linked_53 : decode b_Heap_linked 53 = .ok (.iload 5, 2) := by decide +kernel
theorem d_Heap_linked_55 : decode b_Heap_linked 55 = .ok (.laload, 1) := by decide +kernel
theorem d_Heap_linked_56 : decode b_Heap_linked 56 = .ok (.invokestatic 55, 3) := by decide +kernel
theorem d_Heap_linked_59 : decode b_Heap_linked 59 = .ok (.ireturn, 1) := by decide +kernel
theorem d_Tab_append_0 : decode b_Tab_append 0 = .ok (.aload_n 0, 1) := by decide +kernel
theorem d_Tab_append_1 : decode b_Tab_append 1 = .ok (.getfield 9, 3) := by decide +kernel
theorem d_Tab_append_4 : decode b_Tab_append 4 = .ok (.aload_n 0, 1) := by decide +kernel
theorem d_Tab_append_5 : decode b_Tab_append 5 = .ok (.getfield 18, 3) := by decide +kernel
theorem d_Tab_append_8 : decode b_Tab_append 8 = .ok (.lload_n 1, 1) := by decide +kernel
theorem d_Tab_append_9 : decode b_Tab_append 9 = .ok (.lastore, 1) := by decide +kernel
theorem d_Tab_append_10 : decode b_Tab_append 10 = .ok (.aload_n 0, 1) := by decide +kernel
theorem d_Tab_append_11 : decode b_Tab_append 11 = .ok (.getfield 15, 3) := by decide +kernel
theorem d_Tab_append_14 : decode b_Tab_append 14 = .ok (.aload_n 0, 1) := by decide +kernel
theorem d_Tab_append_15 : decode b_Tab_append 15 = .ok (.getfield 18, 3) := by decide +kernel
theorem d_Tab_append_18 : decode b_Tab_append 18 = .ok (.lload_n 3, 1) := by decide +kernel
theorem d_Tab_append_19 : decode b_Tab_append 19 = .ok (.lastore, 1) := by decide +kernel
theorem d_Tab_append_20 : decode b_Tab_append 20 = .ok (.aload_n 0, 1) := by decide +kernel
theorem d_Tab_append_21 : decode b_Tab_append 21 = .ok (.dup, 1) := by decide +kernel
theorem d_Tab_append_22 : decode b_Tab_append 22 = .ok (.getfield 18, 3) := by decide +kernel
theorem d_Tab_append_25 : decode b_Tab_append 25 = .ok (.iconst 1, 1) := by decide +kernel
theorem d_Tab_append_26 : decode b_Tab_append 26 = .ok (.iadd, 1) := by decide +kernel
theorem d_Tab_append_27 : decode b_Tab_append 27 = .ok (.putfield 18, 3) := by decide +kernel
theorem d_Tab_append_30 : decode b_Tab_append 30 = .ok (.return_, 1) := by decide +kernel
theorem d_Tab_takeAway_0 : decode b_Tab_takeAway 0 = .ok (.aload_n 0, 1) := by decide +kernel
theorem d_Tab_takeAway_1 : decode b_Tab_takeAway 1 = .ok (.getfield 18, 3) := by decide +kernel
theorem d_Tab_takeAway_4 : decode b_Tab_takeAway 4 = .ok (.iload_n 1, 1) := by decide +kernel
theorem d_Tab_takeAway_5 : decode b_Tab_takeAway 5 = .ok (.isub, 1) := by decide +kernel
theorem d_Tab_takeAway_6 : decode b_Tab_takeAway 6 = .ok (.iconst 1, 1) := by decide +kernel
theorem d_Tab_takeAway_7 : decode b_Tab_takeAway 7 = .ok (.isub, 1) := by decide +kernel
theorem d_Tab_takeAway_8 : decode b_Tab_takeAway 8 = .ok (.istore_n 2, 1) := by decide +kernel
theorem d_Tab_takeAway_9 : decode b_Tab_takeAway 9 = .ok (.aload_n 0, 1) := by decide +kernel
theorem d_Tab_takeAway_10 : decode b_Tab_takeAway 10 = .ok (.getfield 9, 3) := by decide +kernel
theorem d_Tab_takeAway_13 : decode b_Tab_takeAway 13 = .ok (.iload_n 1, 1) := by decide +kernel
theorem d_Tab_takeAway_14 : decode b_Tab_takeAway 14 = .ok (.iconst 1, 1) := by decide +kernel
theorem d_Tab_takeAway_15 : decode b_Tab_takeAway 15 = .ok (.iadd, 1) := by decide +kernel
theorem d_Tab_takeAway_16 : decode b_Tab_takeAway 16 = .ok (.aload_n 0, 1) := by decide +kernel
theorem d_Tab_takeAway_17 : decode b_Tab_takeAway 17 = .ok (.getfield 9, 3) := by decide +kernel
theorem d_Tab_takeAway_20 : decode b_Tab_takeAway 20 = .ok (.iload_n 1, 1) := by decide +kernel
theorem d_Tab_takeAway_21 : decode b_Tab_takeAway 21 = .ok (.iload_n 2, 1) := by decide +kernel
theorem d_Tab_takeAway_22 : decode b_Tab_takeAway 22 = .ok (.invokestatic 25, 3) := by decide +kernel
theorem d_Tab_takeAway_25 : decode b_Tab_takeAway 25 = .ok (.aload_n 0, 1) := by decide +kernel
theorem d_Tab_takeAway_26 : decode b_Tab_takeAway 26 = .ok (.getfield 15, 3) := by decide +kernel
theorem d_Tab_takeAway_29 : decode b_Tab_takeAway 29 = .ok (.iload_n 1, 1) := by decide +kernel
theorem d_Tab_takeAway_30 : decode b_Tab_takeAway 30 = .ok (.iconst 1, 1) := by decide +kernel
theorem d_Tab_takeAway_31 : decode b_Tab_takeAway 31 = .ok (.iadd, 1) := by decide +kernel
theorem d_Tab_takeAway_32 : decode b_Tab_takeAway 32 = .ok (.aload_n 0, 1) := by decide +kernel
theorem d_Tab_takeAway_33 : decode b_Tab_takeAway 33 = .ok (.getfield 15, 3) := by decide +kernel
theorem d_Tab_takeAway_36 : decode b_Tab_takeAway 36 = .ok (.iload_n 1, 1) := by decide +kernel
theorem d_Tab_takeAway_37 : decode b_Tab_takeAway 37 = .ok (.iload_n 2, 1) := by decide +kernel
theorem d_Tab_takeAway_38 : decode b_Tab_takeAway 38 = .ok (.invokestatic 25, 3) := by decide +kernel
theorem d_Tab_takeAway_41 : decode b_Tab_takeAway 41 = .ok (.aload_n 0, 1) := by decide +kernel
theorem d_Tab_takeAway_42 : decode b_Tab_takeAway 42 = .ok (.dup, 1) := by decide +kernel
theorem d_Tab_takeAway_43 : decode b_Tab_takeAway 43 = .ok (.getfield 18, 3) := by decide +kernel
theorem d_Tab_takeAway_46 : decode b_Tab_takeAway 46 = .ok (.iconst 1, 1) := by decide +kernel
theorem d_Tab_takeAway_47 : decode b_Tab_takeAway 47 = .ok (.isub, 1) := by decide +kernel
theorem d_Tab_takeAway_48 : decode b_Tab_takeAway 48 = .ok (.putfield 18, 3) := by decide +kernel
theorem d_Tab_takeAway_51 : decode b_Tab_takeAway 51 = .ok (.return_, 1) := by decide +kernel
theorem d_Heap_touch_0 : decode b_Heap_touch 0 = .ok (.aload_n 0, 1) := by decide +kernel
theorem d_Heap_touch_1 : decode b_Heap_touch 1 = .ok (.getfield 21, 3) := by decide +kernel
theorem d_Heap_touch_4 : decode b_Heap_touch 4 = .ok (.iconst 1, 1) := by decide +kernel
theorem d_Heap_touch_5 : decode b_Heap_touch 5 = .ok (.if_icmp .ne 26, 3) := by decide +kernel
theorem d_Heap_touch_8 : decode b_Heap_touch 8 = .ok (.aload_n 0, 1) := by decide +kernel
theorem d_Heap_touch_9 : decode b_Heap_touch 9 = .ok (.getfield 17, 3) := by decide +kernel
theorem d_Heap_touch_12 : decode b_Heap_touch 12 = .ok (.iload_n 1, 1) := by decide +kernel
theorem d_Heap_touch_13 : decode b_Heap_touch 13 = .ok (.aaload, 1) := by decide +kernel
theorem d_Heap_touch_14 : decode b_Heap_touch 14 = .ok (.getfield 73, 3) := by decide +kernel
theorem d_Heap_touch_17 : decode b_Heap_touch 17 = .ok (.iconst 2, 1) := by decide +kernel
theorem d_Heap_touch_18 : decode b_Heap_touch 18 = .ok (.if_icmp .ne 13, 3) := by decide +kernel
theorem d_Heap_touch_21 : decode b_Heap_touch 21 = .ok (.aload_n 0, 1) := by decide +kernel
theorem d_Heap_touch_22 : decode b_Heap_touch 22 = .ok (.getfield 17, 3) := by decide +kernel
theorem d_Heap_touch_25 : decode b_Heap_touch 25 = .ok (.iload_n 1, 1) := by decide +kernel
theorem d_Heap_touch_26 : decode b_Heap_touch 26 = .ok (.aaload, 1) := by decide +kernel
theorem d_Heap_touch_27 : decode b_Heap_touch 27 = .ok (.iconst 1, 1) := by decide +kernel
theorem d_Heap_touch_28 : decode b_Heap_touch 28 = .ok (.putfield 73, 3) := by decide +kernel
theorem d_Heap_touch_31 : decode b_Heap_touch 31 = .ok (.return_, 1) := by decide +kernel
theorem d_Heap_getting_0 : decode b_Heap_getting 0 = .ok (.aload_n 0, 1) := by decide +kernel
theorem d_Heap_getting_1 : decode b_Heap_getting 1 = .ok (.iconst 1, 1) := by decide +kernel
theorem d_Heap_getting_2 : decode b_Heap_getting 2 = .ok (.lload_n 1, 1) := by decide +kernel
theorem d_Heap_getting_3 : decode b_Heap_getting 3 = .ok (.invokevirtual 94, 3) := by decide +kernel
theorem d_Heap_getting_6 : decode b_Heap_getting 6 = .ok (.ifCond .ne 5, 3) := by decide +kernel
theorem d_Heap_getting_9 : decode b_Heap_getting 9 = .ok (.iconst 1, 1) := by decide +kernel
theorem d_Heap_getting_10 : decode b_Heap_getting 10 = .ok (.ireturn, 1) := by decide +kernel
theorem d_Heap_getting_11 : decode b_Heap_getting 11 = .ok (.aload_n 0, 1) := by decide +kernel
theorem d_Heap_getting_12 : decode b_Heap_getting 12 = .ok (.ldc2_w 40, 3) := by decide +kernel
theorem d_Heap_getting_15 : decode b_Heap_getting 15 = .ok (.putfield 42, 3) := by decide +kernel
theorem d_Heap_getting_18 : decode b_Heap_getting 18 = .ok (.lload_n 3, 1) := by decide +kernel
theorem d_Heap_getting_19 : decode b_Heap_getting 19 = .ok (.ldc2_w 40, 3) := by decide +kernel
theorem d_Heap_getting_22 : decode b_Heap_getting 22 = .ok (.lcmp, 1) := by decide +kernel
theorem d_Heap_getting_23 : decode b_Heap_getting 23 = .ok (.ifCond .ne 5, 3) := by decide +kernel
theorem d_Heap_getting_26 : decode b_Heap_getting 26 = .ok (.iconst 0, 1) := by decide +kernel
theorem d_Heap_getting_27 : decode b_Heap_getting 27 = .ok (.ireturn, 1) := by decide +kernel
theorem d_Heap_getting_28 : decode b_Heap_getting 28 = .ok (.aload_n 0, 1) := by decide +kernel
theorem d_Heap_getting_29 : decode b_Heap_getting 29 = .ok (.lload_n 1, 1) := by decide +kernel
theorem d_Heap_getting_30 : decode b_Heap_getting 30 = .ok (.invokestatic 55, 3) := by decide +kernel
theorem d_Heap_getting_33 : decode b_Heap_getting 33 = .ok (.lload_n 3, 1) := by decide +kernel
theorem d_Heap_getting_34 : decode b_Heap_getting 34 = .ok (.lconst 0, 1) := by decide +kernel
theorem d_Heap_getting_35 : decode b_Heap_getting 35 = .ok (.invokevirtual 98, 3) := by decide +kernel
theorem d_Heap_getting_38 : decode b_Heap_getting 38 = .ok (.istore 5, 2) := by decide +kernel
theorem d_Heap_getting_40 : decode b_Heap_getting 40 = .ok (.iload 5, 2) := by decide +kernel
theorem d_Heap_getting_42 : decode b_Heap_getting 42 = .ok (.ifCond .ge 5, 3) := by decide +kernel
theorem d_Heap_getting_45 : decode b_Heap_getting 45 = .ok (.iconst 2, 1) := by decide +kernel
theorem d_Heap_getting_46 : decode b_Heap_getting 46 = .ok (.ireturn, 1) := by decide +kernel
theorem d_Heap_getting_47 : decode b_Heap_getting 47 = .ok (.aload_n 0, 1) := by decide +kernel
theorem d_Heap_getting_48 : decode b_Heap_getting 48 = .ok (.getfield 17, 3) := by decide +kernel
theorem d_Heap_getting_51 : decode b_Heap_getting 51 = .ok (.iload 5, 2) := by decide +kernel
theorem d_Heap_getting_53 : decode b_Heap_getting 53 = .ok (.aaload, 1) := by decide +kernel
theorem d_Heap_getting_54 : decode b_Heap_getting 54 = .ok (.getfield 76, 3) := by decide +kernel
theorem d_Heap_getting_57 : decode b_Heap_getting 57 = .ok (.astore 6, 2) := by decide +kernel
theorem d_Heap_getting_59 : decode b_Heap_getting 59 = .ok (.aload 6, 2) := by decide +kernel
theorem d_Heap_getting_61 : decode b_Heap_getting 61 = .ok (.lload_n 3, 1) := by decide +kernel
theorem d_Heap_getting_62 : decode b_Heap_getting 62 = .ok (.invokevirtual 102, 3) := by decide +kernel
theorem d_Heap_getting_65 : decode b_Heap_getting 65 = .ok (.istore 7, 2) := by decide +kernel
theorem d_Heap_getting_67 : decode b_Heap_getting 67 = .ok (.iload 7, 2) := by decide +kernel
theorem d_Heap_getting_69 : decode b_Heap_getting 69 = .ok (.ifCond .lt 15, 3) := by decide +kernel
theorem d_Heap_getting_72 : decode b_Heap_getting 72 = .ok (.aload_n 0, 1) := by decide +kernel
theorem d_Heap_getting_73 : decode b_Heap_getting 73 = .ok (.aload 6, 2) := by decide +kernel
theorem d_Heap_getting_75 : decode b_Heap_getting 75 = .ok (.getfield 105, 3) := by decide +kernel
theorem d_Heap_getting_78 : decode b_Heap_getting 78 = .ok (.iload 7, 2) := by decide +kernel
theorem d_Heap_getting_80 : decode b_Heap_getting 80 = .ok (.laload, 1) := by decide +kernel
theorem d_Heap_getting_81 : decode b_Heap_getting 81 = .ok (.putfield 42, 3) := by decide +kernel
theorem d_Heap_getting_84 : decode b_Heap_getting 84 = .ok (.iconst 0, 1) := by decide +kernel
theorem d_Heap_getting_85 : decode b_Heap_getting 85 = .ok (.ireturn, 1) := by decide +kernel
theorem d_Heap_settingMeta_0 : decode b_Heap_settingMeta 0 = .ok (.aload_n 0, 1) := by decide +kernel
theorem d_Heap_settingMeta_1 : decode b_Heap_settingMeta 1 = .ok (.iconst 1, 1) := by decide +kernel
theorem d_Heap_settingMeta_2 : decode b_Heap_settingMeta 2 = .ok (.lload_n 1, 1) := by decide +kernel
theorem d_Heap_settingMeta_3 : decode b_Heap_settingMeta 3 = .ok (.invokevirtual 94, 3) := by decide +kernel
theorem d_Heap_settingMeta_6 : decode b_Heap_settingMeta 6 = .ok (.ifCond .eq 20, 3) := by decide +kernel
theorem d_Heap_settingMeta_9 : decode b_Heap_settingMeta 9 = .ok (.lload_n 3, 1) := by decide +kernel
theorem d_Heap_settingMeta_10 : decode b_Heap_settingMeta 10 = .ok (.ldc2_w 40, 3) := by decide +kernel
theorem d_Heap_settingMeta_13 : decode b_Heap_settingMeta 13 = .ok (.lcmp, 1) := by decide +kernel
theorem d_Heap_settingMeta_14 : decode b_Heap_settingMeta 14 = .ok (.ifCond .eq 14, 3) := by decide +kernel
theorem d_Heap_settingMeta_17 : decode b_Heap_settingMeta 17 = .ok (.aload_n 0, 1) := by decide +kernel
theorem d_Heap_settingMeta_18 : decode b_Heap_settingMeta 18 = .ok (.iconst 1, 1) := by decide +kernel
theorem d_Heap_settingMeta_19 : decode b_Heap_settingMeta 19 = .ok (.lload_n 3, 1) := by decide +kernel
theorem d_Heap_settingMeta_20 : decode b_Heap_settingMeta 20 = .ok (.invokevirtual 94, 3) := by decide +kernel
theorem d_Heap_settingMeta_23 : decode b_Heap_settingMeta 23 = .ok (.ifCond .ne 5, 3) := by decide +kernel
theorem d_Heap_settingMeta_26 : decode b_Heap_settingMeta 26 = .ok (.iconst 1, 1) := by decide +kernel
theorem d_Heap_settingMeta_27 : decode b_Heap_settingMeta 27 = .ok (.ireturn, 1) := by decide +kernel
theorem d_Heap_settingMeta_28 : decode b_Heap_settingMeta 28 = .ok (.lload_n 1, 1) := by decide +kernel
theorem d_Heap_settingMeta_29 : decode b_Heap_settingMeta 29 = .ok (.invokestatic 55, 3) := by decide +kernel
theorem d_Heap_settingMeta_32 : decode b_Heap_settingMeta 32 = .ok (.istore 5, 2) := by decide +kernel
theorem d_Heap_settingMeta_34 : decode b_Heap_settingMeta 34 = .ok (.aload_n 0, 1) := by decide +kernel
theorem d_Heap_settingMeta_35 : decode b_Heap_settingMeta 35 = .ok (.getfield 17, 3) := by decide +kernel
theorem d_Heap_settingMeta_38 : decode b_Heap_settingMeta 38 = .ok (.iload 5, 2) := by decide +kernel
theorem d_Heap_settingMeta_40 : decode b_Heap_settingMeta 40 = .ok (.aaload, 1) := by decide +kernel
theorem d_Heap_settingMeta_41 : decode b_Heap_settingMeta 41 = .ok (.getfield 76, 3) := by decide +kernel
theorem d_Heap_settingMeta_44 : decode b_Heap_settingMeta 44 = .ok (.lload_n 3, 1) := by decide +kernel
theorem d_Heap_settingMeta_45 : decode b_Heap_settingMeta 45 = .ok (.ldc2_w 40, 3) := by decide +kernel
theorem d_Heap_settingMeta_48 : decode b_Heap_settingMeta 48 = .ok (.lcmp, 1) := by decide +kernel
theorem d_Heap_settingMeta_49 : decode b_Heap_settingMeta 49 = .ok (.ifCond .ne 7, 3) := by decide +kernel
theorem d_Heap_settingMeta_52 : decode b_Heap_settingMeta 52 = .ok (.iconst (-1), 1) := by decide +kernel
theorem d_Heap_settingMeta_53 : decode b_Heap_settingMeta 53 = .ok (.goto 7, 3) := by decide +kernel
theorem d_Heap_settingMeta_56 : decode b_Heap_settingMeta 56 = .ok (.lload_n 3, 1) := by decide +kernel
theorem d_Heap_settingMeta_57 : decode b_Heap_settingMeta 57 = .ok (.invokestatic 55, 3) := by decide +kernel
theorem d_Heap_settingMeta_60 : decode b_Heap_settingMeta 60 = .ok (.putfield 121, 3) := by decide +kernel
theorem d_Heap_settingMeta_63 : decode b_Heap_settingMeta 63 = .ok (.aload_n 0, 1) := by decide +kernel
theorem d_Heap_settingMeta_64 : decode b_Heap_settingMeta 64 = .ok (.iload 5, 2) := by decide +kernel
theorem d_Heap_settingMeta_66 : decode b_Heap_settingMeta 66 = .ok (.invokevirtual 118, 3) := by decide +kernel
theorem d_Heap_settingMeta_69 : decode b_Heap_settingMeta 69 = .ok (.iconst 0, 1) := by decide +kernel
theorem d_Heap_settingMeta_70 : decode b_Heap_settingMeta 70 = .ok (.ireturn, 1) := by decide +kernel
theorem d_Heap_keyAfter_0 : decode b_Heap_keyAfter 0 = .ok (.aload_n 0, 1) := by decide +kernel
theorem d_Heap_keyAfter_1 : decode b_Heap_keyAfter 1 = .ok (.iconst 1, 1) := by decide +kernel
theorem d_Heap_keyAfter_2 : decode b_Heap_keyAfter 2 = .ok (.lload_n 1, 1) := by decide +kernel
theorem d_Heap_keyAfter_3 : decode b_Heap_keyAfter 3 = .ok (.invokevirtual 94, 3) := by decide +kernel
theorem d_Heap_keyAfter_6 : decode b_Heap_keyAfter 6 = .ok (.ifCond .ne 5, 3) := by decide +kernel
theorem d_Heap_keyAfter_9 : decode b_Heap_keyAfter 9 = .ok (.iconst 1, 1) := by decide +kernel
theorem d_Heap_keyAfter_10 : decode b_Heap_keyAfter 10 = .ok (.ireturn, 1) := by decide +kernel
theorem d_Heap_keyAfter_11 : decode b_Heap_keyAfter 11 = .ok (.aload_n 0, 1) := by decide +kernel
theorem d_Heap_keyAfter_12 : decode b_Heap_keyAfter 12 = .ok (.getfield 17, 3) := by decide +kernel
theorem d_Heap_keyAfter_15 : decode b_Heap_keyAfter 15 = .ok (.lload_n 1, 1) := by decide +kernel
theorem d_Heap_keyAfter_16 : decode b_Heap_keyAfter 16 = .ok (.invokestatic 55, 3) := by decide +kernel
theorem d_Heap_keyAfter_19 : decode b_Heap_keyAfter 19 = .ok (.aaload, 1) := by decide +kernel
theorem d_Heap_keyAfter_20 : decode b_Heap_keyAfter 20 = .ok (.getfield 76, 3) := by decide +kernel
theorem d_Heap_keyAfter_23 : decode b_Heap_keyAfter 23 = .ok (.astore 5, 2) := by decide +kernel
theorem d_Heap_keyAfter_25 : decode b_Heap_keyAfter 25 = .ok (.lload_n 3, 1) := by decide +kernel
theorem d_Heap_keyAfter_26 : decode b_Heap_keyAfter 26 = .ok (.ldc2_w 40, 3) := by decide +kernel
theorem d_Heap_keyAfter_29 : decode b_Heap_keyAfter 29 = .ok (.lcmp, 1) := by decide +kernel
theorem d_Heap_keyAfter_30 : decode b_Heap_keyAfter 30 = .ok (.ifCond .ne 7, 3) := by decide +kernel
theorem d_Heap_keyAfter_33 : decode b_Heap_keyAfter 33 = .ok (.iconst (-1), 1) := by decide +kernel
theorem d_Heap_keyAfter_34 : decode b_Heap_keyAfter 34 = .ok (.goto 9, 3) := by decide +kernel
theorem d_Heap_keyAfter_37 : decode b_Heap_keyAfter 37 = .ok (.aload 5, 2) := by decide +kernel
theorem d_Heap_keyAfter_39 : decode b_Heap_keyAfter 39 = .ok (.lload_n 3, 1) := by decide +kernel
theorem d_Heap_keyAfter_40 : decode b_Heap_keyAfter 40 = .ok (.invokevirtual 102, 3) := by decide +kernel
theorem d_Heap_keyAfter_43 : decode b_Heap_keyAfter 43 = .ok (.istore 6, 2) := by decide +kernel
theorem d_Heap_keyAfter_45 : decode b_Heap_keyAfter 45 = .ok (.iload 6, 2) := by decide +kernel
theorem d_Heap_keyAfter_47 : decode b_Heap_keyAfter 47 = .ok (.ifCond .ge 13, 3) := by decide +kernel
theorem d_Heap_keyAfter_50 : decode b_Heap_keyAfter 50 = .ok (.lload_n 3, 1) := by decide +kernel
theorem d_Heap_keyAfter_51 : decode b_Heap_keyAfter 51 = .ok (.ldc2_w 40, 3) := by decide +kernel
theorem d_Heap_keyAfter_54 : decode b_Heap_keyAfter 54 = .ok (.lcmp, 1) := by decide +kernel
theorem d_Heap_keyAfter_55 : decode b_Heap_keyAfter 55 = .ok (.ifCond .eq 5, 3) := by decide +kernel
theorem d_Heap_keyAfter_58 : decode b_Heap_keyAfter 58 = .ok (.iconst 1, 1) := by decide +kernel
theorem d_Heap_keyAfter_59 : decode b_Heap_keyAfter 59 = .ok (.ireturn, 1) := by decide +kernel
theorem d_Heap_keyAfter_60 : decode b_Heap_keyAfter 60 = .ok (.aload_n 0, 1) := by decide +kernel
theorem d_Heap_keyAfter_61 : decode b_Heap_keyAfter 61 = .ok (.iload 6, 2) := by decide +kernel
theorem d_Heap_keyAfter_63 : decode b_Heap_keyAfter 63 = .ok (.iconst 1, 1) := by decide +kernel
theorem d_Heap_keyAfter_64 : decode b_Heap_keyAfter 64 = .ok (.iadd, 1) := by decide +kernel
theorem d_Heap_keyAfter_65 : decode b_Heap_keyAfter 65 = .ok (.aload 5, 2) := by decide +kernel
theorem d_Heap_keyAfter_67 : decode b_Heap_keyAfter 67 = .ok (.getfield 108, 3) := by decide +kernel
theorem d_Heap_keyAfter_70 : decode b_Heap_keyAfter 70 = .ok (.if_icmp .ge 16, 3) := by decide +kernel
theorem d_Heap_keyAfter_73 : decode b_Heap_keyAfter 73 = .ok (.aload 5, 2) := by decide +kernel
theorem d_Heap_keyAfter_75 : decode b_Heap_keyAfter 75 = .ok (.getfield 128, 3) := by decide +kernel
theorem d_Heap_keyAfter_78 : decode b_Heap_keyAfter 78 = .ok (.iload 6, 2) := by decide +kernel
theorem d_Heap_keyAfter_80 : decode b_Heap_keyAfter 80 = .ok (.iconst 1, 1) := by decide +kernel
theorem d_Heap_keyAfter_81 : decode b_Heap_keyAfter 81 = .ok (.iadd, 1) := by decide +kernel
theorem d_Heap_keyAfter_82 : decode b_Heap_keyAfter 82 = .ok (.laload, 1) := by decide +kernel
theorem d_Heap_keyAfter_83 : decode b_Heap_keyAfter 83 = .ok (.goto 6, 3) := by decide +kernel
theorem d_Heap_keyAfter_86 : decode b_Heap_keyAfter 86 = .ok (.ldc2_w 40, 3) := by decide +kernel
theorem d_Heap_keyAfter_89 : decode b_Heap_keyAfter 89 = .ok (.putfield 42, 3) := by decide +kernel
theorem d_Heap_keyAfter_92 : decode b_Heap_keyAfter 92 = .ok (.iconst 0, 1) := by decide +kernel
theorem d_Heap_keyAfter_93 : decode b_Heap_keyAfter 93 = .ok (.ireturn, 1) := by decide +kernel
theorem d_Heap_howMany_0 : decode b_Heap_howMany 0 = .ok (.aload_n 0, 1) := by decide +kernel
theorem d_Heap_howMany_1 : decode b_Heap_howMany 1 = .ok (.iconst 1, 1) := by decide +kernel
theorem d_Heap_howMany_2 : decode b_Heap_howMany 2 = .ok (.lload_n 1, 1) := by decide +kernel
theorem d_Heap_howMany_3 : decode b_Heap_howMany 3 = .ok (.invokevirtual 94, 3) := by decide +kernel
theorem d_Heap_howMany_6 : decode b_Heap_howMany 6 = .ok (.ifCond .ne 5, 3) := by decide +kernel
theorem d_Heap_howMany_9 : decode b_Heap_howMany 9 = .ok (.iconst 1, 1) := by decide +kernel
theorem d_Heap_howMany_10 : decode b_Heap_howMany 10 = .ok (.ireturn, 1) := by decide +kernel
theorem d_Heap_howMany_11 : decode b_Heap_howMany 11 = .ok (.aload_n 0, 1) := by decide +kernel
theorem d_Heap_howMany_12 : decode b_Heap_howMany 12 = .ok (.aload_n 0, 1) := by decide +kernel
theorem d_Heap_howMany_13 : decode b_Heap_howMany 13 = .ok (.getfield 17, 3) := by decide +kernel
theorem d_Heap_howMany_16 : decode b_Heap_howMany 16 = .ok (.lload_n 1, 1) := by decide +kernel
theorem d_Heap_howMany_17 : decode b_Heap_howMany 17 = .ok (.invokestatic 55, 3) := by decide +kernel
theorem d_Heap_howMany_20 : decode b_Heap_howMany 20 = .ok (.aaload, 1) := by decide +kernel
theorem d_Heap_howMany_21 : decode b_Heap_howMany 21 = .ok (.getfield 76, 3) := by decide +kernel
theorem d_Heap_howMany_24 : decode b_Heap_howMany 24 = .ok (.getfield 108, 3) := by decide +kernel
theorem d_Heap_howMany_27 : decode b_Heap_howMany 27 = .ok (.i2l, 1) := by decide +kernel
theorem d_Heap_howMany_28 : decode b_Heap_howMany 28 = .ok (.putfield 42, 3) := by decide +kernel
theorem d_Heap_howMany_31 : decode b_Heap_howMany 31 = .ok (.iconst 0, 1) := by decide +kernel
theorem d_Heap_howMany_32 : decode b_Heap_howMany 32 = .ok (.ireturn, 1) := by decide +kernel
theorem d_Cell_rows_0 : decode b_Cell_rows 0 = .ok (.aload_n 0, 1) := by decide +kernel
theorem d_Cell_rows_1 : decode b_Cell_rows 1 = .ok (.getfield 25, 3) := by decide +kernel
theorem d_Cell_rows_4 : decode b_Cell_rows 4 = .ok (.iconst 1, 1) := by decide +kernel
theorem d_Cell_rows_5 : decode b_Cell_rows 5 = .ok (.if_icmp .ne 11, 3) := by decide +kernel
theorem d_Cell_rows_8 : decode b_Cell_rows 8 = .ok (.aload_n 0, 1) := by decide +kernel
theorem d_Cell_rows_9 : decode b_Cell_rows 9 = .ok (.getfield 12, 3) := by decide +kernel
theorem d_Cell_rows_12 : decode b_Cell_rows 12 = .ok (.getfield 35, 3) := by decide +kernel
theorem d_Cell_rows_15 : decode b_Cell_rows 15 = .ok (.ireturn, 1) := by decide +kernel
theorem d_Cell_rows_16 : decode b_Cell_rows 16 = .ok (.aload_n 0, 1) := by decide +kernel
theorem d_Cell_rows_17 : decode b_Cell_rows 17 = .ok (.getfield 25, 3) := by decide +kernel
theorem d_Cell_rows_20 : decode b_Cell_rows 20 = .ok (.iconst 2, 1) := by decide +kernel
theorem d_Cell_rows_21 : decode b_Cell_rows 21 = .ok (.if_icmp .ne 11, 3) := by decide +kernel
theorem d_Cell_rows_24 : decode b_Cell_rows 24 = .ok (.iload_n 1, 1) := by decide +kernel
theorem d_Cell_rows_25 : decode b_Cell_rows 25 = .ok (.ifCond .ne 7, 3) := by decide +kernel
theorem d_Cell_rows_28 : decode b_Cell_rows 28 = .ok (.iconst 4, 1) := by decide +kernel
theorem d_Cell_rows_29 : decode b_Cell_rows 29 = .ok (.goto 4, 3) := by decide +kernel
theorem d_Cell_rows_32 : decode b_Cell_rows 32 = .ok (.iconst 0, 1) := by decide +kernel
theorem d_Cell_rows_33 : decode b_Cell_rows 33 = .ok (.ireturn, 1) := by decide +kernel
theorem d_Math_floorMod_0 : decode b_Math_floorMod 0 = .ok (.iload_n 0, 1) := by decide +kernel
theorem d_Math_floorMod_1 : decode b_Math_floorMod 1 = .ok (.iload_n 1, 1) := by decide +kernel
theorem d_Math_floorMod_2 : decode b_Math_floorMod 2 = .ok (.irem, 1) := by decide +kernel
theorem d_Math_floorMod_3 : decode b_Math_floorMod 3 = .ok (.istore_n 2, 1) := by decide +kernel
theorem d_Math_floorMod_4 : decode b_Math_floorMod 4 = .ok (.iload_n 0, 1) := by decide +kernel
theorem d_Math_floorMod_5 : decode b_Math_floorMod 5 = .ok (.iload_n 1, 1) := by decide +kernel
theorem d_Math_floorMod_6 : decode b_Math_floorMod 6 = .ok (.ixor, 1) := by decide +kernel
theorem d_Math_floorMod_7 : decode b_Math_floorMod 7 = .ok (.ifCond .ge 11, 3) := by decide +kernel
theorem d_Math_floorMod_10 : decode b_Math_floorMod 10 = .ok (.iload_n 2, 1) := by decide +kernel
theorem d_Math_floorMod_11 : decode b_Math_floorMod 11 = .ok (.ifCond .eq 7, 3) := by decide +kernel
theorem d_Math_floorMod_14 : decode b_Math_floorMod 14 = .ok (.iload_n 2, 1) := by decide +kernel
theorem d_Math_floorMod_15 : decode b_Math_floorMod 15 = .ok (.iload_n 1, 1) := by decide +kernel
theorem d_Math_floorMod_16 : decode b_Math_floorMod 16 = .ok (.iadd, 1) := by decide +kernel
theorem d_Math_floorMod_17 : decode b_Math_floorMod 17 = .ok (.ireturn, 1) := by decide +kernel
theorem d_Math_floorMod_18 : decode b_Math_floorMod 18 = .ok (.iload_n 2, 1) := by decide +kernel
theorem d_Math_floorMod_19 : decode b_Math_floorMod 19 = .ok (.ireturn, 1) := by decide +kernel
theorem d_Arr_fill_0 : decode b_Arr_fill 0 = .ok (.iconst 0, 1) := by decide +kernel
theorem d_Arr_fill_1 : decode b_Arr_fill 1 = .ok (.istore_n 3, 1) := by decide +kernel
theorem d_Arr_fill_2 : decode b_Arr_fill 2 = .ok (.aload_n 0, 1) := by decide +kernel
theorem d_Arr_fill_3 : decode b_Arr_fill 3 = .ok (.arraylength, 1) := by decide +kernel
theorem d_Arr_fill_4 : decode b_Arr_fill 4 = .ok (.istore 4, 2) := by decide +kernel
theorem d_Arr_fill_6 : decode b_Arr_fill 6 = .ok (.iload_n 3, 1) := by decide +kernel
theorem d_Arr_fill_7 : decode b_Arr_fill 7 = .ok (.iload 4, 2) := by decide +kernel
theorem d_Arr_fill_9 : decode b_Arr_fill 9 = .ok (.if_icmp .ge 13, 3) := by decide +kernel
theorem d_Arr_fill_12 : decode b_Arr_fill 12 = .ok (.aload_n 0, 1) := by decide +kernel
theorem d_Arr_fill_13 : decode b_Arr_fill 13 = .ok (.iload_n 3, 1) := by decide +kernel
theorem d_Arr_fill_14 : decode b_Arr_fill 14 = .ok (.lload_n 1, 1) := by decide +kernel
theorem d_Arr_fill_15 : decode b_Arr_fill 15 = .ok (.lastore, 1) := by decide +kernel
theorem d_Arr_fill_16 : decode b_Arr_fill 16 = .ok (.iinc 3 1, 3) := by decide +kernel
theorem d_Arr_fill_19 : decode b_Arr_fill 19 = .ok (.goto (-13), 3) := by decide +kernel
theorem d_Arr_fill_22 : decode b_Arr_fill 22 = .ok (.return_, 1) := by decide +kernel
end
section
theorem d_TCM_init_0 : decode b_TCM_init 0 = .ok (.aload_n 0, 1) := by decide +kernel
theorem d_TCM_init_1 : decode b_TCM_init 1 = .ok (.invokespecial 3, 3) := by decide +kernel
theorem d_TCM_init_4 : decode b_TCM_init 4 = .ok (.new 9, 3) := by decide +kernel
theorem d_TCM_init_7 : decode b_TCM_init 7 = .ok (.dup, 1) := by decide +kernel
theorem d_TCM_init_8 : decode b_TCM_init 8 = .ok (.invokespecial 11, 3) := by decide +kernel
theorem d_TCM_init_11 : decode b_TCM_init 11 = .ok (.astore_n 1, 1) := by decide +kernel
theorem d_TCM_init_12 : decode b_TCM_init 12 = .ok (.aload_n 0, 1) := by decide +kernel
theorem d_TCM_init_13 : decode b_TCM_init 13 = .ok (.aload_n 1, 1) := by decide +kernel
theorem d_TCM_init_14 : decode b_TCM_init 14 = .ok (.putfield 12, 3) := by decide +kernel
theorem d_TCM_init_17 : decode b_TCM_init 17 = .ok (.aload_n 0, 1) := by decide +kernel
theorem d_TCM_init_18 : decode b_TCM_init 18 = .ok (.new 16, 3) := by decide +kernel
theorem d_TCM_init_21 : decode b_TCM_init 21 = .ok (.dup, 1) := by decide +kernel
theorem d_TCM_init_22 : decode b_TCM_init 22 = .ok (.aload_n 1, 1) := by decide +kernel
theorem d_TCM_init_23 : decode b_TCM_init 23 = .ok (.invokespecial 18, 3) := by decide +kernel
theorem d_TCM_init_26 : decode b_TCM_init 26 = .ok (.putfield 21, 3) := by decide +kernel
theorem d_TCM_init_29 : decode b_TCM_init 29 = .ok (.return_, 1) := by decide +kernel
theorem d_Pro_init_0 : decode b_Pro_init 0 = .ok (.aload_n 0, 1) := by decide +kernel
theorem d_Pro_init_1 : decode b_Pro_init 1 = .ok (.invokespecial 3, 3) := by decide +kernel
theorem d_Pro_init_4 : decode b_Pro_init 4 = .ok (.aload_n 0, 1) := by decide +kernel
theorem d_Pro_init_5 : decode b_Pro_init 5 = .ok (.bipush 68, 2) := by decide +kernel
theorem d_Pro_init_7 : decode b_Pro_init 7 = .ok (.anewarray 11, 3) := by decide +kernel
theorem d_Pro_init_10 : decode b_Pro_init 10 = .ok (.putfield 13, 3) := by decide +kernel
theorem d_Pro_init_13 : decode b_Pro_init 13 = .ok (.aload_n 0, 1) := by decide +kernel
theorem d_Pro_init_14 : decode b_Pro_init 14 = .ok (.iconst 5, 1) := by decide +kernel
theorem d_Pro_init_15 : decode b_Pro_init 15 = .ok (.anewarray 17, 3) := by decide +kernel
theorem d_Pro_init_18 : decode b_Pro_init 18 = .ok (.putfield 19, 3) := by decide +kernel
theorem d_Pro_init_21 : decode b_Pro_init 21 = .ok (.aload_n 0, 1) := by decide +kernel
theorem d_Pro_init_22 : decode b_Pro_init 22 = .ok (.iconst 0, 1) := by decide +kernel
theorem d_Pro_init_23 : decode b_Pro_init 23 = .ok (.putfield 23, 3) := by decide +kernel
theorem d_Pro_init_26 : decode b_Pro_init 26 = .ok (.aload_n 0, 1) := by decide +kernel
theorem d_Pro_init_27 : decode b_Pro_init 27 = .ok (.iconst 0, 1) := by decide +kernel
theorem d_Pro_init_28 : decode b_Pro_init 28 = .ok (.putfield 27, 3) := by decide +kernel
theorem d_Pro_init_31 : decode b_Pro_init 31 = .ok (.aload_n 0, 1) := by decide +kernel
theorem d_Pro_init_32 : decode b_Pro_init 32 = .ok (.iconst 0, 1) := by decide +kernel
theorem d_Pro_init_33 : decode b_Pro_init 33 = .ok (.putfield 30, 3) := by decide +kernel
theorem d_Pro_init_36 : decode b_Pro_init 36 = .ok (.aload_n 0, 1) := by decide +kernel
theorem d_Pro_init_37 : decode b_Pro_init 37 = .ok (.ldc2_w 33, 3) := by decide +kernel
theorem d_Pro_init_40 : decode b_Pro_init 40 = .ok (.putfield 35, 3) := by decide +kernel
theorem d_Pro_init_43 : decode b_Pro_init 43 = .ok (.aload_n 0, 1) := by decide +kernel
theorem d_Pro_init_44 : decode b_Pro_init 44 = .ok (.aload_n 1, 1) := by decide +kernel
theorem d_Pro_init_45 : decode b_Pro_init 45 = .ok (.putfield 39, 3) := by decide +kernel
theorem d_Pro_init_48 : decode b_Pro_init 48 = .ok (.iconst 0, 1) := by decide +kernel
theorem d_Pro_init_49 : decode b_Pro_init 49 = .ok (.istore_n 2, 1) := by decide +kernel
theorem d_Pro_init_50 : decode b_Pro_init 50 = .ok (.iload_n 2, 1) := by decide +kernel
theorem d_Pro_init_51 : decode b_Pro_init 51 = .ok (.bipush 68, 2) := by decide +kernel
theorem d_Pro_init_53 : decode b_Pro_init 53 = .ok (.if_icmp .ge 22, 3) := by decide +kernel
theorem d_Pro_init_56 : decode b_Pro_init 56 = .ok (.aload_n 0, 1) := by decide +kernel
theorem d_Pro_init_57 : decode b_Pro_init 57 = .ok (.getfield 13, 3) := by decide +kernel
theorem d_Pro_init_60 : decode b_Pro_init 60 = .ok (.iload_n 2, 1) := by decide +kernel
theorem d_Pro_init_61 : decode b_Pro_init 61 = .ok (.new 11, 3) := by decide +kernel
theorem d_Pro_init_64 : decode b_Pro_init 64 = .ok (.dup, 1) := by decide +kernel
theorem d_Pro_init_65 : decode b_Pro_init 65 = .ok (.invokespecial 43, 3) := by decide +kernel
theorem d_Pro_init_68 : decode b_Pro_init 68 = .ok (.aastore, 1) := by decide +kernel
theorem d_Pro_init_69 : decode b_Pro_init 69 = .ok (.iinc 2 1, 3) := by decide +kernel
theorem d_Pro_init_72 : decode b_Pro_init 72 = .ok (.goto (-22), 3) := by decide +kernel
theorem d_Pro_init_75 : decode b_Pro_init 75 = .ok (.return_, 1) := by decide +kernel
theorem d_TCM_full_0 : decode b_TCM_full 0 = .ok (.aload_n 0, 1) := by decide +kernel
theorem d_TCM_full_1 : decode b_TCM_full 1 = .ok (.getfield 12, 3) := by decide +kernel
theorem d_TCM_full_4 : decode b_TCM_full 4 = .ok (.getfield 90, 3) := by decide +kernel
theorem d_TCM_full_7 : decode b_TCM_full 7 = .ok (.istore_n 1, 1) := by decide +kernel
theorem d_TCM_full_8 : decode b_TCM_full 8 = .ok (.aload_n 0, 1) := by decide +kernel
theorem d_TCM_full_9 : decode b_TCM_full 9 = .ok (.getfield 12, 3) := by decide +kernel
theorem d_TCM_full_12 : decode b_TCM_full 12 = .ok (.invokevirtual 96, 3) := by decide +kernel
theorem d_TCM_full_15 : decode b_TCM_full 15 = .ok (.aload_n 0, 1) := by decide +kernel
theorem d_TCM_full_16 : decode b_TCM_full 16 = .ok (.getfield 12, 3) := by decide +kernel
theorem d_TCM_full_19 : decode b_TCM_full 19 = .ok (.getfield 90, 3) := by decide +kernel
theorem d_TCM_full_22 : decode b_TCM_full 22 = .ok (.iload_n 1, 1) := by decide +kernel
theorem d_TCM_full_23 : decode b_TCM_full 23 = .ok (.isub, 1) := by decide +kernel
theorem d_TCM_full_24 : decode b_TCM_full 24 = .ok (.ireturn, 1) := by decide +kernel
theorem d_TCM_count_0 : decode b_TCM_count 0 = .ok (.iload_n 1, 1) := by decide +kernel
theorem d_TCM_count_1 : decode b_TCM_count 1 = .ok (.tableswitch 131 0 8 #[51, 67, 75, 83, 91, 99, 107, 115, 123], 51) := by decide +kernel
theorem d_TCM_count_52 : decode b_TCM_count 52 = .ok (.aload_n 0, 1) := by decide +kernel
theorem d_TCM_count_53 : decode b_TCM_count 53 = .ok (.getfield 12, 3) := by decide +kernel
theorem d_TCM_count_56 : decode b_TCM_count 56 = .ok (.getfield 154, 3) := by decide +kernel
theorem d_TCM_count_59 : decode b_TCM_count 59 = .ok (.aload_n 0, 1) := by decide +kernel
theorem d_TCM_count_60 : decode b_TCM_count 60 = .ok (.getfield 12, 3) := by decide +kernel
theorem d_TCM_count_63 : decode b_TCM_count 63 = .ok (.getfield 90, 3) := by decide +kernel
theorem d_TCM_count_66 : decode b_TCM_count 66 = .ok (.isub, 1) := by decide +kernel
theorem d_TCM_count_67 : decode b_TCM_count 67 = .ok (.ireturn, 1) := by decide +kernel
theorem d_TCM_count_68 : decode b_TCM_count 68 = .ok (.aload_n 0, 1) := by decide +kernel
theorem d_TCM_count_69 : decode b_TCM_count 69 = .ok (.getfield 12, 3) := by decide +kernel
theorem d_TCM_count_72 : decode b_TCM_count 72 = .ok (.getfield 157, 3) := by decide +kernel
theorem d_TCM_count_75 : decode b_TCM_count 75 = .ok (.ireturn, 1) := by decide +kernel
theorem d_TCM_count_76 : decode b_TCM_count 76 = .ok (.aload_n 0, 1) := by decide +kernel
theorem d_TCM_count_77 : decode b_TCM_count 77 = .ok (.getfield 12, 3) := by decide +kernel
theorem d_TCM_count_80 : decode b_TCM_count 80 = .ok (.getfield 160, 3) := by decide +kernel
theorem d_TCM_count_83 : decode b_TCM_count 83 = .ok (.ireturn, 1) := by decide +kernel
theorem d_TCM_count_84 : decode b_TCM_count 84 = .ok (.aload_n 0, 1) := by decide +kernel
theorem d_TCM_count_85 : decode b_TCM_count 85 = .ok (.getfield 12, 3) := by decide +kernel
theorem d_TCM_count_88 : decode b_TCM_count 88 = .ok (.getfield 154, 3) := by decide +kernel
theorem d_TCM_count_91 : decode b_TCM_count 91 = .ok (.ireturn, 1) := by decide +kernel
theorem d_TCM_count_92 : decode b_TCM_count 92 = .ok (.aload_n 0, 1) := by decide +kernel
theorem d_TCM_count_93 : decode b_TCM_count 93 = .ok (.getfield 12, 3) := by decide +kernel
theorem d_TCM_count_96 : decode b_TCM_count 96 = .ok (.getfield 90, 3) := by decide +kernel
theorem d_TCM_count_99 : decode b_TCM_count 99 = .ok (.ireturn, 1) := by decide +kernel
theorem d_TCM_count_100 : decode b_TCM_count 100 = .ok (.aload_n 0, 1) := by decide +kernel
theorem d_TCM_count_101 : decode b_TCM_count 101 = .ok (.getfield 21, 3) := by decide +kernel
theorem d_TCM_count_104 : decode b_TCM_count 104 = .ok (.getfield 163, 3) := by decide +kernel
theorem d_TCM_count_107 : decode b_TCM_count 107 = .ok (.ireturn, 1) := by decide +kernel
theorem d_TCM_count_108 : decode b_TCM_count 108 = .ok (.aload_n 0, 1) := by decide +kernel
theorem d_TCM_count_109 : decode b_TCM_count 109 = .ok (.getfield 12, 3) := by decide +kernel
theorem d_TCM_count_112 : decode b_TCM_count 112 = .ok (.invokevirtual 166, 3) := by decide +kernel
theorem d_TCM_count_115 : decode b_TCM_count 115 = .ok (.ireturn, 1) := by decide +kernel
theorem d_TCM_count_116 : decode b_TCM_count 116 = .ok (.aload_n 0, 1) := by decide +kernel
theorem d_TCM_count_117 : decode b_TCM_count 117 = .ok (.getfield 12, 3) := by decide +kernel
theorem d_TCM_count_120 : decode b_TCM_count 120 = .ok (.getfield 170, 3) := by decide +kernel
theorem d_TCM_count_123 : decode b_TCM_count 123 = .ok (.ireturn, 1) := by decide +kernel
theorem d_TCM_count_124 : decode b_TCM_count 124 = .ok (.aload_n 0, 1) := by decide +kernel
theorem d_TCM_count_125 : decode b_TCM_count 125 = .ok (.getfield 12, 3) := by decide +kernel
theorem d_TCM_count_128 : decode b_TCM_count 128 = .ok (.getfield 173, 3) := by decide +kernel
theorem d_TCM_count_131 : decode b_TCM_count 131 = .ok (.ireturn, 1) := by decide +kernel
theorem d_TCM_count_132 : decode b_TCM_count 132 = .ok (.iconst (-1), 1) := by decide +kernel
theorem d_TCM_count_133 : decode b_TCM_count 133 = .ok (.ireturn, 1) := by decide +kernel
theorem d_TCM_code_0 : decode b_TCM_code 0 = .ok (.iload_n 1, 1) := by decide +kernel
theorem d_TCM_code_1 : decode b_TCM_code 1 = .ok (.iconst 0, 1) := by decide +kernel
theorem d_TCM_code_2 : decode b_TCM_code 2 = .ok (.iconst 3, 1) := by decide +kernel
theorem d_TCM_code_3 : decode b_TCM_code 3 = .ok (.invokestatic 25, 3) := by decide +kernel
theorem d_TCM_code_6 : decode b_TCM_code 6 = .ok (.iload_n 2, 1) := by decide +kernel
theorem d_TCM_code_7 : decode b_TCM_code 7 = .ok (.iconst 0, 1) := by decide +kernel
theorem d_TCM_code_8 : decode b_TCM_code 8 = .ok (.bipush 15, 2) := by decide +kernel
theorem d_TCM_code_10 : decode b_TCM_code 10 = .ok (.invokestatic 25, 3) := by decide +kernel
theorem d_TCM_code_13 : decode b_TCM_code 13 = .ok (.iload_n 3, 1) := by decide +kernel
theorem d_TCM_code_14 : decode b_TCM_code 14 = .ok (.iconst (-1), 1) := by decide +kernel
theorem d_TCM_code_15 : decode b_TCM_code 15 = .ok (.bipush 21, 2) := by decide +kernel
theorem d_TCM_code_17 : decode b_TCM_code 17 = .ok (.invokestatic 25, 3) := by decide +kernel
theorem d_TCM_code_20 : decode b_TCM_code 20 = .ok (.aload_n 0, 1) := by decide +kernel
theorem d_TCM_code_21 : decode b_TCM_code 21 = .ok (.getfield 21, 3) := by decide +kernel
theorem d_TCM_code_24 : decode b_TCM_code 24 = .ok (.iload_n 1, 1) := by decide +kernel
theorem d_TCM_code_25 : decode b_TCM_code 25 = .ok (.iload_n 2, 1) := by decide +kernel
theorem d_TCM_code_26 : decode b_TCM_code 26 = .ok (.invokevirtual 29, 3) := by decide +kernel
theorem d_TCM_code_29 : decode b_TCM_code 29 = .ok (.astore 7, 2) := by decide +kernel
theorem d_TCM_code_31 : decode b_TCM_code 31 = .ok (.aload 7, 2) := by decide +kernel
theorem d_TCM_code_33 : decode b_TCM_code 33 = .ok (.iload_n 3, 1) := by decide +kernel
theorem d_TCM_code_34 : decode b_TCM_code 34 = .ok (.putfield 33, 3) := by decide +kernel
theorem d_TCM_code_37 : decode b_TCM_code 37 = .ok (.aload 7, 2) := by decide +kernel
theorem d_TCM_code_39 : decode b_TCM_code 39 = .ok (.iload 4, 2) := by decide +kernel
theorem d_TCM_code_41 : decode b_TCM_code 41 = .ok (.putfield 39, 3) := by decide +kernel
theorem d_TCM_code_44 : decode b_TCM_code 44 = .ok (.aload 7, 2) := by decide +kernel
theorem d_TCM_code_46 : decode b_TCM_code 46 = .ok (.iload 5, 2) := by decide +kernel
theorem d_TCM_code_48 : decode b_TCM_code 48 = .ok (.putfield 42, 3) := by decide +kernel
theorem d_TCM_code_51 : decode b_TCM_code 51 = .ok (.aload 7, 2) := by decide +kernel
theorem d_TCM_code_53 : decode b_TCM_code 53 = .ok (.iload 6, 2) := by decide +kernel
theorem d_TCM_code_55 : decode b_TCM_code 55 = .ok (.putfield 45, 3) := by decide +kernel
theorem d_TCM_code_58 : decode b_TCM_code 58 = .ok (.return_, 1) := by decide +kernel
theorem d_TCM_checkRange_0 : decode b_TCM_checkRange 0 = .ok (.iload_n 0, 1) := by decide +kernel
theorem d_TCM_checkRange_1 : decode b_TCM_checkRange 1 = .ok (.iload_n 1, 1) := by decide +kernel
theorem d_TCM_checkRange_2 : decode b_TCM_checkRange 2 = .ok (.if_icmp .lt 8, 3) := by decide +kernel
theorem d_TCM_checkRange_5 : decode b_TCM_checkRange 5 = .ok (.iload_n 0, 1) := by decide +kernel
theorem d_TCM_checkRange_6 : decode b_TCM_checkRange 6 = .ok (.iload_n 2, 1) := by decide +kernel
theorem d_TCM_checkRange_7 : decode b_TCM_checkRange 7 = .ok (.if_icmp .le 11, 3) := by decide +kernel
theorem d_TCM_checkRange_10 : decode b_TCM_checkRange 10 = .ok (.new 138, 3) := by decide +kernel
theorem d_TCM_checkRange_13 : decode b_TCM_checkRange 13 = .ok (.dup, 1) := by decide +kernel
theorem d_TCM_checkRange_14 : decode b_TCM_checkRange 14 = .ok (.invokespecial 140, 3) := by decide +kernel
theorem d_TCM_checkRange_17 : decode b_TCM_checkRange 17 = .ok (.athrow, 1) := by decide +kernel
theorem d_TCM_checkRange_18 : decode b_TCM_checkRange 18 = .ok (.return_, 1) := by decide +kernel
theorem d_Pro_instructionAt_0 : decode b_Pro_instructionAt 0 = .ok (.aload_n 0, 1) := by decide +kernel
theorem d_Pro_instructionAt_1 : decode b_Pro_instructionAt 1 = .ok (.getfield 13, 3) := by decide +kernel
theorem d_Pro_instructionAt_4 : decode b_Pro_instructionAt 4 = .ok (.iload_n 1, 1) := by decide +kernel
theorem d_Pro_instructionAt_5 : decode b_Pro_instructionAt 5 = .ok (.bipush 17, 2) := by decide +kernel
theorem d_Pro_instructionAt_7 : decode b_Pro_instructionAt 7 = .ok (.imul, 1) := by decide +kernel
theorem d_Pro_instructionAt_8 : decode b_Pro_instructionAt 8 = .ok (.iload_n 2, 1) := by decide +kernel
theorem d_Pro_instructionAt_9 : decode b_Pro_instructionAt 9 = .ok (.iadd, 1) := by decide +kernel
theorem d_Pro_instructionAt_10 : decode b_Pro_instructionAt 10 = .ok (.aaload, 1) := by decide +kernel
theorem d_Pro_instructionAt_11 : decode b_Pro_instructionAt 11 = .ok (.areturn, 1) := by decide +kernel
theorem d_TCM_number_0 : decode b_TCM_number 0 = .ok (.iload_n 1, 1) := by decide +kernel
theorem d_TCM_number_1 : decode b_TCM_number 1 = .ok (.invokestatic 48, 3) := by decide +kernel
theorem d_TCM_number_4 : decode b_TCM_number 4 = .ok (.aload_n 0, 1) := by decide +kernel
theorem d_TCM_number_5 : decode b_TCM_number 5 = .ok (.getfield 12, 3) := by decide +kernel
theorem d_TCM_number_8 : decode b_TCM_number 8 = .ok (.getfield 52, 3) := by decide +kernel
theorem d_TCM_number_11 : decode b_TCM_number 11 = .ok (.iload_n 1, 1) := by decide +kernel
theorem d_TCM_number_12 : decode b_TCM_number 12 = .ok (.iload_n 2, 1) := by decide +kernel
theorem d_TCM_number_13 : decode b_TCM_number 13 = .ok (.i2l, 1) := by decide +kernel
theorem d_TCM_number_14 : decode b_TCM_number 14 = .ok (.lastore, 1) := by decide +kernel
theorem d_TCM_number_15 : decode b_TCM_number 15 = .ok (.return_, 1) := by decide +kernel
theorem d_TCM_checkGlobal_0 : decode b_TCM_checkGlobal 0 = .ok (.iload_n 0, 1) := by decide +kernel
theorem d_TCM_checkGlobal_1 : decode b_TCM_checkGlobal 1 = .ok (.iconst 0, 1) := by decide +kernel
theorem d_TCM_checkGlobal_2 : decode b_TCM_checkGlobal 2 = .ok (.iconst 5, 1) := by decide +kernel
theorem d_TCM_checkGlobal_3 : decode b_TCM_checkGlobal 3 = .ok (.invokestatic 25, 3) := by decide +kernel
theorem d_TCM_checkGlobal_6 : decode b_TCM_checkGlobal 6 = .ok (.return_, 1) := by decide +kernel
theorem d_TCM_move_0 : decode b_TCM_move 0 = .ok (.iload_n 1, 1) := by decide +kernel
theorem d_TCM_move_1 : decode b_TCM_move 1 = .ok (.invokestatic 48, 3) := by decide +kernel
theorem d_TCM_move_4 : decode b_TCM_move 4 = .ok (.iload_n 2, 1) := by decide +kernel
theorem d_TCM_move_5 : decode b_TCM_move 5 = .ok (.iconst (-1), 1) := by decide +kernel
theorem d_TCM_move_6 : decode b_TCM_move 6 = .ok (.iconst 5, 1) := by decide +kernel
theorem d_TCM_move_7 : decode b_TCM_move 7 = .ok (.invokestatic 25, 3) := by decide +kernel
theorem d_TCM_move_10 : decode b_TCM_move 10 = .ok (.aload_n 0, 1) := by decide +kernel
theorem d_TCM_move_11 : decode b_TCM_move 11 = .ok (.getfield 12, 3) := by decide +kernel
theorem d_TCM_move_14 : decode b_TCM_move 14 = .ok (.getfield 52, 3) := by decide +kernel
theorem d_TCM_move_17 : decode b_TCM_move 17 = .ok (.iload_n 1, 1) := by decide +kernel
theorem d_TCM_move_18 : decode b_TCM_move 18 = .ok (.iload_n 2, 1) := by decide +kernel
theorem d_TCM_move_19 : decode b_TCM_move 19 = .ok (.ifCond .ge 9, 3) := by decide +kernel
theorem d_TCM_move_22 : decode b_TCM_move 22 = .ok (.ldc2_w 56, 3) := by decide +kernel
theorem d_TCM_move_25 : decode b_TCM_move 25 = .ok (.goto 12, 3) := by decide +kernel
theorem d_TCM_move_28 : decode b_TCM_move 28 = .ok (.aload_n 0, 1) := by decide +kernel
theorem d_TCM_move_29 : decode b_TCM_move 29 = .ok (.getfield 12, 3) := by decide +kernel
theorem d_TCM_move_32 : decode b_TCM_move 32 = .ok (.getfield 52, 3) := by decide +kernel
theorem d_TCM_move_35 : decode b_TCM_move 35 = .ok (.iload_n 2, 1) := by decide +kernel
theorem d_TCM_move_36 : decode b_TCM_move 36 = .ok (.laload, 1) := by decide +kernel
theorem d_TCM_move_37 : decode b_TCM_move 37 = .ok (.lastore, 1) := by decide +kernel
theorem d_TCM_move_38 : decode b_TCM_move 38 = .ok (.return_, 1) := by decide +kernel
theorem d_TCM_make_0 : decode b_TCM_make 0 = .ok (.iload_n 1, 1) := by decide +kernel
theorem d_TCM_make_1 : decode b_TCM_make 1 = .ok (.invokestatic 48, 3) := by decide +kernel
theorem d_TCM_make_4 : decode b_TCM_make 4 = .ok (.iload_n 2, 1) := by decide +kernel
theorem d_TCM_make_5 : decode b_TCM_make 5 = .ok (.iconst (-1), 1) := by decide +kernel
theorem d_TCM_make_6 : decode b_TCM_make 6 = .ok (.iconst 3, 1) := by decide +kernel
theorem d_TCM_make_7 : decode b_TCM_make 7 = .ok (.invokestatic 25, 3) := by decide +kernel
theorem d_TCM_make_10 : decode b_TCM_make 10 = .ok (.aload_n 0, 1) := by decide +kernel
theorem d_TCM_make_11 : decode b_TCM_make 11 = .ok (.getfield 12, 3) := by decide +kernel
theorem d_TCM_make_14 : decode b_TCM_make 14 = .ok (.iload_n 2, 1) := by decide +kernel
theorem d_TCM_make_15 : decode b_TCM_make 15 = .ok (.ifCond .ge 7, 3) := by decide +kernel
theorem d_TCM_make_18 : decode b_TCM_make 18 = .ok (.iconst 1, 1) := by decide +kernel
theorem d_TCM_make_19 : decode b_TCM_make 19 = .ok (.goto 4, 3) := by decide +kernel
theorem d_TCM_make_22 : decode b_TCM_make 22 = .ok (.iconst 2, 1) := by decide +kernel
theorem d_TCM_make_23 : decode b_TCM_make 23 = .ok (.iload_n 2, 1) := by decide +kernel
theorem d_TCM_make_24 : decode b_TCM_make 24 = .ok (.invokevirtual 58, 3) := by decide +kernel
theorem d_TCM_make_27 : decode b_TCM_make 27 = .ok (.invokestatic 62, 3) := by decide +kernel
theorem d_TCM_make_30 : decode b_TCM_make 30 = .ok (.aload_n 0, 1) := by decide +kernel
theorem d_TCM_make_31 : decode b_TCM_make 31 = .ok (.getfield 12, 3) := by decide +kernel
theorem d_TCM_make_34 : decode b_TCM_make 34 = .ok (.getfield 52, 3) := by decide +kernel
theorem d_TCM_make_37 : decode b_TCM_make 37 = .ok (.iload_n 1, 1) := by decide +kernel
theorem d_TCM_make_38 : decode b_TCM_make 38 = .ok (.aload_n 0, 1) := by decide +kernel
theorem d_TCM_make_39 : decode b_TCM_make 39 = .ok (.getfield 12, 3) := by decide +kernel
theorem d_TCM_make_42 : decode b_TCM_make 42 = .ok (.getfield 65, 3) := by decide +kernel
theorem d_TCM_make_45 : decode b_TCM_make 45 = .ok (.lastore, 1) := by decide +kernel
theorem d_TCM_make_46 : decode b_TCM_make 46 = .ok (.aload_n 0, 1) := by decide +kernel
theorem d_TCM_make_47 : decode b_TCM_make 47 = .ok (.getfield 12, 3) := by decide +kernel
theorem d_TCM_make_50 : decode b_TCM_make 50 = .ok (.getfield 65, 3) := by decide +kernel
theorem d_TCM_make_53 : decode b_TCM_make 53 = .ok (.invokestatic 69, 3) := by decide +kernel
theorem d_TCM_make_56 : decode b_TCM_make 56 = .ok (.ireturn, 1) := by decide +kernel
theorem d_TCM_raise_0 : decode b_TCM_raise 0 = .ok (.iload_n 0, 1) := by decide +kernel
theorem d_TCM_raise_1 : decode b_TCM_raise 1 = .ok (.iconst 1, 1) := by decide +kernel
theorem d_TCM_raise_2 : decode b_TCM_raise 2 = .ok (.if_icmp .ne 11, 3) := by decide +kernel
theorem d_TCM_raise_5 : decode b_TCM_raise 5 = .ok (.new 176, 3) := by decide +kernel
theorem d_TCM_raise_8 : decode b_TCM_raise 8 = .ok (.dup, 1) := by decide +kernel
theorem d_TCM_raise_9 : decode b_TCM_raise 9 = .ok (.invokespecial 178, 3) := by decide +kernel
theorem d_TCM_raise_12 : decode b_TCM_raise 12 = .ok (.athrow, 1) := by decide +kernel
theorem d_TCM_raise_13 : decode b_TCM_raise 13 = .ok (.iload_n 0, 1) := by decide +kernel
theorem d_TCM_raise_14 : decode b_TCM_raise 14 = .ok (.ifCond .eq 11, 3) := by decide +kernel
theorem d_TCM_raise_17 : decode b_TCM_raise 17 = .ok (.new 179, 3) := by decide +kernel
theorem d_TCM_raise_20 : decode b_TCM_raise 20 = .ok (.dup, 1) := by decide +kernel
theorem d_TCM_raise_21 : decode b_TCM_raise 21 = .ok (.invokespecial 181, 3) := by decide +kernel
theorem d_TCM_raise_24 : decode b_TCM_raise 24 = .ok (.athrow, 1) := by decide +kernel
theorem d_TCM_raise_25 : decode b_TCM_raise 25 = .ok (.return_, 1) := by decide +kernel
theorem d_TCM_numberOf_0 : decode b_TCM_numberOf 0 = .ok (.lload_n 0, 1) := by decide +kernel
theorem d_TCM_numberOf_1 : decode b_TCM_numberOf 1 = .ok (.ldc2_w 186, 3) := by decide +kernel
theorem d_TCM_numberOf_4 : decode b_TCM_numberOf 4 = .ok (.lsub, 1) := by decide +kernel
theorem d_TCM_numberOf_5 : decode b_TCM_numberOf 5 = .ok (.l2i, 1) := by decide +kernel
theorem d_TCM_numberOf_6 : decode b_TCM_numberOf 6 = .ok (.ireturn, 1) := by decide +kernel
theorem d_TCM_set_0 : decode b_TCM_set 0 = .ok (.iload_n 1, 1) := by decide +kernel
theorem d_TCM_set_1 : decode b_TCM_set 1 = .ok (.invokestatic 48, 3) := by decide +kernel
theorem d_TCM_set_4 : decode b_TCM_set 4 = .ok (.iload_n 2, 1) := by decide +kernel
theorem d_TCM_set_5 : decode b_TCM_set 5 = .ok (.invokestatic 48, 3) := by decide +kernel
theorem d_TCM_set_8 : decode b_TCM_set 8 = .ok (.iload_n 3, 1) := by decide +kernel
theorem d_TCM_set_9 : decode b_TCM_set 9 = .ok (.invokestatic 48, 3) := by decide +kernel
theorem d_TCM_set_12 : decode b_TCM_set 12 = .ok (.aload_n 0, 1) := by decide +kernel
theorem d_TCM_set_13 : decode b_TCM_set 13 = .ok (.getfield 12, 3) := by decide +kernel
theorem d_TCM_set_16 : decode b_TCM_set 16 = .ok (.aload_n 0, 1) := by decide +kernel
theorem d_TCM_set_17 : decode b_TCM_set 17 = .ok (.getfield 12, 3) := by decide +kernel
theorem d_TCM_set_20 : decode b_TCM_set 20 = .ok (.getfield 52, 3) := by decide +kernel
theorem d_TCM_set_23 : decode b_TCM_set 23 = .ok (.iload_n 1, 1) := by decide +kernel
theorem d_TCM_set_24 : decode b_TCM_set 24 = .ok (.laload, 1) := by decide +kernel
theorem d_TCM_set_25 : decode b_TCM_set 25 = .ok (.aload_n 0, 1) := by decide +kernel
theorem d_TCM_set_26 : decode b_TCM_set 26 = .ok (.getfield 12, 3) := by decide +kernel
theorem d_TCM_set_29 : decode b_TCM_set 29 = .ok (.getfield 52, 3) := by decide +kernel
theorem d_TCM_set_32 : decode b_TCM_set 32 = .ok (.iload_n 2, 1) := by decide +kernel
theorem d_TCM_set_33 : decode b_TCM_set 33 = .ok (.laload, 1) := by decide +kernel
theorem d_TCM_set_34 : decode b_TCM_set 34 = .ok (.aload_n 0, 1) := by decide +kernel
theorem d_TCM_set_35 : decode b_TCM_set 35 = .ok (.getfield 12, 3) := by decide +kernel
theorem d_TCM_set_38 : decode b_TCM_set 38 = .ok (.getfield 52, 3) := by decide +kernel
theorem d_TCM_set_41 : decode b_TCM_set 41 = .ok (.iload_n 3, 1) := by decide +kernel
theorem d_TCM_set_42 : decode b_TCM_set 42 = .ok (.laload, 1) := by decide +kernel
theorem d_TCM_set_43 : decode b_TCM_set 43 = .ok (.invokevirtual 73, 3) := by decide +kernel
theorem d_TCM_set_46 : decode b_TCM_set 46 = .ok (.invokestatic 62, 3) := by decide +kernel
theorem d_TCM_set_49 : decode b_TCM_set 49 = .ok (.return_, 1) := by decide +kernel
theorem d_TCM_get_0 : decode b_TCM_get 0 = .ok (.iload_n 1, 1) := by decide +kernel
theorem d_TCM_get_1 : decode b_TCM_get 1 = .ok (.invokestatic 48, 3) := by decide +kernel
theorem d_TCM_get_4 : decode b_TCM_get 4 = .ok (.iload_n 2, 1) := by decide +kernel
theorem d_TCM_get_5 : decode b_TCM_get 5 = .ok (.invokestatic 48, 3) := by decide +kernel
theorem d_TCM_get_8 : decode b_TCM_get 8 = .ok (.iload_n 3, 1) := by decide +kernel
theorem d_TCM_get_9 : decode b_TCM_get 9 = .ok (.invokestatic 48, 3) := by decide +kernel
theorem d_TCM_get_12 : decode b_TCM_get 12 = .ok (.aload_n 0, 1) := by decide +kernel
theorem d_TCM_get_13 : decode b_TCM_get 13 = .ok (.getfield 12, 3) := by decide +kernel
theorem d_TCM_get_16 : decode b_TCM_get 16 = .ok (.aload_n 0, 1) := by decide +kernel
theorem d_TCM_get_17 : decode b_TCM_get 17 = .ok (.getfield 12, 3) := by decide +kernel
theorem d_TCM_get_20 : decode b_TCM_get 20 = .ok (.getfield 52, 3) := by decide +kernel
theorem d_TCM_get_23 : decode b_TCM_get 23 = .ok (.iload_n 1, 1) := by decide +kernel
theorem d_TCM_get_24 : decode b_TCM_get 24 = .ok (.laload, 1) := by decide +kernel
theorem d_TCM_get_25 : decode b_TCM_get 25 = .ok (.aload_n 0, 1) := by decide +kernel
theorem d_TCM_get_26 : decode b_TCM_get 26 = .ok (.getfield 12, 3) := by decide +kernel
theorem d_TCM_get_29 : decode b_TCM_get 29 = .ok (.getfield 52, 3) := by decide +kernel
theorem d_TCM_get_32 : decode b_TCM_get 32 = .ok (.iload_n 2, 1) := by decide +kernel
theorem d_TCM_get_33 : decode b_TCM_get 33 = .ok (.laload, 1) := by decide +kernel
theorem d_TCM_get_34 : decode b_TCM_get 34 = .ok (.invokevirtual 77, 3) := by decide +kernel
theorem d_TCM_get_37 : decode b_TCM_get 37 = .ok (.invokestatic 62, 3) := by decide +kernel
theorem d_TCM_get_40 : decode b_TCM_get 40 = .ok (.aload_n 0, 1) := by decide +kernel
theorem d_TCM_get_41 : decode b_TCM_get 41 = .ok (.getfield 12, 3) := by decide +kernel
theorem d_TCM_get_44 : decode b_TCM_get 44 = .ok (.getfield 52, 3) := by decide +kernel
theorem d_TCM_get_47 : decode b_TCM_get 47 = .ok (.iload_n 3, 1) := by decide +kernel
theorem d_TCM_get_48 : decode b_TCM_get 48 = .ok (.aload_n 0, 1) := by decide +kernel
theorem d_TCM_get_49 : decode b_TCM_get 49 = .ok (.getfield 12, 3) := by decide +kernel
theorem d_TCM_get_52 : decode b_TCM_get 52 = .ok (.getfield 65, 3) := by decide +kernel
theorem d_TCM_get_55 : decode b_TCM_get 55 = .ok (.lastore, 1) := by decide +kernel
theorem d_TCM_get_56 : decode b_TCM_get 56 = .ok (.aload_n 0, 1) := by decide +kernel
theorem d_TCM_get_57 : decode b_TCM_get 57 = .ok (.getfield 12, 3) := by decide +kernel
theorem d_TCM_get_60 : decode b_TCM_get 60 = .ok (.getfield 65, 3) := by decide +kernel
theorem d_TCM_get_63 : decode b_TCM_get 63 = .ok (.lreturn, 1) := by decide +kernel
theorem d_TCM_meta_0 : decode b_TCM_meta 0 = .ok (.iload_n 1, 1) := by decide +kernel
theorem d_TCM_meta_1 : decode b_TCM_meta 1 = .ok (.invokestatic 48, 3) := by decide +kernel
theorem d_TCM_meta_4 : decode b_TCM_meta 4 = .ok (.iload_n 2, 1) := by decide +kernel
theorem d_TCM_meta_5 : decode b_TCM_meta 5 = .ok (.invokestatic 48, 3) := by decide +kernel
theorem d_TCM_meta_8 : decode b_TCM_meta 8 = .ok (.aload_n 0, 1) := by decide +kernel
theorem d_TCM_meta_9 : decode b_TCM_meta 9 = .ok (.getfield 12, 3) := by decide +kernel
theorem d_TCM_meta_12 : decode b_TCM_meta 12 = .ok (.aload_n 0, 1) := by decide +kernel
theorem d_TCM_meta_13 : decode b_TCM_meta 13 = .ok (.getfield 12, 3) := by decide +kernel
theorem d_TCM_meta_16 : decode b_TCM_meta 16 = .ok (.getfield 52, 3) := by decide +kernel
theorem d_TCM_meta_19 : decode b_TCM_meta 19 = .ok (.iload_n 1, 1) := by decide +kernel
theorem d_TCM_meta_20 : decode b_TCM_meta 20 = .ok (.laload, 1) := by decide +kernel
theorem d_TCM_meta_21 : decode b_TCM_meta 21 = .ok (.aload_n 0, 1) := by decide +kernel
theorem d_TCM_meta_22 : decode b_TCM_meta 22 = .ok (.getfield 12, 3) := by decide +kernel
theorem d_TCM_meta_25 : decode b_TCM_meta 25 = .ok (.getfield 52, 3) := by decide +kernel
theorem d_TCM_meta_28 : decode b_TCM_meta 28 = .ok (.iload_n 2, 1) := by decide +kernel
theorem d_TCM_meta_29 : decode b_TCM_meta 29 = .ok (.laload, 1) := by decide +kernel
theorem d_TCM_meta_30 : decode b_TCM_meta 30 = .ok (.invokevirtual 81, 3) := by decide +kernel
theorem d_TCM_meta_33 : decode b_TCM_meta 33 = .ok (.invokestatic 62, 3) := by decide +kernel
theorem d_TCM_meta_36 : decode b_TCM_meta 36 = .ok (.return_, 1) := by decide +kernel
theorem d_TCM_resume_0 : decode b_TCM_resume 0 = .ok (.iload_n 1, 1) := by decide +kernel
theorem d_TCM_resume_1 : decode b_TCM_resume 1 = .ok (.invokestatic 48, 3) := by decide +kernel
theorem d_TCM_resume_4 : decode b_TCM_resume 4 = .ok (.iload_n 2, 1) := by decide +kernel
theorem d_TCM_resume_5 : decode b_TCM_resume 5 = .ok (.invokestatic 48, 3) := by decide +kernel
theorem d_TCM_resume_8 : decode b_TCM_resume 8 = .ok (.iload_n 3, 1) := by decide +kernel
theorem d_TCM_resume_9 : decode b_TCM_resume 9 = .ok (.invokestatic 48, 3) := by decide +kernel
theorem d_TCM_resume_12 : decode b_TCM_resume 12 = .ok (.aload_n 0, 1) := by decide +kernel
theorem d_TCM_resume_13 : decode b_TCM_resume 13 = .ok (.getfield 21, 3) := by decide +kernel
theorem d_TCM_resume_16 : decode b_TCM_resume 16 = .ok (.aload_n 0, 1) := by decide +kernel
theorem d_TCM_resume_17 : decode b_TCM_resume 17 = .ok (.getfield 12, 3) := by decide +kernel
theorem d_TCM_resume_20 : decode b_TCM_resume 20 = .ok (.getfield 52, 3) := by decide +kernel
theorem d_TCM_resume_23 : decode b_TCM_resume 23 = .ok (.iload_n 1, 1) := by decide +kernel
theorem d_TCM_resume_24 : decode b_TCM_resume 24 = .ok (.laload, 1) := by decide +kernel
theorem d_TCM_resume_25 : decode b_TCM_resume 25 = .ok (.aload_n 0, 1) := by decide +kernel
theorem d_TCM_resume_26 : decode b_TCM_resume 26 = .ok (.getfield 12, 3) := by decide +kernel
theorem d_TCM_resume_29 : decode b_TCM_resume 29 = .ok (.getfield 52, 3) := by decide +kernel
theorem d_TCM_resume_32 : decode b_TCM_resume 32 = .ok (.iload_n 2, 1) := by decide +kernel
theorem d_TCM_resume_33 : decode b_TCM_resume 33 = .ok (.laload, 1) := by decide +kernel
theorem d_TCM_resume_34 : decode b_TCM_resume 34 = .ok (.invokevirtual 84, 3) := by decide +kernel
theorem d_TCM_resume_37 : decode b_TCM_resume 37 = .ok (.invokestatic 62, 3) := by decide +kernel
theorem d_TCM_resume_40 : decode b_TCM_resume 40 = .ok (.aload_n 0, 1) := by decide +kernel
theorem d_TCM_resume_41 : decode b_TCM_resume 41 = .ok (.getfield 12, 3) := by decide +kernel
theorem d_TCM_resume_44 : decode b_TCM_resume 44 = .ok (.getfield 52, 3) := by decide +kernel
theorem d_TCM_resume_47 : decode b_TCM_resume 47 = .ok (.iload_n 3, 1) := by decide +kernel
theorem d_TCM_resume_48 : decode b_TCM_resume 48 = .ok (.aload_n 0, 1) := by decide +kernel
theorem d_TCM_resume_49 : decode b_TCM_resume 49 = .ok (.getfield 21, 3) := by decide +kernel
theorem d_TCM_resume_52 : decode b_TCM_resume 52 = .ok (.getfield 87, 3) := by decide +kernel
theorem d_TCM_resume_55 : decode b_TCM_resume 55 = .ok (.lastore, 1) := by decide +kernel
theorem d_TCM_resume_56 : decode b_TCM_resume 56 = .ok (.aload_n 0, 1) := by decide +kernel
theorem d_TCM_resume_57 : decode b_TCM_resume 57 = .ok (.getfield 21, 3) := by decide +kernel
theorem d_TCM_resume_60 : decode b_TCM_resume 60 = .ok (.getfield 87, 3) := by decide +kernel
theorem d_TCM_resume_63 : decode b_TCM_resume 63 = .ok (.lreturn, 1) := by decide +kernel
theorem d_Pro_run_0 : decode b_Pro_run 0 = .ok (.aload_n 0, 1) := by decide +kernel
theorem d_Pro_run_1 : decode b_Pro_run 1 = .ok (.lload_n 1, 1) := by decide +kernel
theorem d_Pro_run_2 : decode b_Pro_run 2 = .ok (.lload_n 3, 1) := by decide +kernel
theorem d_Pro_run_3 : decode b_Pro_run 3 = .ok (.invokevirtual 44, 3) := by decide +kernel
theorem d_Pro_run_6 : decode b_Pro_run 6 = .ok (.istore 5, 2) := by decide +kernel
theorem d_Pro_run_8 : decode b_Pro_run 8 = .ok (.iconst 0, 1) := by decide +kernel
theorem d_Pro_run_9 : decode b_Pro_run 9 = .ok (.istore 6, 2) := by decide +kernel
theorem d_Pro_run_11 : decode b_Pro_run 11 = .ok (.iload 6, 2) := by decide +kernel
theorem d_Pro_run_13 : decode b_Pro_run 13 = .ok (.sipush 200, 3) := by decide +kernel
theorem d_Pro_run_16 : decode b_Pro_run 16 = .ok (.if_icmp .ge 70, 3) := by decide +kernel
theorem d_Pro_run_19 : decode b_Pro_run 19 = .ok (.iload 5, 2) := by decide +kernel
theorem d_Pro_run_21 : decode b_Pro_run 21 = .ok (.ifCond .ne 65, 3) := by decide +kernel
theorem d_Pro_run_24 : decode b_Pro_run 24 = .ok (.aload_n 0, 1) := by decide +kernel
theorem d_Pro_run_25 : decode b_Pro_run 25 = .ok (.getfield 23, 3) := by decide +kernel
theorem d_Pro_run_28 : decode b_Pro_run 28 = .ok (.ifCond .le 58, 3) := by decide +kernel
theorem d_Pro_run_31 : decode b_Pro_run 31 = .ok (.aload_n 0, 1) := by decide +kernel
theorem d_Pro_run_32 : decode b_Pro_run 32 = .ok (.getfield 19, 3) := by decide +kernel
theorem d_Pro_run_35 : decode b_Pro_run 35 = .ok (.aload_n 0, 1) := by decide +kernel
theorem d_Pro_run_36 : decode b_Pro_run 36 = .ok (.getfield 23, 3) := by decide +kernel
theorem d_Pro_run_39 : decode b_Pro_run 39 = .ok (.iconst 1, 1) := by decide +kernel
theorem d_Pro_run_40 : decode b_Pro_run 40 = .ok (.isub, 1) := by decide +kernel
theorem d_Pro_run_41 : decode b_Pro_run 41 = .ok (.aaload, 1) := by decide +kernel
theorem d_Pro_run_42 : decode b_Pro_run 42 = .ok (.astore 7, 2) := by decide +kernel
theorem d_Pro_run_44 : decode b_Pro_run 44 = .ok (.aload_n 0, 1) := by decide +kernel
theorem d_Pro_run_45 : decode b_Pro_run 45 = .ok (.aload 7, 2) := by decide +kernel
theorem d_Pro_run_47 : decode b_Pro_run 47 = .ok (.aload_n 0, 1) := by decide +kernel
theorem d_Pro_run_48 : decode b_Pro_run 48 = .ok (.aload 7, 2) := by decide +kernel
theorem d_Pro_run_50 : decode b_Pro_run 50 = .ok (.getfield 48, 3) := by decide +kernel
theorem d_Pro_run_53 : decode b_Pro_run 53 = .ok (.aload 7, 2) := by decide +kernel
theorem d_Pro_run_55 : decode b_Pro_run 55 = .ok (.getfield 51, 3) := by decide +kernel
theorem d_Pro_run_58 : decode b_Pro_run 58 = .ok (.invokevirtual 54, 3) := by decide +kernel
theorem d_Pro_run_61 : decode b_Pro_run 61 = .ok (.invokevirtual 58, 3) := by decide +kernel
theorem d_Pro_run_64 : decode b_Pro_run 64 = .ok (.istore 5, 2) := by decide +kernel
theorem d_Pro_run_66 : decode b_Pro_run 66 = .ok (.iload 5, 2) := by decide +kernel
theorem d_Pro_run_68 : decode b_Pro_run 68 = .ok (.ifCond .ne 12, 3) := by decide +kernel
theorem d_Pro_run_71 : decode b_Pro_run 71 = .ok (.aload 7, 2) := by decide +kernel
theorem d_Pro_run_73 : decode b_Pro_run 73 = .ok (.aload_n 0, 1) := by decide +kernel
theorem d_Pro_run_74 : decode b_Pro_run 74 = .ok (.getfield 30, 3) := by decide +kernel
theorem d_Pro_run_77 : decode b_Pro_run 77 = .ok (.putfield 51, 3) := by decide +kernel
theorem d_Pro_run_80 : decode b_Pro_run 80 = .ok (.iinc 6 1, 3) := by decide +kernel
theorem d_Pro_run_83 : decode b_Pro_run 83 = .ok (.goto (-72), 3) := by decide +kernel
theorem d_Pro_run_86 : decode b_Pro_run 86 = .ok (.iload 5, 2) := by decide +kernel
theorem d_Pro_run_88 : decode b_Pro_run 88 = .ok (.ifCond .ne 13, 3) := by decide +kernel
theorem d_Pro_run_91 : decode b_Pro_run 91 = .ok (.aload_n 0, 1) := by decide +kernel
theorem d_Pro_run_92 : decode b_Pro_run 92 = .ok (.getfield 23, 3) := by decide +kernel
theorem d_Pro_run_95 : decode b_Pro_run 95 = .ok (.ifCond .le 6, 3) := by decide +kernel
theorem d_Pro_run_98 : decode b_Pro_run 98 = .ok (.iconst 2, 1) := by decide +kernel
theorem d_Pro_run_99 : decode b_Pro_run 99 = .ok (.istore 5, 2) := by decide +kernel
theorem d_Pro_run_101 : decode b_Pro_run 101 = .ok (.aload_n 0, 1) := by decide +kernel
theorem d_Pro_run_102 : decode b_Pro_run 102 = .ok (.invokevirtual 62, 3) := by decide +kernel
theorem d_Pro_run_105 : decode b_Pro_run 105 = .ok (.iload 5, 2) := by decide +kernel
theorem d_Pro_run_107 : decode b_Pro_run 107 = .ok (.ireturn, 1) := by decide +kernel
theorem d_Pro_enter_0 : decode b_Pro_enter 0 = .ok (.aload_n 0, 1) := by decide +kernel
theorem d_Pro_enter_1 : decode b_Pro_enter 1 = .ok (.getfield 39, 3) := by decide +kernel
theorem d_Pro_enter_4 : decode b_Pro_enter 4 = .ok (.iconst 2, 1) := by decide +kernel
theorem d_Pro_enter_5 : decode b_Pro_enter 5 = .ok (.lload_n 1, 1) := by decide +kernel
theorem d_Pro_enter_6 : decode b_Pro_enter 6 = .ok (.invokevirtual 65, 3) := by decide +kernel
theorem d_Pro_enter_9 : decode b_Pro_enter 9 = .ok (.ifCond .ne 5, 3) := by decide +kernel
theorem d_Pro_enter_12 : decode b_Pro_enter 12 = .ok (.iconst 1, 1) := by decide +kernel
theorem d_Pro_enter_13 : decode b_Pro_enter 13 = .ok (.ireturn, 1) := by decide +kernel
theorem d_Pro_enter_14 : decode b_Pro_enter 14 = .ok (.lload_n 1, 1) := by decide +kernel
theorem d_Pro_enter_15 : decode b_Pro_enter 15 = .ok (.invokestatic 71, 3) := by decide +kernel
theorem d_Pro_enter_18 : decode b_Pro_enter 18 = .ok (.istore 5, 2) := by decide +kernel
theorem d_Pro_enter_20 : decode b_Pro_enter 20 = .ok (.aload_n 0, 1) := by decide +kernel
theorem d_Pro_enter_21 : decode b_Pro_enter 21 = .ok (.getfield 39, 3) := by decide +kernel
theorem d_Pro_enter_24 : decode b_Pro_enter 24 = .ok (.getfield 75, 3) := by decide +kernel
theorem d_Pro_enter_27 : decode b_Pro_enter 27 = .ok (.iload 5, 2) := by decide +kernel
theorem d_Pro_enter_29 : decode b_Pro_enter 29 = .ok (.aaload, 1) := by decide +kernel
theorem d_Pro_enter_30 : decode b_Pro_enter 30 = .ok (.getfield 79, 3) := by decide +kernel
theorem d_Pro_enter_33 : decode b_Pro_enter 33 = .ok (.astore 6, 2) := by decide +kernel
theorem d_Pro_enter_35 : decode b_Pro_enter 35 = .ok (.aload 6, 2) := by decide +kernel
theorem d_Pro_enter_37 : decode b_Pro_enter 37 = .ok (.getfield 85, 3) := by decide +kernel
theorem d_Pro_enter_40 : decode b_Pro_enter 40 = .ok (.iconst 3, 1) := by decide +kernel
theorem d_Pro_enter_41 : decode b_Pro_enter 41 = .ok (.if_icmp .eq 12, 3) := by decide +kernel
theorem d_Pro_enter_44 : decode b_Pro_enter 44 = .ok (.aload 6, 2) := by decide +kernel
theorem d_Pro_enter_46 : decode b_Pro_enter 46 = .ok (.getfield 85, 3) := by decide +kernel
theorem d_Pro_enter_49 : decode b_Pro_enter 49 = .ok (.iconst 2, 1) := by decide +kernel
theorem d_Pro_enter_50 : decode b_Pro_enter 50 = .ok (.if_icmp .ne 5, 3) := by decide +kernel
theorem d_Pro_enter_53 : decode b_Pro_enter 53 = .ok (.iconst 1, 1) := by decide +kernel
theorem d_Pro_enter_54 : decode b_Pro_enter 54 = .ok (.ireturn, 1) := by decide +kernel
theorem d_Pro_enter_55 : decode b_Pro_enter 55 = .ok (.aload_n 0, 1) := by decide +kernel
theorem d_Pro_enter_56 : decode b_Pro_enter 56 = .ok (.getfield 23, 3) := by decide +kernel
theorem d_Pro_enter_59 : decode b_Pro_enter 59 = .ok (.iconst 5, 1) := by decide +kernel
theorem d_Pro_enter_60 : decode b_Pro_enter 60 = .ok (.if_icmp .ne 5, 3) := by decide +kernel
theorem d_Pro_enter_63 : decode b_Pro_enter 63 = .ok (.iconst 2, 1) := by decide +kernel
theorem d_Pro_enter_64 : decode b_Pro_enter 64 = .ok (.ireturn, 1) := by decide +kernel
theorem d_Pro_enter_65 : decode b_Pro_enter 65 = .ok (.aload 6, 2) := by decide +kernel
theorem d_Pro_enter_67 : decode b_Pro_enter 67 = .ok (.getfield 88, 3) := by decide +kernel
theorem d_Pro_enter_70 : decode b_Pro_enter 70 = .ok (.aload 6, 2) := by decide +kernel
theorem d_Pro_enter_72 : decode b_Pro_enter 72 = .ok (.getfield 92, 3) := by decide +kernel
theorem d_Pro_enter_75 : decode b_Pro_enter 75 = .ok (.lload_n 3, 1) := by decide +kernel
theorem d_Pro_enter_76 : decode b_Pro_enter 76 = .ok (.lastore, 1) := by decide +kernel
theorem d_Pro_enter_77 : decode b_Pro_enter 77 = .ok (.aload 6, 2) := by decide +kernel
theorem d_Pro_enter_79 : decode b_Pro_enter 79 = .ok (.iconst 2, 1) := by decide +kernel
theorem d_Pro_enter_80 : decode b_Pro_enter 80 = .ok (.putfield 85, 3) := by decide +kernel
theorem d_Pro_enter_83 : decode b_Pro_enter 83 = .ok (.aload_n 0, 1) := by decide +kernel
theorem d_Pro_enter_84 : decode b_Pro_enter 84 = .ok (.getfield 39, 3) := by decide +kernel
theorem d_Pro_enter_87 : decode b_Pro_enter 87 = .ok (.iload 5, 2) := by decide +kernel
theorem d_Pro_enter_89 : decode b_Pro_enter 89 = .ok (.invokevirtual 95, 3) := by decide +kernel
theorem d_Pro_enter_92 : decode b_Pro_enter 92 = .ok (.aload_n 0, 1) := by decide +kernel
theorem d_Pro_enter_93 : decode b_Pro_enter 93 = .ok (.getfield 19, 3) := by decide +kernel
theorem d_Pro_enter_96 : decode b_Pro_enter 96 = .ok (.aload_n 0, 1) := by decide +kernel
theorem d_Pro_enter_97 : decode b_Pro_enter 97 = .ok (.getfield 23, 3) := by decide +kernel
theorem d_Pro_enter_100 : decode b_Pro_enter 100 = .ok (.aload 6, 2) := by decide +kernel
theorem d_Pro_enter_102 : decode b_Pro_enter 102 = .ok (.aastore, 1) := by decide +kernel
theorem d_Pro_enter_103 : decode b_Pro_enter 103 = .ok (.aload_n 0, 1) := by decide +kernel
theorem d_Pro_enter_104 : decode b_Pro_enter 104 = .ok (.dup, 1) := by decide +kernel
theorem d_Pro_enter_105 : decode b_Pro_enter 105 = .ok (.getfield 23, 3) := by decide +kernel
theorem d_Pro_enter_108 : decode b_Pro_enter 108 = .ok (.iconst 1, 1) := by decide +kernel
theorem d_Pro_enter_109 : decode b_Pro_enter 109 = .ok (.iadd, 1) := by decide +kernel
theorem d_Pro_enter_110 : decode b_Pro_enter 110 = .ok (.putfield 23, 3) := by decide +kernel
theorem d_Pro_enter_113 : decode b_Pro_enter 113 = .ok (.iconst 0, 1) := by decide +kernel
theorem d_Pro_enter_114 : decode b_Pro_enter 114 = .ok (.ireturn, 1) := by decide +kernel
theorem d_Pro_perform_0 : decode b_Pro_perform 0 = .ok (.aload_n 2, 1) := by decide +kernel
theorem d_Pro_perform_1 : decode b_Pro_perform 1 = .ok (.getfield 102, 3) := by decide +kernel
theorem d_Pro_perform_4 : decode b_Pro_perform 4 = .ok (.iconst (-1), 1) := by decide +kernel
theorem d_Pro_perform_5 : decode b_Pro_perform 5 = .ok (.if_icmp .ne 5, 3) := by decide +kernel
theorem d_Pro_perform_8 : decode b_Pro_perform 8 = .ok (.iconst 1, 1) := by decide +kernel
theorem d_Pro_perform_9 : decode b_Pro_perform 9 = .ok (.ireturn, 1) := by decide +kernel
theorem d_Pro_perform_10 : decode b_Pro_perform 10 = .ok (.aload_n 0, 1) := by decide +kernel
theorem d_Pro_perform_11 : decode b_Pro_perform 11 = .ok (.dup, 1) := by decide +kernel
theorem d_Pro_perform_12 : decode b_Pro_perform 12 = .ok (.getfield 27, 3) := by decide +kernel
theorem d_Pro_perform_15 : decode b_Pro_perform 15 = .ok (.iconst 1, 1) := by decide +kernel
theorem d_Pro_perform_16 : decode b_Pro_perform 16 = .ok (.iadd, 1) := by decide +kernel
theorem d_Pro_perform_17 : decode b_Pro_perform 17 = .ok (.putfield 27, 3) := by decide +kernel
theorem d_Pro_perform_20 : decode b_Pro_perform 20 = .ok (.aload_n 0, 1) := by decide +kernel
theorem d_Pro_perform_21 : decode b_Pro_perform 21 = .ok (.aload_n 1, 1) := by decide +kernel
theorem d_Pro_perform_22 : decode b_Pro_perform 22 = .ok (.getfield 51, 3) := by decide +kernel
theorem d_Pro_perform_25 : decode b_Pro_perform 25 = .ok (.iconst 1, 1) := by decide +kernel
theorem d_Pro_perform_26 : decode b_Pro_perform 26 = .ok (.iadd, 1) := by decide +kernel
theorem d_Pro_perform_27 : decode b_Pro_perform 27 = .ok (.putfield 30, 3) := by decide +kernel
theorem d_Pro_perform_30 : decode b_Pro_perform 30 = .ok (.aload_n 1, 1) := by decide +kernel
theorem d_Pro_perform_31 : decode b_Pro_perform 31 = .ok (.getfield 88, 3) := by decide +kernel
theorem d_Pro_perform_34 : decode b_Pro_perform 34 = .ok (.astore_n 3, 1) := by decide +kernel
theorem d_Pro_perform_35 : decode b_Pro_perform 35 = .ok (.aload_n 2, 1) := by decide +kernel
theorem d_Pro_perform_36 : decode b_Pro_perform 36 = .ok (.getfield 105, 3) := by decide +kernel
theorem d_Pro_perform_39 : decode b_Pro_perform 39 = .ok (.iconst 4, 1) := by decide +kernel
theorem d_Pro_perform_40 : decode b_Pro_perform 40 = .ok (.invokestatic 108, 3) := by decide +kernel
theorem d_Pro_perform_43 : decode b_Pro_perform 43 = .ok (.istore 4, 2) := by decide +kernel
theorem d_Pro_perform_45 : decode b_Pro_perform 45 = .ok (.aload_n 2, 1) := by decide +kernel
theorem d_Pro_perform_46 : decode b_Pro_perform 46 = .ok (.getfield 114, 3) := by decide +kernel
theorem d_Pro_perform_49 : decode b_Pro_perform 49 = .ok (.iconst 4, 1) := by decide +kernel
theorem d_Pro_perform_50 : decode b_Pro_perform 50 = .ok (.invokestatic 108, 3) := by decide +kernel
theorem d_Pro_perform_53 : decode b_Pro_perform 53 = .ok (.istore 5, 2) := by decide +kernel
theorem d_Pro_perform_55 : decode b_Pro_perform 55 = .ok (.aload_n 2, 1) := by decide +kernel
theorem d_Pro_perform_56 : decode b_Pro_perform 56 = .ok (.getfield 117, 3) := by decide +kernel
theorem d_Pro_perform_59 : decode b_Pro_perform 59 = .ok (.iconst 4, 1) := by decide +kernel
theorem d_Pro_perform_60 : decode b_Pro_perform 60 = .ok (.invokestatic 108, 3) := by decide +kernel
theorem d_Pro_perform_63 : decode b_Pro_perform 63 = .ok (.istore 6, 2) := by decide +kernel
theorem d_Pro_perform_65 : decode b_Pro_perform 65 = .ok (.aload_n 2, 1) := by decide +kernel
theorem d_Pro_perform_66 : decode b_Pro_perform 66 = .ok (.getfield 102, 3) := by decide +kernel
theorem d_Pro_perform_69 : decode b_Pro_perform 69 = .ok (.tableswitch 481 0 21 #[103, 112, 123, 133, 156, 179, 196, 219, 239, 239, 239, 258, 275, 285, 310, 336, 352, 376, 403, 424, 439, 462], 103) := by decide +kernel
theorem d_Pro_perform_172 : decode b_Pro_perform 172 = .ok (.aload_n 3, 1) := by decide +kernel
theorem d_Pro_perform_173 : decode b_Pro_perform 173 = .ok (.iload 4, 2) := by decide +kernel
theorem d_Pro_perform_175 : decode b_Pro_perform 175 = .ok (.ldc2_w 33, 3) := by decide +kernel
theorem d_Pro_perform_178 : decode b_Pro_perform 178 = .ok (.lastore, 1) := by decide +kernel
theorem d_Pro_perform_179 : decode b_Pro_perform 179 = .ok (.iconst 0, 1) := by decide +kernel
theorem d_Pro_perform_180 : decode b_Pro_perform 180 = .ok (.ireturn, 1) := by decide +kernel
theorem d_Pro_perform_181 : decode b_Pro_perform 181 = .ok (.aload_n 3, 1) := by decide +kernel
theorem d_Pro_perform_182 : decode b_Pro_perform 182 = .ok (.iload 4, 2) := by decide +kernel
theorem d_Pro_perform_184 : decode b_Pro_perform 184 = .ok (.aload_n 2, 1) := by decide +kernel
theorem d_Pro_perform_185 : decode b_Pro_perform 185 = .ok (.getfield 117, 3) := by decide +kernel
theorem d_Pro_perform_188 : decode b_Pro_perform 188 = .ok (.i2l, 1) := by decide +kernel
theorem d_Pro_perform_189 : decode b_Pro_perform 189 = .ok (.lastore, 1) := by decide +kernel
theorem d_Pro_perform_190 : decode b_Pro_perform 190 = .ok (.iconst 0, 1) := by decide +kernel
theorem d_Pro_perform_191 : decode b_Pro_perform 191 = .ok (.ireturn, 1) := by decide +kernel
theorem d_Pro_perform_192 : decode b_Pro_perform 192 = .ok (.aload_n 3, 1) := by decide +kernel
theorem d_Pro_perform_193 : decode b_Pro_perform 193 = .ok (.iload 4, 2) := by decide +kernel
theorem d_Pro_perform_195 : decode b_Pro_perform 195 = .ok (.aload_n 3, 1) := by decide +kernel
theorem d_Pro_perform_196 : decode b_Pro_perform 196 = .ok (.iload 5, 2) := by decide +kernel
theorem d_Pro_perform_198 : decode b_Pro_perform 198 = .ok (.laload, 1) := by decide +kernel
theorem d_Pro_perform_199 : decode b_Pro_perform 199 = .ok (.lastore, 1) := by decide +kernel
theorem d_Pro_perform_200 : decode b_Pro_perform 200 = .ok (.iconst 0, 1) := by decide +kernel
theorem d_Pro_perform_201 : decode b_Pro_perform 201 = .ok (.ireturn, 1) := by decide +kernel
theorem d_Pro_perform_202 : decode b_Pro_perform 202 = .ok (.aload_n 3, 1) := by decide +kernel
theorem d_Pro_perform_203 : decode b_Pro_perform 203 = .ok (.iload 4, 2) := by decide +kernel
theorem d_Pro_perform_205 : decode b_Pro_perform 205 = .ok (.aload_n 0, 1) := by decide +kernel
theorem d_Pro_perform_206 : decode b_Pro_perform 206 = .ok (.getfield 39, 3) := by decide +kernel
theorem d_Pro_perform_209 : decode b_Pro_perform 209 = .ok (.getfield 120, 3) := by decide +kernel
theorem d_Pro_perform_212 : decode b_Pro_perform 212 = .ok (.aload_n 2, 1) := by decide +kernel
theorem d_Pro_perform_213 : decode b_Pro_perform 213 = .ok (.getfield 117, 3) := by decide +kernel
theorem d_Pro_perform_216 : decode b_Pro_perform 216 = .ok (.bipush 6, 2) := by decide +kernel
theorem d_Pro_perform_218 : decode b_Pro_perform 218 = .ok (.invokestatic 108, 3) := by decide +kernel
theorem d_Pro_perform_221 : decode b_Pro_perform 221 = .ok (.laload, 1) := by decide +kernel
theorem d_Pro_perform_222 : decode b_Pro_perform 222 = .ok (.lastore, 1) := by decide +kernel
theorem d_Pro_perform_223 : decode b_Pro_perform 223 = .ok (.iconst 0, 1) := by decide +kernel
theorem d_Pro_perform_224 : decode b_Pro_perform 224 = .ok (.ireturn, 1) := by decide +kernel
theorem d_Pro_perform_225 : decode b_Pro_perform 225 = .ok (.aload_n 0, 1) := by decide +kernel
theorem d_Pro_perform_226 : decode b_Pro_perform 226 = .ok (.getfield 39, 3) := by decide +kernel
theorem d_Pro_perform_229 : decode b_Pro_perform 229 = .ok (.getfield 120, 3) := by decide +kernel
theorem d_Pro_perform_232 : decode b_Pro_perform 232 = .ok (.aload_n 2, 1) := by decide +kernel
theorem d_Pro_perform_233 : decode b_Pro_perform 233 = .ok (.getfield 117, 3) := by decide +kernel
theorem d_Pro_perform_236 : decode b_Pro_perform 236 = .ok (.bipush 6, 2) := by decide +kernel
theorem d_Pro_perform_238 : decode b_Pro_perform 238 = .ok (.invokestatic 108, 3) := by decide +kernel
theorem d_Pro_perform_241 : decode b_Pro_perform 241 = .ok (.aload_n 3, 1) := by decide +kernel
theorem d_Pro_perform_242 : decode b_Pro_perform 242 = .ok (.iload 4, 2) := by decide +kernel
theorem d_Pro_perform_244 : decode b_Pro_perform 244 = .ok (.laload, 1) := by decide +kernel
theorem d_Pro_perform_245 : decode b_Pro_perform 245 = .ok (.lastore, 1) := by decide +kernel
theorem d_Pro_perform_246 : decode b_Pro_perform 246 = .ok (.iconst 0, 1) := by decide +kernel
theorem d_Pro_perform_247 : decode b_Pro_perform 247 = .ok (.ireturn, 1) := by decide +kernel
theorem d_Pro_perform_248 : decode b_Pro_perform 248 = .ok (.aload_n 0, 1) := by decide +kernel
theorem d_Pro_perform_249 : decode b_Pro_perform 249 = .ok (.aload_n 3, 1) := by decide +kernel
theorem d_Pro_perform_250 : decode b_Pro_perform 250 = .ok (.iload 4, 2) := by decide +kernel
theorem d_Pro_perform_252 : decode b_Pro_perform 252 = .ok (.aload_n 0, 1) := by decide +kernel
theorem d_Pro_perform_253 : decode b_Pro_perform 253 = .ok (.getfield 39, 3) := by decide +kernel
theorem d_Pro_perform_256 : decode b_Pro_perform 256 = .ok (.iconst 1, 1) := by decide +kernel
theorem d_Pro_perform_257 : decode b_Pro_perform 257 = .ok (.iconst 0, 1) := by decide +kernel
theorem d_Pro_perform_258 : decode b_Pro_perform 258 = .ok (.invokevirtual 123, 3) := by decide +kernel
theorem d_Pro_perform_261 : decode b_Pro_perform 261 = .ok (.invokevirtual 126, 3) := by decide +kernel
theorem d_Pro_perform_264 : decode b_Pro_perform 264 = .ok (.ireturn, 1) := by decide +kernel
theorem d_Pro_perform_265 : decode b_Pro_perform 265 = .ok (.aload_n 0, 1) := by decide +kernel
theorem d_Pro_perform_266 : decode b_Pro_perform 266 = .ok (.aload_n 3, 1) := by decide +kernel
theorem d_Pro_perform_267 : decode b_Pro_perform 267 = .ok (.iload 4, 2) := by decide +kernel
theorem d_Pro_perform_269 : decode b_Pro_perform 269 = .ok (.aload_n 0, 1) := by decide +kernel
theorem d_Pro_perform_270 : decode b_Pro_perform 270 = .ok (.getfield 39, 3) := by decide +kernel
theorem d_Pro_perform_273 : decode b_Pro_perform 273 = .ok (.aload_n 3, 1) := by decide +kernel
theorem d_Pro_perform_274 : decode b_Pro_perform 274 = .ok (.iload 5, 2) := by decide +kernel
theorem d_Pro_perform_276 : decode b_Pro_perform 276 = .ok (.laload, 1) := by decide +kernel
theorem d_Pro_perform_277 : decode b_Pro_perform 277 = .ok (.aload_n 3, 1) := by decide +kernel
theorem d_Pro_perform_278 : decode b_Pro_perform 278 = .ok (.iload 6, 2) := by decide +kernel
theorem d_Pro_perform_280 : decode b_Pro_perform 280 = .ok (.laload, 1) := by decide +kernel
theorem d_Pro_perform_281 : decode b_Pro_perform 281 = .ok (.invokevirtual 130, 3) := by decide +kernel
theorem d_Pro_perform_284 : decode b_Pro_perform 284 = .ok (.invokevirtual 126, 3) := by decide +kernel
theorem d_Pro_perform_287 : decode b_Pro_perform 287 = .ok (.ireturn, 1) := by decide +kernel
theorem d_Pro_perform_288 : decode b_Pro_perform 288 = .ok (.aload_n 0, 1) := by decide +kernel
theorem d_Pro_perform_289 : decode b_Pro_perform 289 = .ok (.getfield 39, 3) := by decide +kernel
theorem d_Pro_perform_292 : decode b_Pro_perform 292 = .ok (.aload_n 3, 1) := by decide +kernel
theorem d_Pro_perform_293 : decode b_Pro_perform 293 = .ok (.iload 4, 2) := by decide +kernel
theorem d_Pro_perform_295 : decode b_Pro_perform 295 = .ok (.laload, 1) := by decide +kernel
theorem d_Pro_perform_296 : decode b_Pro_perform 296 = .ok (.aload_n 3, 1) := by decide +kernel
theorem d_Pro_perform_297 : decode b_Pro_perform 297 = .ok (.iload 5, 2) := by decide +kernel
theorem d_Pro_perform_299 : decode b_Pro_perform 299 = .ok (.laload, 1) := by decide +kernel
theorem d_Pro_perform_300 : decode b_Pro_perform 300 = .ok (.aload_n 3, 1) := by decide +kernel
theorem d_Pro_perform_301 : decode b_Pro_perform 301 = .ok (.iload 6, 2) := by decide +kernel
theorem d_Pro_perform_303 : decode b_Pro_perform 303 = .ok (.laload, 1) := by decide +kernel
theorem d_Pro_perform_304 : decode b_Pro_perform 304 = .ok (.invokevirtual 133, 3) := by decide +kernel
theorem d_Pro_perform_307 : decode b_Pro_perform 307 = .ok (.ireturn, 1) := by decide +kernel
theorem d_Pro_perform_308 : decode b_Pro_perform 308 = .ok (.aload_n 2, 1) := by decide +kernel
theorem d_Pro_perform_309 : decode b_Pro_perform 309 = .ok (.getfield 102, 3) := by decide +kernel
theorem d_Pro_perform_312 : decode b_Pro_perform 312 = .ok (.aload_n 3, 1) := by decide +kernel
theorem d_Pro_perform_313 : decode b_Pro_perform 313 = .ok (.iload 4, 2) := by decide +kernel
theorem d_Pro_perform_315 : decode b_Pro_perform 315 = .ok (.aload_n 3, 1) := by decide +kernel
theorem d_Pro_perform_316 : decode b_Pro_perform 316 = .ok (.iload 5, 2) := by decide +kernel
theorem d_Pro_perform_318 : decode b_Pro_perform 318 = .ok (.laload, 1) := by decide +kernel
theorem d_Pro_perform_319 : decode b_Pro_perform 319 = .ok (.aload_n 3, 1) := by decide +kernel
theorem d_Pro_perform_320 : decode b_Pro_perform 320 = .ok (.iload 6, 2) := by decide +kernel
theorem d_Pro_perform_322 : decode b_Pro_perform 322 = .ok (.laload, 1) := by decide +kernel
theorem d_Pro_perform_323 : decode b_Pro_perform 323 = .ok (.invokestatic 137, 3) := by decide +kernel
theorem d_Pro_perform_326 : decode b_Pro_perform 326 = .ok (.ireturn, 1) := by decide +kernel
theorem d_Pro_perform_327 : decode b_Pro_perform 327 = .ok (.aload_n 0, 1) := by decide +kernel
theorem d_Pro_perform_328 : decode b_Pro_perform 328 = .ok (.aload_n 3, 1) := by decide +kernel
theorem d_Pro_perform_329 : decode b_Pro_perform 329 = .ok (.iload 4, 2) := by decide +kernel
theorem d_Pro_perform_331 : decode b_Pro_perform 331 = .ok (.laload, 1) := by decide +kernel
theorem d_Pro_perform_332 : decode b_Pro_perform 332 = .ok (.aload_n 3, 1) := by decide +kernel
theorem d_Pro_perform_333 : decode b_Pro_perform 333 = .ok (.iload 5, 2) := by decide +kernel
theorem d_Pro_perform_335 : decode b_Pro_perform 335 = .ok (.laload, 1) := by decide +kernel
theorem d_Pro_perform_336 : decode b_Pro_perform 336 = .ok (.aload_n 2, 1) := by decide +kernel
theorem d_Pro_perform_337 : decode b_Pro_perform 337 = .ok (.getfield 117, 3) := by decide +kernel
theorem d_Pro_perform_340 : decode b_Pro_perform 340 = .ok (.invokevirtual 141, 3) := by decide +kernel
theorem d_Pro_perform_343 : decode b_Pro_perform 343 = .ok (.ireturn, 1) := by decide +kernel
theorem d_Pro_perform_344 : decode b_Pro_perform 344 = .ok (.aload_n 0, 1) := by decide +kernel
theorem d_Pro_perform_345 : decode b_Pro_perform 345 = .ok (.iconst 1, 1) := by decide +kernel
theorem d_Pro_perform_346 : decode b_Pro_perform 346 = .ok (.aload_n 2, 1) := by decide +kernel
theorem d_Pro_perform_347 : decode b_Pro_perform 347 = .ok (.getfield 117, 3) := by decide +kernel
theorem d_Pro_perform_350 : decode b_Pro_perform 350 = .ok (.invokevirtual 145, 3) := by decide +kernel
theorem d_Pro_perform_353 : decode b_Pro_perform 353 = .ok (.ireturn, 1) := by decide +kernel
theorem d_Pro_perform_354 : decode b_Pro_perform 354 = .ok (.aload_n 0, 1) := by decide +kernel
theorem d_Pro_perform_355 : decode b_Pro_perform 355 = .ok (.aload_n 3, 1) := by decide +kernel
theorem d_Pro_perform_356 : decode b_Pro_perform 356 = .ok (.iload 4, 2) := by decide +kernel
theorem d_Pro_perform_358 : decode b_Pro_perform 358 = .ok (.laload, 1) := by decide +kernel
theorem d_Pro_perform_359 : decode b_Pro_perform 359 = .ok (.ldc2_w 33, 3) := by decide +kernel
theorem d_Pro_perform_362 : decode b_Pro_perform 362 = .ok (.lcmp, 1) := by decide +kernel
theorem d_Pro_perform_363 : decode b_Pro_perform 363 = .ok (.ifCond .ne 7, 3) := by decide +kernel
theorem d_Pro_perform_366 : decode b_Pro_perform 366 = .ok (.iconst 1, 1) := by decide +kernel
theorem d_Pro_perform_367 : decode b_Pro_perform 367 = .ok (.goto 4, 3) := by decide +kernel
theorem d_Pro_perform_370 : decode b_Pro_perform 370 = .ok (.iconst 0, 1) := by decide +kernel
theorem d_Pro_perform_371 : decode b_Pro_perform 371 = .ok (.aload_n 2, 1) := by decide +kernel
theorem d_Pro_perform_372 : decode b_Pro_perform 372 = .ok (.getfield 117, 3) := by decide +kernel
theorem d_Pro_perform_375 : decode b_Pro_perform 375 = .ok (.invokevirtual 145, 3) := by decide +kernel
theorem d_Pro_perform_378 : decode b_Pro_perform 378 = .ok (.ireturn, 1) := by decide +kernel
theorem d_Pro_perform_379 : decode b_Pro_perform 379 = .ok (.aload_n 0, 1) := by decide +kernel
theorem d_Pro_perform_380 : decode b_Pro_perform 380 = .ok (.aload_n 3, 1) := by decide +kernel
theorem d_Pro_perform_381 : decode b_Pro_perform 381 = .ok (.iload 4, 2) := by decide +kernel
theorem d_Pro_perform_383 : decode b_Pro_perform 383 = .ok (.laload, 1) := by decide +kernel
theorem d_Pro_perform_384 : decode b_Pro_perform 384 = .ok (.aload_n 3, 1) := by decide +kernel
theorem d_Pro_perform_385 : decode b_Pro_perform 385 = .ok (.iload 5, 2) := by decide +kernel
theorem d_Pro_perform_387 : decode b_Pro_perform 387 = .ok (.laload, 1) := by decide +kernel
theorem d_Pro_perform_388 : decode b_Pro_perform 388 = .ok (.lcmp, 1) := by decide +kernel
theorem d_Pro_perform_389 : decode b_Pro_perform 389 = .ok (.ifCond .ne 7, 3) := by decide +kernel
theorem d_Pro_perform_392 : decode b_Pro_perform 392 = .ok (.iconst 1, 1) := by decide +kernel
theorem d_Pro_perform_393 : decode b_Pro_perform 393 = .ok (.goto 4, 3) := by decide +kernel
theorem d_Pro_perform_396 : decode b_Pro_perform 396 = .ok (.iconst 0, 1) := by decide +kernel
theorem d_Pro_perform_397 : decode b_Pro_perform 397 = .ok (.aload_n 2, 1) := by decide +kernel
theorem d_Pro_perform_398 : decode b_Pro_perform 398 = .ok (.getfield 117, 3) := by decide +kernel
theorem d_Pro_perform_401 : decode b_Pro_perform 401 = .ok (.invokevirtual 145, 3) := by decide +kernel
theorem d_Pro_perform_404 : decode b_Pro_perform 404 = .ok (.ireturn, 1) := by decide +kernel
theorem d_Pro_perform_405 : decode b_Pro_perform 405 = .ok (.aload_n 0, 1) := by decide +kernel
theorem d_Pro_perform_406 : decode b_Pro_perform 406 = .ok (.getfield 39, 3) := by decide +kernel
theorem d_Pro_perform_409 : decode b_Pro_perform 409 = .ok (.aload_n 3, 1) := by decide +kernel
theorem d_Pro_perform_410 : decode b_Pro_perform 410 = .ok (.iload 4, 2) := by decide +kernel
theorem d_Pro_perform_412 : decode b_Pro_perform 412 = .ok (.laload, 1) := by decide +kernel
theorem d_Pro_perform_413 : decode b_Pro_perform 413 = .ok (.aload_n 3, 1) := by decide +kernel
theorem d_Pro_perform_414 : decode b_Pro_perform 414 = .ok (.iload 5, 2) := by decide +kernel
theorem d_Pro_perform_416 : decode b_Pro_perform 416 = .ok (.laload, 1) := by decide +kernel
theorem d_Pro_perform_417 : decode b_Pro_perform 417 = .ok (.invokevirtual 149, 3) := by decide +kernel
theorem d_Pro_perform_420 : decode b_Pro_perform 420 = .ok (.ireturn, 1) := by decide +kernel
theorem d_Pro_perform_421 : decode b_Pro_perform 421 = .ok (.aload_n 0, 1) := by decide +kernel
theorem d_Pro_perform_422 : decode b_Pro_perform 422 = .ok (.aload_n 3, 1) := by decide +kernel
theorem d_Pro_perform_423 : decode b_Pro_perform 423 = .ok (.iload 4, 2) := by decide +kernel
theorem d_Pro_perform_425 : decode b_Pro_perform 425 = .ok (.aload_n 0, 1) := by decide +kernel
theorem d_Pro_perform_426 : decode b_Pro_perform 426 = .ok (.getfield 39, 3) := by decide +kernel
theorem d_Pro_perform_429 : decode b_Pro_perform 429 = .ok (.iconst 2, 1) := by decide +kernel
theorem d_Pro_perform_430 : decode b_Pro_perform 430 = .ok (.aload_n 2, 1) := by decide +kernel
theorem d_Pro_perform_431 : decode b_Pro_perform 431 = .ok (.getfield 117, 3) := by decide +kernel
theorem d_Pro_perform_434 : decode b_Pro_perform 434 = .ok (.iconst 4, 1) := by decide +kernel
theorem d_Pro_perform_435 : decode b_Pro_perform 435 = .ok (.invokestatic 108, 3) := by decide +kernel
theorem d_Pro_perform_438 : decode b_Pro_perform 438 = .ok (.invokevirtual 123, 3) := by decide +kernel
theorem d_Pro_perform_441 : decode b_Pro_perform 441 = .ok (.invokevirtual 126, 3) := by decide +kernel
theorem d_Pro_perform_444 : decode b_Pro_perform 444 = .ok (.ireturn, 1) := by decide +kernel
theorem d_Pro_perform_445 : decode b_Pro_perform 445 = .ok (.aload_n 0, 1) := by decide +kernel
theorem d_Pro_perform_446 : decode b_Pro_perform 446 = .ok (.aload_n 1, 1) := by decide +kernel
theorem d_Pro_perform_447 : decode b_Pro_perform 447 = .ok (.getfield 51, 3) := by decide +kernel
theorem d_Pro_perform_450 : decode b_Pro_perform 450 = .ok (.putfield 30, 3) := by decide +kernel
theorem d_Pro_perform_453 : decode b_Pro_perform 453 = .ok (.aload_n 1, 1) := by decide +kernel
theorem d_Pro_perform_454 : decode b_Pro_perform 454 = .ok (.iload 4, 2) := by decide +kernel
theorem d_Pro_perform_456 : decode b_Pro_perform 456 = .ok (.putfield 99, 3) := by decide +kernel
theorem d_Pro_perform_459 : decode b_Pro_perform 459 = .ok (.aload_n 0, 1) := by decide +kernel
theorem d_Pro_perform_460 : decode b_Pro_perform 460 = .ok (.aload_n 3, 1) := by decide +kernel
theorem d_Pro_perform_461 : decode b_Pro_perform 461 = .ok (.iload 5, 2) := by decide +kernel
theorem d_Pro_perform_463 : decode b_Pro_perform 463 = .ok (.laload, 1) := by decide +kernel
theorem d_Pro_perform_464 : decode b_Pro_perform 464 = .ok (.aload_n 3, 1) := by decide +kernel
theorem d_Pro_perform_465 : decode b_Pro_perform 465 = .ok (.iload 6, 2) := by decide +kernel
theorem d_Pro_perform_467 : decode b_Pro_perform 467 = .ok (.laload, 1) := by decide +kernel
theorem d_Pro_perform_468 : decode b_Pro_perform 468 = .ok (.invokevirtual 44, 3) := by decide +kernel
theorem d_Pro_perform_471 : decode b_Pro_perform 471 = .ok (.ireturn, 1) := by decide +kernel
theorem d_Pro_perform_472 : decode b_Pro_perform 472 = .ok (.aload_n 1, 1) := by decide +kernel
theorem d_Pro_perform_473 : decode b_Pro_perform 473 = .ok (.iconst 1, 1) := by decide +kernel
theorem d_Pro_perform_474 : decode b_Pro_perform 474 = .ok (.putfield 85, 3) := by decide +kernel
theorem d_Pro_perform_477 : decode b_Pro_perform 477 = .ok (.aload_n 1, 1) := by decide +kernel
theorem d_Pro_perform_478 : decode b_Pro_perform 478 = .ok (.iload 4, 2) := by decide +kernel
theorem d_Pro_perform_480 : decode b_Pro_perform 480 = .ok (.putfield 92, 3) := by decide +kernel
theorem d_Pro_perform_483 : decode b_Pro_perform 483 = .ok (.aload_n 0, 1) := by decide +kernel
theorem d_Pro_perform_484 : decode b_Pro_perform 484 = .ok (.aload_n 3, 1) := by decide +kernel
theorem d_Pro_perform_485 : decode b_Pro_perform 485 = .ok (.iload 4, 2) := by decide +kernel
theorem d_Pro_perform_487 : decode b_Pro_perform 487 = .ok (.laload, 1) := by decide +kernel
theorem d_Pro_perform_488 : decode b_Pro_perform 488 = .ok (.invokevirtual 152, 3) := by decide +kernel
theorem d_Pro_perform_491 : decode b_Pro_perform 491 = .ok (.iconst 0, 1) := by decide +kernel
theorem d_Pro_perform_492 : decode b_Pro_perform 492 = .ok (.ireturn, 1) := by decide +kernel
theorem d_Pro_perform_493 : decode b_Pro_perform 493 = .ok (.aload_n 1, 1) := by decide +kernel
theorem d_Pro_perform_494 : decode b_Pro_perform 494 = .ok (.iconst 3, 1) := by decide +kernel
theorem d_Pro_perform_495 : decode b_Pro_perform 495 = .ok (.putfield 85, 3) := by decide +kernel
theorem d_Pro_perform_498 : decode b_Pro_perform 498 = .ok (.aload_n 0, 1) := by decide +kernel
theorem d_Pro_perform_499 : decode b_Pro_perform 499 = .ok (.aload_n 3, 1) := by decide +kernel
theorem d_Pro_perform_500 : decode b_Pro_perform 500 = .ok (.iload 4, 2) := by decide +kernel
theorem d_Pro_perform_502 : decode b_Pro_perform 502 = .ok (.laload, 1) := by decide +kernel
theorem d_Pro_perform_503 : decode b_Pro_perform 503 = .ok (.invokevirtual 152, 3) := by decide +kernel
theorem d_Pro_perform_506 : decode b_Pro_perform 506 = .ok (.iconst 0, 1) := by decide +kernel
theorem d_Pro_perform_507 : decode b_Pro_perform 507 = .ok (.ireturn, 1) := by decide +kernel
theorem d_Pro_perform_508 : decode b_Pro_perform 508 = .ok (.aload_n 0, 1) := by decide +kernel
theorem d_Pro_perform_509 : decode b_Pro_perform 509 = .ok (.aload_n 3, 1) := by decide +kernel
theorem d_Pro_perform_510 : decode b_Pro_perform 510 = .ok (.iload 4, 2) := by decide +kernel
theorem d_Pro_perform_512 : decode b_Pro_perform 512 = .ok (.aload_n 0, 1) := by decide +kernel
theorem d_Pro_perform_513 : decode b_Pro_perform 513 = .ok (.getfield 39, 3) := by decide +kernel
theorem d_Pro_perform_516 : decode b_Pro_perform 516 = .ok (.aload_n 3, 1) := by decide +kernel
theorem d_Pro_perform_517 : decode b_Pro_perform 517 = .ok (.iload 5, 2) := by decide +kernel
theorem d_Pro_perform_519 : decode b_Pro_perform 519 = .ok (.laload, 1) := by decide +kernel
theorem d_Pro_perform_520 : decode b_Pro_perform 520 = .ok (.aload_n 3, 1) := by decide +kernel
theorem d_Pro_perform_521 : decode b_Pro_perform 521 = .ok (.iload 6, 2) := by decide +kernel
theorem d_Pro_perform_523 : decode b_Pro_perform 523 = .ok (.laload, 1) := by decide +kernel
theorem d_Pro_perform_524 : decode b_Pro_perform 524 = .ok (.invokevirtual 156, 3) := by decide +kernel
theorem d_Pro_perform_527 : decode b_Pro_perform 527 = .ok (.invokevirtual 126, 3) := by decide +kernel
theorem d_Pro_perform_530 : decode b_Pro_perform 530 = .ok (.ireturn, 1) := by decide +kernel
theorem d_Pro_perform_531 : decode b_Pro_perform 531 = .ok (.aload_n 0, 1) := by decide +kernel
theorem d_Pro_perform_532 : decode b_Pro_perform 532 = .ok (.aload_n 3, 1) := by decide +kernel
theorem d_Pro_perform_533 : decode b_Pro_perform 533 = .ok (.iload 4, 2) := by decide +kernel
theorem d_Pro_perform_535 : decode b_Pro_perform 535 = .ok (.aload_n 0, 1) := by decide +kernel
theorem d_Pro_perform_536 : decode b_Pro_perform 536 = .ok (.getfield 39, 3) := by decide +kernel
theorem d_Pro_perform_539 : decode b_Pro_perform 539 = .ok (.aload_n 3, 1) := by decide +kernel
theorem d_Pro_perform_540 : decode b_Pro_perform 540 = .ok (.iload 5, 2) := by decide +kernel
theorem d_Pro_perform_542 : decode b_Pro_perform 542 = .ok (.laload, 1) := by decide +kernel
theorem d_Pro_perform_543 : decode b_Pro_perform 543 = .ok (.invokevirtual 159, 3) := by decide +kernel
theorem d_Pro_perform_546 : decode b_Pro_perform 546 = .ok (.invokevirtual 126, 3) := by decide +kernel
theorem d_Pro_perform_549 : decode b_Pro_perform 549 = .ok (.ireturn, 1) := by decide +kernel
theorem d_Pro_perform_550 : decode b_Pro_perform 550 = .ok (.iconst 1, 1) := by decide +kernel
theorem d_Pro_perform_551 : decode b_Pro_perform 551 = .ok (.ireturn, 1) := by decide +kernel
theorem d_Pro_keepFound_0 : decode b_Pro_keepFound 0 = .ok (.iload_n 3, 1) := by decide +kernel
theorem d_Pro_keepFound_1 : decode b_Pro_keepFound 1 = .ok (.ifCond .ne 13, 3) := by decide +kernel
theorem d_Pro_keepFound_4 : decode b_Pro_keepFound 4 = .ok (.aload_n 1, 1) := by decide +kernel
theorem d_Pro_keepFound_5 : decode b_Pro_keepFound 5 = .ok (.iload_n 2, 1) := by decide +kernel
theorem d_Pro_keepFound_6 : decode b_Pro_keepFound 6 = .ok (.aload_n 0, 1) := by decide +kernel
theorem d_Pro_keepFound_7 : decode b_Pro_keepFound 7 = .ok (.getfield 39, 3) := by decide +kernel
theorem d_Pro_keepFound_10 : decode b_Pro_keepFound 10 = .ok (.getfield 162, 3) := by decide +kernel
theorem d_Pro_keepFound_13 : decode b_Pro_keepFound 13 = .ok (.lastore, 1) := by decide +kernel
theorem d_Pro_keepFound_14 : decode b_Pro_keepFound 14 = .ok (.iload_n 3, 1) := by decide +kernel
theorem d_Pro_keepFound_15 : decode b_Pro_keepFound 15 = .ok (.ireturn, 1) := by decide +kernel
theorem d_Pro_calculate_0 : decode b_Pro_calculate 0 = .ok (.lload_n 3, 1) := by decide +kernel
theorem d_Pro_calculate_1 : decode b_Pro_calculate 1 = .ok (.invokestatic 165, 3) := by decide +kernel
theorem d_Pro_calculate_4 : decode b_Pro_calculate 4 = .ok (.ifCond .eq 11, 3) := by decide +kernel
theorem d_Pro_calculate_7 : decode b_Pro_calculate 7 = .ok (.lload 5, 2) := by decide +kernel
theorem d_Pro_calculate_9 : decode b_Pro_calculate 9 = .ok (.invokestatic 165, 3) := by decide +kernel
theorem d_Pro_calculate_12 : decode b_Pro_calculate 12 = .ok (.ifCond .ne 5, 3) := by decide +kernel
theorem d_Pro_calculate_15 : decode b_Pro_calculate 15 = .ok (.iconst 1, 1) := by decide +kernel
theorem d_Pro_calculate_16 : decode b_Pro_calculate 16 = .ok (.ireturn, 1) := by decide +kernel
theorem d_Pro_calculate_17 : decode b_Pro_calculate 17 = .ok (.lload_n 3, 1) := by decide +kernel
theorem d_Pro_calculate_18 : decode b_Pro_calculate 18 = .ok (.l2i, 1) := by decide +kernel
theorem d_Pro_calculate_19 : decode b_Pro_calculate 19 = .ok (.istore 7, 2) := by decide +kernel
theorem d_Pro_calculate_21 : decode b_Pro_calculate 21 = .ok (.lload 5, 2) := by decide +kernel
theorem d_Pro_calculate_23 : decode b_Pro_calculate 23 = .ok (.l2i, 1) := by decide +kernel
theorem d_Pro_calculate_24 : decode b_Pro_calculate 24 = .ok (.istore 8, 2) := by decide +kernel
theorem d_Pro_calculate_26 : decode b_Pro_calculate 26 = .ok (.aload_n 1, 1) := by decide +kernel
theorem d_Pro_calculate_27 : decode b_Pro_calculate 27 = .ok (.iload_n 2, 1) := by decide +kernel
theorem d_Pro_calculate_28 : decode b_Pro_calculate 28 = .ok (.iload_n 0, 1) := by decide +kernel
theorem d_Pro_calculate_29 : decode b_Pro_calculate 29 = .ok (.bipush 8, 2) := by decide +kernel
theorem d_Pro_calculate_31 : decode b_Pro_calculate 31 = .ok (.if_icmp .ne 12, 3) := by decide +kernel
theorem d_Pro_calculate_34 : decode b_Pro_calculate 34 = .ok (.iload 7, 2) := by decide +kernel
theorem d_Pro_calculate_36 : decode b_Pro_calculate 36 = .ok (.iload 8, 2) := by decide +kernel
theorem d_Pro_calculate_38 : decode b_Pro_calculate 38 = .ok (.iadd, 1) := by decide +kernel
theorem d_Pro_calculate_39 : decode b_Pro_calculate 39 = .ok (.i2l, 1) := by decide +kernel
theorem d_Pro_calculate_40 : decode b_Pro_calculate 40 = .ok (.goto 24, 3) := by decide +kernel
theorem d_Pro_calculate_43 : decode b_Pro_calculate 43 = .ok (.iload_n 0, 1) := by decide +kernel
theorem d_Pro_calculate_44 : decode b_Pro_calculate 44 = .ok (.bipush 9, 2) := by decide +kernel
theorem d_Pro_calculate_46 : decode b_Pro_calculate 46 = .ok (.if_icmp .ne 12, 3) := by decide +kernel
theorem d_Pro_calculate_49 : decode b_Pro_calculate 49 = .ok (.iload 7, 2) := by decide +kernel
theorem d_Pro_calculate_51 : decode b_Pro_calculate 51 = .ok (.iload 8, 2) := by decide +kernel
theorem d_Pro_calculate_53 : decode b_Pro_calculate 53 = .ok (.isub, 1) := by decide +kernel
theorem d_Pro_calculate_54 : decode b_Pro_calculate 54 = .ok (.i2l, 1) := by decide +kernel
theorem d_Pro_calculate_55 : decode b_Pro_calculate 55 = .ok (.goto 9, 3) := by decide +kernel
theorem d_Pro_calculate_58 : decode b_Pro_calculate 58 = .ok (.iload 7, 2) := by decide +kernel
theorem d_Pro_calculate_60 : decode b_Pro_calculate 60 = .ok (.iload 8, 2) := by decide +kernel
theorem d_Pro_calculate_62 : decode b_Pro_calculate 62 = .ok (.imul, 1) := by decide +kernel
theorem d_Pro_calculate_63 : decode b_Pro_calculate 63 = .ok (.i2l, 1) := by decide +kernel
theorem d_Pro_calculate_64 : decode b_Pro_calculate 64 = .ok (.lastore, 1) := by decide +kernel
theorem d_Pro_calculate_65 : decode b_Pro_calculate 65 = .ok (.iconst 0, 1) := by decide +kernel
theorem d_Pro_calculate_66 : decode b_Pro_calculate 66 = .ok (.ireturn, 1) := by decide +kernel
theorem d_TCM_isNumber_0 : decode b_TCM_isNumber 0 = .ok (.lload_n 0, 1) := by decide +kernel
theorem d_TCM_isNumber_1 : decode b_TCM_isNumber 1 = .ok (.ldc2_w 182, 3) := by decide +kernel
theorem d_TCM_isNumber_4 : decode b_TCM_isNumber 4 = .ok (.lcmp, 1) := by decide +kernel
theorem d_TCM_isNumber_5 : decode b_TCM_isNumber 5 = .ok (.ifCond .lt 15, 3) := by decide +kernel
theorem d_TCM_isNumber_8 : decode b_TCM_isNumber 8 = .ok (.lload_n 0, 1) := by decide +kernel
theorem d_TCM_isNumber_9 : decode b_TCM_isNumber 9 = .ok (.ldc2_w 184, 3) := by decide +kernel
theorem d_TCM_isNumber_12 : decode b_TCM_isNumber 12 = .ok (.lcmp, 1) := by decide +kernel
theorem d_TCM_isNumber_13 : decode b_TCM_isNumber 13 = .ok (.ifCond .gt 7, 3) := by decide +kernel
theorem d_TCM_isNumber_16 : decode b_TCM_isNumber 16 = .ok (.iconst 1, 1) := by decide +kernel
theorem d_TCM_isNumber_17 : decode b_TCM_isNumber 17 = .ok (.goto 4, 3) := by decide +kernel
theorem d_TCM_isNumber_20 : decode b_TCM_isNumber 20 = .ok (.iconst 0, 1) := by decide +kernel
theorem d_TCM_isNumber_21 : decode b_TCM_isNumber 21 = .ok (.ireturn, 1) := by decide +kernel
theorem d_Pro_jumpIfBelow_0 : decode b_Pro_jumpIfBelow 0 = .ok (.lload_n 1, 1) := by decide +kernel
theorem d_Pro_jumpIfBelow_1 : decode b_Pro_jumpIfBelow 1 = .ok (.invokestatic 165, 3) := by decide +kernel
theorem d_Pro_jumpIfBelow_4 : decode b_Pro_jumpIfBelow 4 = .ok (.ifCond .eq 10, 3) := by decide +kernel
theorem d_Pro_jumpIfBelow_7 : decode b_Pro_jumpIfBelow 7 = .ok (.lload_n 3, 1) := by decide +kernel
theorem d_Pro_jumpIfBelow_8 : decode b_Pro_jumpIfBelow 8 = .ok (.invokestatic 165, 3) := by decide +kernel
theorem d_Pro_jumpIfBelow_11 : decode b_Pro_jumpIfBelow 11 = .ok (.ifCond .ne 5, 3) := by decide +kernel
theorem d_Pro_jumpIfBelow_14 : decode b_Pro_jumpIfBelow 14 = .ok (.iconst 1, 1) := by decide +kernel
theorem d_Pro_jumpIfBelow_15 : decode b_Pro_jumpIfBelow 15 = .ok (.ireturn, 1) := by decide +kernel
theorem d_Pro_jumpIfBelow_16 : decode b_Pro_jumpIfBelow 16 = .ok (.aload_n 0, 1) := by decide +kernel
theorem d_Pro_jumpIfBelow_17 : decode b_Pro_jumpIfBelow 17 = .ok (.lload_n 1, 1) := by decide +kernel
theorem d_Pro_jumpIfBelow_18 : decode b_Pro_jumpIfBelow 18 = .ok (.lload_n 3, 1) := by decide +kernel
theorem d_Pro_jumpIfBelow_19 : decode b_Pro_jumpIfBelow 19 = .ok (.lcmp, 1) := by decide +kernel
theorem d_Pro_jumpIfBelow_20 : decode b_Pro_jumpIfBelow 20 = .ok (.ifCond .ge 7, 3) := by decide +kernel
theorem d_Pro_jumpIfBelow_23 : decode b_Pro_jumpIfBelow 23 = .ok (.iconst 1, 1) := by decide +kernel
theorem d_Pro_jumpIfBelow_24 : decode b_Pro_jumpIfBelow 24 = .ok (.goto 4, 3) := by decide +kernel
theorem d_Pro_jumpIfBelow_27 : decode b_Pro_jumpIfBelow 27 = .ok (.iconst 0, 1) := by decide +kernel
theorem d_Pro_jumpIfBelow_28 : decode b_Pro_jumpIfBelow 28 = .ok (.iload 5, 2) := by decide +kernel
theorem d_Pro_jumpIfBelow_30 : decode b_Pro_jumpIfBelow 30 = .ok (.invokevirtual 145, 3) := by decide +kernel
theorem d_Pro_jumpIfBelow_33 : decode b_Pro_jumpIfBelow 33 = .ok (.ireturn, 1) := by decide +kernel
theorem d_Pro_jumpIf_0 : decode b_Pro_jumpIf 0 = .ok (.iload_n 1, 1) := by decide +kernel
theorem d_Pro_jumpIf_1 : decode b_Pro_jumpIf 1 = .ok (.ifCond .eq 13, 3) := by decide +kernel
theorem d_Pro_jumpIf_4 : decode b_Pro_jumpIf 4 = .ok (.aload_n 0, 1) := by decide +kernel
theorem d_Pro_jumpIf_5 : decode b_Pro_jumpIf 5 = .ok (.iload_n 2, 1) := by decide +kernel
theorem d_Pro_jumpIf_6 : decode b_Pro_jumpIf 6 = .ok (.bipush 16, 2) := by decide +kernel
theorem d_Pro_jumpIf_8 : decode b_Pro_jumpIf 8 = .ok (.invokestatic 108, 3) := by decide +kernel
theorem d_Pro_jumpIf_11 : decode b_Pro_jumpIf 11 = .ok (.putfield 30, 3) := by decide +kernel
theorem d_Pro_jumpIf_14 : decode b_Pro_jumpIf 14 = .ok (.iconst 0, 1) := by decide +kernel
theorem d_Pro_jumpIf_15 : decode b_Pro_jumpIf 15 = .ok (.ireturn, 1) := by decide +kernel
theorem d_Pro_leave_0 : decode b_Pro_leave 0 = .ok (.aload_n 0, 1) := by decide +kernel
theorem d_Pro_leave_1 : decode b_Pro_leave 1 = .ok (.dup, 1) := by decide +kernel
theorem d_Pro_leave_2 : decode b_Pro_leave 2 = .ok (.getfield 23, 3) := by decide +kernel
theorem d_Pro_leave_5 : decode b_Pro_leave 5 = .ok (.iconst 1, 1) := by decide +kernel
theorem d_Pro_leave_6 : decode b_Pro_leave 6 = .ok (.isub, 1) := by decide +kernel
theorem d_Pro_leave_7 : decode b_Pro_leave 7 = .ok (.putfield 23, 3) := by decide +kernel
theorem d_Pro_leave_10 : decode b_Pro_leave 10 = .ok (.aload_n 0, 1) := by decide +kernel
theorem d_Pro_leave_11 : decode b_Pro_leave 11 = .ok (.getfield 23, 3) := by decide +kernel
theorem d_Pro_leave_14 : decode b_Pro_leave 14 = .ok (.ifCond .ne 9, 3) := by decide +kernel
theorem d_Pro_leave_17 : decode b_Pro_leave 17 = .ok (.aload_n 0, 1) := by decide +kernel
theorem d_Pro_leave_18 : decode b_Pro_leave 18 = .ok (.lload_n 1, 1) := by decide +kernel
theorem d_Pro_leave_19 : decode b_Pro_leave 19 = .ok (.putfield 35, 3) := by decide +kernel
theorem d_Pro_leave_22 : decode b_Pro_leave 22 = .ok (.return_, 1) := by decide +kernel
theorem d_Pro_leave_23 : decode b_Pro_leave 23 = .ok (.aload_n 0, 1) := by decide +kernel
theorem d_Pro_leave_24 : decode b_Pro_leave 24 = .ok (.getfield 19, 3) := by decide +kernel
theorem d_Pro_leave_27 : decode b_Pro_leave 27 = .ok (.aload_n 0, 1) := by decide +kernel
theorem d_Pro_leave_28 : decode b_Pro_leave 28 = .ok (.getfield 23, 3) := by decide +kernel
theorem d_Pro_leave_31 : decode b_Pro_leave 31 = .ok (.iconst 1, 1) := by decide +kernel
theorem d_Pro_leave_32 : decode b_Pro_leave 32 = .ok (.isub, 1) := by decide +kernel
theorem d_Pro_leave_33 : decode b_Pro_leave 33 = .ok (.aaload, 1) := by decide +kernel
theorem d_Pro_leave_34 : decode b_Pro_leave 34 = .ok (.astore_n 3, 1) := by decide +kernel
theorem d_Pro_leave_35 : decode b_Pro_leave 35 = .ok (.aload_n 3, 1) := by decide +kernel
theorem d_Pro_leave_36 : decode b_Pro_leave 36 = .ok (.getfield 88, 3) := by decide +kernel
theorem d_Pro_leave_39 : decode b_Pro_leave 39 = .ok (.aload_n 3, 1) := by decide +kernel
theorem d_Pro_leave_40 : decode b_Pro_leave 40 = .ok (.getfield 99, 3) := by decide +kernel
theorem d_Pro_leave_43 : decode b_Pro_leave 43 = .ok (.lload_n 1, 1) := by decide +kernel
theorem d_Pro_leave_44 : decode b_Pro_leave 44 = .ok (.lastore, 1) := by decide +kernel
theorem d_Pro_leave_45 : decode b_Pro_leave 45 = .ok (.aload_n 3, 1) := by decide +kernel
theorem d_Pro_leave_46 : decode b_Pro_leave 46 = .ok (.dup, 1) := by decide +kernel
theorem d_Pro_leave_47 : decode b_Pro_leave 47 = .ok (.getfield 51, 3) := by decide +kernel
theorem d_Pro_leave_50 : decode b_Pro_leave 50 = .ok (.iconst 1, 1) := by decide +kernel
theorem d_Pro_leave_51 : decode b_Pro_leave 51 = .ok (.iadd, 1) := by decide +kernel
theorem d_Pro_leave_52 : decode b_Pro_leave 52 = .ok (.putfield 51, 3) := by decide +kernel
theorem d_Pro_leave_55 : decode b_Pro_leave 55 = .ok (.return_, 1) := by decide +kernel
theorem d_Pro_endActive_0 : decode b_Pro_endActive 0 = .ok (.iconst 0, 1) := by decide +kernel
theorem d_Pro_endActive_1 : decode b_Pro_endActive 1 = .ok (.istore_n 1, 1) := by decide +kernel
theorem d_Pro_endActive_2 : decode b_Pro_endActive 2 = .ok (.iload_n 1, 1) := by decide +kernel
theorem d_Pro_endActive_3 : decode b_Pro_endActive 3 = .ok (.aload_n 0, 1) := by decide +kernel
theorem d_Pro_endActive_4 : decode b_Pro_endActive 4 = .ok (.getfield 23, 3) := by decide +kernel
theorem d_Pro_endActive_7 : decode b_Pro_endActive 7 = .ok (.if_icmp .ge 19, 3) := by decide +kernel
theorem d_Pro_endActive_10 : decode b_Pro_endActive 10 = .ok (.aload_n 0, 1) := by decide +kernel
theorem d_Pro_endActive_11 : decode b_Pro_endActive 11 = .ok (.getfield 19, 3) := by decide +kernel
theorem d_Pro_endActive_14 : decode b_Pro_endActive 14 = .ok (.iload_n 1, 1) := by decide +kernel
theorem d_Pro_endActive_15 : decode b_Pro_endActive 15 = .ok (.aaload, 1) := by decide +kernel
theorem d_Pro_endActive_16 : decode b_Pro_endActive 16 = .ok (.iconst 3, 1) := by decide +kernel
theorem d_Pro_endActive_17 : decode b_Pro_endActive 17 = .ok (.putfield 85, 3) := by decide +kernel
theorem d_Pro_endActive_20 : decode b_Pro_endActive 20 = .ok (.iinc 1 1, 3) := by decide +kernel
theorem d_Pro_endActive_23 : decode b_Pro_endActive 23 = .ok (.goto (-21), 3) := by decide +kernel
theorem d_Pro_endActive_26 : decode b_Pro_endActive 26 = .ok (.aload_n 0, 1) := by decide +kernel
theorem d_Pro_endActive_27 : decode b_Pro_endActive 27 = .ok (.iconst 0, 1) := by decide +kernel
theorem d_Pro_endActive_28 : decode b_Pro_endActive 28 = .ok (.putfield 23, 3) := by decide +kernel
theorem d_Pro_endActive_31 : decode b_Pro_endActive 31 = .ok (.return_, 1) := by decide +kernel
theorem d_TCM_collect_0 : decode b_TCM_collect 0 = .ok (.iload_n 1, 1) := by decide +kernel
theorem d_TCM_collect_1 : decode b_TCM_collect 1 = .ok (.iconst 1, 1) := by decide +kernel
theorem d_TCM_collect_2 : decode b_TCM_collect 2 = .ok (.bipush 100, 2) := by decide +kernel
theorem d_TCM_collect_4 : decode b_TCM_collect 4 = .ok (.invokestatic 25, 3) := by decide +kernel
theorem d_TCM_collect_7 : decode b_TCM_collect 7 = .ok (.aload_n 0, 1) := by decide +kernel
theorem d_TCM_collect_8 : decode b_TCM_collect 8 = .ok (.getfield 12, 3) := by decide +kernel
theorem d_TCM_collect_11 : decode b_TCM_collect 11 = .ok (.getfield 90, 3) := by decide +kernel
theorem d_TCM_collect_14 : decode b_TCM_collect 14 = .ok (.istore_n 2, 1) := by decide +kernel
theorem d_TCM_collect_15 : decode b_TCM_collect 15 = .ok (.iconst 0, 1) := by decide +kernel
theorem d_TCM_collect_16 : decode b_TCM_collect 16 = .ok (.istore_n 3, 1) := by decide +kernel
theorem d_TCM_collect_17 : decode b_TCM_collect 17 = .ok (.iload_n 3, 1) := by decide +kernel
theorem d_TCM_collect_18 : decode b_TCM_collect 18 = .ok (.iload_n 1, 1) := by decide +kernel
theorem d_TCM_collect_19 : decode b_TCM_collect 19 = .ok (.if_icmp .ge 16, 3) := by decide +kernel
theorem d_TCM_collect_22 : decode b_TCM_collect 22 = .ok (.aload_n 0, 1) := by decide +kernel
theorem d_TCM_collect_23 : decode b_TCM_collect 23 = .ok (.getfield 12, 3) := by decide +kernel
theorem d_TCM_collect_26 : decode b_TCM_collect 26 = .ok (.invokevirtual 93, 3) := by decide +kernel
theorem d_TCM_collect_29 : decode b_TCM_collect 29 = .ok (.iinc 3 1, 3) := by decide +kernel
theorem d_TCM_collect_32 : decode b_TCM_collect 32 = .ok (.goto (-15), 3) := by decide +kernel
theorem d_TCM_collect_35 : decode b_TCM_collect 35 = .ok (.aload_n 0, 1) := by decide +kernel
theorem d_TCM_collect_36 : decode b_TCM_collect 36 = .ok (.getfield 12, 3) := by decide +kernel
theorem d_TCM_collect_39 : decode b_TCM_collect 39 = .ok (.getfield 90, 3) := by decide +kernel
theorem d_TCM_collect_42 : decode b_TCM_collect 42 = .ok (.iload_n 2, 1) := by decide +kernel
theorem d_TCM_collect_43 : decode b_TCM_collect 43 = .ok (.isub, 1) := by decide +kernel
theorem d_TCM_collect_44 : decode b_TCM_collect 44 = .ok (.ireturn, 1) := by decide +kernel
theorem d_TCM_global_0 : decode b_TCM_global 0 = .ok (.iload_n 1, 1) := by decide +kernel
theorem d_TCM_global_1 : decode b_TCM_global 1 = .ok (.invokestatic 48, 3) := by decide +kernel
theorem d_TCM_global_4 : decode b_TCM_global 4 = .ok (.aload_n 0, 1) := by decide +kernel
theorem d_TCM_global_5 : decode b_TCM_global 5 = .ok (.getfield 12, 3) := by decide +kernel
theorem d_TCM_global_8 : decode b_TCM_global 8 = .ok (.getfield 52, 3) := by decide +kernel
theorem d_TCM_global_11 : decode b_TCM_global 11 = .ok (.iload_n 1, 1) := by decide +kernel
theorem d_TCM_global_12 : decode b_TCM_global 12 = .ok (.laload, 1) := by decide +kernel
theorem d_TCM_global_13 : decode b_TCM_global 13 = .ok (.lreturn, 1) := by decide +kernel
theorem d_TCM_object_0 : decode b_TCM_object 0 = .ok (.iload_n 1, 1) := by decide +kernel
theorem d_TCM_object_1 : decode b_TCM_object 1 = .ok (.iconst 0, 1) := by decide +kernel
theorem d_TCM_object_2 : decode b_TCM_object 2 = .ok (.bipush 15, 2) := by decide +kernel
theorem d_TCM_object_4 : decode b_TCM_object 4 = .ok (.invokestatic 25, 3) := by decide +kernel
theorem d_TCM_object_7 : decode b_TCM_object 7 = .ok (.iload_n 2, 1) := by decide +kernel
theorem d_TCM_object_8 : decode b_TCM_object 8 = .ok (.iconst 0, 1) := by decide +kernel
theorem d_TCM_object_9 : decode b_TCM_object 9 = .ok (.iconst 3, 1) := by decide +kernel
theorem d_TCM_object_10 : decode b_TCM_object 10 = .ok (.invokestatic 25, 3) := by decide +kernel
theorem d_TCM_object_13 : decode b_TCM_object 13 = .ok (.aload_n 0, 1) := by decide +kernel
theorem d_TCM_object_14 : decode b_TCM_object 14 = .ok (.getfield 12, 3) := by decide +kernel
theorem d_TCM_object_17 : decode b_TCM_object 17 = .ok (.getfield 99, 3) := by decide +kernel
theorem d_TCM_object_20 : decode b_TCM_object 20 = .ok (.iload_n 1, 1) := by decide +kernel
theorem d_TCM_object_21 : decode b_TCM_object 21 = .ok (.aaload, 1) := by decide +kernel
theorem d_TCM_object_22 : decode b_TCM_object 22 = .ok (.astore_n 3, 1) := by decide +kernel
theorem d_TCM_object_23 : decode b_TCM_object 23 = .ok (.iload_n 2, 1) := by decide +kernel
theorem d_TCM_object_24 : decode b_TCM_object 24 = .ok (.ifCond .ne 8, 3) := by decide +kernel
theorem d_TCM_object_27 : decode b_TCM_object 27 = .ok (.aload_n 3, 1) := by decide +kernel
theorem d_TCM_object_28 : decode b_TCM_object 28 = .ok (.getfield 103, 3) := by decide +kernel
theorem d_TCM_object_31 : decode b_TCM_object 31 = .ok (.ireturn, 1) := by decide +kernel
theorem d_TCM_object_32 : decode b_TCM_object 32 = .ok (.aload_n 3, 1) := by decide +kernel
theorem d_TCM_object_33 : decode b_TCM_object 33 = .ok (.getfield 103, 3) := by decide +kernel
theorem d_TCM_object_36 : decode b_TCM_object 36 = .ok (.ifCond .ne 11, 3) := by decide +kernel
theorem d_TCM_object_39 : decode b_TCM_object 39 = .ok (.new 108, 3) := by decide +kernel
theorem d_TCM_object_42 : decode b_TCM_object 42 = .ok (.dup, 1) := by decide +kernel
theorem d_TCM_object_43 : decode b_TCM_object 43 = .ok (.invokespecial 110, 3) := by decide +kernel
theorem d_TCM_object_46 : decode b_TCM_object 46 = .ok (.athrow, 1) := by decide +kernel
theorem d_TCM_object_47 : decode b_TCM_object 47 = .ok (.iload_n 2, 1) := by decide +kernel
theorem d_TCM_object_48 : decode b_TCM_object 48 = .ok (.iconst 1, 1) := by decide +kernel
theorem d_TCM_object_49 : decode b_TCM_object 49 = .ok (.if_icmp .ne 8, 3) := by decide +kernel
theorem d_TCM_object_52 : decode b_TCM_object 52 = .ok (.aload_n 3, 1) := by decide +kernel
theorem d_TCM_object_53 : decode b_TCM_object 53 = .ok (.getfield 111, 3) := by decide +kernel
theorem d_TCM_object_56 : decode b_TCM_object 56 = .ok (.ireturn, 1) := by decide +kernel
theorem d_TCM_object_57 : decode b_TCM_object 57 = .ok (.aload_n 3, 1) := by decide +kernel
theorem d_TCM_object_58 : decode b_TCM_object 58 = .ok (.getfield 103, 3) := by decide +kernel
theorem d_TCM_object_61 : decode b_TCM_object 61 = .ok (.iconst 1, 1) := by decide +kernel
theorem d_TCM_object_62 : decode b_TCM_object 62 = .ok (.if_icmp .ne 26, 3) := by decide +kernel
theorem d_TCM_object_65 : decode b_TCM_object 65 = .ok (.iload_n 2, 1) := by decide +kernel
theorem d_TCM_object_66 : decode b_TCM_object 66 = .ok (.iconst 2, 1) := by decide +kernel
theorem d_TCM_object_67 : decode b_TCM_object 67 = .ok (.if_icmp .ne 13, 3) := by decide +kernel
theorem d_TCM_object_70 : decode b_TCM_object 70 = .ok (.aload_n 3, 1) := by decide +kernel
theorem d_TCM_object_71 : decode b_TCM_object 71 = .ok (.getfield 114, 3) := by decide +kernel
theorem d_TCM_object_74 : decode b_TCM_object 74 = .ok (.getfield 118, 3) := by decide +kernel
theorem d_TCM_object_77 : decode b_TCM_object 77 = .ok (.goto 10, 3) := by decide +kernel
theorem d_TCM_object_80 : decode b_TCM_object 80 = .ok (.aload_n 3, 1) := by decide +kernel
theorem d_TCM_object_81 : decode b_TCM_object 81 = .ok (.getfield 114, 3) := by decide +kernel
theorem d_TCM_object_84 : decode b_TCM_object 84 = .ok (.getfield 123, 3) := by decide +kernel
theorem d_TCM_object_87 : decode b_TCM_object 87 = .ok (.ireturn, 1) := by decide +kernel
theorem d_TCM_object_88 : decode b_TCM_object 88 = .ok (.iload_n 2, 1) := by decide +kernel
theorem d_TCM_object_89 : decode b_TCM_object 89 = .ok (.iconst 2, 1) := by decide +kernel
theorem d_TCM_object_90 : decode b_TCM_object 90 = .ok (.if_icmp .ne 13, 3) := by decide +kernel
theorem d_TCM_object_93 : decode b_TCM_object 93 = .ok (.aload_n 3, 1) := by decide +kernel
theorem d_TCM_object_94 : decode b_TCM_object 94 = .ok (.getfield 126, 3) := by decide +kernel
theorem d_TCM_object_97 : decode b_TCM_object 97 = .ok (.getfield 130, 3) := by decide +kernel
theorem d_TCM_object_100 : decode b_TCM_object 100 = .ok (.goto 10, 3) := by decide +kernel
theorem d_TCM_object_103 : decode b_TCM_object 103 = .ok (.aload_n 3, 1) := by decide +kernel
theorem d_TCM_object_104 : decode b_TCM_object 104 = .ok (.getfield 126, 3) := by decide +kernel
theorem d_TCM_object_107 : decode b_TCM_object 107 = .ok (.getfield 135, 3) := by decide +kernel
theorem d_TCM_object_110 : decode b_TCM_object 110 = .ok (.ireturn, 1) := by decide +kernel
theorem d_TCM_inside_0 : decode b_TCM_inside 0 = .ok (.iload_n 1, 1) := by decide +kernel
theorem d_TCM_inside_1 : decode b_TCM_inside 1 = .ok (.iconst 0, 1) := by decide +kernel
theorem d_TCM_inside_2 : decode b_TCM_inside 2 = .ok (.bipush 15, 2) := by decide +kernel
theorem d_TCM_inside_4 : decode b_TCM_inside 4 = .ok (.invokestatic 25, 3) := by decide +kernel
theorem d_TCM_inside_7 : decode b_TCM_inside 7 = .ok (.iload_n 2, 1) := by decide +kernel
theorem d_TCM_inside_8 : decode b_TCM_inside 8 = .ok (.ifCond .ge 11, 3) := by decide +kernel
theorem d_TCM_inside_11 : decode b_TCM_inside 11 = .ok (.new 138, 3) := by decide +kernel
theorem d_TCM_inside_14 : decode b_TCM_inside 14 = .ok (.dup, 1) := by decide +kernel
theorem d_TCM_inside_15 : decode b_TCM_inside 15 = .ok (.invokespecial 140, 3) := by decide +kernel
theorem d_TCM_inside_18 : decode b_TCM_inside 18 = .ok (.athrow, 1) := by decide +kernel
theorem d_TCM_inside_19 : decode b_TCM_inside 19 = .ok (.aload_n 0, 1) := by decide +kernel
theorem d_TCM_inside_20 : decode b_TCM_inside 20 = .ok (.getfield 12, 3) := by decide +kernel
theorem d_TCM_inside_23 : decode b_TCM_inside 23 = .ok (.getfield 99, 3) := by decide +kernel
theorem d_TCM_inside_26 : decode b_TCM_inside 26 = .ok (.iload_n 1, 1) := by decide +kernel
theorem d_TCM_inside_27 : decode b_TCM_inside 27 = .ok (.aaload, 1) := by decide +kernel
theorem d_TCM_inside_28 : decode b_TCM_inside 28 = .ok (.astore 4, 2) := by decide +kernel
theorem d_TCM_inside_30 : decode b_TCM_inside 30 = .ok (.iload_n 2, 1) := by decide +kernel
theorem d_TCM_inside_31 : decode b_TCM_inside 31 = .ok (.aload 4, 2) := by decide +kernel
theorem d_TCM_inside_33 : decode b_TCM_inside 33 = .ok (.iload_n 3, 1) := by decide +kernel
theorem d_TCM_inside_34 : decode b_TCM_inside 34 = .ok (.invokevirtual 141, 3) := by decide +kernel
theorem d_TCM_inside_37 : decode b_TCM_inside 37 = .ok (.if_icmp .lt 11, 3) := by decide +kernel
theorem d_TCM_inside_40 : decode b_TCM_inside 40 = .ok (.new 108, 3) := by decide +kernel
theorem d_TCM_inside_43 : decode b_TCM_inside 43 = .ok (.dup, 1) := by decide +kernel
theorem d_TCM_inside_44 : decode b_TCM_inside 44 = .ok (.invokespecial 110, 3) := by decide +kernel
theorem d_TCM_inside_47 : decode b_TCM_inside 47 = .ok (.athrow, 1) := by decide +kernel
theorem d_TCM_inside_48 : decode b_TCM_inside 48 = .ok (.aload 4, 2) := by decide +kernel
theorem d_TCM_inside_50 : decode b_TCM_inside 50 = .ok (.getfield 103, 3) := by decide +kernel
theorem d_TCM_inside_53 : decode b_TCM_inside 53 = .ok (.iconst 2, 1) := by decide +kernel
theorem d_TCM_inside_54 : decode b_TCM_inside 54 = .ok (.if_icmp .ne 14, 3) := by decide +kernel
theorem d_TCM_inside_57 : decode b_TCM_inside 57 = .ok (.aload 4, 2) := by decide +kernel
theorem d_TCM_inside_59 : decode b_TCM_inside 59 = .ok (.getfield 126, 3) := by decide +kernel
theorem d_TCM_inside_62 : decode b_TCM_inside 62 = .ok (.getfield 145, 3) := by decide +kernel
theorem d_TCM_inside_65 : decode b_TCM_inside 65 = .ok (.iload_n 2, 1) := by decide +kernel
theorem d_TCM_inside_66 : decode b_TCM_inside 66 = .ok (.laload, 1) := by decide +kernel
theorem d_TCM_inside_67 : decode b_TCM_inside 67 = .ok (.lreturn, 1) := by decide +kernel
theorem d_TCM_inside_68 : decode b_TCM_inside 68 = .ok (.iload_n 3, 1) := by decide +kernel
theorem d_TCM_inside_69 : decode b_TCM_inside 69 = .ok (.ifCond .eq 16, 3) := by decide +kernel
theorem d_TCM_inside_72 : decode b_TCM_inside 72 = .ok (.aload 4, 2) := by decide +kernel
theorem d_TCM_inside_74 : decode b_TCM_inside 74 = .ok (.getfield 114, 3) := by decide +kernel
theorem d_TCM_inside_77 : decode b_TCM_inside 77 = .ok (.getfield 148, 3) := by decide +kernel
theorem d_TCM_inside_80 : decode b_TCM_inside 80 = .ok (.iload_n 2, 1) := by decide +kernel
theorem d_TCM_inside_81 : decode b_TCM_inside 81 = .ok (.laload, 1) := by decide +kernel
theorem d_TCM_inside_82 : decode b_TCM_inside 82 = .ok (.goto 13, 3) := by decide +kernel
theorem d_TCM_inside_85 : decode b_TCM_inside 85 = .ok (.aload 4, 2) := by decide +kernel
theorem d_TCM_inside_87 : decode b_TCM_inside 87 = .ok (.getfield 114, 3) := by decide +kernel
theorem d_TCM_inside_90 : decode b_TCM_inside 90 = .ok (.getfield 151, 3) := by decide +kernel
theorem d_TCM_inside_93 : decode b_TCM_inside 93 = .ok (.iload_n 2, 1) := by decide +kernel
theorem d_TCM_inside_94 : decode b_TCM_inside 94 = .ok (.laload, 1) := by decide +kernel
theorem d_TCM_inside_95 : decode b_TCM_inside 95 = .ok (.lreturn, 1) := by decide +kernel
end
section
/-! THE CLASS AS FUNCTIONS: its state (ints by field and object; longs by field, object and place; which coroutines are active), and what each method makes of it -/
abbrev CS : Type := (Nat → Nat → Int32) × (Nat → Nat → Nat → Int64) × (Nat → Option Nat)
def sI (C : CS) (f n : Nat) (v : Int32) : CS := (fun a b => if a = f ∧ b = n then v else C.1 a b, C.2.1, C.2.2)
def sJ (C : CS) (f n i : Nat) (v : Int64) : CS := (C.1, fun a b c => if a = f ∧ b = n ∧ c = i then v else C.2.1 a b c, C.2.2)
def sR (C : CS) (f n : Nat) (g : Nat → Int64) : CS := (C.1, fun a b c => if a = f ∧ b = n then g c else C.2.1 a b c, C.2.2)
def sA (C : CS) (i n : Nat) : CS := (C.1, C.2.1, va_up C.2.2 i (some n))
theorem sI_1 (C : CS) (f n a b : Nat) (v : Int32) : (sI C f n v).1 a b = if a = f ∧ b = n then v else C.1 a b := rfl
theorem sI_2 (C : CS) (f n : Nat) (v : Int32) : (sI C f n v).2 = C.2 := rfl
theorem sJ_1 (C : CS) (f n i : Nat) (v : Int64) : (sJ C f n i v).1 = C.1 := rfl
theorem sJ_2 (C : CS) (f n i a b c : Nat) (v : Int64) : (sJ C f n i v).2.1 a b c = if a = f ∧ b = n ∧ c = i then v else C.2.1 a b c := rfl
theorem sJ_3 (C : CS) (f n i : Nat) (v : Int64) : (sJ C f n i v).2.2 = C.2.2 := rfl
theorem sR_1 (C : CS) (f n : Nat) (g : Nat → Int64) : (sR C f n g).1 = C.1 := rfl
theorem sR_2 (C : CS) (f n a b c : Nat) (g : Nat → Int64) : (sR C f n g).2.1 a b c = if a = f ∧ b = n then g c else C.2.1 a b c := rfl
theorem sR_3 (C : CS) (f n : Nat) (g : Nat → Int64) : (sR C f n g).2.2 = C.2.2 := rfl
theorem sA_1 (C : CS) (i n : Nat) : (sA C i n).1 = C.1 := rfl
theorem sA_2 (C : CS) (i n : Nat) : (sA C i n).2.1 = C.2.1 := rfl
theorem sA_3 (C : CS) (i n : Nat) : (sA C i n).2.2 = va_up C.2.2 i (some n) := rfl
/-- the value of object n; the number of an object's value -/
def oV (n : Nat) : Int64 := 10000000000 + lN n
def on (v : Int64) : Nat := (v - 10000000000).toInt32.toNatClampNeg
def okV (v : Int64) : Prop := v < 10000000000 ∨ ∃ n, n < 16 ∧ v = oV n
theorem oV_sub : ∀ n, n < 16 → (oV n - 10000000000).toInt32 = nI n := by decide
theorem oV_ge : ∀ n, n < 16 → ¬ oV n < 10000000000 := by decide
theorem on_oV {n : Nat} (h : n < 16) : on (oV n) = n := by unfold on; rw [oV_sub n h]; exact nI_clamp (by omega)
theorem okV_on {v : Int64} (h : okV v) (hv : ¬ v < 10000000000) : on v < 16 ∧ v = oV (on v) ∧ (v - 10000000000).toInt32 = nI (on v) := by
  rcases h with h | ⟨n, hn, rfl⟩
  · exact absurd h hv
  · rw [on_oV hn]; exact ⟨hn, rfl, oV_sub n hn⟩
/-- an answer that is a place, or -1 -/
def enc : Option Nat → Int32
  | none => -1
  | some i => nI i
/-- the first place from i on, of c, where p holds -/
def lst (p : Nat → Bool) : Nat → Nat → Option Nat
  | 0, _ => none
  | c + 1, i => if p i = true then some i else lst p c (i + 1)
theorem lst_lt {p : Nat → Bool} : ∀ (c i j : Nat), lst p c i = some j → i ≤ j ∧ j < i + c ∧ p j = true
  | 0, i, j, h => by cases h
  | c + 1, i, j, h => by
    unfold lst at h
    by_cases hp : p i = true
    · rw [if_pos hp] at h
      cases h
      exact ⟨Nat.le_refl _, by omega, hp⟩
    · rw [if_neg hp] at h
      obtain ⟨h1, h2, h3⟩ := lst_lt c (i + 1) j h
      exact ⟨by omega, by omega, h3⟩
def cPairs (C : CS) (n : Nat) : Nat := (C.1 2 n).toNatClampNeg
def tfind (C : CS) (n : Nat) (key : Int64) : Option Nat := lst (fun i => C.2.1 1 n i == key) (cPairs C n) 0
def isA (C : CS) (k : Int32) (v : Int64) : Bool := !decide (v < 10000000000) && decide (C.1 0 (on v) = k)
def tlinked (C : CS) (mt : Int32) (link : Int64) : Option Nat :=
  if mt < 0 then none else match tfind C mt.toNatClampNeg link with
    | none => none
    | some j => if isA C 1 (C.2.1 2 mt.toNatClampNeg j) = true then some (on (C.2.1 2 mt.toNatClampNeg j)) else none
def tlast (C : CS) (key link : Int64) : Nat → Nat → Option Nat
  | 0, _ => none
  | c + 1, n => match (if (tfind C n key).isSome = true then none else tlinked C (C.1 3 n) link) with
    | none => some n
    | some m => tlast C key link c m
def ctouch (C : CS) (n : Nat) : CS := if C.1 13 0 = 1 ∧ C.1 1 n = 2 then sI C 1 n 1 else C
def tclear (C : CS) (n : Nat) : CS := sI (sI C 2 n 0) 3 n (-1)
/-- a row whose first k places are v -/
def fil (v : Int64) (k : Nat) (f : Nat → Int64) : Nat → Int64 := fun i => if i < k then v else f i
def cclear (C : CS) (n : Nat) (f : Int32) : CS := sI (sI (sI (sI (sR C 3 n (fil (-1000000000000) 4 (C.2.1 3 n))) 4 n f) 5 n 0) 6 n 0) 7 n 0
def tappend (C : CS) (n : Nat) (key value : Int64) : CS := sI (sJ (sJ C 1 n (cPairs C n) key) 2 n (cPairs C n) value) 2 n (C.1 2 n + 1)
def ttake (C : CS) (n pair : Nat) : CS := sI (sR (sR C 1 n (va_cpy (C.2.1 1 n) (C.2.1 1 n) (pair + 1) pair (cPairs C n - pair - 1))) 2 n (va_cpy (C.2.1 2 n) (C.2.1 2 n) (pair + 1) pair (cPairs C n - pair - 1))) 2 n (C.1 2 n - 1)
def cbirth (C : CS) (n : Nat) : Int32 := if C.1 13 0 = 1 ∨ (C.1 13 0 = 2 ∧ C.1 14 0 ≤ nI n) then 2 else 0
def cfree (C : CS) : Option Nat := lst (fun n => C.1 0 n == 0) 16 0
def cgray (C : CS) : Option Nat := lst (fun n => C.1 1 n == 1) 16 0
def cactive (C : CS) (n : Nat) : Bool := decide (C.1 0 n = 2) && decide (C.1 6 n = 2)
/-- a row of values: the white objects in it become gray; how many -/
def cshade (C : CS) (n : Nat) : Int32 × CS := if C.1 1 n = 0 then (1, sI C 1 n 1) else (0, C)
def cshadeRow (row : Nat → Int64) : Nat → Nat → Int32 → CS → Int32 × CS
  | 0, _, a, C => (a, C)
  | c + 1, i, a, C => if ¬ row i < 10000000000 ∧ C.1 1 (on (row i)) = 0 then cshadeRow row c (i + 1) (a + 1) (sI C 1 (on (row i)) 1) else cshadeRow row c (i + 1) a C
def croots : Nat → Nat → Int32 → CS → Int32 × CS
  | 0, _, a, C => (a, C)
  | c + 1, n, a, C => if cactive C n = true then
      croots c (n + 1) (a + (cshade C n).1 + (cshadeRow (C.2.1 3 n) 4 0 0 (cshade C n).2).1) (cshadeRow (C.2.1 3 n) 4 0 0 (cshade C n).2).2
    else croots c (n + 1) a C
def cshadeRoots (C : CS) : Int32 × CS := croots 16 0 (cshadeRow (C.2.1 0 0) 6 0 0 C).1 (cshadeRow (C.2.1 0 0) 6 0 0 C).2
def cblacken (C : CS) (n : Nat) : CS :=
  let C1 := sI C 1 n 2
  if C.1 0 n = 2 then (cshadeRow (C.2.1 3 n) 4 0 0 C1).2
  else
    let C3 := (cshadeRow (C.2.1 2 n) (cPairs C n) 0 0 (cshadeRow (C.2.1 1 n) (cPairs C n) 0 0 C1).2).2
    if C.1 3 n < 0 then C3 else (cshade C3 (C.1 3 n).toNatClampNeg).2
def csweep (C : CS) : CS :=
  let i := (C.1 14 0).toNatClampNeg
  let C1 := if ¬ C.1 0 i = 0 ∧ C.1 1 i = 0 then sI (sI C 0 i 0) 16 0 (C.1 16 0 + 1) else C
  let C2 := sI (sI C1 1 i 0) 14 0 (C.1 14 0 + 1)
  if C.1 14 0 + 1 = 16 then sI (sI C2 14 0 0) 13 0 0 else C2
def cunit (C : CS) : CS :=
  let C1 := sI C 17 0 (C.1 17 0 + 1)
  if C.1 13 0 = 2 then csweep C1 else match cgray C1 with
    | some n => cblacken C1 n
    | none => sI (cshadeRoots C1).2 13 0 (if C.1 13 0 = 0 ∨ 0 < (cshadeRoots C1).1 then 1 else 2)
def cwhile : Nat → CS → CS
  | 0, C => C
  | c + 1, C => if C.1 13 0 = 0 then C else cwhile c (cunit C)
def cfull (C : CS) : CS := cwhile 1000 (cunit (cwhile 1000 (sI C 18 0 (C.1 18 0 + 1))))
def ccreate (C : CS) (kind f : Int32) : Int32 × CS :=
  let C0 := if (cfree C).isSome = true then C else cfull C
  match cfree C0 with
  | none => (3, C0)
  | some n =>
    let C1 := sI C0 0 n kind
    let C2 := sI C1 1 n (cbirth C1 n)
    let C3 := if kind = 1 then tclear C2 n else cclear C2 n f
    (0, sJ (sI C3 15 0 (C3.1 15 0 + 1)) 4 0 0 (10000000000 + (nI n).toInt64))
def cgetting (C : CS) (t k : Int64) : Int32 × CS :=
  if isA C 1 t = true then
    let C1 := sJ C 4 0 0 (-1000000000000)
    if k = -1000000000000 then (0, C1) else match tlast C1 k 0 5 (on t) with
      | none => (2, C1)
      | some n => match tfind C1 n k with
        | none => (0, C1)
        | some j => (0, sJ C1 4 0 0 (C1.2.1 2 n j))
  else (1, C)
def csetting (C : CS) (t k v : Int64) : Int32 × CS :=
  if isA C 1 t = true ∧ ¬ k = -1000000000000 then match tlast C k 1 5 (on t) with
    | none => (2, C)
    | some n => match tfind C n k with
      | none => if v = -1000000000000 then (0, C) else if C.1 2 n = 6 then (3, C) else (0, ctouch (tappend C n k v) n)
      | some j => if v = -1000000000000 then (0, ctouch (ttake C n j) n) else (0, ctouch (sJ C 2 n j v) n)
  else (1, C)
def csetMeta (C : CS) (t m : Int64) : Int32 × CS :=
  if isA C 1 t = true ∧ (m = -1000000000000 ∨ isA C 1 m = true) then (0, ctouch (sI C 3 (on t) (if m = -1000000000000 then -1 else nI (on m))) (on t)) else (1, C)
def ckeyAfter (C : CS) (t k : Int64) : Int32 × CS :=
  if isA C 1 t = true then
    if k = -1000000000000 then (0, sJ C 4 0 0 (if 0 < cPairs C (on t) then C.2.1 1 (on t) 0 else -1000000000000))
    else match tfind C (on t) k with
      | none => (1, C)
      | some j => (0, sJ C 4 0 0 (if j + 1 < cPairs C (on t) then C.2.1 1 (on t) (j + 1) else -1000000000000))
  else (1, C)
def chowMany (C : CS) (t : Int64) : Int32 × CS := if isA C 1 t = true then (0, sJ C 4 0 0 (C.1 2 (on t)).toInt64) else (1, C)
/-! the processor -/
def cDepth (C : CS) : Nat := (C.1 19 0).toNatClampNeg
def centerOk (C : CS) (v : Int64) : Int32 := if isA C 2 v = true ∧ ¬ C.1 6 (on v) = 3 ∧ ¬ C.1 6 (on v) = 2 then (if C.1 19 0 = 5 then 2 else 0) else 1
def center (C : CS) (v x : Int64) : Int32 × CS :=
  if centerOk C v = 0 then (0, sI (sA (ctouch (sI (sJ C 3 (on v) (C.1 7 (on v)).toNatClampNeg x) 6 (on v) 2) (on v)) (cDepth C) (on v)) 19 0 (C.1 19 0 + 1)) else (centerOk C v, C)
/-- the active coroutine at place i of the stack -/
def cact (C : CS) (i : Nat) : Nat := (C.2.2 i).getD 0
def cleave (C : CS) (x : Int64) : CS :=
  if C.1 19 0 - 1 = 0 then sJ (sI C 19 0 (C.1 19 0 - 1)) 5 0 0 x
  else
    let n := cact C (cDepth C - 2)
    let C1 := sJ (sI C 19 0 (C.1 19 0 - 1)) 3 n (C.1 8 n).toNatClampNeg x
    sI C1 5 n (C1.1 5 n + 1)
def cend : Nat → Nat → CS → CS
  | 0, _, C => sI C 19 0 0
  | c + 1, i, C => cend c (i + 1) (sI C 6 (cact C i) 3)
def fmod (x : Int32) (m : Nat) : Nat := (x.toInt % (m : Int)).toNat
def isNum (v : Int64) : Prop := -2147483648 ≤ v ∧ v ≤ 2147483647
def ckeep (C : CS) (n a : Nat) (tr : Int32) : CS := if tr = 0 then sJ C 3 n a (C.2.1 4 0 0) else C
noncomputable def ccalc (C : CS) (op : Int32) (n a : Nat) (x y : Int64) : Int32 × CS := by
  classical
  exact if isNum x ∧ isNum y then (0, sJ C 3 n a (if op = 8 then (x.toInt32 + y.toInt32).toInt64 else if op = 9 then (x.toInt32 - y.toInt32).toInt64 else (x.toInt32 * y.toInt32).toInt64)) else (1, C)
noncomputable def cbelow (C : CS) (x y : Int64) (p : Int32) : Int32 × CS := by
  classical
  exact if isNum x ∧ isNum y then (0, if x < y then sI C 21 0 (nI (fmod p 16)) else C) else (1, C)
/-- an INSTRUCTION begun: it counts, and the next place is one more -/
def cbeg (C : CS) (n : Nat) : CS := sI (sI C 20 0 (C.1 20 0 + 1)) 21 0 (C.1 5 n + 1)
def ckept (r : Int32 × CS) (n a : Nat) : Int32 × CS := (r.1, ckeep r.2 n a r.1)
/-- instruction k done by coroutine n, its op the number o -/
noncomputable def cperfO (C : CS) (n k : Nat) : Nat → Int32 × CS
  | 0 => (0, sJ (cbeg C n) 3 n (fmod (C.1 10 k) 4) (-1000000000000))
  | 1 => (0, sJ (cbeg C n) 3 n (fmod (C.1 10 k) 4) (C.1 12 k).toInt64)
  | 2 => (0, sJ (cbeg C n) 3 n (fmod (C.1 10 k) 4) (C.2.1 3 n (fmod (C.1 11 k) 4)))
  | 3 => (0, sJ (cbeg C n) 3 n (fmod (C.1 10 k) 4) (C.2.1 0 0 (fmod (C.1 12 k) 6)))
  | 4 => (0, sJ (cbeg C n) 0 0 (fmod (C.1 12 k) 6) (C.2.1 3 n (fmod (C.1 10 k) 4)))
  | 5 => ckept (ccreate (cbeg C n) 1 0) n (fmod (C.1 10 k) 4)
  | 6 => ckept (cgetting (cbeg C n) (C.2.1 3 n (fmod (C.1 11 k) 4)) (C.2.1 3 n (fmod (C.1 12 k) 4))) n (fmod (C.1 10 k) 4)
  | 7 => csetting (cbeg C n) (C.2.1 3 n (fmod (C.1 10 k) 4)) (C.2.1 3 n (fmod (C.1 11 k) 4)) (C.2.1 3 n (fmod (C.1 12 k) 4))
  | 8 => ccalc (cbeg C n) 8 n (fmod (C.1 10 k) 4) (C.2.1 3 n (fmod (C.1 11 k) 4)) (C.2.1 3 n (fmod (C.1 12 k) 4))
  | 9 => ccalc (cbeg C n) 9 n (fmod (C.1 10 k) 4) (C.2.1 3 n (fmod (C.1 11 k) 4)) (C.2.1 3 n (fmod (C.1 12 k) 4))
  | 10 => ccalc (cbeg C n) 10 n (fmod (C.1 10 k) 4) (C.2.1 3 n (fmod (C.1 11 k) 4)) (C.2.1 3 n (fmod (C.1 12 k) 4))
  | 11 => cbelow (cbeg C n) (C.2.1 3 n (fmod (C.1 10 k) 4)) (C.2.1 3 n (fmod (C.1 11 k) 4)) (C.1 12 k)
  | 12 => (0, sI (cbeg C n) 21 0 (nI (fmod (C.1 12 k) 16)))
  | 13 => (0, if C.2.1 3 n (fmod (C.1 10 k) 4) = -1000000000000 then sI (cbeg C n) 21 0 (nI (fmod (C.1 12 k) 16)) else cbeg C n)
  | 14 => (0, if C.2.1 3 n (fmod (C.1 10 k) 4) = C.2.1 3 n (fmod (C.1 11 k) 4) then sI (cbeg C n) 21 0 (nI (fmod (C.1 12 k) 16)) else cbeg C n)
  | 15 => csetMeta (cbeg C n) (C.2.1 3 n (fmod (C.1 10 k) 4)) (C.2.1 3 n (fmod (C.1 11 k) 4))
  | 16 => ckept (ccreate (cbeg C n) 2 (nI (fmod (C.1 12 k) 4))) n (fmod (C.1 10 k) 4)
  | 17 => center (sI (sI (cbeg C n) 21 0 (C.1 5 n)) 8 n (nI (fmod (C.1 10 k) 4))) (C.2.1 3 n (fmod (C.1 11 k) 4)) (C.2.1 3 n (fmod (C.1 12 k) 4))
  | 18 => (0, cleave (sI (sI (cbeg C n) 6 n 1) 7 n (nI (fmod (C.1 10 k) 4))) (C.2.1 3 n (fmod (C.1 10 k) 4)))
  | 19 => (0, cleave (sI (cbeg C n) 6 n 3) (C.2.1 3 n (fmod (C.1 10 k) 4)))
  | 20 => ckept (ckeyAfter (cbeg C n) (C.2.1 3 n (fmod (C.1 11 k) 4)) (C.2.1 3 n (fmod (C.1 12 k) 4))) n (fmod (C.1 10 k) 4)
  | 21 => ckept (chowMany (cbeg C n) (C.2.1 3 n (fmod (C.1 11 k) 4))) n (fmod (C.1 10 k) 4)
  | _ => (1, cbeg C n)
end
section
/-! THE CLASS'S WORLD: 171 cells in the order in which the constructors make them -/
/-- the place of thing n of code cd: 0 the machine, 1 heap, 2 globals, 3 cells, 4 Cell, 5 Table, 6 keys, 7 values, 8 Coroutine, 9 registers, 10 processor, 11 instructions, 12 active, 13 Instruction -/
def ix (cd n : Nat) : Nat := match cd with
  | 0 => 0
  | 1 => 1
  | 2 => 2
  | 3 => 3
  | 4 => 4 + 6 * n
  | 5 => 5 + 6 * n
  | 6 => 6 + 6 * n
  | 7 => 7 + 6 * n
  | 8 => 8 + 6 * n
  | 9 => 9 + 6 * n
  | 10 => 100
  | 11 => 101
  | 12 => 102
  | _ => 103 + n
def kd (k : Nat) : Nat × Nat := if k < 4 then (k, 0) else if k < 100 then (4 + (k - 4) % 6, (k - 4) / 6) else if k < 103 then (k - 90, 0) else (13, k - 103)
/-- how many of a code there are -/
def nk (cd : Nat) : Nat := if cd < 4 then 1 else if cd < 10 then 16 else if cd < 13 then 1 else 68
theorem kd_ix : ∀ cd, cd < 14 → ∀ n, n < nk cd → kd (ix cd n) = (cd, n) := by decide +kernel
theorem ix_lt : ∀ cd, cd < 14 → ∀ n, n < nk cd → ix cd n < 171 := by decide +kernel
theorem ix_kd : ∀ k, k < 171 → ix (kd k).1 (kd k).2 = k := by decide +kernel
def ob (ad : Nat → Nat) (t : Nat → ClassId) (C : CS) (cd n : Nat) : va_E := match cd with
  | 0 => .inr (6, [.ref (ad (ix 10 0)), .ref (ad (ix 1 0))])
  | 1 => .inr (2, [.ref (ad (ix 2 0)), .ref (ad (ix 3 0)), .int (C.1 13 n), .int (C.1 14 n), .int (C.1 15 n), .int (C.1 16 n), .int (C.1 17 n), .int (C.1 18 n), .long (C.2.1 4 n 0)])
  | 2 => .inl (t 0, 6, .inr (.inl (C.2.1 0 n)))
  | 3 => .inl (t 1, 16, .inr (.inr (.inr (.inr (fun i => some (ad (ix 4 i)))))))
  | 4 => .inr (0, [.ref (ad (ix 5 n)), .ref (ad (ix 8 n)), .int (C.1 0 n), .int (C.1 1 n)])
  | 5 => .inr (5, [.ref (ad (ix 6 n)), .ref (ad (ix 7 n)), .int (C.1 2 n), .int (C.1 3 n)])
  | 6 => .inl (t 0, 6, .inr (.inl (C.2.1 1 n)))
  | 7 => .inl (t 0, 6, .inr (.inl (C.2.1 2 n)))
  | 8 => .inr (1, [.ref (ad (ix 9 n)), .int (C.1 4 n), .int (C.1 5 n), .int (C.1 6 n), .int (C.1 7 n), .int (C.1 8 n)])
  | 9 => .inl (t 0, 4, .inr (.inl (C.2.1 3 n)))
  | 10 => .inr (4, [.ref (ad (ix 1 0)), .ref (ad (ix 11 0)), .ref (ad (ix 12 0)), .int (C.1 19 n), .int (C.1 20 n), .int (C.1 21 n), .long (C.2.1 5 n 0)])
  | 11 => .inl (t 2, 68, .inr (.inr (.inr (.inr (fun i => some (ad (ix 13 i)))))))
  | 12 => .inl (t 3, 5, .inr (.inr (.inr (.inr (fun i => if n = 0 then (C.2.2 i).map (fun m => ad (ix 8 m)) else none)))))
  | 13 => .inr (3, [.int (C.1 9 n), .int (C.1 10 n), .int (C.1 11 n), .int (C.1 12 n)])
  | _ => .inr (3, [])
def wc (ad : Nat → Nat) (t : Nat → ClassId) (C : CS) : Nat → va_E := fun k => ob ad t C (kd k).1 (kd k).2
abbrev tyc (t : Nat → ClassId) : List (ClassId × FieldType) := [(t 0, .long), (t 1, .object "TriColourMachine$Cell"), (t 2, .object "TriColourMachine$Instruction"), (t 3, .object "TriColourMachine$Coroutine")]
/-- which code holds an int field, a row of longs -/
def rdI (f : Nat) : Nat := if f < 2 then 4 else if f < 4 then 5 else if f < 9 then 8 else if f < 13 then 13 else if f < 19 then 1 else 10
def rdJ (f : Nat) : Nat := if f = 0 then 2 else if f = 1 then 6 else if f = 2 then 7 else if f = 3 then 9 else if f = 4 then 1 else 10
section State
variable {ad : Nat → Nat} {t : Nat → ClassId} {C : CS} {cd n f i : Nat}
theorem wc_at (h1 : cd < 14) (h2 : n < nk cd) : wc ad t C (ix cd n) = ob ad t C cd n := by unfold wc; rw [kd_ix cd h1 n h2]
theorem ob_same {C' : CS} (cd' n' : Nat) (h1 : ∀ g, rdI g = cd' → C'.1 g n' = C.1 g n') (h2 : ∀ g, rdJ g = cd' → C'.2.1 g n' = C.2.1 g n') (h3 : cd' = 12 → n' = 0 → C'.2.2 = C.2.2) : ob ad t C' cd' n' = ob ad t C cd' n' := by
  unfold ob
  split
  · rfl
  · rw [h1 13 rfl, h1 14 rfl, h1 15 rfl, h1 16 rfl, h1 17 rfl, h1 18 rfl, h2 4 rfl]
  · rw [h2 0 rfl]
  · rfl
  · rw [h1 0 rfl, h1 1 rfl]
  · rw [h1 2 rfl, h1 3 rfl]
  · rw [h2 1 rfl]
  · rw [h2 2 rfl]
  · rw [h1 4 rfl, h1 5 rfl, h1 6 rfl, h1 7 rfl, h1 8 rfl]
  · rw [h2 3 rfl]
  · rw [h1 19 rfl, h1 20 rfl, h1 21 rfl, h2 5 rfl]
  · rfl
  · by_cases hn : n' = 0
    · rw [h3 rfl hn]
    · simp [hn]
  · rw [h1 9 rfl, h1 10 rfl, h1 11 rfl, h1 12 rfl]
  · rfl
theorem wc_up {C' : CS} {e : va_E} (h1 : cd < 14) (h2 : n < nk cd) (he : ob ad t C' cd n = e) (hne : ∀ cd' n', ¬ (cd' = cd ∧ n' = n) → ob ad t C' cd' n' = ob ad t C cd' n') : ∀ k, k < 171 → va_up (wc ad t C) (ix cd n) e k = wc ad t C' k := by
  intro k hk
  by_cases hq : k = ix cd n
  · subst hq
    rw [wc_at h1 h2, he]
    simp [va_up]
  · simp only [va_up, if_neg hq]
    refine (hne _ _ (fun z => hq ?_)).symm
    rw [← ix_kd k hk, z.1, z.2]
theorem wc_sI {v : Int32} {e : va_E} (hf : rdI f = cd) (h1 : cd < 14) (h2 : n < nk cd) (he : ob ad t (sI C f n v) cd n = e) : ∀ k, k < 171 → va_up (wc ad t C) (ix cd n) e k = wc ad t (sI C f n v) k := by
  refine wc_up h1 h2 he (fun cd' n' hne => ob_same cd' n' (fun g hg => ?_) (fun g hg => rfl) (fun _ _ => rfl))
  rw [sI_1, if_neg]
  rintro ⟨rfl, rfl⟩
  exact hne ⟨hg.symm.trans hf, rfl⟩
theorem wc_sJ {v : Int64} {e : va_E} (hf : rdJ f = cd) (h1 : cd < 14) (h2 : n < nk cd) (he : ob ad t (sJ C f n i v) cd n = e) : ∀ k, k < 171 → va_up (wc ad t C) (ix cd n) e k = wc ad t (sJ C f n i v) k := by
  refine wc_up h1 h2 he (fun cd' n' hne => ob_same cd' n' (fun g hg => rfl) (fun g hg => ?_) (fun _ _ => rfl))
  funext c
  rw [sJ_2, if_neg]
  rintro ⟨rfl, rfl, rfl⟩
  exact hne ⟨hg.symm.trans hf, rfl⟩
theorem wc_sR {r : Nat → Int64} {e : va_E} (hf : rdJ f = cd) (h1 : cd < 14) (h2 : n < nk cd) (he : ob ad t (sR C f n r) cd n = e) : ∀ k, k < 171 → va_up (wc ad t C) (ix cd n) e k = wc ad t (sR C f n r) k := by
  refine wc_up h1 h2 he (fun cd' n' hne => ob_same cd' n' (fun g hg => rfl) (fun g hg => ?_) (fun _ _ => rfl))
  funext c
  rw [sR_2, if_neg]
  rintro ⟨rfl, rfl⟩
  exact hne ⟨hg.symm.trans hf, rfl⟩
theorem wc_sA {m : Nat} {e : va_E} (he : ob ad t (sA C i m) 12 0 = e) : ∀ k, k < 171 → va_up (wc ad t C) (ix 12 0) e k = wc ad t (sA C i m) k := by
  refine wc_up (by decide) (by decide) he (fun cd' n' hne => ob_same cd' n' (fun g hg => rfl) (fun g hg => rfl) (fun h1 h2 => absurd ⟨h1, h2⟩ hne))
end State
section FieldRows
variable {Γ : GT} {cc : ByteArray} {own : String} {rm : Room} {nl : List (String × Nat × MethodName × String)} {kc ks pc index : Nat} {ad : Nat → Nat} {t : Nat → ClassId} {C : CS} {L : List (Option Value)} {st : List Value}
theorem gf_Cell_table (h : Cx Γ cc own rm TB CL (tyc t) nl) {n : Nat} (hlink : Cond.fieldLink own index "TriColourMachine$Cell" "table" "LTriColourMachine$Table;" ∈ TB) (hn : n < 16) (hd : decode cc pc = .ok (.getfield index, 3)) (k : G Γ kc ks 171 ad (wc ad t C) (pc + 3) L (.ref (ad (ix 5 n)) :: st)) : G Γ kc ks 171 ad (wc ad t C) pc L (.ref (ad (ix 4 n)) :: st) := g_get h i_Cell (ix 4 n) (ix_lt 4 (by decide) _ hn) (wc_at (by decide) hn) rfl 0 (by decide) hlink rfl hd k
theorem gf_Cell_coroutine (h : Cx Γ cc own rm TB CL (tyc t) nl) {n : Nat} (hlink : Cond.fieldLink own index "TriColourMachine$Cell" "coroutine" "LTriColourMachine$Coroutine;" ∈ TB) (hn : n < 16) (hd : decode cc pc = .ok (.getfield index, 3)) (k : G Γ kc ks 171 ad (wc ad t C) (pc + 3) L (.ref (ad (ix 8 n)) :: st)) : G Γ kc ks 171 ad (wc ad t C) pc L (.ref (ad (ix 4 n)) :: st) := g_get h i_Cell (ix 4 n) (ix_lt 4 (by decide) _ hn) (wc_at (by decide) hn) rfl 1 (by decide) hlink rfl hd k
theorem gf_Cell_kind (h : Cx Γ cc own rm TB CL (tyc t) nl) {n : Nat} (hlink : Cond.fieldLink own index "TriColourMachine$Cell" "kind" "I" ∈ TB) (hn : n < 16) (hd : decode cc pc = .ok (.getfield index, 3)) (k : G Γ kc ks 171 ad (wc ad t C) (pc + 3) L (.int (C.1 0 n) :: st)) : G Γ kc ks 171 ad (wc ad t C) pc L (.ref (ad (ix 4 n)) :: st) := g_get h i_Cell (ix 4 n) (ix_lt 4 (by decide) _ hn) (wc_at (by decide) hn) rfl 2 (by decide) hlink rfl hd k
theorem pf_Cell_kind (h : Cx Γ cc own rm TB CL (tyc t) nl) {n : Nat} {v : Int32} (hlink : Cond.fieldLink own index "TriColourMachine$Cell" "kind" "I" ∈ TB) (hn : n < 16) (hd : decode cc pc = .ok (.putfield index, 3)) (k : G Γ kc ks 171 ad (wc ad t (sI C 0 n v)) (pc + 3) L st) : G Γ kc ks 171 ad (wc ad t C) pc L (.int v :: .ref (ad (ix 4 n)) :: st) := g_put h i_Cell (ix 4 n) (ix_lt 4 (by decide) _ hn) (wc_at (by decide) hn) rfl 2 (by decide) t_Cell t_Cell_ok n_Cell hlink rfl rfl rfl (Nat.le_of_ble_eq_true rfl) hd (g_world (wc_sI rfl (by decide) hn (by simp [ob, sI_1, sI_2])) k)
theorem gf_Cell_colour (h : Cx Γ cc own rm TB CL (tyc t) nl) {n : Nat} (hlink : Cond.fieldLink own index "TriColourMachine$Cell" "colour" "I" ∈ TB) (hn : n < 16) (hd : decode cc pc = .ok (.getfield index, 3)) (k : G Γ kc ks 171 ad (wc ad t C) (pc + 3) L (.int (C.1 1 n) :: st)) : G Γ kc ks 171 ad (wc ad t C) pc L (.ref (ad (ix 4 n)) :: st) := g_get h i_Cell (ix 4 n) (ix_lt 4 (by decide) _ hn) (wc_at (by decide) hn) rfl 3 (by decide) hlink rfl hd k
theorem pf_Cell_colour (h : Cx Γ cc own rm TB CL (tyc t) nl) {n : Nat} {v : Int32} (hlink : Cond.fieldLink own index "TriColourMachine$Cell" "colour" "I" ∈ TB) (hn : n < 16) (hd : decode cc pc = .ok (.putfield index, 3)) (k : G Γ kc ks 171 ad (wc ad t (sI C 1 n v)) (pc + 3) L st) : G Γ kc ks 171 ad (wc ad t C) pc L (.int v :: .ref (ad (ix 4 n)) :: st) := g_put h i_Cell (ix 4 n) (ix_lt 4 (by decide) _ hn) (wc_at (by decide) hn) rfl 3 (by decide) t_Cell t_Cell_ok n_Cell hlink rfl rfl rfl (Nat.le_of_ble_eq_true rfl) hd (g_world (wc_sI rfl (by decide) hn (by simp [ob, sI_1, sI_2])) k)
theorem gf_Tab_keys (h : Cx Γ cc own rm TB CL (tyc t) nl) {n : Nat} (hlink : Cond.fieldLink own index "TriColourMachine$Table" "keys" "[J" ∈ TB) (hn : n < 16) (hd : decode cc pc = .ok (.getfield index, 3)) (k : G Γ kc ks 171 ad (wc ad t C) (pc + 3) L (.ref (ad (ix 6 n)) :: st)) : G Γ kc ks 171 ad (wc ad t C) pc L (.ref (ad (ix 5 n)) :: st) := g_get h i_Tab (ix 5 n) (ix_lt 5 (by decide) _ hn) (wc_at (by decide) hn) rfl 0 (by decide) hlink rfl hd k
theorem gf_Tab_values (h : Cx Γ cc own rm TB CL (tyc t) nl) {n : Nat} (hlink : Cond.fieldLink own index "TriColourMachine$Table" "values" "[J" ∈ TB) (hn : n < 16) (hd : decode cc pc = .ok (.getfield index, 3)) (k : G Γ kc ks 171 ad (wc ad t C) (pc + 3) L (.ref (ad (ix 7 n)) :: st)) : G Γ kc ks 171 ad (wc ad t C) pc L (.ref (ad (ix 5 n)) :: st) := g_get h i_Tab (ix 5 n) (ix_lt 5 (by decide) _ hn) (wc_at (by decide) hn) rfl 1 (by decide) hlink rfl hd k
theorem gf_Tab_pairs (h : Cx Γ cc own rm TB CL (tyc t) nl) {n : Nat} (hlink : Cond.fieldLink own index "TriColourMachine$Table" "pairs" "I" ∈ TB) (hn : n < 16) (hd : decode cc pc = .ok (.getfield index, 3)) (k : G Γ kc ks 171 ad (wc ad t C) (pc + 3) L (.int (C.1 2 n) :: st)) : G Γ kc ks 171 ad (wc ad t C) pc L (.ref (ad (ix 5 n)) :: st) := g_get h i_Tab (ix 5 n) (ix_lt 5 (by decide) _ hn) (wc_at (by decide) hn) rfl 2 (by decide) hlink rfl hd k
theorem pf_Tab_pairs (h : Cx Γ cc own rm TB CL (tyc t) nl) {n : Nat} {v : Int32} (hlink : Cond.fieldLink own index "TriColourMachine$Table" "pairs" "I" ∈ TB) (hn : n < 16) (hd : decode cc pc = .ok (.putfield index, 3)) (k : G Γ kc ks 171 ad (wc ad t (sI C 2 n v)) (pc + 3) L st) : G Γ kc ks 171 ad (wc ad t C) pc L (.int v :: .ref (ad (ix 5 n)) :: st) := g_put h i_Tab (ix 5 n) (ix_lt 5 (by decide) _ hn) (wc_at (by decide) hn) rfl 2 (by decide) t_Tab t_Tab_ok n_Tab hlink rfl rfl rfl (Nat.le_of_ble_eq_true rfl) hd (g_world (wc_sI rfl (by decide) hn (by simp [ob, sI_1, sI_2])) k)
theorem gf_Tab_meta (h : Cx Γ cc own rm TB CL (tyc t) nl) {n : Nat} (hlink : Cond.fieldLink own index "TriColourMachine$Table" "meta" "I" ∈ TB) (hn : n < 16) (hd : decode cc pc = .ok (.getfield index, 3)) (k : G Γ kc ks 171 ad (wc ad t C) (pc + 3) L (.int (C.1 3 n) :: st)) : G Γ kc ks 171 ad (wc ad t C) pc L (.ref (ad (ix 5 n)) :: st) := g_get h i_Tab (ix 5 n) (ix_lt 5 (by decide) _ hn) (wc_at (by decide) hn) rfl 3 (by decide) hlink rfl hd k
theorem pf_Tab_meta (h : Cx Γ cc own rm TB CL (tyc t) nl) {n : Nat} {v : Int32} (hlink : Cond.fieldLink own index "TriColourMachine$Table" "meta" "I" ∈ TB) (hn : n < 16) (hd : decode cc pc = .ok (.putfield index, 3)) (k : G Γ kc ks 171 ad (wc ad t (sI C 3 n v)) (pc + 3) L st) : G Γ kc ks 171 ad (wc ad t C) pc L (.int v :: .ref (ad (ix 5 n)) :: st) := g_put h i_Tab (ix 5 n) (ix_lt 5 (by decide) _ hn) (wc_at (by decide) hn) rfl 3 (by decide) t_Tab t_Tab_ok n_Tab hlink rfl rfl rfl (Nat.le_of_ble_eq_true rfl) hd (g_world (wc_sI rfl (by decide) hn (by simp [ob, sI_1, sI_2])) k)
theorem gf_Cor_registers (h : Cx Γ cc own rm TB CL (tyc t) nl) {n : Nat} (hlink : Cond.fieldLink own index "TriColourMachine$Coroutine" "registers" "[J" ∈ TB) (hn : n < 16) (hd : decode cc pc = .ok (.getfield index, 3)) (k : G Γ kc ks 171 ad (wc ad t C) (pc + 3) L (.ref (ad (ix 9 n)) :: st)) : G Γ kc ks 171 ad (wc ad t C) pc L (.ref (ad (ix 8 n)) :: st) := g_get h i_Cor (ix 8 n) (ix_lt 8 (by decide) _ hn) (wc_at (by decide) hn) rfl 0 (by decide) hlink rfl hd k
theorem gf_Cor_function (h : Cx Γ cc own rm TB CL (tyc t) nl) {n : Nat} (hlink : Cond.fieldLink own index "TriColourMachine$Coroutine" "function" "I" ∈ TB) (hn : n < 16) (hd : decode cc pc = .ok (.getfield index, 3)) (k : G Γ kc ks 171 ad (wc ad t C) (pc + 3) L (.int (C.1 4 n) :: st)) : G Γ kc ks 171 ad (wc ad t C) pc L (.ref (ad (ix 8 n)) :: st) := g_get h i_Cor (ix 8 n) (ix_lt 8 (by decide) _ hn) (wc_at (by decide) hn) rfl 1 (by decide) hlink rfl hd k
theorem pf_Cor_function (h : Cx Γ cc own rm TB CL (tyc t) nl) {n : Nat} {v : Int32} (hlink : Cond.fieldLink own index "TriColourMachine$Coroutine" "function" "I" ∈ TB) (hn : n < 16) (hd : decode cc pc = .ok (.putfield index, 3)) (k : G Γ kc ks 171 ad (wc ad t (sI C 4 n v)) (pc + 3) L st) : G Γ kc ks 171 ad (wc ad t C) pc L (.int v :: .ref (ad (ix 8 n)) :: st) := g_put h i_Cor (ix 8 n) (ix_lt 8 (by decide) _ hn) (wc_at (by decide) hn) rfl 1 (by decide) t_Cor t_Cor_ok n_Cor hlink rfl rfl rfl (Nat.le_of_ble_eq_true rfl) hd (g_world (wc_sI rfl (by decide) hn (by simp [ob, sI_1, sI_2])) k)
theorem gf_Cor_place (h : Cx Γ cc own rm TB CL (tyc t) nl) {n : Nat} (hlink : Cond.fieldLink own index "TriColourMachine$Coroutine" "place" "I" ∈ TB) (hn : n < 16) (hd : decode cc pc = .ok (.getfield index, 3)) (k : G Γ kc ks 171 ad (wc ad t C) (pc + 3) L (.int (C.1 5 n) :: st)) : G Γ kc ks 171 ad (wc ad t C) pc L (.ref (ad (ix 8 n)) :: st) := g_get h i_Cor (ix 8 n) (ix_lt 8 (by decide) _ hn) (wc_at (by decide) hn) rfl 2 (by decide) hlink rfl hd k
theorem pf_Cor_place (h : Cx Γ cc own rm TB CL (tyc t) nl) {n : Nat} {v : Int32} (hlink : Cond.fieldLink own index "TriColourMachine$Coroutine" "place" "I" ∈ TB) (hn : n < 16) (hd : decode cc pc = .ok (.putfield index, 3)) (k : G Γ kc ks 171 ad (wc ad t (sI C 5 n v)) (pc + 3) L st) : G Γ kc ks 171 ad (wc ad t C) pc L (.int v :: .ref (ad (ix 8 n)) :: st) := g_put h i_Cor (ix 8 n) (ix_lt 8 (by decide) _ hn) (wc_at (by decide) hn) rfl 2 (by decide) t_Cor t_Cor_ok n_Cor hlink rfl rfl rfl (Nat.le_of_ble_eq_true rfl) hd (g_world (wc_sI rfl (by decide) hn (by simp [ob, sI_1, sI_2])) k)
theorem gf_Cor_state (h : Cx Γ cc own rm TB CL (tyc t) nl) {n : Nat} (hlink : Cond.fieldLink own index "TriColourMachine$Coroutine" "state" "I" ∈ TB) (hn : n < 16) (hd : decode cc pc = .ok (.getfield index, 3)) (k : G Γ kc ks 171 ad (wc ad t C) (pc + 3) L (.int (C.1 6 n) :: st)) : G Γ kc ks 171 ad (wc ad t C) pc L (.ref (ad (ix 8 n)) :: st) := g_get h i_Cor (ix 8 n) (ix_lt 8 (by decide) _ hn) (wc_at (by decide) hn) rfl 3 (by decide) hlink rfl hd k
theorem pf_Cor_state (h : Cx Γ cc own rm TB CL (tyc t) nl) {n : Nat} {v : Int32} (hlink : Cond.fieldLink own index "TriColourMachine$Coroutine" "state" "I" ∈ TB) (hn : n < 16) (hd : decode cc pc = .ok (.putfield index, 3)) (k : G Γ kc ks 171 ad (wc ad t (sI C 6 n v)) (pc + 3) L st) : G Γ kc ks 171 ad (wc ad t C) pc L (.int v :: .ref (ad (ix 8 n)) :: st) := g_put h i_Cor (ix 8 n) (ix_lt 8 (by decide) _ hn) (wc_at (by decide) hn) rfl 3 (by decide) t_Cor t_Cor_ok n_Cor hlink rfl rfl rfl (Nat.le_of_ble_eq_true rfl) hd (g_world (wc_sI rfl (by decide) hn (by simp [ob, sI_1, sI_2])) k)
theorem gf_Cor_comesIn (h : Cx Γ cc own rm TB CL (tyc t) nl) {n : Nat} (hlink : Cond.fieldLink own index "TriColourMachine$Coroutine" "comesIn" "I" ∈ TB) (hn : n < 16) (hd : decode cc pc = .ok (.getfield index, 3)) (k : G Γ kc ks 171 ad (wc ad t C) (pc + 3) L (.int (C.1 7 n) :: st)) : G Γ kc ks 171 ad (wc ad t C) pc L (.ref (ad (ix 8 n)) :: st) := g_get h i_Cor (ix 8 n) (ix_lt 8 (by decide) _ hn) (wc_at (by decide) hn) rfl 4 (by decide) hlink rfl hd k
theorem pf_Cor_comesIn (h : Cx Γ cc own rm TB CL (tyc t) nl) {n : Nat} {v : Int32} (hlink : Cond.fieldLink own index "TriColourMachine$Coroutine" "comesIn" "I" ∈ TB) (hn : n < 16) (hd : decode cc pc = .ok (.putfield index, 3)) (k : G Γ kc ks 171 ad (wc ad t (sI C 7 n v)) (pc + 3) L st) : G Γ kc ks 171 ad (wc ad t C) pc L (.int v :: .ref (ad (ix 8 n)) :: st) := g_put h i_Cor (ix 8 n) (ix_lt 8 (by decide) _ hn) (wc_at (by decide) hn) rfl 4 (by decide) t_Cor t_Cor_ok n_Cor hlink rfl rfl rfl (Nat.le_of_ble_eq_true rfl) hd (g_world (wc_sI rfl (by decide) hn (by simp [ob, sI_1, sI_2])) k)
theorem gf_Cor_awaits (h : Cx Γ cc own rm TB CL (tyc t) nl) {n : Nat} (hlink : Cond.fieldLink own index "TriColourMachine$Coroutine" "awaits" "I" ∈ TB) (hn : n < 16) (hd : decode cc pc = .ok (.getfield index, 3)) (k : G Γ kc ks 171 ad (wc ad t C) (pc + 3) L (.int (C.1 8 n) :: st)) : G Γ kc ks 171 ad (wc ad t C) pc L (.ref (ad (ix 8 n)) :: st) := g_get h i_Cor (ix 8 n) (ix_lt 8 (by decide) _ hn) (wc_at (by decide) hn) rfl 5 (by decide) hlink rfl hd k
theorem pf_Cor_awaits (h : Cx Γ cc own rm TB CL (tyc t) nl) {n : Nat} {v : Int32} (hlink : Cond.fieldLink own index "TriColourMachine$Coroutine" "awaits" "I" ∈ TB) (hn : n < 16) (hd : decode cc pc = .ok (.putfield index, 3)) (k : G Γ kc ks 171 ad (wc ad t (sI C 8 n v)) (pc + 3) L st) : G Γ kc ks 171 ad (wc ad t C) pc L (.int v :: .ref (ad (ix 8 n)) :: st) := g_put h i_Cor (ix 8 n) (ix_lt 8 (by decide) _ hn) (wc_at (by decide) hn) rfl 5 (by decide) t_Cor t_Cor_ok n_Cor hlink rfl rfl rfl (Nat.le_of_ble_eq_true rfl) hd (g_world (wc_sI rfl (by decide) hn (by simp [ob, sI_1, sI_2])) k)
theorem gf_Heap_globals (h : Cx Γ cc own rm TB CL (tyc t) nl) (hlink : Cond.fieldLink own index "TriColourMachine$Heap" "globals" "[J" ∈ TB) (hd : decode cc pc = .ok (.getfield index, 3)) (k : G Γ kc ks 171 ad (wc ad t C) (pc + 3) L (.ref (ad (ix 2 0)) :: st)) : G Γ kc ks 171 ad (wc ad t C) pc L (.ref (ad (ix 1 0)) :: st) := g_get h i_Heap (ix 1 0) (ix_lt 1 (by decide) _ (by decide)) (wc_at (by decide) (by decide)) rfl 0 (by decide) hlink rfl hd k
theorem gf_Heap_cells (h : Cx Γ cc own rm TB CL (tyc t) nl) (hlink : Cond.fieldLink own index "TriColourMachine$Heap" "cells" "[LTriColourMachine$Cell;" ∈ TB) (hd : decode cc pc = .ok (.getfield index, 3)) (k : G Γ kc ks 171 ad (wc ad t C) (pc + 3) L (.ref (ad (ix 3 0)) :: st)) : G Γ kc ks 171 ad (wc ad t C) pc L (.ref (ad (ix 1 0)) :: st) := g_get h i_Heap (ix 1 0) (ix_lt 1 (by decide) _ (by decide)) (wc_at (by decide) (by decide)) rfl 1 (by decide) hlink rfl hd k
theorem gf_Heap_phase (h : Cx Γ cc own rm TB CL (tyc t) nl) (hlink : Cond.fieldLink own index "TriColourMachine$Heap" "phase" "I" ∈ TB) (hd : decode cc pc = .ok (.getfield index, 3)) (k : G Γ kc ks 171 ad (wc ad t C) (pc + 3) L (.int (C.1 13 0) :: st)) : G Γ kc ks 171 ad (wc ad t C) pc L (.ref (ad (ix 1 0)) :: st) := g_get h i_Heap (ix 1 0) (ix_lt 1 (by decide) _ (by decide)) (wc_at (by decide) (by decide)) rfl 2 (by decide) hlink rfl hd k
theorem pf_Heap_phase (h : Cx Γ cc own rm TB CL (tyc t) nl) {v : Int32} (hlink : Cond.fieldLink own index "TriColourMachine$Heap" "phase" "I" ∈ TB) (hd : decode cc pc = .ok (.putfield index, 3)) (k : G Γ kc ks 171 ad (wc ad t (sI C 13 0 v)) (pc + 3) L st) : G Γ kc ks 171 ad (wc ad t C) pc L (.int v :: .ref (ad (ix 1 0)) :: st) := g_put h i_Heap (ix 1 0) (ix_lt 1 (by decide) _ (by decide)) (wc_at (by decide) (by decide)) rfl 2 (by decide) t_Heap t_Heap_ok n_Heap hlink rfl rfl rfl (Nat.le_of_ble_eq_true rfl) hd (g_world (wc_sI rfl (by decide) (by decide) (by simp [ob, sI_1, sI_2])) k)
theorem gf_Heap_sweepFrom (h : Cx Γ cc own rm TB CL (tyc t) nl) (hlink : Cond.fieldLink own index "TriColourMachine$Heap" "sweepFrom" "I" ∈ TB) (hd : decode cc pc = .ok (.getfield index, 3)) (k : G Γ kc ks 171 ad (wc ad t C) (pc + 3) L (.int (C.1 14 0) :: st)) : G Γ kc ks 171 ad (wc ad t C) pc L (.ref (ad (ix 1 0)) :: st) := g_get h i_Heap (ix 1 0) (ix_lt 1 (by decide) _ (by decide)) (wc_at (by decide) (by decide)) rfl 3 (by decide) hlink rfl hd k
theorem pf_Heap_sweepFrom (h : Cx Γ cc own rm TB CL (tyc t) nl) {v : Int32} (hlink : Cond.fieldLink own index "TriColourMachine$Heap" "sweepFrom" "I" ∈ TB) (hd : decode cc pc = .ok (.putfield index, 3)) (k : G Γ kc ks 171 ad (wc ad t (sI C 14 0 v)) (pc + 3) L st) : G Γ kc ks 171 ad (wc ad t C) pc L (.int v :: .ref (ad (ix 1 0)) :: st) := g_put h i_Heap (ix 1 0) (ix_lt 1 (by decide) _ (by decide)) (wc_at (by decide) (by decide)) rfl 3 (by decide) t_Heap t_Heap_ok n_Heap hlink rfl rfl rfl (Nat.le_of_ble_eq_true rfl) hd (g_world (wc_sI rfl (by decide) (by decide) (by simp [ob, sI_1, sI_2])) k)
theorem gf_Heap_made (h : Cx Γ cc own rm TB CL (tyc t) nl) (hlink : Cond.fieldLink own index "TriColourMachine$Heap" "made" "I" ∈ TB) (hd : decode cc pc = .ok (.getfield index, 3)) (k : G Γ kc ks 171 ad (wc ad t C) (pc + 3) L (.int (C.1 15 0) :: st)) : G Γ kc ks 171 ad (wc ad t C) pc L (.ref (ad (ix 1 0)) :: st) := g_get h i_Heap (ix 1 0) (ix_lt 1 (by decide) _ (by decide)) (wc_at (by decide) (by decide)) rfl 4 (by decide) hlink rfl hd k
theorem pf_Heap_made (h : Cx Γ cc own rm TB CL (tyc t) nl) {v : Int32} (hlink : Cond.fieldLink own index "TriColourMachine$Heap" "made" "I" ∈ TB) (hd : decode cc pc = .ok (.putfield index, 3)) (k : G Γ kc ks 171 ad (wc ad t (sI C 15 0 v)) (pc + 3) L st) : G Γ kc ks 171 ad (wc ad t C) pc L (.int v :: .ref (ad (ix 1 0)) :: st) := g_put h i_Heap (ix 1 0) (ix_lt 1 (by decide) _ (by decide)) (wc_at (by decide) (by decide)) rfl 4 (by decide) t_Heap t_Heap_ok n_Heap hlink rfl rfl rfl (Nat.le_of_ble_eq_true rfl) hd (g_world (wc_sI rfl (by decide) (by decide) (by simp [ob, sI_1, sI_2])) k)
theorem gf_Heap_gone (h : Cx Γ cc own rm TB CL (tyc t) nl) (hlink : Cond.fieldLink own index "TriColourMachine$Heap" "gone" "I" ∈ TB) (hd : decode cc pc = .ok (.getfield index, 3)) (k : G Γ kc ks 171 ad (wc ad t C) (pc + 3) L (.int (C.1 16 0) :: st)) : G Γ kc ks 171 ad (wc ad t C) pc L (.ref (ad (ix 1 0)) :: st) := g_get h i_Heap (ix 1 0) (ix_lt 1 (by decide) _ (by decide)) (wc_at (by decide) (by decide)) rfl 5 (by decide) hlink rfl hd k
theorem pf_Heap_gone (h : Cx Γ cc own rm TB CL (tyc t) nl) {v : Int32} (hlink : Cond.fieldLink own index "TriColourMachine$Heap" "gone" "I" ∈ TB) (hd : decode cc pc = .ok (.putfield index, 3)) (k : G Γ kc ks 171 ad (wc ad t (sI C 16 0 v)) (pc + 3) L st) : G Γ kc ks 171 ad (wc ad t C) pc L (.int v :: .ref (ad (ix 1 0)) :: st) := g_put h i_Heap (ix 1 0) (ix_lt 1 (by decide) _ (by decide)) (wc_at (by decide) (by decide)) rfl 5 (by decide) t_Heap t_Heap_ok n_Heap hlink rfl rfl rfl (Nat.le_of_ble_eq_true rfl) hd (g_world (wc_sI rfl (by decide) (by decide) (by simp [ob, sI_1, sI_2])) k)
theorem gf_Heap_units (h : Cx Γ cc own rm TB CL (tyc t) nl) (hlink : Cond.fieldLink own index "TriColourMachine$Heap" "units" "I" ∈ TB) (hd : decode cc pc = .ok (.getfield index, 3)) (k : G Γ kc ks 171 ad (wc ad t C) (pc + 3) L (.int (C.1 17 0) :: st)) : G Γ kc ks 171 ad (wc ad t C) pc L (.ref (ad (ix 1 0)) :: st) := g_get h i_Heap (ix 1 0) (ix_lt 1 (by decide) _ (by decide)) (wc_at (by decide) (by decide)) rfl 6 (by decide) hlink rfl hd k
theorem pf_Heap_units (h : Cx Γ cc own rm TB CL (tyc t) nl) {v : Int32} (hlink : Cond.fieldLink own index "TriColourMachine$Heap" "units" "I" ∈ TB) (hd : decode cc pc = .ok (.putfield index, 3)) (k : G Γ kc ks 171 ad (wc ad t (sI C 17 0 v)) (pc + 3) L st) : G Γ kc ks 171 ad (wc ad t C) pc L (.int v :: .ref (ad (ix 1 0)) :: st) := g_put h i_Heap (ix 1 0) (ix_lt 1 (by decide) _ (by decide)) (wc_at (by decide) (by decide)) rfl 6 (by decide) t_Heap t_Heap_ok n_Heap hlink rfl rfl rfl (Nat.le_of_ble_eq_true rfl) hd (g_world (wc_sI rfl (by decide) (by decide) (by simp [ob, sI_1, sI_2])) k)
theorem gf_Heap_fullCollections (h : Cx Γ cc own rm TB CL (tyc t) nl) (hlink : Cond.fieldLink own index "TriColourMachine$Heap" "fullCollections" "I" ∈ TB) (hd : decode cc pc = .ok (.getfield index, 3)) (k : G Γ kc ks 171 ad (wc ad t C) (pc + 3) L (.int (C.1 18 0) :: st)) : G Γ kc ks 171 ad (wc ad t C) pc L (.ref (ad (ix 1 0)) :: st) := g_get h i_Heap (ix 1 0) (ix_lt 1 (by decide) _ (by decide)) (wc_at (by decide) (by decide)) rfl 7 (by decide) hlink rfl hd k
theorem pf_Heap_fullCollections (h : Cx Γ cc own rm TB CL (tyc t) nl) {v : Int32} (hlink : Cond.fieldLink own index "TriColourMachine$Heap" "fullCollections" "I" ∈ TB) (hd : decode cc pc = .ok (.putfield index, 3)) (k : G Γ kc ks 171 ad (wc ad t (sI C 18 0 v)) (pc + 3) L st) : G Γ kc ks 171 ad (wc ad t C) pc L (.int v :: .ref (ad (ix 1 0)) :: st) := g_put h i_Heap (ix 1 0) (ix_lt 1 (by decide) _ (by decide)) (wc_at (by decide) (by decide)) rfl 7 (by decide) t_Heap t_Heap_ok n_Heap hlink rfl rfl rfl (Nat.le_of_ble_eq_true rfl) hd (g_world (wc_sI rfl (by decide) (by decide) (by simp [ob, sI_1, sI_2])) k)
theorem gf_Heap_found (h : Cx Γ cc own rm TB CL (tyc t) nl) (hlink : Cond.fieldLink own index "TriColourMachine$Heap" "found" "J" ∈ TB) (hd : decode cc pc = .ok (.getfield index, 3)) (k : G Γ kc ks 171 ad (wc ad t C) (pc + 3) L (.long (C.2.1 4 0 0) :: st)) : G Γ kc ks 171 ad (wc ad t C) pc L (.ref (ad (ix 1 0)) :: st) := g_get h i_Heap (ix 1 0) (ix_lt 1 (by decide) _ (by decide)) (wc_at (by decide) (by decide)) rfl 8 (by decide) hlink rfl hd k
theorem pf_Heap_found (h : Cx Γ cc own rm TB CL (tyc t) nl) {v : Int64} (hlink : Cond.fieldLink own index "TriColourMachine$Heap" "found" "J" ∈ TB) (hd : decode cc pc = .ok (.putfield index, 3)) (k : G Γ kc ks 171 ad (wc ad t (sJ C 4 0 0 v)) (pc + 3) L st) : G Γ kc ks 171 ad (wc ad t C) pc L (.long v :: .ref (ad (ix 1 0)) :: st) := g_put h i_Heap (ix 1 0) (ix_lt 1 (by decide) _ (by decide)) (wc_at (by decide) (by decide)) rfl 8 (by decide) t_Heap t_Heap_ok n_Heap hlink rfl rfl rfl (Nat.le_of_ble_eq_true rfl) hd (g_world (wc_sJ rfl (by decide) (by decide) (by simp [ob, sJ_1, sJ_2])) k)
theorem gf_Pro_heap (h : Cx Γ cc own rm TB CL (tyc t) nl) (hlink : Cond.fieldLink own index "TriColourMachine$Processor" "heap" "LTriColourMachine$Heap;" ∈ TB) (hd : decode cc pc = .ok (.getfield index, 3)) (k : G Γ kc ks 171 ad (wc ad t C) (pc + 3) L (.ref (ad (ix 1 0)) :: st)) : G Γ kc ks 171 ad (wc ad t C) pc L (.ref (ad (ix 10 0)) :: st) := g_get h i_Pro (ix 10 0) (ix_lt 10 (by decide) _ (by decide)) (wc_at (by decide) (by decide)) rfl 0 (by decide) hlink rfl hd k
theorem gf_Pro_instructions (h : Cx Γ cc own rm TB CL (tyc t) nl) (hlink : Cond.fieldLink own index "TriColourMachine$Processor" "instructions" "[LTriColourMachine$Instruction;" ∈ TB) (hd : decode cc pc = .ok (.getfield index, 3)) (k : G Γ kc ks 171 ad (wc ad t C) (pc + 3) L (.ref (ad (ix 11 0)) :: st)) : G Γ kc ks 171 ad (wc ad t C) pc L (.ref (ad (ix 10 0)) :: st) := g_get h i_Pro (ix 10 0) (ix_lt 10 (by decide) _ (by decide)) (wc_at (by decide) (by decide)) rfl 1 (by decide) hlink rfl hd k
theorem gf_Pro_active (h : Cx Γ cc own rm TB CL (tyc t) nl) (hlink : Cond.fieldLink own index "TriColourMachine$Processor" "active" "[LTriColourMachine$Coroutine;" ∈ TB) (hd : decode cc pc = .ok (.getfield index, 3)) (k : G Γ kc ks 171 ad (wc ad t C) (pc + 3) L (.ref (ad (ix 12 0)) :: st)) : G Γ kc ks 171 ad (wc ad t C) pc L (.ref (ad (ix 10 0)) :: st) := g_get h i_Pro (ix 10 0) (ix_lt 10 (by decide) _ (by decide)) (wc_at (by decide) (by decide)) rfl 2 (by decide) hlink rfl hd k
theorem gf_Pro_depth (h : Cx Γ cc own rm TB CL (tyc t) nl) (hlink : Cond.fieldLink own index "TriColourMachine$Processor" "depth" "I" ∈ TB) (hd : decode cc pc = .ok (.getfield index, 3)) (k : G Γ kc ks 171 ad (wc ad t C) (pc + 3) L (.int (C.1 19 0) :: st)) : G Γ kc ks 171 ad (wc ad t C) pc L (.ref (ad (ix 10 0)) :: st) := g_get h i_Pro (ix 10 0) (ix_lt 10 (by decide) _ (by decide)) (wc_at (by decide) (by decide)) rfl 3 (by decide) hlink rfl hd k
theorem pf_Pro_depth (h : Cx Γ cc own rm TB CL (tyc t) nl) {v : Int32} (hlink : Cond.fieldLink own index "TriColourMachine$Processor" "depth" "I" ∈ TB) (hd : decode cc pc = .ok (.putfield index, 3)) (k : G Γ kc ks 171 ad (wc ad t (sI C 19 0 v)) (pc + 3) L st) : G Γ kc ks 171 ad (wc ad t C) pc L (.int v :: .ref (ad (ix 10 0)) :: st) := g_put h i_Pro (ix 10 0) (ix_lt 10 (by decide) _ (by decide)) (wc_at (by decide) (by decide)) rfl 3 (by decide) t_Pro t_Pro_ok n_Pro hlink rfl rfl rfl (Nat.le_of_ble_eq_true rfl) hd (g_world (wc_sI rfl (by decide) (by decide) (by simp [ob, sI_1, sI_2])) k)
theorem gf_Pro_begun (h : Cx Γ cc own rm TB CL (tyc t) nl) (hlink : Cond.fieldLink own index "TriColourMachine$Processor" "begun" "I" ∈ TB) (hd : decode cc pc = .ok (.getfield index, 3)) (k : G Γ kc ks 171 ad (wc ad t C) (pc + 3) L (.int (C.1 20 0) :: st)) : G Γ kc ks 171 ad (wc ad t C) pc L (.ref (ad (ix 10 0)) :: st) := g_get h i_Pro (ix 10 0) (ix_lt 10 (by decide) _ (by decide)) (wc_at (by decide) (by decide)) rfl 4 (by decide) hlink rfl hd k
theorem pf_Pro_begun (h : Cx Γ cc own rm TB CL (tyc t) nl) {v : Int32} (hlink : Cond.fieldLink own index "TriColourMachine$Processor" "begun" "I" ∈ TB) (hd : decode cc pc = .ok (.putfield index, 3)) (k : G Γ kc ks 171 ad (wc ad t (sI C 20 0 v)) (pc + 3) L st) : G Γ kc ks 171 ad (wc ad t C) pc L (.int v :: .ref (ad (ix 10 0)) :: st) := g_put h i_Pro (ix 10 0) (ix_lt 10 (by decide) _ (by decide)) (wc_at (by decide) (by decide)) rfl 4 (by decide) t_Pro t_Pro_ok n_Pro hlink rfl rfl rfl (Nat.le_of_ble_eq_true rfl) hd (g_world (wc_sI rfl (by decide) (by decide) (by simp [ob, sI_1, sI_2])) k)
theorem gf_Pro_nextPlace (h : Cx Γ cc own rm TB CL (tyc t) nl) (hlink : Cond.fieldLink own index "TriColourMachine$Processor" "nextPlace" "I" ∈ TB) (hd : decode cc pc = .ok (.getfield index, 3)) (k : G Γ kc ks 171 ad (wc ad t C) (pc + 3) L (.int (C.1 21 0) :: st)) : G Γ kc ks 171 ad (wc ad t C) pc L (.ref (ad (ix 10 0)) :: st) := g_get h i_Pro (ix 10 0) (ix_lt 10 (by decide) _ (by decide)) (wc_at (by decide) (by decide)) rfl 5 (by decide) hlink rfl hd k
theorem pf_Pro_nextPlace (h : Cx Γ cc own rm TB CL (tyc t) nl) {v : Int32} (hlink : Cond.fieldLink own index "TriColourMachine$Processor" "nextPlace" "I" ∈ TB) (hd : decode cc pc = .ok (.putfield index, 3)) (k : G Γ kc ks 171 ad (wc ad t (sI C 21 0 v)) (pc + 3) L st) : G Γ kc ks 171 ad (wc ad t C) pc L (.int v :: .ref (ad (ix 10 0)) :: st) := g_put h i_Pro (ix 10 0) (ix_lt 10 (by decide) _ (by decide)) (wc_at (by decide) (by decide)) rfl 5 (by decide) t_Pro t_Pro_ok n_Pro hlink rfl rfl rfl (Nat.le_of_ble_eq_true rfl) hd (g_world (wc_sI rfl (by decide) (by decide) (by simp [ob, sI_1, sI_2])) k)
theorem gf_Pro_outcome (h : Cx Γ cc own rm TB CL (tyc t) nl) (hlink : Cond.fieldLink own index "TriColourMachine$Processor" "outcome" "J" ∈ TB) (hd : decode cc pc = .ok (.getfield index, 3)) (k : G Γ kc ks 171 ad (wc ad t C) (pc + 3) L (.long (C.2.1 5 0 0) :: st)) : G Γ kc ks 171 ad (wc ad t C) pc L (.ref (ad (ix 10 0)) :: st) := g_get h i_Pro (ix 10 0) (ix_lt 10 (by decide) _ (by decide)) (wc_at (by decide) (by decide)) rfl 6 (by decide) hlink rfl hd k
theorem pf_Pro_outcome (h : Cx Γ cc own rm TB CL (tyc t) nl) {v : Int64} (hlink : Cond.fieldLink own index "TriColourMachine$Processor" "outcome" "J" ∈ TB) (hd : decode cc pc = .ok (.putfield index, 3)) (k : G Γ kc ks 171 ad (wc ad t (sJ C 5 0 0 v)) (pc + 3) L st) : G Γ kc ks 171 ad (wc ad t C) pc L (.long v :: .ref (ad (ix 10 0)) :: st) := g_put h i_Pro (ix 10 0) (ix_lt 10 (by decide) _ (by decide)) (wc_at (by decide) (by decide)) rfl 6 (by decide) t_Pro t_Pro_ok n_Pro hlink rfl rfl rfl (Nat.le_of_ble_eq_true rfl) hd (g_world (wc_sJ rfl (by decide) (by decide) (by simp [ob, sJ_1, sJ_2])) k)
theorem gf_TCM_processor (h : Cx Γ cc own rm TB CL (tyc t) nl) (hlink : Cond.fieldLink own index "TriColourMachine" "processor" "LTriColourMachine$Processor;" ∈ TB) (hd : decode cc pc = .ok (.getfield index, 3)) (k : G Γ kc ks 171 ad (wc ad t C) (pc + 3) L (.ref (ad (ix 10 0)) :: st)) : G Γ kc ks 171 ad (wc ad t C) pc L (.ref (ad (ix 0 0)) :: st) := g_get h i_TCM (ix 0 0) (ix_lt 0 (by decide) _ (by decide)) (wc_at (by decide) (by decide)) rfl 0 (by decide) hlink rfl hd k
theorem gf_TCM_heap (h : Cx Γ cc own rm TB CL (tyc t) nl) (hlink : Cond.fieldLink own index "TriColourMachine" "heap" "LTriColourMachine$Heap;" ∈ TB) (hd : decode cc pc = .ok (.getfield index, 3)) (k : G Γ kc ks 171 ad (wc ad t C) (pc + 3) L (.ref (ad (ix 1 0)) :: st)) : G Γ kc ks 171 ad (wc ad t C) pc L (.ref (ad (ix 0 0)) :: st) := g_get h i_TCM (ix 0 0) (ix_lt 0 (by decide) _ (by decide)) (wc_at (by decide) (by decide)) rfl 1 (by decide) hlink rfl hd k
theorem gf_Ins_op (h : Cx Γ cc own rm TB CL (tyc t) nl) {n : Nat} (hlink : Cond.fieldLink own index "TriColourMachine$Instruction" "op" "I" ∈ TB) (hn : n < 68) (hd : decode cc pc = .ok (.getfield index, 3)) (k : G Γ kc ks 171 ad (wc ad t C) (pc + 3) L (.int (C.1 9 n) :: st)) : G Γ kc ks 171 ad (wc ad t C) pc L (.ref (ad (ix 13 n)) :: st) := g_get h i_Ins (ix 13 n) (ix_lt 13 (by decide) _ hn) (wc_at (by decide) hn) rfl 0 (by decide) hlink rfl hd k
theorem pf_Ins_op (h : Cx Γ cc own rm TB CL (tyc t) nl) {n : Nat} {v : Int32} (hlink : Cond.fieldLink own index "TriColourMachine$Instruction" "op" "I" ∈ TB) (hn : n < 68) (hd : decode cc pc = .ok (.putfield index, 3)) (k : G Γ kc ks 171 ad (wc ad t (sI C 9 n v)) (pc + 3) L st) : G Γ kc ks 171 ad (wc ad t C) pc L (.int v :: .ref (ad (ix 13 n)) :: st) := g_put h i_Ins (ix 13 n) (ix_lt 13 (by decide) _ hn) (wc_at (by decide) hn) rfl 0 (by decide) t_Ins t_Ins_ok n_Ins hlink rfl rfl rfl (Nat.le_of_ble_eq_true rfl) hd (g_world (wc_sI rfl (by decide) hn (by simp [ob, sI_1, sI_2])) k)
theorem gf_Ins_a (h : Cx Γ cc own rm TB CL (tyc t) nl) {n : Nat} (hlink : Cond.fieldLink own index "TriColourMachine$Instruction" "a" "I" ∈ TB) (hn : n < 68) (hd : decode cc pc = .ok (.getfield index, 3)) (k : G Γ kc ks 171 ad (wc ad t C) (pc + 3) L (.int (C.1 10 n) :: st)) : G Γ kc ks 171 ad (wc ad t C) pc L (.ref (ad (ix 13 n)) :: st) := g_get h i_Ins (ix 13 n) (ix_lt 13 (by decide) _ hn) (wc_at (by decide) hn) rfl 1 (by decide) hlink rfl hd k
theorem pf_Ins_a (h : Cx Γ cc own rm TB CL (tyc t) nl) {n : Nat} {v : Int32} (hlink : Cond.fieldLink own index "TriColourMachine$Instruction" "a" "I" ∈ TB) (hn : n < 68) (hd : decode cc pc = .ok (.putfield index, 3)) (k : G Γ kc ks 171 ad (wc ad t (sI C 10 n v)) (pc + 3) L st) : G Γ kc ks 171 ad (wc ad t C) pc L (.int v :: .ref (ad (ix 13 n)) :: st) := g_put h i_Ins (ix 13 n) (ix_lt 13 (by decide) _ hn) (wc_at (by decide) hn) rfl 1 (by decide) t_Ins t_Ins_ok n_Ins hlink rfl rfl rfl (Nat.le_of_ble_eq_true rfl) hd (g_world (wc_sI rfl (by decide) hn (by simp [ob, sI_1, sI_2])) k)
theorem gf_Ins_b (h : Cx Γ cc own rm TB CL (tyc t) nl) {n : Nat} (hlink : Cond.fieldLink own index "TriColourMachine$Instruction" "b" "I" ∈ TB) (hn : n < 68) (hd : decode cc pc = .ok (.getfield index, 3)) (k : G Γ kc ks 171 ad (wc ad t C) (pc + 3) L (.int (C.1 11 n) :: st)) : G Γ kc ks 171 ad (wc ad t C) pc L (.ref (ad (ix 13 n)) :: st) := g_get h i_Ins (ix 13 n) (ix_lt 13 (by decide) _ hn) (wc_at (by decide) hn) rfl 2 (by decide) hlink rfl hd k
theorem pf_Ins_b (h : Cx Γ cc own rm TB CL (tyc t) nl) {n : Nat} {v : Int32} (hlink : Cond.fieldLink own index "TriColourMachine$Instruction" "b" "I" ∈ TB) (hn : n < 68) (hd : decode cc pc = .ok (.putfield index, 3)) (k : G Γ kc ks 171 ad (wc ad t (sI C 11 n v)) (pc + 3) L st) : G Γ kc ks 171 ad (wc ad t C) pc L (.int v :: .ref (ad (ix 13 n)) :: st) := g_put h i_Ins (ix 13 n) (ix_lt 13 (by decide) _ hn) (wc_at (by decide) hn) rfl 2 (by decide) t_Ins t_Ins_ok n_Ins hlink rfl rfl rfl (Nat.le_of_ble_eq_true rfl) hd (g_world (wc_sI rfl (by decide) hn (by simp [ob, sI_1, sI_2])) k)
theorem gf_Ins_c (h : Cx Γ cc own rm TB CL (tyc t) nl) {n : Nat} (hlink : Cond.fieldLink own index "TriColourMachine$Instruction" "c" "I" ∈ TB) (hn : n < 68) (hd : decode cc pc = .ok (.getfield index, 3)) (k : G Γ kc ks 171 ad (wc ad t C) (pc + 3) L (.int (C.1 12 n) :: st)) : G Γ kc ks 171 ad (wc ad t C) pc L (.ref (ad (ix 13 n)) :: st) := g_get h i_Ins (ix 13 n) (ix_lt 13 (by decide) _ hn) (wc_at (by decide) hn) rfl 3 (by decide) hlink rfl hd k
theorem pf_Ins_c (h : Cx Γ cc own rm TB CL (tyc t) nl) {n : Nat} {v : Int32} (hlink : Cond.fieldLink own index "TriColourMachine$Instruction" "c" "I" ∈ TB) (hn : n < 68) (hd : decode cc pc = .ok (.putfield index, 3)) (k : G Γ kc ks 171 ad (wc ad t (sI C 12 n v)) (pc + 3) L st) : G Γ kc ks 171 ad (wc ad t C) pc L (.int v :: .ref (ad (ix 13 n)) :: st) := g_put h i_Ins (ix 13 n) (ix_lt 13 (by decide) _ hn) (wc_at (by decide) hn) rfl 3 (by decide) t_Ins t_Ins_ok n_Ins hlink rfl rfl rfl (Nat.le_of_ble_eq_true rfl) hd (g_world (wc_sI rfl (by decide) hn (by simp [ob, sI_1, sI_2])) k)
theorem ga_glo (h : Cx Γ cc own rm TB CL (tyc t) nl) {j : Nat} {i : Int32} (hi : i = nI j) (hj : j < 6) (hd : decode cc pc = .ok (.laload, 1)) (k : G Γ kc ks 171 ad (wc ad t C) (pc + 1) L (.long (C.2.1 0 0 j) :: st)) : G Γ kc ks 171 ad (wc ad t C) pc L (.int i :: .ref (ad (ix 2 0)) :: st) := by
  subst hi
  have hc : (nI j).toNatClampNeg = j := nI_clamp (by omega)
  refine g_laload h (ix 2 0) 0 (ix_lt 2 (by decide) _ (by decide)) (wc_at (by decide) (by decide)) rfl (vp_in_nI hj (by decide)) hd ?_
  rw [hc]; exact k
theorem pa_glo (h : Cx Γ cc own rm TB CL (tyc t) nl) {j : Nat} {i : Int32} {v : Int64} (hi : i = nI j) (hj : j < 6) (hd : decode cc pc = .ok (.lastore, 1)) (k : G Γ kc ks 171 ad (wc ad t (sJ C 0 0 j v)) (pc + 1) L st) : G Γ kc ks 171 ad (wc ad t C) pc L (.long v :: .int i :: .ref (ad (ix 2 0)) :: st) := by
  subst hi
  have hc : (nI j).toNatClampNeg = j := nI_clamp (by omega)
  refine g_lastore h (ix 2 0) 0 (ix_lt 2 (by decide) _ (by decide)) (wc_at (by decide) (by decide)) rfl (vp_in_nI hj (by decide)) hd ?_
  rw [hc]
  refine g_world (wc_sJ (f := 0) rfl (by decide) (by decide) ?_) k
  have e : (sJ C 0 0 j v).2.1 0 0 = vp_updL (C.2.1 0 0) j v := by
    funext c
    simp [sJ_2, vp_updL]
  show Sum.inl (t 0, 6, Sum.inr (Sum.inl ((sJ C 0 0 j v).2.1 0 0))) = _
  rw [e]
theorem ga_keys (h : Cx Γ cc own rm TB CL (tyc t) nl) {n j : Nat} {i : Int32} (hn : n < 16) (hi : i = nI j) (hj : j < 6) (hd : decode cc pc = .ok (.laload, 1)) (k : G Γ kc ks 171 ad (wc ad t C) (pc + 1) L (.long (C.2.1 1 n j) :: st)) : G Γ kc ks 171 ad (wc ad t C) pc L (.int i :: .ref (ad (ix 6 n)) :: st) := by
  subst hi
  have hc : (nI j).toNatClampNeg = j := nI_clamp (by omega)
  refine g_laload h (ix 6 n) 0 (ix_lt 6 (by decide) _ hn) (wc_at (by decide) hn) rfl (vp_in_nI hj (by decide)) hd ?_
  rw [hc]; exact k
theorem pa_keys (h : Cx Γ cc own rm TB CL (tyc t) nl) {n j : Nat} {i : Int32} {v : Int64} (hn : n < 16) (hi : i = nI j) (hj : j < 6) (hd : decode cc pc = .ok (.lastore, 1)) (k : G Γ kc ks 171 ad (wc ad t (sJ C 1 n j v)) (pc + 1) L st) : G Γ kc ks 171 ad (wc ad t C) pc L (.long v :: .int i :: .ref (ad (ix 6 n)) :: st) := by
  subst hi
  have hc : (nI j).toNatClampNeg = j := nI_clamp (by omega)
  refine g_lastore h (ix 6 n) 0 (ix_lt 6 (by decide) _ hn) (wc_at (by decide) hn) rfl (vp_in_nI hj (by decide)) hd ?_
  rw [hc]
  refine g_world (wc_sJ (f := 1) rfl (by decide) hn ?_) k
  have e : (sJ C 1 n j v).2.1 1 n = vp_updL (C.2.1 1 n) j v := by
    funext c
    simp [sJ_2, vp_updL]
  show Sum.inl (t 0, 6, Sum.inr (Sum.inl ((sJ C 1 n j v).2.1 1 n))) = _
  rw [e]
theorem ga_vals (h : Cx Γ cc own rm TB CL (tyc t) nl) {n j : Nat} {i : Int32} (hn : n < 16) (hi : i = nI j) (hj : j < 6) (hd : decode cc pc = .ok (.laload, 1)) (k : G Γ kc ks 171 ad (wc ad t C) (pc + 1) L (.long (C.2.1 2 n j) :: st)) : G Γ kc ks 171 ad (wc ad t C) pc L (.int i :: .ref (ad (ix 7 n)) :: st) := by
  subst hi
  have hc : (nI j).toNatClampNeg = j := nI_clamp (by omega)
  refine g_laload h (ix 7 n) 0 (ix_lt 7 (by decide) _ hn) (wc_at (by decide) hn) rfl (vp_in_nI hj (by decide)) hd ?_
  rw [hc]; exact k
theorem pa_vals (h : Cx Γ cc own rm TB CL (tyc t) nl) {n j : Nat} {i : Int32} {v : Int64} (hn : n < 16) (hi : i = nI j) (hj : j < 6) (hd : decode cc pc = .ok (.lastore, 1)) (k : G Γ kc ks 171 ad (wc ad t (sJ C 2 n j v)) (pc + 1) L st) : G Γ kc ks 171 ad (wc ad t C) pc L (.long v :: .int i :: .ref (ad (ix 7 n)) :: st) := by
  subst hi
  have hc : (nI j).toNatClampNeg = j := nI_clamp (by omega)
  refine g_lastore h (ix 7 n) 0 (ix_lt 7 (by decide) _ hn) (wc_at (by decide) hn) rfl (vp_in_nI hj (by decide)) hd ?_
  rw [hc]
  refine g_world (wc_sJ (f := 2) rfl (by decide) hn ?_) k
  have e : (sJ C 2 n j v).2.1 2 n = vp_updL (C.2.1 2 n) j v := by
    funext c
    simp [sJ_2, vp_updL]
  show Sum.inl (t 0, 6, Sum.inr (Sum.inl ((sJ C 2 n j v).2.1 2 n))) = _
  rw [e]
theorem ga_regs (h : Cx Γ cc own rm TB CL (tyc t) nl) {n j : Nat} {i : Int32} (hn : n < 16) (hi : i = nI j) (hj : j < 4) (hd : decode cc pc = .ok (.laload, 1)) (k : G Γ kc ks 171 ad (wc ad t C) (pc + 1) L (.long (C.2.1 3 n j) :: st)) : G Γ kc ks 171 ad (wc ad t C) pc L (.int i :: .ref (ad (ix 9 n)) :: st) := by
  subst hi
  have hc : (nI j).toNatClampNeg = j := nI_clamp (by omega)
  refine g_laload h (ix 9 n) 0 (ix_lt 9 (by decide) _ hn) (wc_at (by decide) hn) rfl (vp_in_nI hj (by decide)) hd ?_
  rw [hc]; exact k
theorem pa_regs (h : Cx Γ cc own rm TB CL (tyc t) nl) {n j : Nat} {i : Int32} {v : Int64} (hn : n < 16) (hi : i = nI j) (hj : j < 4) (hd : decode cc pc = .ok (.lastore, 1)) (k : G Γ kc ks 171 ad (wc ad t (sJ C 3 n j v)) (pc + 1) L st) : G Γ kc ks 171 ad (wc ad t C) pc L (.long v :: .int i :: .ref (ad (ix 9 n)) :: st) := by
  subst hi
  have hc : (nI j).toNatClampNeg = j := nI_clamp (by omega)
  refine g_lastore h (ix 9 n) 0 (ix_lt 9 (by decide) _ hn) (wc_at (by decide) hn) rfl (vp_in_nI hj (by decide)) hd ?_
  rw [hc]
  refine g_world (wc_sJ (f := 3) rfl (by decide) hn ?_) k
  have e : (sJ C 3 n j v).2.1 3 n = vp_updL (C.2.1 3 n) j v := by
    funext c
    simp [sJ_2, vp_updL]
  show Sum.inl (t 0, 4, Sum.inr (Sum.inl ((sJ C 3 n j v).2.1 3 n))) = _
  rw [e]
theorem ga_cells (h : Cx Γ cc own rm TB CL (tyc t) nl) {j : Nat} {i : Int32} (hi : i = nI j) (hj : j < 16) (hd : decode cc pc = .ok (.aaload, 1)) (k : G Γ kc ks 171 ad (wc ad t C) (pc + 1) L (.ref (ad (ix 4 j)) :: st)) : G Γ kc ks 171 ad (wc ad t C) pc L (.int i :: .ref (ad (ix 3 0)) :: st) := by
  subst hi
  have hc : (nI j).toNatClampNeg = j := nI_clamp (by omega)
  refine g_aaload h (ix 3 0) 1 (ix_lt 3 (by decide) _ (by decide)) (wc_at (by decide) (by decide)) rfl (vp_in_nI hj (by decide)) hd ?_
  rw [hc]; exact k
theorem ga_ins (h : Cx Γ cc own rm TB CL (tyc t) nl) {j : Nat} {i : Int32} (hi : i = nI j) (hj : j < 68) (hd : decode cc pc = .ok (.aaload, 1)) (k : G Γ kc ks 171 ad (wc ad t C) (pc + 1) L (.ref (ad (ix 13 j)) :: st)) : G Γ kc ks 171 ad (wc ad t C) pc L (.int i :: .ref (ad (ix 11 0)) :: st) := by
  subst hi
  have hc : (nI j).toNatClampNeg = j := nI_clamp (by omega)
  refine g_aaload h (ix 11 0) 2 (ix_lt 11 (by decide) _ (by decide)) (wc_at (by decide) (by decide)) rfl (vp_in_nI hj (by decide)) hd ?_
  rw [hc]; exact k
theorem ga_act (h : Cx Γ cc own rm TB CL (tyc t) nl) {j m : Nat} {i : Int32} (hi : i = nI j) (hj : j < 5) (hm : C.2.2 j = some m) (hd : decode cc pc = .ok (.aaload, 1)) (k : G Γ kc ks 171 ad (wc ad t C) (pc + 1) L (.ref (ad (ix 8 m)) :: st)) : G Γ kc ks 171 ad (wc ad t C) pc L (.int i :: .ref (ad (ix 12 0)) :: st) := by
  subst hi
  have hc : (nI j).toNatClampNeg = j := nI_clamp (by omega)
  refine g_aaload h (ix 12 0) 3 (ix_lt 12 (by decide) _ (by decide)) (wc_at (by decide) (by decide)) rfl (vp_in_nI hj (by decide)) hd ?_
  rw [hc]
  simp only [if_true, hm, Option.map_some]
  exact k
theorem pa_act (h : Cx Γ cc own rm TB CL (tyc t) nl) {j m : Nat} {i : Int32} (hi : i = nI j) (hj : j < 5) (hm : m < 16) (hd : decode cc pc = .ok (.aastore, 1)) (k : G Γ kc ks 171 ad (wc ad t (sA C j m)) (pc + 1) L st) : G Γ kc ks 171 ad (wc ad t C) pc L (.ref (ad (ix 8 m)) :: .int i :: .ref (ad (ix 12 0)) :: st) := by
  subst hi
  have hc : (nI j).toNatClampNeg = j := nI_clamp (by omega)
  refine g_aastore h (ix 12 0) 3 (ix 8 m) (ix_lt 12 (by decide) _ (by decide)) (ix_lt 8 (by decide) _ hm) (wc_at (by decide) (by decide)) rfl (wc_at (cd := 8) (by decide) hm) rfl (vp_in_nI hj (by decide)) hd ?_
  rw [hc]
  refine g_world (wc_sA ?_) k
  have e : (fun i => if (0 : Nat) = 0 then ((sA C j m).2.2 i).map (fun m => ad (ix 8 m)) else none) = va_up (fun i => if (0 : Nat) = 0 then (C.2.2 i).map (fun m => ad (ix 8 m)) else none) j (some (ad (ix 8 m))) := by
    funext c
    by_cases hq : c = j
    · simp [sA_3, va_up, hq]
    · simp [sA_3, va_up, hq]
  show Sum.inl (t 3, 5, Sum.inr (Sum.inr (Sum.inr (Sum.inr (fun i => if (0 : Nat) = 0 then ((sA C j m).2.2 i).map (fun m => ad (ix 8 m)) else none))))) = _
  rw [e]
end FieldRows
end
section
/-! calls of methods whose contracts say just one answer and one world -/
def NL : List (String × Nat × MethodName × String) := [("TriColourMachine$Heap", 52, y_Cell_init, "TriColourMachine"), ("TriColourMachine$Cell", 11, y_Tab_init, "TriColourMachine"), ("TriColourMachine$Cell", 20, y_Cor_init, "TriColourMachine"), ("TriColourMachine$Processor", 43, y_Ins_init, "TriColourMachine"), ("TriColourMachine$Heap", 55, y_TCM_numberOf, "TriColourMachine"), ("TriColourMachine$Processor", 71, y_TCM_numberOf, "TriColourMachine"), ("TriColourMachine$Processor", 165, y_TCM_isNumber, "TriColourMachine")]
/-- the contract of a method of the class: from C it answers v0 and leaves C2 -/
abbrev Cd (l : Launch) (D : va_G) (t : Nat → ClassId) (ad : Nat → Nat) (y : MethodName) (b : ByteArray) (n : Nat) (ret : Option FieldType) (rm : Room) (As : List Value) (C : CS) (v0 : Option Value) (C2 : CS) : Prop := Ct l D CL (tyc t) NL 171 ad y (.code y b n ret :: TB) rm As (wc ad t C) (fun v σ2 => v = v0 ∧ σ2 = wc ad t C2)
section DRows
variable {Γ : GT} {cc : ByteArray} {own : String} {rm : Room} {Ts : List Cond} {cl : List vw_C} {tys : List (ClassId × FieldType)} {nl : List (String × Nat × MethodName × String)} {kc ks N pc : Nat} {ad : Nat → Nat} {σ σ' : Nat → va_E} {L : List (Option Value)} {st rest : List Value}
variable {y : MethodName} {bytes : ByteArray} {maxL n index : Nat} {ret : Option FieldType} {rmY : Room} {As : List Value}
theorem g_dVi (h : Cx Γ cc own rm Ts cl tys nl) (hG : GoodIn Ts Ts) {C : String} {T : u_T} {nf ci q : Nat} {fs : List Value} {x : Int32} (hM : Ct (gL Γ) (gD Γ) cl tys nl N ad y (.code y bytes maxL ret :: Ts) rmY (.ref (ad q) :: As) σ (fun v σ2 => v = some (.int x) ∧ σ2 = σ')) (hq : q < N) (he : σ q = .inr (ci, fs)) (hc : cl[ci]? = some (C, T, nf)) (hw : ∀ w ∈ cwsV own index C y bytes maxL ret, w ∈ Ts) (hd0 : cNm y C n) (hn : As.length = n) (hroom : cRm rmY rm maxL kc ks) (hst : st = As.reverse ++ .ref (ad q) :: rest) (hrest : (rest.map fun v => v.category).sum ≤ 8) (hd : decode cc pc = .ok (.invokevirtual index, 3)) (k : G Γ kc ks N ad σ' (pc + 3) L (.int x :: rest)) : G Γ kc ks N ad σ pc L st := g_callV h hG hM hq he hc hw hd0 hn hroom hst hrest hd (fun v σ2 hv => by obtain ⟨rfl, rfl⟩ := hv; exact k)
theorem g_dSi (h : Cx Γ cc own rm Ts cl tys nl) (hG : GoodIn Ts Ts) {x : Int32} (hM : Ct (gL Γ) (gD Γ) cl tys nl N ad y (.code y bytes maxL ret :: Ts) rmY As σ (fun v σ2 => v = some (.int x) ∧ σ2 = σ')) (hw : ∀ w ∈ cwsS own index y bytes maxL ret, w ∈ Ts) (hd0 : cNm y y.cls n) (hn : As.length = n) (hroom : cRm rmY rm maxL kc ks) (hst : st = As.reverse ++ rest) (hrest : (rest.map fun v => v.category).sum ≤ 8) (hd : decode cc pc = .ok (.invokestatic index, 3)) (k : G Γ kc ks N ad σ' (pc + 3) L (.int x :: rest)) : G Γ kc ks N ad σ pc L st := g_callS h hG hM hw hd0 hn hroom hst hrest hd (fun v σ2 hv => by obtain ⟨rfl, rfl⟩ := hv; exact k)
theorem g_dNi (h : Cx Γ cc own rm Ts cl tys nl) (hG : GoodIn Ts Ts) {host : String} {x : Int32} (hM : Ct (gL Γ) (gD Γ) cl tys nl N ad y (.code y bytes maxL ret :: Ts) rmY As σ (fun v σ2 => v = some (.int x) ∧ σ2 = σ')) (hnl : (own, index, y, host) ∈ nl) (hcd : Cond.code y bytes maxL ret ∈ Ts) (hini : Cond.initialized y.cls ∈ Ts) (hst0 : Cond.static y ∈ Ts) (hd0 : cNm y y.cls n) (hn : As.length = n) (hroom : cRm rmY rm maxL kc ks) (hst : st = As.reverse ++ rest) (hrest : (rest.map fun v => v.category).sum ≤ 8) (hd : decode cc pc = .ok (.invokestatic index, 3)) (k : G Γ kc ks N ad σ' (pc + 3) L (.int x :: rest)) : G Γ kc ks N ad σ pc L st := g_callSN h hG hM hnl hcd hini hst0 hd0 hn hroom hst hrest hd (fun v σ2 hv => by obtain ⟨rfl, rfl⟩ := hv; exact k)
theorem g_dVl (h : Cx Γ cc own rm Ts cl tys nl) (hG : GoodIn Ts Ts) {C : String} {T : u_T} {nf ci q : Nat} {fs : List Value} {x : Int64} (hM : Ct (gL Γ) (gD Γ) cl tys nl N ad y (.code y bytes maxL ret :: Ts) rmY (.ref (ad q) :: As) σ (fun v σ2 => v = some (.long x) ∧ σ2 = σ')) (hq : q < N) (he : σ q = .inr (ci, fs)) (hc : cl[ci]? = some (C, T, nf)) (hw : ∀ w ∈ cwsV own index C y bytes maxL ret, w ∈ Ts) (hd0 : cNm y C n) (hn : As.length = n) (hroom : cRm rmY rm maxL kc ks) (hst : st = As.reverse ++ .ref (ad q) :: rest) (hrest : (rest.map fun v => v.category).sum ≤ 8) (hd : decode cc pc = .ok (.invokevirtual index, 3)) (k : G Γ kc ks N ad σ' (pc + 3) L (.long x :: rest)) : G Γ kc ks N ad σ pc L st := g_callV h hG hM hq he hc hw hd0 hn hroom hst hrest hd (fun v σ2 hv => by obtain ⟨rfl, rfl⟩ := hv; exact k)
theorem g_dSl (h : Cx Γ cc own rm Ts cl tys nl) (hG : GoodIn Ts Ts) {x : Int64} (hM : Ct (gL Γ) (gD Γ) cl tys nl N ad y (.code y bytes maxL ret :: Ts) rmY As σ (fun v σ2 => v = some (.long x) ∧ σ2 = σ')) (hw : ∀ w ∈ cwsS own index y bytes maxL ret, w ∈ Ts) (hd0 : cNm y y.cls n) (hn : As.length = n) (hroom : cRm rmY rm maxL kc ks) (hst : st = As.reverse ++ rest) (hrest : (rest.map fun v => v.category).sum ≤ 8) (hd : decode cc pc = .ok (.invokestatic index, 3)) (k : G Γ kc ks N ad σ' (pc + 3) L (.long x :: rest)) : G Γ kc ks N ad σ pc L st := g_callS h hG hM hw hd0 hn hroom hst hrest hd (fun v σ2 hv => by obtain ⟨rfl, rfl⟩ := hv; exact k)
theorem g_dNl (h : Cx Γ cc own rm Ts cl tys nl) (hG : GoodIn Ts Ts) {host : String} {x : Int64} (hM : Ct (gL Γ) (gD Γ) cl tys nl N ad y (.code y bytes maxL ret :: Ts) rmY As σ (fun v σ2 => v = some (.long x) ∧ σ2 = σ')) (hnl : (own, index, y, host) ∈ nl) (hcd : Cond.code y bytes maxL ret ∈ Ts) (hini : Cond.initialized y.cls ∈ Ts) (hst0 : Cond.static y ∈ Ts) (hd0 : cNm y y.cls n) (hn : As.length = n) (hroom : cRm rmY rm maxL kc ks) (hst : st = As.reverse ++ rest) (hrest : (rest.map fun v => v.category).sum ≤ 8) (hd : decode cc pc = .ok (.invokestatic index, 3)) (k : G Γ kc ks N ad σ' (pc + 3) L (.long x :: rest)) : G Γ kc ks N ad σ pc L st := g_callSN h hG hM hnl hcd hini hst0 hd0 hn hroom hst hrest hd (fun v σ2 hv => by obtain ⟨rfl, rfl⟩ := hv; exact k)
theorem g_dVr (h : Cx Γ cc own rm Ts cl tys nl) (hG : GoodIn Ts Ts) {C : String} {T : u_T} {nf ci q : Nat} {fs : List Value} {x : Nat} (hM : Ct (gL Γ) (gD Γ) cl tys nl N ad y (.code y bytes maxL ret :: Ts) rmY (.ref (ad q) :: As) σ (fun v σ2 => v = some (.ref x) ∧ σ2 = σ')) (hq : q < N) (he : σ q = .inr (ci, fs)) (hc : cl[ci]? = some (C, T, nf)) (hw : ∀ w ∈ cwsV own index C y bytes maxL ret, w ∈ Ts) (hd0 : cNm y C n) (hn : As.length = n) (hroom : cRm rmY rm maxL kc ks) (hst : st = As.reverse ++ .ref (ad q) :: rest) (hrest : (rest.map fun v => v.category).sum ≤ 8) (hd : decode cc pc = .ok (.invokevirtual index, 3)) (k : G Γ kc ks N ad σ' (pc + 3) L (.ref x :: rest)) : G Γ kc ks N ad σ pc L st := g_callV h hG hM hq he hc hw hd0 hn hroom hst hrest hd (fun v σ2 hv => by obtain ⟨rfl, rfl⟩ := hv; exact k)
theorem g_dSr (h : Cx Γ cc own rm Ts cl tys nl) (hG : GoodIn Ts Ts) {x : Nat} (hM : Ct (gL Γ) (gD Γ) cl tys nl N ad y (.code y bytes maxL ret :: Ts) rmY As σ (fun v σ2 => v = some (.ref x) ∧ σ2 = σ')) (hw : ∀ w ∈ cwsS own index y bytes maxL ret, w ∈ Ts) (hd0 : cNm y y.cls n) (hn : As.length = n) (hroom : cRm rmY rm maxL kc ks) (hst : st = As.reverse ++ rest) (hrest : (rest.map fun v => v.category).sum ≤ 8) (hd : decode cc pc = .ok (.invokestatic index, 3)) (k : G Γ kc ks N ad σ' (pc + 3) L (.ref x :: rest)) : G Γ kc ks N ad σ pc L st := g_callS h hG hM hw hd0 hn hroom hst hrest hd (fun v σ2 hv => by obtain ⟨rfl, rfl⟩ := hv; exact k)
theorem g_dNr (h : Cx Γ cc own rm Ts cl tys nl) (hG : GoodIn Ts Ts) {host : String} {x : Nat} (hM : Ct (gL Γ) (gD Γ) cl tys nl N ad y (.code y bytes maxL ret :: Ts) rmY As σ (fun v σ2 => v = some (.ref x) ∧ σ2 = σ')) (hnl : (own, index, y, host) ∈ nl) (hcd : Cond.code y bytes maxL ret ∈ Ts) (hini : Cond.initialized y.cls ∈ Ts) (hst0 : Cond.static y ∈ Ts) (hd0 : cNm y y.cls n) (hn : As.length = n) (hroom : cRm rmY rm maxL kc ks) (hst : st = As.reverse ++ rest) (hrest : (rest.map fun v => v.category).sum ≤ 8) (hd : decode cc pc = .ok (.invokestatic index, 3)) (k : G Γ kc ks N ad σ' (pc + 3) L (.ref x :: rest)) : G Γ kc ks N ad σ pc L st := g_callSN h hG hM hnl hcd hini hst0 hd0 hn hroom hst hrest hd (fun v σ2 hv => by obtain ⟨rfl, rfl⟩ := hv; exact k)
theorem g_dVv (h : Cx Γ cc own rm Ts cl tys nl) (hG : GoodIn Ts Ts) {C : String} {T : u_T} {nf ci q : Nat} {fs : List Value} (hM : Ct (gL Γ) (gD Γ) cl tys nl N ad y (.code y bytes maxL ret :: Ts) rmY (.ref (ad q) :: As) σ (fun v σ2 => v = none ∧ σ2 = σ')) (hq : q < N) (he : σ q = .inr (ci, fs)) (hc : cl[ci]? = some (C, T, nf)) (hw : ∀ w ∈ cwsV own index C y bytes maxL ret, w ∈ Ts) (hd0 : cNm y C n) (hn : As.length = n) (hroom : cRm rmY rm maxL kc ks) (hst : st = As.reverse ++ .ref (ad q) :: rest) (hrest : (rest.map fun v => v.category).sum ≤ 8) (hd : decode cc pc = .ok (.invokevirtual index, 3)) (k : G Γ kc ks N ad σ' (pc + 3) L (rest)) : G Γ kc ks N ad σ pc L st := g_callV h hG hM hq he hc hw hd0 hn hroom hst hrest hd (fun v σ2 hv => by obtain ⟨rfl, rfl⟩ := hv; exact k)
theorem g_dSv (h : Cx Γ cc own rm Ts cl tys nl) (hG : GoodIn Ts Ts) (hM : Ct (gL Γ) (gD Γ) cl tys nl N ad y (.code y bytes maxL ret :: Ts) rmY As σ (fun v σ2 => v = none ∧ σ2 = σ')) (hw : ∀ w ∈ cwsS own index y bytes maxL ret, w ∈ Ts) (hd0 : cNm y y.cls n) (hn : As.length = n) (hroom : cRm rmY rm maxL kc ks) (hst : st = As.reverse ++ rest) (hrest : (rest.map fun v => v.category).sum ≤ 8) (hd : decode cc pc = .ok (.invokestatic index, 3)) (k : G Γ kc ks N ad σ' (pc + 3) L (rest)) : G Γ kc ks N ad σ pc L st := g_callS h hG hM hw hd0 hn hroom hst hrest hd (fun v σ2 hv => by obtain ⟨rfl, rfl⟩ := hv; exact k)
theorem g_dNv (h : Cx Γ cc own rm Ts cl tys nl) (hG : GoodIn Ts Ts) {host : String} (hM : Ct (gL Γ) (gD Γ) cl tys nl N ad y (.code y bytes maxL ret :: Ts) rmY As σ (fun v σ2 => v = none ∧ σ2 = σ')) (hnl : (own, index, y, host) ∈ nl) (hcd : Cond.code y bytes maxL ret ∈ Ts) (hini : Cond.initialized y.cls ∈ Ts) (hst0 : Cond.static y ∈ Ts) (hd0 : cNm y y.cls n) (hn : As.length = n) (hroom : cRm rmY rm maxL kc ks) (hst : st = As.reverse ++ rest) (hrest : (rest.map fun v => v.category).sum ≤ 8) (hd : decode cc pc = .ok (.invokestatic index, 3)) (k : G Γ kc ks N ad σ' (pc + 3) L (rest)) : G Γ kc ks N ad σ pc L st := g_callSN h hG hM hnl hcd hini hst0 hd0 hn hroom hst hrest hd (fun v σ2 hv => by obtain ⟨rfl, rfl⟩ := hv; exact k)
end DRows
theorem nm_TCM_init : cNm y_TCM_init "TriColourMachine" 0 := ⟨rfl, by decide, by decide, by decide +kernel⟩
theorem nm_Heap_init : cNm y_Heap_init "TriColourMachine$Heap" 0 := ⟨rfl, by decide, by decide, by decide +kernel⟩
theorem nm_Arr_fill : cNm y_Arr_fill "java/util/Arrays" 2 := ⟨rfl, by decide, by decide, by decide +kernel⟩
theorem nm_Cell_init : cNm y_Cell_init "TriColourMachine$Cell" 0 := ⟨rfl, by decide, by decide, by decide +kernel⟩
theorem nm_Tab_init : cNm y_Tab_init "TriColourMachine$Table" 0 := ⟨rfl, by decide, by decide, by decide +kernel⟩
theorem nm_Cor_init : cNm y_Cor_init "TriColourMachine$Coroutine" 0 := ⟨rfl, by decide, by decide, by decide +kernel⟩
theorem nm_Pro_init : cNm y_Pro_init "TriColourMachine$Processor" 1 := ⟨rfl, by decide, by decide, by decide +kernel⟩
theorem nm_Ins_init : cNm y_Ins_init "TriColourMachine$Instruction" 0 := ⟨rfl, by decide, by decide, by decide +kernel⟩
theorem nm_TCM_full : cNm y_TCM_full "TriColourMachine" 0 := ⟨rfl, by decide, by decide, by decide +kernel⟩
theorem nm_Heap_fullCollection : cNm y_Heap_fullCollection "TriColourMachine$Heap" 0 := ⟨rfl, by decide, by decide, by decide +kernel⟩
theorem nm_Heap_unit : cNm y_Heap_unit "TriColourMachine$Heap" 0 := ⟨rfl, by decide, by decide, by decide +kernel⟩
theorem nm_Heap_sweepOne : cNm y_Heap_sweepOne "TriColourMachine$Heap" 0 := ⟨rfl, by decide, by decide, by decide +kernel⟩
theorem nm_Heap_leastGray : cNm y_Heap_leastGray "TriColourMachine$Heap" 0 := ⟨rfl, by decide, by decide, by decide +kernel⟩
theorem nm_Heap_blacken : cNm y_Heap_blacken "TriColourMachine$Heap" 1 := ⟨rfl, by decide, by decide, by decide +kernel⟩
theorem nm_Heap_shadeRow : cNm y_Heap_shadeRow "TriColourMachine$Heap" 2 := ⟨rfl, by decide, by decide, by decide +kernel⟩
theorem nm_Heap_shade : cNm y_Heap_shade "TriColourMachine$Heap" 1 := ⟨rfl, by decide, by decide, by decide +kernel⟩
theorem nm_Heap_shadeRoots : cNm y_Heap_shadeRoots "TriColourMachine$Heap" 0 := ⟨rfl, by decide, by decide, by decide +kernel⟩
theorem nm_Cell_isActive : cNm y_Cell_isActive "TriColourMachine$Cell" 0 := ⟨rfl, by decide, by decide, by decide +kernel⟩
theorem nm_TCM_count : cNm y_TCM_count "TriColourMachine" 1 := ⟨rfl, by decide, by decide, by decide +kernel⟩
theorem nm_Heap_grayOnes : cNm y_Heap_grayOnes "TriColourMachine$Heap" 0 := ⟨rfl, by decide, by decide, by decide +kernel⟩
theorem nm_TCM_code : cNm y_TCM_code "TriColourMachine" 6 := ⟨rfl, by decide, by decide, by decide +kernel⟩
theorem nm_TCM_checkRange : cNm y_TCM_checkRange "TriColourMachine" 3 := ⟨rfl, by decide, by decide, by decide +kernel⟩
theorem nm_Pro_instructionAt : cNm y_Pro_instructionAt "TriColourMachine$Processor" 2 := ⟨rfl, by decide, by decide, by decide +kernel⟩
theorem nm_TCM_number : cNm y_TCM_number "TriColourMachine" 2 := ⟨rfl, by decide, by decide, by decide +kernel⟩
theorem nm_TCM_checkGlobal : cNm y_TCM_checkGlobal "TriColourMachine" 1 := ⟨rfl, by decide, by decide, by decide +kernel⟩
theorem nm_TCM_move : cNm y_TCM_move "TriColourMachine" 2 := ⟨rfl, by decide, by decide, by decide +kernel⟩
theorem nm_TCM_make : cNm y_TCM_make "TriColourMachine" 2 := ⟨rfl, by decide, by decide, by decide +kernel⟩
theorem nm_Heap_create : cNm y_Heap_create "TriColourMachine$Heap" 2 := ⟨rfl, by decide, by decide, by decide +kernel⟩
theorem nm_Heap_leastFree : cNm y_Heap_leastFree "TriColourMachine$Heap" 0 := ⟨rfl, by decide, by decide, by decide +kernel⟩
theorem nm_Heap_birthColour : cNm y_Heap_birthColour "TriColourMachine$Heap" 1 := ⟨rfl, by decide, by decide, by decide +kernel⟩
theorem nm_Tab_clear : cNm y_Tab_clear "TriColourMachine$Table" 0 := ⟨rfl, by decide, by decide, by decide +kernel⟩
theorem nm_Cor_clear : cNm y_Cor_clear "TriColourMachine$Coroutine" 1 := ⟨rfl, by decide, by decide, by decide +kernel⟩
theorem nm_TCM_raise : cNm y_TCM_raise "TriColourMachine" 1 := ⟨rfl, by decide, by decide, by decide +kernel⟩
theorem nm_TCM_numberOf : cNm y_TCM_numberOf "TriColourMachine" 1 := ⟨rfl, by decide, by decide, by decide +kernel⟩
theorem nm_TCM_set : cNm y_TCM_set "TriColourMachine" 3 := ⟨rfl, by decide, by decide, by decide +kernel⟩
theorem nm_Heap_setting : cNm y_Heap_setting "TriColourMachine$Heap" 3 := ⟨rfl, by decide, by decide, by decide +kernel⟩
theorem nm_Heap_isA : cNm y_Heap_isA "TriColourMachine$Heap" 2 := ⟨rfl, by decide, by decide, by decide +kernel⟩
theorem nm_Heap_lastTable : cNm y_Heap_lastTable "TriColourMachine$Heap" 3 := ⟨rfl, by decide, by decide, by decide +kernel⟩
theorem nm_Tab_find : cNm y_Tab_find "TriColourMachine$Table" 1 := ⟨rfl, by decide, by decide, by decide +kernel⟩
theorem nm_Heap_linked : cNm y_Heap_linked "TriColourMachine$Heap" 2 := ⟨rfl, by decide, by decide, by decide +kernel⟩
theorem nm_Tab_append : cNm y_Tab_append "TriColourMachine$Table" 2 := ⟨rfl, by decide, by decide, by decide +kernel⟩
theorem nm_Tab_takeAway : cNm y_Tab_takeAway "TriColourMachine$Table" 1 := ⟨rfl, by decide, by decide, by decide +kernel⟩
theorem nm_Heap_touch : cNm y_Heap_touch "TriColourMachine$Heap" 1 := ⟨rfl, by decide, by decide, by decide +kernel⟩
theorem nm_TCM_get : cNm y_TCM_get "TriColourMachine" 3 := ⟨rfl, by decide, by decide, by decide +kernel⟩
theorem nm_Heap_getting : cNm y_Heap_getting "TriColourMachine$Heap" 2 := ⟨rfl, by decide, by decide, by decide +kernel⟩
theorem nm_TCM_meta : cNm y_TCM_meta "TriColourMachine" 2 := ⟨rfl, by decide, by decide, by decide +kernel⟩
theorem nm_Heap_settingMeta : cNm y_Heap_settingMeta "TriColourMachine$Heap" 2 := ⟨rfl, by decide, by decide, by decide +kernel⟩
theorem nm_TCM_resume : cNm y_TCM_resume "TriColourMachine" 3 := ⟨rfl, by decide, by decide, by decide +kernel⟩
theorem nm_Pro_run : cNm y_Pro_run "TriColourMachine$Processor" 2 := ⟨rfl, by decide, by decide, by decide +kernel⟩
theorem nm_Pro_enter : cNm y_Pro_enter "TriColourMachine$Processor" 2 := ⟨rfl, by decide, by decide, by decide +kernel⟩
theorem nm_Pro_perform : cNm y_Pro_perform "TriColourMachine$Processor" 2 := ⟨rfl, by decide, by decide, by decide +kernel⟩
theorem nm_Math_floorMod : cNm y_Math_floorMod "java/lang/Math" 2 := ⟨rfl, by decide, by decide, by decide +kernel⟩
theorem nm_Pro_keepFound : cNm y_Pro_keepFound "TriColourMachine$Processor" 3 := ⟨rfl, by decide, by decide, by decide +kernel⟩
theorem nm_Pro_calculate : cNm y_Pro_calculate "TriColourMachine$Processor" 5 := ⟨rfl, by decide, by decide, by decide +kernel⟩
theorem nm_TCM_isNumber : cNm y_TCM_isNumber "TriColourMachine" 1 := ⟨rfl, by decide, by decide, by decide +kernel⟩
theorem nm_Pro_jumpIfBelow : cNm y_Pro_jumpIfBelow "TriColourMachine$Processor" 3 := ⟨rfl, by decide, by decide, by decide +kernel⟩
theorem nm_Pro_jumpIf : cNm y_Pro_jumpIf "TriColourMachine$Processor" 2 := ⟨rfl, by decide, by decide, by decide +kernel⟩
theorem nm_Pro_leave : cNm y_Pro_leave "TriColourMachine$Processor" 1 := ⟨rfl, by decide, by decide, by decide +kernel⟩
theorem nm_Heap_keyAfter : cNm y_Heap_keyAfter "TriColourMachine$Heap" 2 := ⟨rfl, by decide, by decide, by decide +kernel⟩
theorem nm_Heap_howMany : cNm y_Heap_howMany "TriColourMachine$Heap" 1 := ⟨rfl, by decide, by decide, by decide +kernel⟩
theorem nm_Pro_endActive : cNm y_Pro_endActive "TriColourMachine$Processor" 0 := ⟨rfl, by decide, by decide, by decide +kernel⟩
theorem nm_TCM_collect : cNm y_TCM_collect "TriColourMachine" 1 := ⟨rfl, by decide, by decide, by decide +kernel⟩
theorem nm_TCM_global : cNm y_TCM_global "TriColourMachine" 1 := ⟨rfl, by decide, by decide, by decide +kernel⟩
theorem nm_TCM_object : cNm y_TCM_object "TriColourMachine" 2 := ⟨rfl, by decide, by decide, by decide +kernel⟩
theorem nm_TCM_inside : cNm y_TCM_inside "TriColourMachine" 3 := ⟨rfl, by decide, by decide, by decide +kernel⟩
theorem nm_Cell_rows : cNm y_Cell_rows "TriColourMachine$Cell" 1 := ⟨rfl, by decide, by decide, by decide +kernel⟩
theorem nm_Mod_init : cNm y_Mod_init "TriColourMachineModel" 0 := ⟨rfl, by decide, by decide, by decide +kernel⟩
theorem nm_Mod_thrown : cNm y_Mod_thrown "TriColourMachineModel" 0 := ⟨rfl, by decide, by decide, by decide +kernel⟩
theorem nm_Mod_code : cNm y_Mod_code "TriColourMachineModel" 6 := ⟨rfl, by decide, by decide, by decide +kernel⟩
theorem nm_Mod_number : cNm y_Mod_number "TriColourMachineModel" 2 := ⟨rfl, by decide, by decide, by decide +kernel⟩
theorem nm_Mod_badGlobal : cNm y_Mod_badGlobal "TriColourMachineModel" 1 := ⟨rfl, by decide, by decide, by decide +kernel⟩
theorem nm_Mod_move : cNm y_Mod_move "TriColourMachineModel" 2 := ⟨rfl, by decide, by decide, by decide +kernel⟩
theorem nm_Mod_make : cNm y_Mod_make "TriColourMachineModel" 2 := ⟨rfl, by decide, by decide, by decide +kernel⟩
theorem nm_Mod_create : cNm y_Mod_create "TriColourMachineModel" 2 := ⟨rfl, by decide, by decide, by decide +kernel⟩
theorem nm_Mod_free : cNm y_Mod_free "TriColourMachineModel" 0 := ⟨rfl, by decide, by decide, by decide +kernel⟩
theorem nm_Mod_whole : cNm y_Mod_whole "TriColourMachineModel" 0 := ⟨rfl, by decide, by decide, by decide +kernel⟩
theorem nm_Mod_unit : cNm y_Mod_unit "TriColourMachineModel" 0 := ⟨rfl, by decide, by decide, by decide +kernel⟩
theorem nm_Mod_shadeRoots : cNm y_Mod_shadeRoots "TriColourMachineModel" 0 := ⟨rfl, by decide, by decide, by decide +kernel⟩
theorem nm_Mod_shade : cNm y_Mod_shade "TriColourMachineModel" 1 := ⟨rfl, by decide, by decide, by decide +kernel⟩
theorem nm_Mod_objectOf : cNm y_Mod_objectOf "TriColourMachineModel" 1 := ⟨rfl, by decide, by decide, by decide +kernel⟩
theorem nm_Mod_leastGray : cNm y_Mod_leastGray "TriColourMachineModel" 0 := ⟨rfl, by decide, by decide, by decide +kernel⟩
theorem nm_Mod_blacken : cNm y_Mod_blacken "TriColourMachineModel" 1 := ⟨rfl, by decide, by decide, by decide +kernel⟩
theorem nm_Mod_set : cNm y_Mod_set "TriColourMachineModel" 3 := ⟨rfl, by decide, by decide, by decide +kernel⟩
theorem nm_Mod_tableOf : cNm y_Mod_tableOf "TriColourMachineModel" 1 := ⟨rfl, by decide, by decide, by decide +kernel⟩
theorem nm_Mod_setting : cNm y_Mod_setting "TriColourMachineModel" 3 := ⟨rfl, by decide, by decide, by decide +kernel⟩
theorem nm_Mod_pairOf : cNm y_Mod_pairOf "TriColourMachineModel" 2 := ⟨rfl, by decide, by decide, by decide +kernel⟩
theorem nm_Mod_next : cNm y_Mod_next "TriColourMachineModel" 2 := ⟨rfl, by decide, by decide, by decide +kernel⟩
theorem nm_Mod_touch : cNm y_Mod_touch "TriColourMachineModel" 1 := ⟨rfl, by decide, by decide, by decide +kernel⟩
theorem nm_Mod_get : cNm y_Mod_get "TriColourMachineModel" 3 := ⟨rfl, by decide, by decide, by decide +kernel⟩
theorem nm_Mod_getting : cNm y_Mod_getting "TriColourMachineModel" 2 := ⟨rfl, by decide, by decide, by decide +kernel⟩
theorem nm_Mod_meta : cNm y_Mod_meta "TriColourMachineModel" 2 := ⟨rfl, by decide, by decide, by decide +kernel⟩
theorem nm_Mod_join : cNm y_Mod_join "TriColourMachineModel" 2 := ⟨rfl, by decide, by decide, by decide +kernel⟩
theorem nm_Mod_resume : cNm y_Mod_resume "TriColourMachineModel" 3 := ⟨rfl, by decide, by decide, by decide +kernel⟩
theorem nm_Mod_enter : cNm y_Mod_enter "TriColourMachineModel" 2 := ⟨rfl, by decide, by decide, by decide +kernel⟩
theorem nm_Mod_coroutineOf : cNm y_Mod_coroutineOf "TriColourMachineModel" 1 := ⟨rfl, by decide, by decide, by decide +kernel⟩
theorem nm_Mod_step : cNm y_Mod_step "TriColourMachineModel" 0 := ⟨rfl, by decide, by decide, by decide +kernel⟩
theorem nm_Mod_leave : cNm y_Mod_leave "TriColourMachineModel" 2 := ⟨rfl, by decide, by decide, by decide +kernel⟩
theorem nm_Mod_jumps : cNm y_Mod_jumps "TriColourMachineModel" 3 := ⟨rfl, by decide, by decide, by decide +kernel⟩
theorem nm_Mod_isNumber : cNm y_Mod_isNumber "TriColourMachineModel" 1 := ⟨rfl, by decide, by decide, by decide +kernel⟩
theorem nm_Mod_calculate : cNm y_Mod_calculate "TriColourMachineModel" 5 := ⟨rfl, by decide, by decide, by decide +kernel⟩
theorem nm_Mod_following : cNm y_Mod_following "TriColourMachineModel" 2 := ⟨rfl, by decide, by decide, by decide +kernel⟩
theorem nm_Mod_collect : cNm y_Mod_collect "TriColourMachineModel" 1 := ⟨rfl, by decide, by decide, by decide +kernel⟩
theorem nm_Mod_full : cNm y_Mod_full "TriColourMachineModel" 0 := ⟨rfl, by decide, by decide, by decide +kernel⟩
theorem nm_Mod_global : cNm y_Mod_global "TriColourMachineModel" 1 := ⟨rfl, by decide, by decide, by decide +kernel⟩
theorem nm_Mod_object : cNm y_Mod_object "TriColourMachineModel" 2 := ⟨rfl, by decide, by decide, by decide +kernel⟩
theorem nm_Mod_inside : cNm y_Mod_inside "TriColourMachineModel" 3 := ⟨rfl, by decide, by decide, by decide +kernel⟩
theorem nm_Mod_count : cNm y_Mod_count "TriColourMachineModel" 1 := ⟨rfl, by decide, by decide, by decide +kernel⟩
theorem nl_Heap_52 : ("TriColourMachine$Heap", 52, y_Cell_init, "TriColourMachine") ∈ NL := List.mem_of_getElem? (i := 0) rfl
theorem nl_Cell_11 : ("TriColourMachine$Cell", 11, y_Tab_init, "TriColourMachine") ∈ NL := List.mem_of_getElem? (i := 1) rfl
theorem nl_Cell_20 : ("TriColourMachine$Cell", 20, y_Cor_init, "TriColourMachine") ∈ NL := List.mem_of_getElem? (i := 2) rfl
theorem nl_Pro_43 : ("TriColourMachine$Processor", 43, y_Ins_init, "TriColourMachine") ∈ NL := List.mem_of_getElem? (i := 3) rfl
theorem nl_Heap_55 : ("TriColourMachine$Heap", 55, y_TCM_numberOf, "TriColourMachine") ∈ NL := List.mem_of_getElem? (i := 4) rfl
theorem nl_Pro_71 : ("TriColourMachine$Processor", 71, y_TCM_numberOf, "TriColourMachine") ∈ NL := List.mem_of_getElem? (i := 5) rfl
theorem nl_Pro_165 : ("TriColourMachine$Processor", 165, y_TCM_isNumber, "TriColourMachine") ∈ NL := List.mem_of_getElem? (i := 6) rfl
theorem cd_TCM_numberOf : Cond.code y_TCM_numberOf b_TCM_numberOf 2 (some .int) ∈ TB := tb_mem 492 (by decide +kernel) rfl
theorem st_TCM_numberOf : Cond.static y_TCM_numberOf ∈ TB := tb_mem 491 (by decide +kernel) rfl
theorem cd_TCM_isNumber : Cond.code y_TCM_isNumber b_TCM_isNumber 2 (some .boolean) ∈ TB := tb_mem 598 (by decide +kernel) rfl
theorem st_TCM_isNumber : Cond.static y_TCM_isNumber ∈ TB := tb_mem 597 (by decide +kernel) rfl
theorem in_TCM : Cond.initialized "TriColourMachine" ∈ TB := tb_mem 43 (by decide +kernel) rfl
end
section
set_option maxHeartbeats 4000000 in
set_option maxRecDepth 100000 in
theorem c_TCM_numberOf {l : Launch} {D : va_G} {t : Nat → ClassId} {ad : Nat → Nat} {C : CS} {v : Int64} : Cd l D t ad y_TCM_numberOf b_TCM_numberOf 2 (some .int) { frames := 0, cells := 0, slots := 0, locals := 0 } [.long v] (C) (some (.int (v - 10000000000).toInt32)) (C) := by
  refine ct_of (by decide) (Nat.le_of_ble_eq_true rfl) ?_
  intro Γ _ _ hN h r
  refine g_at (L' := [some (.long v), none]) rfl rfl rfl ?_
  refine g_lload_n h d_TCM_numberOf_0 rfl rfl ?_
  refine g_ldc2 (v := 10000000000) h d_TCM_numberOf_1 k_TCM_186 ?_
  refine g_lsub h d_TCM_numberOf_4 ?_
  refine g_l2i h d_TCM_numberOf_5 ?_
  exact g_iret h r d_TCM_numberOf_6 (⟨rfl, rfl⟩)
set_option maxHeartbeats 4000000 in
set_option maxRecDepth 100000 in
theorem c_TCM_isNumber {l : Launch} {D : va_G} {t : Nat → ClassId} {ad : Nat → Nat} {C : CS} {v : Int64} : Cd l D t ad y_TCM_isNumber b_TCM_isNumber 2 (some .boolean) { frames := 0, cells := 0, slots := 0, locals := 0 } [.long v] (C) (some (.int (if -2147483648 ≤ v ∧ v ≤ 2147483647 then 1 else 0))) (C) := by
  refine ct_of (by decide) (Nat.le_of_ble_eq_true rfl) ?_
  intro Γ _ _ hN h r
  refine g_at (L' := [some (.long v), none]) rfl rfl rfl ?_
  refine g_lload_n h d_TCM_isNumber_0 rfl rfl ?_
  refine g_ldc2 (v := -2147483648) h d_TCM_isNumber_1 k_TCM_182 ?_
  refine g_lc_lt (tgt := 20) h d_TCM_isNumber_4 d_TCM_isNumber_5 (by decide) (fun c_5 => ?_) (fun c_5 => ?_)
  · refine g_iconst (v := 0) h d_TCM_isNumber_20 (by decide) ?_
    exact g_zret h r rfl d_TCM_isNumber_21 (⟨by first | (simp [c_5]; done) | (rw [if_neg (fun z => Int64.not_le.mpr c_5 z.1)]; done) | (rw [if_neg (fun z => Int64.not_le.mpr c_13 z.2)]; done) | (rw [if_pos ⟨Int64.not_lt.mp c_5, Int64.not_lt.mp c_13⟩]; done), rfl⟩)
  · refine g_lload_n h d_TCM_isNumber_8 rfl rfl ?_
    refine g_ldc2 (v := 2147483647) h d_TCM_isNumber_9 k_TCM_184 ?_
    refine g_lc_gt (tgt := 20) h d_TCM_isNumber_12 d_TCM_isNumber_13 (by decide) (fun c_13 => ?_) (fun c_13 => ?_)
    · refine g_iconst (v := 0) h d_TCM_isNumber_20 (by decide) ?_
      exact g_zret h r rfl d_TCM_isNumber_21 (⟨by first | (simp [c_5]; done) | (rw [if_neg (fun z => Int64.not_le.mpr c_5 z.1)]; done) | (rw [if_neg (fun z => Int64.not_le.mpr c_13 z.2)]; done) | (rw [if_pos ⟨Int64.not_lt.mp c_5, Int64.not_lt.mp c_13⟩]; done), rfl⟩)
    · refine g_iconst (v := 1) h d_TCM_isNumber_16 (by decide) ?_
      refine g_goto (tgt := 21) h d_TCM_isNumber_17 (by decide) ?_
      exact g_zret h r rfl d_TCM_isNumber_21 (⟨by first | (simp [c_5]; done) | (rw [if_neg (fun z => Int64.not_le.mpr c_5 z.1)]; done) | (rw [if_neg (fun z => Int64.not_le.mpr c_13 z.2)]; done) | (rw [if_pos ⟨Int64.not_lt.mp c_5, Int64.not_lt.mp c_13⟩]; done), rfl⟩)
set_option maxHeartbeats 4000000 in
set_option maxRecDepth 100000 in
theorem c_Cell_isActive {l : Launch} {D : va_G} {t : Nat → ClassId} {ad : Nat → Nat} {C : CS} {n : Nat} (hn : n < 16) : Cd l D t ad y_Cell_isActive b_Cell_isActive 1 (some .boolean) { frames := 0, cells := 0, slots := 0, locals := 0 } [.ref (ad (ix 4 n))] (C) (some (.int (if cactive C n = true then 1 else 0))) (C) := by
  refine ct_of (by decide) (Nat.le_of_ble_eq_true rfl) ?_
  intro Γ _ _ hN h r
  refine g_at (L' := [some (.ref (ad (ix 4 n)))]) rfl rfl rfl ?_
  refine g_aload_n h d_Cell_isActive_0 rfl rfl ?_
  refine gf_Cell_kind h f_Cell_25 (by first | assumption | omega) d_Cell_isActive_1 ?_
  refine g_iconst (v := 2) h d_Cell_isActive_4 (by decide) ?_
  refine g_icmp_ne (tgt := 23) h d_Cell_isActive_5 (by decide) (fun c_5 => ?_) (fun c_5 => ?_)
  · refine g_iconst (v := 0) h d_Cell_isActive_23 (by decide) ?_
    exact g_zret h r rfl d_Cell_isActive_24 (⟨by first | (simp [cactive, c_5]; done) | (simp [cactive, c_5, c_16]; done), rfl⟩)
  · refine g_aload_n h d_Cell_isActive_8 rfl rfl ?_
    refine gf_Cell_coroutine h f_Cell_21 (by first | assumption | omega) d_Cell_isActive_9 ?_
    refine gf_Cor_state h f_Cell_32 (by first | assumption | omega) d_Cell_isActive_12 ?_
    refine g_iconst (v := 2) h d_Cell_isActive_15 (by decide) ?_
    refine g_icmp_ne (tgt := 23) h d_Cell_isActive_16 (by decide) (fun c_16 => ?_) (fun c_16 => ?_)
    · refine g_iconst (v := 0) h d_Cell_isActive_23 (by decide) ?_
      exact g_zret h r rfl d_Cell_isActive_24 (⟨by first | (simp [cactive, c_5]; done) | (simp [cactive, c_5, c_16]; done), rfl⟩)
    · refine g_iconst (v := 1) h d_Cell_isActive_19 (by decide) ?_
      refine g_goto (tgt := 24) h d_Cell_isActive_20 (by decide) ?_
      exact g_zret h r rfl d_Cell_isActive_24 (⟨by first | (simp [cactive, c_5]; done) | (simp [cactive, c_5, c_16]; done), rfl⟩)
set_option maxHeartbeats 4000000 in
set_option maxRecDepth 100000 in
theorem c_Cell_rows {l : Launch} {D : va_G} {t : Nat → ClassId} {ad : Nat → Nat} {C : CS} {n : Nat} {b : Int32} (hn : n < 16) : Cd l D t ad y_Cell_rows b_Cell_rows 2 (some .int) { frames := 0, cells := 0, slots := 0, locals := 0 } [.ref (ad (ix 4 n)), .int b] (C) (some (.int (if C.1 0 n = 1 then C.1 2 n else if C.1 0 n = 2 ∧ b = 0 then 4 else 0))) (C) := by
  refine ct_of (by decide) (Nat.le_of_ble_eq_true rfl) ?_
  intro Γ _ _ hN h r
  refine g_at (L' := [some (.ref (ad (ix 4 n))), some (.int b)]) rfl rfl rfl ?_
  refine g_aload_n h d_Cell_rows_0 rfl rfl ?_
  refine gf_Cell_kind h f_Cell_25 (by first | assumption | omega) d_Cell_rows_1 ?_
  refine g_iconst (v := 1) h d_Cell_rows_4 (by decide) ?_
  refine g_icmp_ne (tgt := 16) h d_Cell_rows_5 (by decide) (fun c_5 => ?_) (fun c_5 => ?_)
  · refine g_aload_n h d_Cell_rows_16 rfl rfl ?_
    refine gf_Cell_kind h f_Cell_25 (by first | assumption | omega) d_Cell_rows_17 ?_
    refine g_iconst (v := 2) h d_Cell_rows_20 (by decide) ?_
    refine g_icmp_ne (tgt := 32) h d_Cell_rows_21 (by decide) (fun c_21 => ?_) (fun c_21 => ?_)
    · refine g_iconst (v := 0) h d_Cell_rows_32 (by decide) ?_
      exact g_iret h r d_Cell_rows_33 (⟨by first | (simp [c_5]; done) | (simp [c_5, c_21]; done) | (simp [c_5, c_21, c_25]; done), rfl⟩)
    · refine g_iload_n h d_Cell_rows_24 rfl rfl ?_
      refine g_if_ne (tgt := 32) h d_Cell_rows_25 (by decide) (fun c_25 => ?_) (fun c_25 => ?_)
      · refine g_iconst (v := 0) h d_Cell_rows_32 (by decide) ?_
        exact g_iret h r d_Cell_rows_33 (⟨by first | (simp [c_5]; done) | (simp [c_5, c_21]; done) | (simp [c_5, c_21, c_25]; done), rfl⟩)
      · refine g_iconst (v := 4) h d_Cell_rows_28 (by decide) ?_
        refine g_goto (tgt := 33) h d_Cell_rows_29 (by decide) ?_
        exact g_iret h r d_Cell_rows_33 (⟨by first | (simp [c_5]; done) | (simp [c_5, c_21]; done) | (simp [c_5, c_21, c_25]; done), rfl⟩)
  · refine g_aload_n h d_Cell_rows_8 rfl rfl ?_
    refine gf_Cell_table h f_Cell_12 (by first | assumption | omega) d_Cell_rows_9 ?_
    refine gf_Tab_pairs h f_Cell_35 (by first | assumption | omega) d_Cell_rows_12 ?_
    exact g_iret h r d_Cell_rows_15 (⟨by first | (simp [c_5]; done) | (simp [c_5, c_21]; done) | (simp [c_5, c_21, c_25]; done), rfl⟩)
set_option maxHeartbeats 4000000 in
set_option maxRecDepth 100000 in
theorem c_Tab_clear {l : Launch} {D : va_G} {t : Nat → ClassId} {ad : Nat → Nat} {C : CS} {n : Nat} (hn : n < 16) : Cd l D t ad y_Tab_clear b_Tab_clear 1 none { frames := 0, cells := 0, slots := 0, locals := 0 } [.ref (ad (ix 5 n))] (C) (none) (tclear C n) := by
  refine ct_of (by decide) (Nat.le_of_ble_eq_true rfl) ?_
  intro Γ _ _ hN h r
  refine g_at (L' := [some (.ref (ad (ix 5 n)))]) rfl rfl rfl ?_
  refine g_aload_n h d_Tab_clear_0 rfl rfl ?_
  refine g_iconst (v := 0) h d_Tab_clear_1 (by decide) ?_
  refine pf_Tab_pairs h f_Tab_18 (by first | assumption | omega) d_Tab_clear_2 ?_
  refine g_aload_n h d_Tab_clear_5 rfl rfl ?_
  refine g_iconst (v := -1) h d_Tab_clear_6 (by decide) ?_
  refine pf_Tab_meta h f_Tab_22 (by first | assumption | omega) d_Tab_clear_7 ?_
  exact g_vret h r d_Tab_clear_10 (⟨rfl, rfl⟩)
set_option maxHeartbeats 4000000 in
set_option maxRecDepth 100000 in
theorem c_Tab_find {l : Launch} {D : va_G} {t : Nat → ClassId} {ad : Nat → Nat} {C : CS} {n P : Nat} {key : Int64} (hn : n < 16) (hp : C.1 2 n = nI P) (hP : P ≤ 6) : Cd l D t ad y_Tab_find b_Tab_find 4 (some .int) { frames := 0, cells := 0, slots := 0, locals := 0 } [.ref (ad (ix 5 n)), .long key] (C) (some (.int (enc (tfind C n key)))) (C) := by
  refine ct_of (by decide) (Nat.le_of_ble_eq_true rfl) ?_
  intro Γ _ _ hN h r
  have hc : cPairs C n = P := by unfold cPairs; rw [hp]; exact nI_clamp (by omega)
  have loop : ∀ (c i : Nat), i + c = P → lst (fun j => C.2.1 1 n j == key) c i = tfind C n key → G Γ 0 0 171 ad (wc ad t C) 2 [some (.ref (ad (ix 5 n))), some (.long key), none, some (.int (nI i))] [] := by
    intro c
    induction c with
    | zero =>
      intro i hi he
      refine g_iload_n h d_Tab_find_2 rfl rfl ?_
      refine g_aload_n h d_Tab_find_3 rfl rfl ?_
      refine gf_Tab_pairs h f_Tab_18 (by first | assumption | omega) d_Tab_find_4 ?_
      rw [hp]
      refine g_icmp_ge (tgt := 29) h d_Tab_find_7 (by decide) (fun c_7 => ?_) (fun c_7 => ?_)
      · refine g_iconst (v := -1) h d_Tab_find_29 (by decide) ?_
        exact g_iret h r d_Tab_find_30 (⟨by rw [← he]; rfl, rfl⟩)
      · exact absurd (nI_le (by omega) (by omega)) c_7
    | succ c ih =>
      intro i hi he
      refine g_iload_n h d_Tab_find_2 rfl rfl ?_
      refine g_aload_n h d_Tab_find_3 rfl rfl ?_
      refine gf_Tab_pairs h f_Tab_18 (by first | assumption | omega) d_Tab_find_4 ?_
      rw [hp]
      refine g_icmp_ge (tgt := 29) h d_Tab_find_7 (by decide) (fun c_7 => ?_) (fun c_7 => ?_)
      · exact absurd c_7 (nI_ge (by omega) (by omega))
      · refine g_aload_n h d_Tab_find_10 rfl rfl ?_
        refine gf_Tab_keys h f_Tab_9 (by first | assumption | omega) d_Tab_find_11 ?_
        refine g_iload_n h d_Tab_find_14 rfl rfl ?_
        refine ga_keys h hn rfl (by omega) d_Tab_find_15 ?_
        refine g_lload_n h d_Tab_find_16 rfl rfl ?_
        refine g_lc_ne (tgt := 23) h d_Tab_find_17 d_Tab_find_18 (by decide) (fun c_18 => ?_) (fun c_18 => ?_)
        · refine g_iinc (v := nI (i + 1)) h d_Tab_find_23 rfl (by rw [nI_succ]; rfl) rfl (by rw [hN]; decide) ?_
          refine g_goto (tgt := 2) h d_Tab_find_26 (by decide) ?_
          exact ih (i + 1) (by omega) (by rw [← he]; simp [lst, c_18])
        · refine g_iload_n h d_Tab_find_21 rfl rfl ?_
          exact g_iret h r d_Tab_find_22 (⟨by rw [← he]; simp [lst, c_18, enc], rfl⟩)
  refine g_at (L' := [some (.ref (ad (ix 5 n))), some (.long key), none, none]) rfl rfl rfl ?_
  refine g_iconst (v := 0) h d_Tab_find_0 (by decide) ?_
  refine g_istore_n h d_Tab_find_1 rfl rfl (by rw [hN]; decide) ?_
  exact loop P 0 (by omega) (by unfold tfind; rw [hc])
set_option maxHeartbeats 4000000 in
set_option maxRecDepth 100000 in
theorem c_Heap_isA {l : Launch} {D : va_G} {t : Nat → ClassId} {ad : Nat → Nat} {C : CS} {k : Int32} {v : Int64} (hv : okV v) : Cd l D t ad y_Heap_isA b_Heap_isA 4 (some .boolean) { frames := 1, cells := 0, slots := 0, locals := 21 } [.ref (ad (ix 1 0)), .int k, .long v] (C) (some (.int (if isA C k v = true then 1 else 0))) (C) := by
  refine ct_of (by decide) (Nat.le_of_ble_eq_true rfl) ?_
  intro Γ _ _ hN h r
  refine g_at (L' := [some (.ref (ad (ix 1 0))), some (.int k), some (.long v), none]) rfl rfl rfl ?_
  refine g_lload_n h d_Heap_isA_0 rfl rfl ?_
  refine g_ldc2 (v := 10000000000) h d_Heap_isA_1 k_Heap_53 ?_
  refine g_lc_lt (tgt := 28) h d_Heap_isA_4 d_Heap_isA_5 (by decide) (fun c_5 => ?_) (fun c_5 => ?_)
  · refine g_iconst (v := 0) h d_Heap_isA_28 (by decide) ?_
    exact g_zret h r rfl d_Heap_isA_29 (⟨by first | (simp [isA, c_5]; done) | (simp [isA, c_5, c_21]; done), rfl⟩)
  · obtain ⟨ho, -, hq⟩ := okV_on hv c_5
    refine g_aload_n h d_Heap_isA_8 rfl rfl ?_
    refine gf_Heap_cells h f_Heap_17 d_Heap_isA_9 ?_
    refine g_lload_n h d_Heap_isA_12 rfl rfl ?_
    refine g_dNi h tb_good (c_TCM_numberOf) (host := "TriColourMachine") nl_Heap_55 cd_TCM_numberOf in_TCM st_TCM_numberOf nm_TCM_numberOf rfl ⟨rfl, rfl, Nat.le_of_ble_eq_true rfl, Nat.le_of_ble_eq_true rfl, Nat.zero_le _, Nat.zero_le _⟩ rfl (Nat.le_of_ble_eq_true rfl) d_Heap_isA_13 ?_
    refine ga_cells h hq ho d_Heap_isA_16 ?_
    refine gf_Cell_kind h f_Heap_59 (by first | assumption | omega) d_Heap_isA_17 ?_
    refine g_iload_n h d_Heap_isA_20 rfl rfl ?_
    refine g_icmp_ne (tgt := 28) h d_Heap_isA_21 (by decide) (fun c_21 => ?_) (fun c_21 => ?_)
    · refine g_iconst (v := 0) h d_Heap_isA_28 (by decide) ?_
      exact g_zret h r rfl d_Heap_isA_29 (⟨by first | (simp [isA, c_5]; done) | (simp [isA, c_5, c_21]; done), rfl⟩)
    · refine g_iconst (v := 1) h d_Heap_isA_24 (by decide) ?_
      refine g_goto (tgt := 29) h d_Heap_isA_25 (by decide) ?_
      exact g_zret h r rfl d_Heap_isA_29 (⟨by first | (simp [isA, c_5]; done) | (simp [isA, c_5, c_21]; done), rfl⟩)
set_option maxHeartbeats 4000000 in
set_option maxRecDepth 100000 in
theorem c_Heap_touch {l : Launch} {D : va_G} {t : Nat → ClassId} {ad : Nat → Nat} {C : CS} {n : Nat} (hn : n < 16) : Cd l D t ad y_Heap_touch b_Heap_touch 2 none { frames := 0, cells := 0, slots := 0, locals := 0 } [.ref (ad (ix 1 0)), .int (nI n)] (C) (none) (ctouch C n) := by
  refine ct_of (by decide) (Nat.le_of_ble_eq_true rfl) ?_
  intro Γ _ _ hN h r
  refine g_at (L' := [some (.ref (ad (ix 1 0))), some (.int (nI n))]) rfl rfl rfl ?_
  refine g_aload_n h d_Heap_touch_0 rfl rfl ?_
  refine gf_Heap_phase h f_Heap_21 d_Heap_touch_1 ?_
  refine g_iconst (v := 1) h d_Heap_touch_4 (by decide) ?_
  refine g_icmp_ne (tgt := 31) h d_Heap_touch_5 (by decide) (fun c_5 => ?_) (fun c_5 => ?_)
  · exact g_vret h r d_Heap_touch_31 (⟨rfl, by first | (simp [ctouch, c_5]; done) | (simp [ctouch, c_5, c_18]; done)⟩)
  · refine g_aload_n h d_Heap_touch_8 rfl rfl ?_
    refine gf_Heap_cells h f_Heap_17 d_Heap_touch_9 ?_
    refine g_iload_n h d_Heap_touch_12 rfl rfl ?_
    refine ga_cells h rfl hn d_Heap_touch_13 ?_
    refine gf_Cell_colour h f_Heap_73 (by first | assumption | omega) d_Heap_touch_14 ?_
    refine g_iconst (v := 2) h d_Heap_touch_17 (by decide) ?_
    refine g_icmp_ne (tgt := 31) h d_Heap_touch_18 (by decide) (fun c_18 => ?_) (fun c_18 => ?_)
    · exact g_vret h r d_Heap_touch_31 (⟨rfl, by first | (simp [ctouch, c_5]; done) | (simp [ctouch, c_5, c_18]; done)⟩)
    · refine g_aload_n h d_Heap_touch_21 rfl rfl ?_
      refine gf_Heap_cells h f_Heap_17 d_Heap_touch_22 ?_
      refine g_iload_n h d_Heap_touch_25 rfl rfl ?_
      refine ga_cells h rfl hn d_Heap_touch_26 ?_
      refine g_iconst (v := 1) h d_Heap_touch_27 (by decide) ?_
      refine pf_Cell_colour h f_Heap_73 (by first | assumption | omega) d_Heap_touch_28 ?_
      exact g_vret h r d_Heap_touch_31 (⟨rfl, by first | (simp [ctouch, c_5]; done) | (simp [ctouch, c_5, c_18]; done)⟩)
set_option maxHeartbeats 4000000 in
set_option maxRecDepth 100000 in
theorem c_Heap_birthColour {l : Launch} {D : va_G} {t : Nat → ClassId} {ad : Nat → Nat} {C : CS} {n : Nat} : Cd l D t ad y_Heap_birthColour b_Heap_birthColour 2 (some .int) { frames := 0, cells := 0, slots := 0, locals := 0 } [.ref (ad (ix 1 0)), .int (nI n)] (C) (some (.int (cbirth C n))) (C) := by
  refine ct_of (by decide) (Nat.le_of_ble_eq_true rfl) ?_
  intro Γ _ _ hN h r
  refine g_at (L' := [some (.ref (ad (ix 1 0))), some (.int (nI n))]) rfl rfl rfl ?_
  refine g_aload_n h d_Heap_birthColour_0 rfl rfl ?_
  refine gf_Heap_phase h f_Heap_21 d_Heap_birthColour_1 ?_
  refine g_iconst (v := 1) h d_Heap_birthColour_4 (by decide) ?_
  refine g_icmp_eq (tgt := 24) h d_Heap_birthColour_5 (by decide) (fun c_5 => ?_) (fun c_5 => ?_)
  · refine g_iconst (v := 2) h d_Heap_birthColour_24 (by decide) ?_
    exact g_iret h r d_Heap_birthColour_25 (⟨by first | (simp [cbirth, c_5]; done) | (simp [cbirth, c_5, c_13]; done) | (simp [cbirth, c_5, c_13, Int32.not_lt.mp c_21]; done) | (simp [cbirth, c_5, c_13, Int32.not_le.mpr c_21]; done), rfl⟩)
  · refine g_aload_n h d_Heap_birthColour_8 rfl rfl ?_
    refine gf_Heap_phase h f_Heap_21 d_Heap_birthColour_9 ?_
    refine g_iconst (v := 2) h d_Heap_birthColour_12 (by decide) ?_
    refine g_icmp_ne (tgt := 26) h d_Heap_birthColour_13 (by decide) (fun c_13 => ?_) (fun c_13 => ?_)
    · refine g_iconst (v := 0) h d_Heap_birthColour_26 (by decide) ?_
      exact g_iret h r d_Heap_birthColour_27 (⟨by first | (simp [cbirth, c_5]; done) | (simp [cbirth, c_5, c_13]; done) | (simp [cbirth, c_5, c_13, Int32.not_lt.mp c_21]; done) | (simp [cbirth, c_5, c_13, Int32.not_le.mpr c_21]; done), rfl⟩)
    · refine g_iload_n h d_Heap_birthColour_16 rfl rfl ?_
      refine g_aload_n h d_Heap_birthColour_17 rfl rfl ?_
      refine gf_Heap_sweepFrom h f_Heap_25 d_Heap_birthColour_18 ?_
      refine g_icmp_lt (tgt := 26) h d_Heap_birthColour_21 (by decide) (fun c_21 => ?_) (fun c_21 => ?_)
      · refine g_iconst (v := 0) h d_Heap_birthColour_26 (by decide) ?_
        exact g_iret h r d_Heap_birthColour_27 (⟨by first | (simp [cbirth, c_5]; done) | (simp [cbirth, c_5, c_13]; done) | (simp [cbirth, c_5, c_13, Int32.not_lt.mp c_21]; done) | (simp [cbirth, c_5, c_13, Int32.not_le.mpr c_21]; done), rfl⟩)
      · refine g_iconst (v := 2) h d_Heap_birthColour_24 (by decide) ?_
        exact g_iret h r d_Heap_birthColour_25 (⟨by first | (simp [cbirth, c_5]; done) | (simp [cbirth, c_5, c_13]; done) | (simp [cbirth, c_5, c_13, Int32.not_lt.mp c_21]; done) | (simp [cbirth, c_5, c_13, Int32.not_le.mpr c_21]; done), rfl⟩)
set_option maxHeartbeats 4000000 in
set_option maxRecDepth 100000 in
theorem c_Heap_leastFree {l : Launch} {D : va_G} {t : Nat → ClassId} {ad : Nat → Nat} {C : CS}  : Cd l D t ad y_Heap_leastFree b_Heap_leastFree 2 (some .int) { frames := 0, cells := 0, slots := 0, locals := 0 } [.ref (ad (ix 1 0))] (C) (some (.int (enc (cfree C)))) (C) := by
  refine ct_of (by decide) (Nat.le_of_ble_eq_true rfl) ?_
  intro Γ _ _ hN h r
  have loop : ∀ (c i : Nat), i + c = 16 → lst (fun n => C.1 0 n == 0) c i = cfree C → G Γ 0 0 171 ad (wc ad t C) 2 [some (.ref (ad (ix 1 0))), some (.int (nI i))] [] := by
    intro c
    induction c with
    | zero =>
      intro i hi he
      refine g_iload_n h d_Heap_leastFree_2 rfl rfl ?_
      refine g_bipush (v := 16) h d_Heap_leastFree_3 (by decide) ?_
      refine g_icmp_ge (tgt := 28) h d_Heap_leastFree_5 (by decide) (fun c_5 => ?_) (fun c_5 => ?_)
      · refine g_iconst (v := -1) h d_Heap_leastFree_28 (by decide) ?_
        exact g_iret h r d_Heap_leastFree_29 (⟨by rw [← he]; rfl, rfl⟩)
      · exact absurd (nI_le (a := 16) (b := i) (by omega) (by omega)) c_5
    | succ c ih =>
      intro i hi he
      refine g_iload_n h d_Heap_leastFree_2 rfl rfl ?_
      refine g_bipush (v := 16) h d_Heap_leastFree_3 (by decide) ?_
      refine g_icmp_ge (tgt := 28) h d_Heap_leastFree_5 (by decide) (fun c_5 => ?_) (fun c_5 => ?_)
      · exact absurd c_5 (nI_ge (b := 16) (by omega) (by decide))
      · refine g_aload_n h d_Heap_leastFree_8 rfl rfl ?_
        refine gf_Heap_cells h f_Heap_17 d_Heap_leastFree_9 ?_
        refine g_iload_n h d_Heap_leastFree_12 rfl rfl ?_
        refine ga_cells h rfl (by omega) d_Heap_leastFree_13 ?_
        refine gf_Cell_kind h f_Heap_59 (by first | assumption | omega) d_Heap_leastFree_14 ?_
        refine g_if_ne (tgt := 22) h d_Heap_leastFree_17 (by decide) (fun c_17 => ?_) (fun c_17 => ?_)
        · refine g_iinc (v := nI (i + 1)) h d_Heap_leastFree_22 rfl (by rw [nI_succ]; rfl) rfl (by rw [hN]; decide) ?_
          refine g_goto (tgt := 2) h d_Heap_leastFree_25 (by decide) ?_
          exact ih (i + 1) (by omega) (by rw [← he]; simp [lst, c_17])
        · refine g_iload_n h d_Heap_leastFree_20 rfl rfl ?_
          exact g_iret h r d_Heap_leastFree_21 (⟨by rw [← he]; simp [lst, c_17, enc], rfl⟩)
  refine g_at (L' := [some (.ref (ad (ix 1 0))), none]) rfl rfl rfl ?_
  refine g_iconst (v := 0) h d_Heap_leastFree_0 (by decide) ?_
  refine g_istore_n h d_Heap_leastFree_1 rfl rfl (by rw [hN]; decide) ?_
  exact loop 16 0 (by omega) rfl
set_option maxHeartbeats 4000000 in
set_option maxRecDepth 100000 in
theorem c_Heap_leastGray {l : Launch} {D : va_G} {t : Nat → ClassId} {ad : Nat → Nat} {C : CS}  : Cd l D t ad y_Heap_leastGray b_Heap_leastGray 2 (some .int) { frames := 0, cells := 0, slots := 0, locals := 0 } [.ref (ad (ix 1 0))] (C) (some (.int (enc (cgray C)))) (C) := by
  refine ct_of (by decide) (Nat.le_of_ble_eq_true rfl) ?_
  intro Γ _ _ hN h r
  have loop : ∀ (c i : Nat), i + c = 16 → lst (fun n => C.1 1 n == 1) c i = cgray C → G Γ 0 0 171 ad (wc ad t C) 2 [some (.ref (ad (ix 1 0))), some (.int (nI i))] [] := by
    intro c
    induction c with
    | zero =>
      intro i hi he
      refine g_iload_n h d_Heap_leastGray_2 rfl rfl ?_
      refine g_bipush (v := 16) h d_Heap_leastGray_3 (by decide) ?_
      refine g_icmp_ge (tgt := 29) h d_Heap_leastGray_5 (by decide) (fun c_5 => ?_) (fun c_5 => ?_)
      · refine g_iconst (v := -1) h d_Heap_leastGray_29 (by decide) ?_
        exact g_iret h r d_Heap_leastGray_30 (⟨by rw [← he]; rfl, rfl⟩)
      · exact absurd (nI_le (a := 16) (b := i) (by omega) (by omega)) c_5
    | succ c ih =>
      intro i hi he
      refine g_iload_n h d_Heap_leastGray_2 rfl rfl ?_
      refine g_bipush (v := 16) h d_Heap_leastGray_3 (by decide) ?_
      refine g_icmp_ge (tgt := 29) h d_Heap_leastGray_5 (by decide) (fun c_5 => ?_) (fun c_5 => ?_)
      · exact absurd c_5 (nI_ge (b := 16) (by omega) (by decide))
      · refine g_aload_n h d_Heap_leastGray_8 rfl rfl ?_
        refine gf_Heap_cells h f_Heap_17 d_Heap_leastGray_9 ?_
        refine g_iload_n h d_Heap_leastGray_12 rfl rfl ?_
        refine ga_cells h rfl (by omega) d_Heap_leastGray_13 ?_
        refine gf_Cell_colour h f_Heap_73 (by first | assumption | omega) d_Heap_leastGray_14 ?_
        refine g_iconst (v := 1) h d_Heap_leastGray_17 (by decide) ?_
        refine g_icmp_ne (tgt := 23) h d_Heap_leastGray_18 (by decide) (fun c_18 => ?_) (fun c_18 => ?_)
        · refine g_iinc (v := nI (i + 1)) h d_Heap_leastGray_23 rfl (by rw [nI_succ]; rfl) rfl (by rw [hN]; decide) ?_
          refine g_goto (tgt := 2) h d_Heap_leastGray_26 (by decide) ?_
          exact ih (i + 1) (by omega) (by rw [← he]; simp [lst, c_18])
        · refine g_iload_n h d_Heap_leastGray_21 rfl rfl ?_
          exact g_iret h r d_Heap_leastGray_22 (⟨by rw [← he]; simp [lst, c_18, enc], rfl⟩)
  refine g_at (L' := [some (.ref (ad (ix 1 0))), none]) rfl rfl rfl ?_
  refine g_iconst (v := 0) h d_Heap_leastGray_0 (by decide) ?_
  refine g_istore_n h d_Heap_leastGray_1 rfl rfl (by rw [hN]; decide) ?_
  exact loop 16 0 (by omega) rfl
end
section
/-! what the class keeps true of its own numbers -/
def okC (C : CS) : Prop :=
  (∀ n, n < 16 → (∃ p, p ≤ 6 ∧ C.1 2 n = nI p) ∧ (C.1 3 n = -1 ∨ ∃ m, m < 16 ∧ C.1 3 n = nI m) ∧ (∃ f, f < 4 ∧ C.1 4 n = nI f) ∧ (∃ p, p ≤ 16 ∧ C.1 5 n = nI p) ∧ (∃ a, a < 4 ∧ C.1 7 n = nI a) ∧ (∃ a, a < 4 ∧ C.1 8 n = nI a)) ∧
  (∀ f n i, okV (C.2.1 f n i)) ∧ (∃ k, k < 16 ∧ C.1 14 0 = nI k) ∧ (∃ d, d ≤ 5 ∧ C.1 19 0 = nI d ∧ ∀ i, i < d → ∃ n, n < 16 ∧ C.2.2 i = some n)
theorem cPairs_eq {C : CS} {n P : Nat} (hp : C.1 2 n = nI P) (hP : P ≤ 6) : cPairs C n = P := by unfold cPairs; rw [hp]; exact nI_clamp (by omega)
theorem tfind_lt {C : CS} {n P q : Nat} {key : Int64} (hp : C.1 2 n = nI P) (hP : P ≤ 6) (hf : tfind C n key = some q) : q < P := by
  unfold tfind at hf
  rw [cPairs_eq hp hP] at hf
  have := (lst_lt _ _ _ hf).2.1
  omega
theorem isA_on {C : CS} {k : Int32} {v : Int64} (hv : okV v) (ha : isA C k v = true) : on v < 16 ∧ (v - 10000000000).toInt32 = nI (on v) ∧ C.1 0 (on v) = k ∧ ¬ v < 10000000000 := by
  simp only [isA, Bool.and_eq_true, Bool.not_eq_true', decide_eq_false_iff_not, decide_eq_true_eq] at ha
  obtain ⟨h1, -, h2⟩ := okV_on hv ha.1
  exact ⟨h1, h2, ha.2, ha.1⟩
theorem tlinked_nI {C : CS} {j : Nat} {link : Int64} (hj : j < 16) : tlinked C (nI j) link = match tfind C j link with
    | none => none
    | some q => if isA C 1 (C.2.1 2 j q) = true then some (on (C.2.1 2 j q)) else none := by
  unfold tlinked
  rw [if_neg (nI_pos (by omega)), nI_clamp (by omega)]
  cases tfind C j link <;> rfl
theorem tlinked_m1 {C : CS} {link : Int64} : tlinked C (-1) link = none := by
  unfold tlinked
  rw [if_pos (by decide)]
theorem tlinked_lt {C : CS} {m : Int32} {link : Int64} {k : Nat} (hok : okC C) (h : tlinked C m link = some k) : k < 16 := by
  unfold tlinked at h
  by_cases hm : m < 0
  · rw [if_pos hm] at h; cases h
  · rw [if_neg hm] at h
    split at h
    · cases h
    · split at h
      · rename_i q _ ha
        cases h
        exact (isA_on (hok.2.1 _ _ _) ha).1
      · cases h
/-- fewer locals are known, by lists -/
def leL : List (Option Value) → List (Option Value) → Prop
  | [], _ => True
  | none :: a, _ :: b => leL a b
  | some x :: a, some y :: b => x = y ∧ leL a b
  | _, _ => False
theorem leL_get : ∀ (L' L : List (Option Value)), leL L' L → ∀ (i : Nat) (v : Value), L'[i]? = some (some v) → L[i]? = some (some v)
  | [], _, _, i, v, hi => by simp at hi
  | none :: a, _ :: b, h, i, v, hi => by
    cases i with
    | zero => simp at hi
    | succ i => exact leL_get a b h i v (by simpa using hi)
  | some x :: a, some y :: b, h, i, v, hi => by
    obtain ⟨h1, h2⟩ := h
    cases i with
    | zero => subst h1; simpa using hi
    | succ i => exact leL_get a b h2 i v (by simpa using hi)
  | none :: _, [], h, _, _, _ => by cases h
  | some _ :: _, [], h, _, _, _ => by cases h
  | some _ :: _, none :: _, h, _, _, _ => by cases h
theorem g_lessL {Γ : GT} {kc ks N pc : Nat} {ad : Nat → Nat} {σ : Nat → va_E} {L L' : List (Option Value)} {st : List Value} (h : leL L' L) (k : G Γ kc ks N ad σ pc L' st) : G Γ kc ks N ad σ pc L st := g_less (leL_get L' L h) k
theorem nI_neg {n : Nat} (h : n < 2 ^ 31) : ¬ nI n < 0 := nI_pos h
theorem cshadeRow_2 (row : Nat → Int64) : ∀ (c i : Nat) (a : Int32) (C : CS), (cshadeRow row c i a C).2.2 = C.2
  | 0, _, _, _ => rfl
  | c + 1, i, a, C => by
    unfold cshadeRow
    split
    · rw [cshadeRow_2 row c]; rfl
    · exact cshadeRow_2 row c _ _ _
theorem cshadeRow_1 (row : Nat → Int64) : ∀ (c i : Nat) (a : Int32) (C : CS) (f n : Nat), f ≠ 1 → (cshadeRow row c i a C).2.1 f n = C.1 f n
  | 0, _, _, _, _, _, _ => rfl
  | c + 1, i, a, C, f, n, hf => by
    unfold cshadeRow
    split
    · rw [cshadeRow_1 row c _ _ _ _ _ hf, sI_1, if_neg (fun z => hf z.1)]
    · exact cshadeRow_1 row c _ _ _ _ _ hf
theorem fil_step (C : CS) (f n i : Nat) (v : Int64) : sJ (sR C f n (fil v i (C.2.1 f n))) f n i v = sR C f n (fil v (i + 1) (C.2.1 f n)) := by
  unfold sJ sR
  refine Prod.ext rfl (Prod.ext ?_ rfl)
  funext a b c
  show (if a = f ∧ b = n ∧ c = i then v else if a = f ∧ b = n then fil v i (C.2.1 f n) c else C.2.1 a b c) = if a = f ∧ b = n then fil v (i + 1) (C.2.1 f n) c else C.2.1 a b c
  unfold fil
  by_cases h1 : a = f ∧ b = n
  · by_cases h2 : c = i
    · subst h2; simp [h1]
    · simp only [h1, h2, and_false, and_self, if_true, if_false]
      by_cases h3 : c < i
      · rw [if_pos h3, if_pos (show c < i + 1 by omega)]
      · rw [if_neg h3, if_neg (show ¬ c < i + 1 by omega)]
  · rw [if_neg (fun z => h1 ⟨z.1, z.2.1⟩), if_neg h1, if_neg h1]
theorem fil_0 (C : CS) (f n : Nat) (v : Int64) : sR C f n (fil v 0 (C.2.1 f n)) = C := by
  unfold sR
  refine Prod.ext rfl (Prod.ext ?_ rfl)
  funext a b c
  show (if a = f ∧ b = n then fil v 0 (C.2.1 f n) c else C.2.1 a b c) = C.2.1 a b c
  by_cases h1 : a = f ∧ b = n
  · obtain ⟨rfl, rfl⟩ := h1; simp [fil]
  · rw [if_neg h1]
theorem cshade_2 (C : CS) (n : Nat) : (cshade C n).2.2 = C.2 := by unfold cshade; split <;> rfl
theorem cshade_1 (C : CS) (n f m : Nat) (hf : f ≠ 1) : (cshade C n).2.1 f m = C.1 f m := by
  unfold cshade
  split
  · show (sI C 1 n 1).1 f m = _
    rw [sI_1, if_neg (fun z => hf z.1)]
  · rfl
theorem croots_2 : ∀ (c n : Nat) (a : Int32) (C : CS), (croots c n a C).2.2 = C.2
  | 0, _, _, _ => rfl
  | c + 1, n, a, C => by
    unfold croots
    split
    · rw [croots_2 c, cshadeRow_2, cshade_2]
    · exact croots_2 c _ _ _
theorem croots_1 : ∀ (c n : Nat) (a : Int32) (C : CS) (f m : Nat), f ≠ 1 → (croots c n a C).2.1 f m = C.1 f m
  | 0, _, _, _, _, _, _ => rfl
  | c + 1, n, a, C, f, m, hf => by
    unfold croots
    split
    · rw [croots_1 c _ _ _ _ _ hf, cshadeRow_1 _ _ _ _ _ _ _ hf, cshade_1 _ _ _ _ hf]
    · exact croots_1 c _ _ _ _ _ hf
theorem okC_of {C C' : CS} (h : okC C) (h1 : ∀ f, f = 2 ∨ f = 3 ∨ f = 4 ∨ f = 5 ∨ f = 7 ∨ f = 8 ∨ f = 19 → ∀ n, C'.1 f n = C.1 f n) (h2 : C'.2 = C.2) (h3 : ∃ k, k < 16 ∧ C'.1 14 0 = nI k) : okC C' := by
  obtain ⟨a, b, -, d⟩ := h
  refine ⟨fun n hn => ?_, ?_, h3, ?_⟩
  · rw [h1 2 (by omega), h1 3 (by omega), h1 4 (by omega), h1 5 (by omega), h1 7 (by omega), h1 8 (by omega)]
    exact a n hn
  · rw [h2]; exact b
  · rw [h1 19 (by omega), h2]; exact d
theorem cblacken_2 (C : CS) (n : Nat) : (cblacken C n).2 = C.2 := by
  unfold cblacken
  simp only
  split
  · rw [cshadeRow_2]; rfl
  · split
    · rw [cshadeRow_2, cshadeRow_2]; rfl
    · rw [cshade_2, cshadeRow_2, cshadeRow_2]; rfl
theorem cblacken_1 (C : CS) (n f m : Nat) (hf : f ≠ 1) : (cblacken C n).1 f m = C.1 f m := by
  have e : (sI C 1 n 2).1 f m = C.1 f m := by rw [sI_1, if_neg (fun z => hf z.1)]
  unfold cblacken
  simp only
  split
  · rw [cshadeRow_1 _ _ _ _ _ _ _ hf]; exact e
  · split
    · rw [cshadeRow_1 _ _ _ _ _ _ _ hf, cshadeRow_1 _ _ _ _ _ _ _ hf]; exact e
    · rw [cshade_1 _ _ _ _ hf, cshadeRow_1 _ _ _ _ _ _ _ hf, cshadeRow_1 _ _ _ _ _ _ _ hf]; exact e
theorem cshadeRoots_2 (C : CS) : (cshadeRoots C).2.2 = C.2 := by unfold cshadeRoots; rw [croots_2, cshadeRow_2]
theorem cshadeRoots_1 (C : CS) (f m : Nat) (hf : f ≠ 1) : (cshadeRoots C).2.1 f m = C.1 f m := by unfold cshadeRoots; rw [croots_1 _ _ _ _ _ _ hf, cshadeRow_1 _ _ _ _ _ _ _ hf]
section RowsOf
variable {ad : Nat → Nat} {t : Nat → ClassId} {C : CS} {n : Nat}
theorem row_g : ∀ C2 : CS, C2.2 = C.2 → wc ad t C2 (ix 2 0) = .inl (t 0, 6, .inr (.inl (C.2.1 0 0))) := fun C2 e => by
  rw [wc_at (by decide) (by decide)]
  show Sum.inl (t 0, 6, Sum.inr (Sum.inl (C2.2.1 0 0))) = _
  rw [e]
theorem row_k (hn : n < 16) : ∀ C2 : CS, C2.2 = C.2 → wc ad t C2 (ix 6 n) = .inl (t 0, 6, .inr (.inl (C.2.1 1 n))) := fun C2 e => by
  rw [wc_at (by decide) hn]
  show Sum.inl (t 0, 6, Sum.inr (Sum.inl (C2.2.1 1 n))) = _
  rw [e]
theorem row_v (hn : n < 16) : ∀ C2 : CS, C2.2 = C.2 → wc ad t C2 (ix 7 n) = .inl (t 0, 6, .inr (.inl (C.2.1 2 n))) := fun C2 e => by
  rw [wc_at (by decide) hn]
  show Sum.inl (t 0, 6, Sum.inr (Sum.inl (C2.2.1 2 n))) = _
  rw [e]
theorem row_r (hn : n < 16) : ∀ C2 : CS, C2.2 = C.2 → wc ad t C2 (ix 9 n) = .inl (t 0, 4, .inr (.inl (C.2.1 3 n))) := fun C2 e => by
  rw [wc_at (by decide) hn]
  show Sum.inl (t 0, 4, Sum.inr (Sum.inl (C2.2.1 3 n))) = _
  rw [e]
end RowsOf
theorem sI_o {C : CS} {f n g m : Nat} {v : Int32} (h : g ≠ f) : (sI C f n v).1 g m = C.1 g m := by rw [sI_1, if_neg (fun z => h z.1)]
theorem csweep_2 (C : CS) : (csweep C).2 = C.2 := by unfold csweep; simp only; split <;> split <;> rfl
theorem csweep_1 (C : CS) (f m : Nat) (h0 : f ≠ 0) (h1 : f ≠ 1) (h2 : f ≠ 13) (h3 : f ≠ 14) (h4 : f ≠ 16) : (csweep C).1 f m = C.1 f m := by
  unfold csweep
  simp only
  split <;> split <;> simp only [sI_o h0, sI_o h1, sI_o h2, sI_o h3, sI_o h4]
theorem csweep_14 (C : CS) {i : Nat} (hi : i < 16) (hk : C.1 14 0 = nI i) : ∃ k, k < 16 ∧ (csweep C).1 14 0 = nI k := by
  unfold csweep
  simp only
  by_cases h : C.1 14 0 + 1 = 16
  · rw [if_pos h]
    exact ⟨0, by omega, by rw [sI_o (by decide), sI_1, if_pos ⟨rfl, rfl⟩]; rfl⟩
  · rw [if_neg h]
    have hne : i + 1 < 16 := by
      rcases Nat.lt_or_ge (i + 1) 16 with z | z
      · exact z
      · exfalso
        apply h
        have : i = 15 := by omega
        subst this
        rw [hk]
        decide
    exact ⟨i + 1, hne, by rw [sI_1, if_pos ⟨rfl, rfl⟩, hk, nI_succ]⟩
theorem okC_17 {C : CS} {v : Int32} (h : okC C) : okC (sI C 17 0 v) := okC_of h (fun f hf n => sI_o (by omega)) rfl (by obtain ⟨k, h1, h2⟩ := h.2.2.1; exact ⟨k, h1, by rw [sI_o (by decide)]; exact h2⟩)
theorem okC_18 {C : CS} {v : Int32} (h : okC C) : okC (sI C 18 0 v) := okC_of h (fun f hf n => sI_o (by omega)) rfl (by obtain ⟨k, h1, h2⟩ := h.2.2.1; exact ⟨k, h1, by rw [sI_o (by decide)]; exact h2⟩)
theorem okC_unit {C : CS} (h : okC C) : okC (cunit C) := by
  have h1 := okC_17 (v := C.1 17 0 + 1) h
  unfold cunit
  simp only
  split
  · obtain ⟨k, hk, hk2⟩ := h1.2.2.1
    exact okC_of h1 (fun f hf n => csweep_1 _ f n (by omega) (by omega) (by omega) (by omega) (by omega)) (csweep_2 _) (csweep_14 _ hk hk2)
  · split
    · exact okC_of h1 (fun f hf n => cblacken_1 _ _ f n (by omega)) (cblacken_2 _ _) (by rw [cblacken_1 _ _ _ _ (by decide)]; exact h1.2.2.1)
    · refine okC_of h1 (fun f hf n => ?_) (cshadeRoots_2 _) ?_
      · rw [sI_o (by omega)]; exact cshadeRoots_1 _ f n (by omega)
      · rw [sI_o (by decide), cshadeRoots_1 _ _ _ (by decide)]; exact h1.2.2.1
theorem okC_while : ∀ (c : Nat) (C : CS), okC C → okC (cwhile c C)
  | 0, _, h => h
  | c + 1, C, h => by
    unfold cwhile
    split
    · exact h
    · exact okC_while c _ (okC_unit h)
theorem okC_full {C : CS} (h : okC C) : okC (cfull C) := okC_while _ _ (okC_unit (okC_while _ _ (okC_18 h)))
theorem cgray_lt {C : CS} {q : Nat} (h : cgray C = some q) : q < 16 := by have := (lst_lt _ _ _ h).2.1; omega
theorem cfree_lt {C : CS} {q : Nat} (h : cfree C = some q) : q < 16 := by have := (lst_lt _ _ _ h).2.1; omega
theorem tlast_lt {C : CS} {key link : Int64} (hok : okC C) : ∀ (c n q : Nat), n < 16 → tlast C key link c n = some q → q < 16
  | 0, _, _, _, h => by cases h
  | c + 1, n, q, hn, h => by
    unfold tlast at h
    split at h
    · cases h; exact hn
    · rename_i m hm
      refine tlast_lt hok c m q ?_ h
      split at hm
      · cases hm
      · exact tlinked_lt hok hm
theorem okC_J {C : CS} {f n i : Nat} {v : Int64} (h : okC C) (hv : okV v) : okC (sJ C f n i v) := by
  obtain ⟨a, b, c, d⟩ := h
  refine ⟨a, fun f' n' i' => ?_, c, d⟩
  rw [sJ_2]
  split
  · exact hv
  · exact b _ _ _
theorem okV_nil : okV (-1000000000000) := Or.inl (by decide)
section CopyRows
variable {Γ : GT} {cc : ByteArray} {own : String} {rm : Room} {nl : List (String × Nat × MethodName × String)} {kc ks pc index : Nat} {ad : Nat → Nat} {t : Nat → ClassId} {C : CS} {L : List (Option Value)} {st : List Value}
theorem pc_row (h : Cx Γ cc own rm TB CL (tyc t) nl) {cd f : Nat} (hf : rdJ f = cd) (h14 : cd < 14) (hl : Cond.methodLink own index arraycopyName ∈ TB) (hnat : Cond.native arraycopyName ∈ TB) (hsta : Cond.static arraycopyName ∈ TB) (hini : Cond.initialized "java/lang/System" ∈ TB) {n sp dp m : Nat} (hn : n < nk cd) (he : ∀ C2 : CS, ob ad t C2 cd n = .inl (t 0, 6, .inr (.inl (C2.2.1 f n)))) (h4 : sp + m ≤ 6) (h5 : dp + m ≤ 6) {x y z : Int32} (ex : x = nI sp) (ey : y = nI dp) (ez : z = nI m) (hfr : 1 ≤ rm.frames) (hlo : (st.map fun v => v.category).sum + (nativeFrameWords "java/lang/System" "arraycopy" 5 + 11) ≤ rm.locals) (hd : decode cc pc = .ok (.invokestatic index, 3))
    (k : G Γ kc ks 171 ad (wc ad t (sR C f n (va_cpy (C.2.1 f n) (C.2.1 f n) sp dp m))) (pc + 3) L st) : G Γ kc ks 171 ad (wc ad t C) pc L (.int z :: .int y :: .ref (ad (ix cd n)) :: .int x :: .ref (ad (ix cd n)) :: st) := by
  subst ex; subst ey; subst ez
  intro H locs ls hP hD hS hl0
  have c1 : (nI sp).toNatClampNeg = sp := nI_clamp (by omega)
  have c2 : (nI dp).toNatClampNeg = dp := nI_clamp (by omega)
  have c3 : (nI m).toNatClampNeg = m := nI_clamp (by omega)
  have hq := ix_lt cd h14 n hn
  have ha : (gl 171 ad (wc ad t C))[ix cd n]? = some (ad (ix cd n), .inl (t 0, 6, .inr (.inl (C.2.1 f n)))) := gl_he hq ((wc_at h14 hn).trans (he C))
  refine va_copyl h.x h.b (h.ml.trans hl0.1.symm) h.ow (h.ts _ hl) (h.ts _ hnat) (h.ts _ hsta) (h.ts _ hini) h.K hP hD hS (ix cd n) (ix cd n) 0 0 ha ha rfl rfl rfl (nI_pos (by omega)) (nI_pos (by omega)) (nI_pos (by omega)) (by rw [c1, c3]; exact h4) (by rw [c2, c3]; exact h5) (fun _ _ => rfl) (by rw [h.R]; exact hfr) (by rw [h.R]; exact hlo) hd (fun H1 locs1 hP hD hS => ?_)
  rw [c1, c2, c3, gl_set hq] at hP hD
  exact g_world (wc_sR hf h14 hn (by rw [he]; show Sum.inl (t 0, 6, Sum.inr (Sum.inl ((sR C f n _).2.1 f n))) = _; congr 5; funext c; simp [sR_2])) k H1 locs1 ls hP hD hS hl0
end CopyRows
theorem lt6 {P : Nat} (hP : P ≤ 6) (h : ¬ nI P = 6) : P < 6 := by
  rcases Nat.lt_or_ge P 6 with z | z
  · exact z
  · exact absurd (by rw [show P = 6 by omega]; rfl) h
theorem ctouch_o {C : CS} {n f m : Nat} (hf : f ≠ 1) : (ctouch C n).1 f m = C.1 f m := by
  unfold ctouch
  split
  · exact sI_o hf
  · rfl
theorem ctouch_2 {C : CS} {n : Nat} : (ctouch C n).2 = C.2 := by unfold ctouch; split <;> rfl
end
section
set_option maxHeartbeats 4000000 in
set_option maxRecDepth 100000 in
theorem c_Heap_linked {l : Launch} {D : va_G} {t : Nat → ClassId} {ad : Nat → Nat} {C : CS} {m : Int32} {link : Int64} (hok : okC C) (hm : m = -1 ∨ ∃ j, j < 16 ∧ m = nI j) : Cd l D t ad y_Heap_linked b_Heap_linked 6 (some .int) { frames := 2, cells := 0, slots := 0, locals := 44 } [.ref (ad (ix 1 0)), .int m, .long link] (C) (some (.int (enc (tlinked C m link)))) (C) := by
  refine ct_of (by decide) (Nat.le_of_ble_eq_true rfl) ?_
  intro Γ _ _ hN h r
  rcases hm with rfl | ⟨j, hj, rfl⟩
  · refine g_at (L' := [some (.ref (ad (ix 1 0))), some (.int (-1)), some (.long link), none, none, none]) rfl rfl rfl ?_
    refine g_iload_n h d_Heap_linked_0 rfl rfl ?_
    refine g_if_ge (tgt := 6) h d_Heap_linked_1 (by decide) (fun c_1 => ?_) (fun c_1 => ?_)
    · exact absurd c_1 (by decide)
    · refine g_iconst (v := -1) h d_Heap_linked_4 (by decide) ?_
      exact g_iret h r d_Heap_linked_5 (⟨by rw [tlinked_m1]; rfl, rfl⟩)
  · obtain ⟨⟨P, hP, hp⟩, -⟩ := hok.1 j hj
    refine g_at (L' := [some (.ref (ad (ix 1 0))), some (.int (nI j)), some (.long link), none, none, none]) rfl rfl rfl ?_
    refine g_iload_n h d_Heap_linked_0 rfl rfl ?_
    refine g_if_ge (tgt := 6) h d_Heap_linked_1 (by decide) (fun c_1 => ?_) (fun c_1 => ?_)
    · refine g_aload_n h d_Heap_linked_6 rfl rfl ?_
      refine gf_Heap_cells h f_Heap_17 d_Heap_linked_7 ?_
      refine g_iload_n h d_Heap_linked_10 rfl rfl ?_
      refine ga_cells h rfl hj d_Heap_linked_11 ?_
      refine gf_Cell_table h f_Heap_76 (by first | assumption | omega | (show _ < 16; omega)) d_Heap_linked_12 ?_
      refine g_astore h d_Heap_linked_15 rfl (by rw [hN]; decide) ?_
      refine g_aload h d_Heap_linked_17 rfl ?_
      refine g_lload_n h d_Heap_linked_19 rfl rfl ?_
      refine g_dVi h tb_good (c_Tab_find hj hp hP) (ix_lt 5 (by decide) _ (by first | assumption | omega | (show _ < 16; omega))) (wc_at (by decide) (by first | assumption | omega | (show _ < 16; omega))) rfl v_Heap_102 nm_Tab_find rfl ⟨rfl, rfl, Nat.le_of_ble_eq_true rfl, Nat.le_of_ble_eq_true rfl, Nat.zero_le _, Nat.zero_le _⟩ rfl (Nat.le_of_ble_eq_true rfl) d_Heap_linked_20 ?_
      refine g_istore h d_Heap_linked_23 rfl (by rw [hN]; decide) ?_
      rcases hf : tfind C j link with _ | q <;> simp only [enc]
      · refine g_iload h d_Heap_linked_25 rfl ?_
        refine g_if_lt (tgt := 46) h d_Heap_linked_27 (by decide) (fun c_27 => ?_) (fun c_27 => ?_)
        · refine g_iconst (v := -1) h d_Heap_linked_46 (by decide) ?_
          exact g_iret h r d_Heap_linked_47 (⟨by rw [tlinked_nI hj]; first | (simp [hf, enc]; done) | (simp [hf, ha, enc]; done), rfl⟩)
        · exact absurd (by decide) c_27
      · have hq := tfind_lt hp hP hf
        refine g_iload h d_Heap_linked_25 rfl ?_
        refine g_if_lt (tgt := 46) h d_Heap_linked_27 (by decide) (fun c_27 => ?_) (fun c_27 => ?_)
        · exact absurd c_27 (nI_pos (by omega))
        · refine g_aload_n h d_Heap_linked_30 rfl rfl ?_
          refine g_iconst (v := 1) h d_Heap_linked_31 (by decide) ?_
          refine g_aload h d_Heap_linked_32 rfl ?_
          refine gf_Tab_values h f_Heap_105 (by first | assumption | omega | (show _ < 16; omega)) d_Heap_linked_34 ?_
          refine g_iload h d_Heap_linked_37 rfl ?_
          refine ga_vals h hj rfl (by omega) d_Heap_linked_39 ?_
          refine g_dVi h tb_good (c_Heap_isA (hok.2.1 2 j q)) (ix_lt 1 (by decide) _ (by decide)) (wc_at (by decide) (by decide)) rfl v_Heap_94 nm_Heap_isA rfl ⟨rfl, rfl, Nat.le_of_ble_eq_true rfl, Nat.le_of_ble_eq_true rfl, Nat.zero_le _, Nat.zero_le _⟩ rfl (Nat.le_of_ble_eq_true rfl) d_Heap_linked_40 ?_
          by_cases ha : isA C 1 (C.2.1 2 j q) = true
          · rw [if_pos ha]
            refine g_if_ne (tgt := 48) h d_Heap_linked_43 (by decide) (fun c_43 => ?_) (fun c_43 => ?_)
            · refine g_aload h d_Heap_linked_48 rfl ?_
              refine gf_Tab_values h f_Heap_105 (by first | assumption | omega | (show _ < 16; omega)) d_Heap_linked_50 ?_
              refine g_iload h d_Heap_linked_53 rfl ?_
              refine ga_vals h hj rfl (by omega) d_Heap_linked_55 ?_
              refine g_dNi h tb_good (c_TCM_numberOf) (host := "TriColourMachine") nl_Heap_55 cd_TCM_numberOf in_TCM st_TCM_numberOf nm_TCM_numberOf rfl ⟨rfl, rfl, Nat.le_of_ble_eq_true rfl, Nat.le_of_ble_eq_true rfl, Nat.zero_le _, Nat.zero_le _⟩ rfl (Nat.le_of_ble_eq_true rfl) d_Heap_linked_56 ?_
              exact g_iret h r d_Heap_linked_59 (⟨by rw [tlinked_nI hj, (isA_on (hok.2.1 2 j q) ha).2.1]; simp [hf, ha, enc], rfl⟩)
            · exact absurd c_43 (by decide)
          · rw [if_neg ha]
            refine g_if_ne (tgt := 48) h d_Heap_linked_43 (by decide) (fun c_43 => ?_) (fun c_43 => ?_)
            · exact absurd rfl c_43
            · refine g_iconst (v := -1) h d_Heap_linked_46 (by decide) ?_
              exact g_iret h r d_Heap_linked_47 (⟨by rw [tlinked_nI hj]; first | (simp [hf, enc]; done) | (simp [hf, ha, enc]; done), rfl⟩)
    · exact absurd (nI_pos' (by omega)) c_1
set_option maxHeartbeats 4000000 in
set_option maxRecDepth 100000 in
theorem c_Heap_lastTable {l : Launch} {D : va_G} {t : Nat → ClassId} {ad : Nat → Nat} {C : CS} {n0 : Nat} {first : Int32} {key link : Int64} (hok : okC C) (hn0 : n0 < 16) (hf0 : first = nI n0) : Cd l D t ad y_Heap_lastTable b_Heap_lastTable 10 (some .int) { frames := 3, cells := 0, slots := 0, locals := 69 } [.ref (ad (ix 1 0)), .int first, .long key, .long link] (C) (some (.int (enc (tlast C key link 5 n0)))) (C) := by
  refine ct_of (by decide) (Nat.le_of_ble_eq_true rfl) ?_
  intro Γ _ _ hN h r
  have loop : ∀ (c s n : Nat), s + c = 5 → n < 16 → tlast C key link c n = tlast C key link 5 n0 → G Γ 0 0 171 ad (wc ad t C) 6 [some (.ref (ad (ix 1 0))), some (.int first), some (.long key), none, some (.long link), none, some (.int (nI n)), some (.int (nI s)), none, none] [] := by
    intro c
    induction c with
    | zero =>
      intro s n hs hn he
      refine g_iload h d_Heap_lastTable_6 rfl ?_
      refine g_iconst (v := 5) h d_Heap_lastTable_8 (by decide) ?_
      refine g_icmp_ge (tgt := 68) h d_Heap_lastTable_9 (by decide) (fun c_9 => ?_) (fun c_9 => ?_)
      · refine g_iconst (v := -1) h d_Heap_lastTable_68 (by decide) ?_
        exact g_iret h r d_Heap_lastTable_69 (⟨by rw [← he]; rfl, rfl⟩)
      · exact absurd (nI_le (a := 5) (b := s) (by omega) (by omega)) c_9
    | succ c ih =>
      intro s n hs hn he
      obtain ⟨⟨P, hP, hp⟩, -⟩ := hok.1 n hn
      refine g_iload h d_Heap_lastTable_6 rfl ?_
      refine g_iconst (v := 5) h d_Heap_lastTable_8 (by decide) ?_
      refine g_icmp_ge (tgt := 68) h d_Heap_lastTable_9 (by decide) (fun c_9 => ?_) (fun c_9 => ?_)
      · exact absurd c_9 (nI_ge (b := 5) (by omega) (by decide))
      · refine g_aload_n h d_Heap_lastTable_12 rfl rfl ?_
        refine gf_Heap_cells h f_Heap_17 d_Heap_lastTable_13 ?_
        refine g_iload h d_Heap_lastTable_16 rfl ?_
        refine ga_cells h rfl hn d_Heap_lastTable_18 ?_
        refine gf_Cell_table h f_Heap_76 (by first | assumption | omega | (show _ < 16; omega)) d_Heap_lastTable_19 ?_
        refine g_astore h d_Heap_lastTable_22 rfl (by rw [hN]; decide) ?_
        refine g_aload h d_Heap_lastTable_24 rfl ?_
        refine g_lload_n h d_Heap_lastTable_26 rfl rfl ?_
        refine g_dVi h tb_good (c_Tab_find hn hp hP) (ix_lt 5 (by decide) _ (by first | assumption | omega | (show _ < 16; omega))) (wc_at (by decide) (by first | assumption | omega | (show _ < 16; omega))) rfl v_Heap_102 nm_Tab_find rfl ⟨rfl, rfl, Nat.le_of_ble_eq_true rfl, Nat.le_of_ble_eq_true rfl, Nat.zero_le _, Nat.zero_le _⟩ rfl (Nat.le_of_ble_eq_true rfl) d_Heap_lastTable_27 ?_
        rcases hf : tfind C n key with _ | q <;> simp only [enc]
        · refine g_if_lt (tgt := 37) h d_Heap_lastTable_30 (by decide) (fun c_30 => ?_) (fun c_30 => ?_)
          · refine g_aload_n h d_Heap_lastTable_37 rfl rfl ?_
            refine g_aload h d_Heap_lastTable_38 rfl ?_
            refine gf_Tab_meta h f_Heap_121 (by first | assumption | omega | (show _ < 16; omega)) d_Heap_lastTable_40 ?_
            refine g_lload h d_Heap_lastTable_43 rfl ?_
            refine g_dVi h tb_good (c_Heap_linked hok (hok.1 n hn).2.1) (ix_lt 1 (by decide) _ (by decide)) (wc_at (by decide) (by decide)) rfl v_Heap_124 nm_Heap_linked rfl ⟨rfl, rfl, Nat.le_of_ble_eq_true rfl, Nat.le_of_ble_eq_true rfl, Nat.zero_le _, Nat.zero_le _⟩ rfl (Nat.le_of_ble_eq_true rfl) d_Heap_lastTable_45 ?_
            refine g_istore h d_Heap_lastTable_48 rfl (by rw [hN]; decide) ?_
            rcases hk : tlinked C (C.1 3 n) link with _ | q <;> simp only [enc]
            · refine g_iload h d_Heap_lastTable_50 rfl ?_
              refine g_if_ge (tgt := 58) h d_Heap_lastTable_52 (by decide) (fun c_52 => ?_) (fun c_52 => ?_)
              · exact absurd c_52 (by decide)
              · refine g_iload h d_Heap_lastTable_55 rfl ?_
                exact g_iret h r d_Heap_lastTable_57 (⟨by rw [← he]; simp [tlast, hf, hk, enc], rfl⟩)
            · have hq := tlinked_lt hok hk
              refine g_iload h d_Heap_lastTable_50 rfl ?_
              refine g_if_ge (tgt := 58) h d_Heap_lastTable_52 (by decide) (fun c_52 => ?_) (fun c_52 => ?_)
              · refine g_iload h d_Heap_lastTable_58 rfl ?_
                refine g_istore h d_Heap_lastTable_60 rfl (by rw [hN]; decide) ?_
                refine g_iinc (v := nI (s + 1)) h d_Heap_lastTable_62 rfl (by rw [nI_succ]; rfl) rfl (by rw [hN]; decide) ?_
                refine g_goto (tgt := 6) h d_Heap_lastTable_65 (by decide) ?_
                refine g_lessL (L' := [some (.ref (ad (ix 1 0))), some (.int first), some (.long key), none, some (.long link), none, some (.int (nI q)), some (.int (nI (s + 1))), none, none]) (by simp [leL]) ?_
                exact ih (s + 1) q (by omega) (tlinked_lt hok hk) (by rw [← he]; simp [tlast, hf, hk])
              · exact absurd (nI_pos' (by omega)) c_52
          · exact absurd (by decide) c_30
        · have hq0 := tfind_lt hp hP hf
          refine g_if_lt (tgt := 37) h d_Heap_lastTable_30 (by decide) (fun c_30 => ?_) (fun c_30 => ?_)
          · exact absurd c_30 (nI_pos (by omega))
          · refine g_iconst (v := -1) h d_Heap_lastTable_33 (by decide) ?_
            refine g_goto (tgt := 48) h d_Heap_lastTable_34 (by decide) ?_
            refine g_istore h d_Heap_lastTable_48 rfl (by rw [hN]; decide) ?_
            refine g_iload h d_Heap_lastTable_50 rfl ?_
            refine g_if_ge (tgt := 58) h d_Heap_lastTable_52 (by decide) (fun c_52 => ?_) (fun c_52 => ?_)
            · exact absurd c_52 (by decide)
            · refine g_iload h d_Heap_lastTable_55 rfl ?_
              exact g_iret h r d_Heap_lastTable_57 (⟨by rw [← he]; simp [tlast, hf, enc], rfl⟩)
  refine g_at (L' := [some (.ref (ad (ix 1 0))), some (.int first), some (.long key), none, some (.long link), none, none, none, none, none]) rfl rfl rfl ?_
  refine g_iload_n h d_Heap_lastTable_0 rfl rfl ?_
  refine g_istore h d_Heap_lastTable_1 rfl (by rw [hN]; decide) ?_
  refine g_iconst (v := 0) h d_Heap_lastTable_3 (by decide) ?_
  refine g_istore h d_Heap_lastTable_4 rfl (by rw [hN]; decide) ?_
  subst hf0
  exact loop 5 0 n0 (by omega) hn0 rfl
set_option maxHeartbeats 4000000 in
set_option maxRecDepth 100000 in
theorem c_Heap_shade {l : Launch} {D : va_G} {t : Nat → ClassId} {ad : Nat → Nat} {C : CS} {n : Nat} (hn : n < 16) : Cd l D t ad y_Heap_shade b_Heap_shade 1 (some .int) { frames := 0, cells := 0, slots := 0, locals := 0 } [.ref (ad (ix 4 n))] (C) (some (.int (cshade C n).1)) ((cshade C n).2) := by
  refine ct_of (by decide) (Nat.le_of_ble_eq_true rfl) ?_
  intro Γ _ _ hN h r
  refine g_at (L' := [some (.ref (ad (ix 4 n)))]) rfl rfl rfl ?_
  refine g_aload_n h d_Heap_shade_0 rfl rfl ?_
  refine gf_Cell_colour h f_Heap_73 (by first | assumption | omega | (show _ < 16; omega)) d_Heap_shade_1 ?_
  refine g_if_eq (tgt := 9) h d_Heap_shade_4 (by decide) (fun c_4 => ?_) (fun c_4 => ?_)
  · refine g_aload_n h d_Heap_shade_9 rfl rfl ?_
    refine g_iconst (v := 1) h d_Heap_shade_10 (by decide) ?_
    refine pf_Cell_colour h f_Heap_73 (by first | assumption | omega | (show _ < 16; omega)) d_Heap_shade_11 ?_
    refine g_iconst (v := 1) h d_Heap_shade_14 (by decide) ?_
    exact g_iret h r d_Heap_shade_15 (⟨by simp [cshade, c_4], by simp [cshade, c_4]⟩)
  · refine g_iconst (v := 0) h d_Heap_shade_7 (by decide) ?_
    exact g_iret h r d_Heap_shade_8 (⟨by simp [cshade, c_4], by simp [cshade, c_4]⟩)
set_option maxHeartbeats 4000000 in
set_option maxRecDepth 100000 in
theorem c_Heap_shadeRow {l : Launch} {D : va_G} {t : Nat → ClassId} {ad : Nat → Nat} {C : CS} {q len sz : Nat} {row : Nat → Int64} (hq : q < 171) (hr : ∀ C2 : CS, C2.2 = C.2 → wc ad t C2 q = .inl (t 0, sz, .inr (.inl row))) (hs : len ≤ sz) (hz : sz ≤ 6) (hv : ∀ i, okV (row i)) : Cd l D t ad y_Heap_shadeRow b_Heap_shadeRow 6 (some .int) { frames := 0, cells := 0, slots := 0, locals := 0 } [.ref (ad (ix 1 0)), .ref (ad q), .int (nI len)] (C) (some (.int (cshadeRow row len 0 0 C).1)) ((cshadeRow row len 0 0 C).2) := by
  refine ct_of (by decide) (Nat.le_of_ble_eq_true rfl) ?_
  intro Γ _ _ hN h r
  have loop : ∀ (c i : Nat) (a : Int32) (C2 : CS), i + c = len → C2.2 = C.2 → cshadeRow row c i a C2 = cshadeRow row len 0 0 C → G Γ 0 0 171 ad (wc ad t C2) 5 [some (.ref (ad (ix 1 0))), some (.ref (ad q)), some (.int (nI len)), some (.int a), some (.int (nI i)), none] [] := by
    intro c
    induction c with
    | zero =>
      intro i a C2 hi hC he
      refine g_iload h d_Heap_shadeRow_5 rfl ?_
      refine g_iload_n h d_Heap_shadeRow_7 rfl rfl ?_
      refine g_icmp_ge (tgt := 75) h d_Heap_shadeRow_8 (by decide) (fun c_8 => ?_) (fun c_8 => ?_)
      · refine g_iload_n h d_Heap_shadeRow_75 rfl rfl ?_
        exact g_iret h r d_Heap_shadeRow_76 (⟨by rw [← he]; rfl, by rw [← he]; rfl⟩)
      · exact absurd (nI_le (a := len) (b := i) (by omega) (by omega)) c_8
    | succ c ih =>
      intro i a C2 hi hC he
      refine g_iload h d_Heap_shadeRow_5 rfl ?_
      refine g_iload_n h d_Heap_shadeRow_7 rfl rfl ?_
      refine g_icmp_ge (tgt := 75) h d_Heap_shadeRow_8 (by decide) (fun c_8 => ?_) (fun c_8 => ?_)
      · exact absurd c_8 (nI_ge (by omega) (by omega))
      · refine g_aload_n h d_Heap_shadeRow_11 rfl rfl ?_
        refine g_iload h d_Heap_shadeRow_12 rfl ?_
        refine g_laload h q 0 hq (hr _ hC) rfl (vp_in_nI (by omega) (by omega)) d_Heap_shadeRow_14 ?_
        rw [nI_clamp (show i < 2 ^ 31 by omega)]
        refine g_ldc2 (v := 10000000000) h d_Heap_shadeRow_15 k_Heap_53 ?_
        refine g_lc_lt (tgt := 34) h d_Heap_shadeRow_18 d_Heap_shadeRow_19 (by decide) (fun c_19 => ?_) (fun c_19 => ?_)
        · skip
          · refine g_iconst (v := -1) h d_Heap_shadeRow_34 (by decide) ?_
            refine g_istore h d_Heap_shadeRow_35 rfl (by rw [hN]; decide) ?_
            refine g_iload h d_Heap_shadeRow_37 rfl ?_
            refine g_if_lt (tgt := 69) h d_Heap_shadeRow_39 (by decide) (fun c_39 => ?_) (fun c_39 => ?_)
            · refine g_iinc (v := nI (i + 1)) h d_Heap_shadeRow_69 rfl (by rw [nI_succ]; rfl) rfl (by rw [hN]; decide) ?_
              refine g_goto (tgt := 5) h d_Heap_shadeRow_72 (by decide) ?_
              refine g_lessL (L' := [some (.ref (ad (ix 1 0))), some (.ref (ad q)), some (.int (nI len)), some (.int a), some (.int (nI (i + 1))), none]) (by simp [leL]) ?_
              exact ih (i + 1) _ _ (by omega) hC (by rw [← he]; simp [cshadeRow, c_19])
            · exact absurd (by decide) c_39
        · skip
          · refine g_aload_n h d_Heap_shadeRow_22 rfl rfl ?_
            refine g_iload h d_Heap_shadeRow_23 rfl ?_
            refine g_laload h q 0 hq (hr _ hC) rfl (vp_in_nI (by omega) (by omega)) d_Heap_shadeRow_25 ?_
            rw [nI_clamp (show i < 2 ^ 31 by omega)]
            refine g_ldc2 (v := 10000000000) h d_Heap_shadeRow_26 k_Heap_53 ?_
            refine g_lsub h d_Heap_shadeRow_29 ?_
            refine g_l2i h d_Heap_shadeRow_30 ?_
            obtain ⟨ho, -, hq2⟩ := okV_on (hv i) c_19
            rw [hq2]
            refine g_goto (tgt := 35) h d_Heap_shadeRow_31 (by decide) ?_
            refine g_istore h d_Heap_shadeRow_35 rfl (by rw [hN]; decide) ?_
            refine g_iload h d_Heap_shadeRow_37 rfl ?_
            refine g_if_lt (tgt := 69) h d_Heap_shadeRow_39 (by decide) (fun c_39 => ?_) (fun c_39 => ?_)
            · exact absurd c_39 (nI_pos (by omega))
            · refine g_aload_n h d_Heap_shadeRow_42 rfl rfl ?_
              refine gf_Heap_cells h f_Heap_17 d_Heap_shadeRow_43 ?_
              refine g_iload h d_Heap_shadeRow_46 rfl ?_
              refine ga_cells h rfl ho d_Heap_shadeRow_48 ?_
              refine gf_Cell_colour h f_Heap_73 ho d_Heap_shadeRow_49 ?_
              refine g_if_ne (tgt := 69) h d_Heap_shadeRow_52 (by decide) (fun c_52 => ?_) (fun c_52 => ?_)
              · refine g_iinc (v := nI (i + 1)) h d_Heap_shadeRow_69 rfl (by rw [nI_succ]; rfl) rfl (by rw [hN]; decide) ?_
                refine g_goto (tgt := 5) h d_Heap_shadeRow_72 (by decide) ?_
                refine g_lessL (L' := [some (.ref (ad (ix 1 0))), some (.ref (ad q)), some (.int (nI len)), some (.int a), some (.int (nI (i + 1))), none]) (by simp [leL]) ?_
                exact ih (i + 1) _ _ (by omega) hC (by rw [← he]; simp [cshadeRow, c_19, c_52])
              · skip
                · refine g_aload_n h d_Heap_shadeRow_55 rfl rfl ?_
                  refine gf_Heap_cells h f_Heap_17 d_Heap_shadeRow_56 ?_
                  refine g_iload h d_Heap_shadeRow_59 rfl ?_
                  refine ga_cells h rfl ho d_Heap_shadeRow_61 ?_
                  refine g_iconst (v := 1) h d_Heap_shadeRow_62 (by decide) ?_
                  refine pf_Cell_colour h f_Heap_73 ho d_Heap_shadeRow_63 ?_
                  refine g_iinc (v := a + 1) h d_Heap_shadeRow_66 rfl rfl rfl (by rw [hN]; decide) ?_
                  refine g_iinc (v := nI (i + 1)) h d_Heap_shadeRow_69 rfl (by rw [nI_succ]; rfl) rfl (by rw [hN]; decide) ?_
                  refine g_goto (tgt := 5) h d_Heap_shadeRow_72 (by decide) ?_
                  refine g_lessL (L' := [some (.ref (ad (ix 1 0))), some (.ref (ad q)), some (.int (nI len)), some (.int (a + 1)), some (.int (nI (i + 1))), none]) (by simp [leL]) ?_
                  exact ih (i + 1) _ _ (by omega) hC (by rw [← he]; simp [cshadeRow, c_19, c_52])
  refine g_at (L' := [some (.ref (ad (ix 1 0))), some (.ref (ad q)), some (.int (nI len)), none, none, none]) rfl rfl rfl ?_
  refine g_iconst (v := 0) h d_Heap_shadeRow_0 (by decide) ?_
  refine g_istore_n h d_Heap_shadeRow_1 rfl rfl (by rw [hN]; decide) ?_
  refine g_iconst (v := 0) h d_Heap_shadeRow_2 (by decide) ?_
  refine g_istore h d_Heap_shadeRow_3 rfl (by rw [hN]; decide) ?_
  exact loop len 0 0 C (by omega) rfl rfl
end
section
set_option maxHeartbeats 4000000 in
set_option maxRecDepth 100000 in
theorem c_Heap_shadeRoots {l : Launch} {D : va_G} {t : Nat → ClassId} {ad : Nat → Nat} {C : CS} (hok : okC C) : Cd l D t ad y_Heap_shadeRoots b_Heap_shadeRoots 3 (some .int) { frames := 1, cells := 0, slots := 0, locals := 25 } [.ref (ad (ix 1 0))] (C) (some (.int (cshadeRoots C).1)) ((cshadeRoots C).2) := by
  refine ct_of (by decide) (Nat.le_of_ble_eq_true rfl) ?_
  intro Γ _ _ hN h r
  have loop : ∀ (c n : Nat) (a : Int32) (C2 : CS), n + c = 16 → C2.2 = C.2 → croots c n a C2 = cshadeRoots C → G Γ 0 0 171 ad (wc ad t C2) 13 [some (.ref (ad (ix 1 0))), some (.int a), some (.int (nI n))] [] := by
    intro c
    induction c with
    | zero =>
      intro n a C2 hi hC he
      refine g_iload_n h d_Heap_shadeRoots_13 rfl rfl ?_
      refine g_bipush (v := 16) h d_Heap_shadeRoots_14 (by decide) ?_
      refine g_icmp_ge (tgt := 69) h d_Heap_shadeRoots_16 (by decide) (fun c_16 => ?_) (fun c_16 => ?_)
      · refine g_iload_n h d_Heap_shadeRoots_69 rfl rfl ?_
        exact g_iret h r d_Heap_shadeRoots_70 (⟨by rw [← he]; rfl, by rw [← he]; rfl⟩)
      · exact absurd (nI_le (a := 16) (b := n) (by omega) (by omega)) c_16
    | succ c ih =>
      intro n a C2 hi hC he
      refine g_iload_n h d_Heap_shadeRoots_13 rfl rfl ?_
      refine g_bipush (v := 16) h d_Heap_shadeRoots_14 (by decide) ?_
      refine g_icmp_ge (tgt := 69) h d_Heap_shadeRoots_16 (by decide) (fun c_16 => ?_) (fun c_16 => ?_)
      · exact absurd c_16 (nI_ge (b := 16) (by omega) (by decide))
      · refine g_aload_n h d_Heap_shadeRoots_19 rfl rfl ?_
        refine gf_Heap_cells h f_Heap_17 d_Heap_shadeRoots_20 ?_
        refine g_iload_n h d_Heap_shadeRoots_23 rfl rfl ?_
        refine ga_cells h rfl (by omega) d_Heap_shadeRoots_24 ?_
        refine g_dVi h tb_good (c_Cell_isActive (show n < 16 by omega)) (ix_lt 4 (by decide) _ (by first | assumption | omega | (show _ < 16; omega))) (wc_at (by decide) (by first | assumption | omega | (show _ < 16; omega))) rfl v_Heap_158 nm_Cell_isActive rfl ⟨rfl, rfl, Nat.le_of_ble_eq_true rfl, Nat.le_of_ble_eq_true rfl, Nat.zero_le _, Nat.zero_le _⟩ rfl (Nat.le_of_ble_eq_true rfl) d_Heap_shadeRoots_25 ?_
        by_cases ha : cactive C2 n = true
        · rw [if_pos ha]
          refine g_if_eq (tgt := 63) h d_Heap_shadeRoots_28 (by decide) (fun c_28 => ?_) (fun c_28 => ?_)
          · exact absurd c_28 (by decide)
          · refine g_iload_n h d_Heap_shadeRoots_31 rfl rfl ?_
            refine g_aload_n h d_Heap_shadeRoots_32 rfl rfl ?_
            refine gf_Heap_cells h f_Heap_17 d_Heap_shadeRoots_33 ?_
            refine g_iload_n h d_Heap_shadeRoots_36 rfl rfl ?_
            refine ga_cells h rfl (by omega) d_Heap_shadeRoots_37 ?_
            refine g_dSi h tb_good (c_Heap_shade (show n < 16 by omega)) v_Heap_154 nm_Heap_shade rfl ⟨rfl, rfl, Nat.le_of_ble_eq_true rfl, Nat.le_of_ble_eq_true rfl, Nat.zero_le _, Nat.zero_le _⟩ rfl (Nat.le_of_ble_eq_true rfl) d_Heap_shadeRoots_38 ?_
            refine g_iadd h d_Heap_shadeRoots_41 ?_
            refine g_istore_n h d_Heap_shadeRoots_42 rfl rfl (by rw [hN]; decide) ?_
            refine g_iload_n h d_Heap_shadeRoots_43 rfl rfl ?_
            refine g_aload_n h d_Heap_shadeRoots_44 rfl rfl ?_
            refine g_aload_n h d_Heap_shadeRoots_45 rfl rfl ?_
            refine gf_Heap_cells h f_Heap_17 d_Heap_shadeRoots_46 ?_
            refine g_iload_n h d_Heap_shadeRoots_49 rfl rfl ?_
            refine ga_cells h rfl (by omega) d_Heap_shadeRoots_50 ?_
            refine gf_Cell_coroutine h f_Heap_85 (by first | assumption | omega | (show _ < 16; omega)) d_Heap_shadeRoots_51 ?_
            refine gf_Cor_registers h f_Heap_147 (by first | assumption | omega | (show _ < 16; omega)) d_Heap_shadeRoots_54 ?_
            refine g_iconst (v := 4) h d_Heap_shadeRoots_57 (by decide) ?_
            refine g_dVi h tb_good (c_Heap_shadeRow (len := 4) (C := (cshade C2 n).2) (ix_lt 9 (by decide) n (by show n < 16; omega)) (fun C3 e => row_r (by omega) C3 (e.trans (cshade_2 C2 n))) (Nat.le_refl _) (by decide) (fun i => by rw [hC]; exact hok.2.1 _ _ _)) (ix_lt 1 (by decide) _ (by decide)) (wc_at (by decide) (by decide)) rfl v_Heap_150 nm_Heap_shadeRow rfl ⟨rfl, rfl, Nat.le_of_ble_eq_true rfl, Nat.le_of_ble_eq_true rfl, Nat.zero_le _, Nat.zero_le _⟩ rfl (Nat.le_of_ble_eq_true rfl) d_Heap_shadeRoots_58 ?_
            refine g_iadd h d_Heap_shadeRoots_61 ?_
            refine g_istore_n h d_Heap_shadeRoots_62 rfl rfl (by rw [hN]; decide) ?_
            refine g_iinc (v := nI (n + 1)) h d_Heap_shadeRoots_63 rfl (by rw [nI_succ]; rfl) rfl (by rw [hN]; decide) ?_
            refine g_goto (tgt := 13) h d_Heap_shadeRoots_66 (by decide) ?_
            exact ih (n + 1) _ _ (by omega) (by rw [cshadeRow_2, cshade_2]; exact hC) (by rw [← he]; simp [croots, ha])
        · rw [if_neg ha]
          refine g_if_eq (tgt := 63) h d_Heap_shadeRoots_28 (by decide) (fun c_28 => ?_) (fun c_28 => ?_)
          · refine g_iinc (v := nI (n + 1)) h d_Heap_shadeRoots_63 rfl (by rw [nI_succ]; rfl) rfl (by rw [hN]; decide) ?_
            refine g_goto (tgt := 13) h d_Heap_shadeRoots_66 (by decide) ?_
            exact ih (n + 1) _ _ (by omega) hC (by rw [← he]; simp [croots, ha])
          · exact absurd rfl c_28
  refine g_at (L' := [some (.ref (ad (ix 1 0))), none, none]) rfl rfl rfl ?_
  refine g_aload_n h d_Heap_shadeRoots_0 rfl rfl ?_
  refine g_aload_n h d_Heap_shadeRoots_1 rfl rfl ?_
  refine gf_Heap_globals h f_Heap_9 d_Heap_shadeRoots_2 ?_
  refine g_bipush (v := 6) h d_Heap_shadeRoots_5 (by decide) ?_
  refine g_dVi h tb_good (c_Heap_shadeRow (len := 6) (ix_lt 2 (by decide) 0 (by decide)) row_g (Nat.le_refl _) (by decide) (fun i => hok.2.1 _ _ _)) (ix_lt 1 (by decide) _ (by decide)) (wc_at (by decide) (by decide)) rfl v_Heap_150 nm_Heap_shadeRow rfl ⟨rfl, rfl, Nat.le_of_ble_eq_true rfl, Nat.le_of_ble_eq_true rfl, Nat.zero_le _, Nat.zero_le _⟩ rfl (Nat.le_of_ble_eq_true rfl) d_Heap_shadeRoots_7 ?_
  refine g_istore_n h d_Heap_shadeRoots_10 rfl rfl (by rw [hN]; decide) ?_
  refine g_iconst (v := 0) h d_Heap_shadeRoots_11 (by decide) ?_
  refine g_istore_n h d_Heap_shadeRoots_12 rfl rfl (by rw [hN]; decide) ?_
  exact loop 16 0 _ _ (by omega) (cshadeRow_2 _ _ _ _ _) rfl
set_option maxHeartbeats 4000000 in
set_option maxRecDepth 100000 in
theorem c_Heap_blacken {l : Launch} {D : va_G} {t : Nat → ClassId} {ad : Nat → Nat} {C : CS} {n : Nat} (hok : okC C) (hn : n < 16) : Cd l D t ad y_Heap_blacken b_Heap_blacken 2 none { frames := 1, cells := 0, slots := 0, locals := 25 } [.ref (ad (ix 1 0)), .ref (ad (ix 4 n))] (C) (none) (cblacken C n) := by
  refine ct_of (by decide) (Nat.le_of_ble_eq_true rfl) ?_
  intro Γ _ _ hN h r
  obtain ⟨⟨P, hP, hp⟩, hmm, -⟩ := hok.1 n hn
  refine g_at (L' := [some (.ref (ad (ix 1 0))), some (.ref (ad (ix 4 n)))]) rfl rfl rfl ?_
  refine g_aload_n h d_Heap_blacken_0 rfl rfl ?_
  refine g_iconst (v := 2) h d_Heap_blacken_1 (by decide) ?_
  refine pf_Cell_colour h f_Heap_73 (by first | assumption | omega | (show _ < 16; omega)) d_Heap_blacken_2 ?_
  refine g_aload_n h d_Heap_blacken_5 rfl rfl ?_
  refine gf_Cell_kind h f_Heap_59 (by first | assumption | omega | (show _ < 16; omega)) d_Heap_blacken_6 ?_
  rw [show (sI C 1 n 2).1 0 n = C.1 0 n from rfl]
  refine g_iconst (v := 2) h d_Heap_blacken_9 (by decide) ?_
  refine g_icmp_ne (tgt := 27) h d_Heap_blacken_10 (by decide) (fun c_10 => ?_) (fun c_10 => ?_)
  · refine g_aload_n h d_Heap_blacken_27 rfl rfl ?_
    refine g_aload_n h d_Heap_blacken_28 rfl rfl ?_
    refine gf_Cell_table h f_Heap_76 (by first | assumption | omega | (show _ < 16; omega)) d_Heap_blacken_29 ?_
    refine gf_Tab_keys h f_Heap_128 (by first | assumption | omega | (show _ < 16; omega)) d_Heap_blacken_32 ?_
    refine g_aload_n h d_Heap_blacken_35 rfl rfl ?_
    refine gf_Cell_table h f_Heap_76 (by first | assumption | omega | (show _ < 16; omega)) d_Heap_blacken_36 ?_
    refine gf_Tab_pairs h f_Heap_108 (by first | assumption | omega | (show _ < 16; omega)) d_Heap_blacken_39 ?_
    rw [show (sI C 1 n 2).1 2 n = C.1 2 n from rfl, hp]
    refine g_dVi h tb_good (c_Heap_shadeRow (len := P) (C := (sI C 1 n 2)) (ix_lt 6 (by decide) n hn) (row_k (C := C) hn) hP (by decide) (fun i => hok.2.1 _ _ _)) (ix_lt 1 (by decide) _ (by decide)) (wc_at (by decide) (by decide)) rfl v_Heap_150 nm_Heap_shadeRow rfl ⟨rfl, rfl, Nat.le_of_ble_eq_true rfl, Nat.le_of_ble_eq_true rfl, Nat.zero_le _, Nat.zero_le _⟩ rfl (Nat.le_of_ble_eq_true rfl) d_Heap_blacken_42 ?_
    refine g_pop h d_Heap_blacken_45 rfl ?_
    refine g_aload_n h d_Heap_blacken_46 rfl rfl ?_
    refine g_aload_n h d_Heap_blacken_47 rfl rfl ?_
    refine gf_Cell_table h f_Heap_76 (by first | assumption | omega | (show _ < 16; omega)) d_Heap_blacken_48 ?_
    refine gf_Tab_values h f_Heap_105 (by first | assumption | omega | (show _ < 16; omega)) d_Heap_blacken_51 ?_
    refine g_aload_n h d_Heap_blacken_54 rfl rfl ?_
    refine gf_Cell_table h f_Heap_76 (by first | assumption | omega | (show _ < 16; omega)) d_Heap_blacken_55 ?_
    refine gf_Tab_pairs h f_Heap_108 (by first | assumption | omega | (show _ < 16; omega)) d_Heap_blacken_58 ?_
    rw [cshadeRow_1 _ _ _ _ _ _ _ (by decide), show (sI C 1 n 2).1 2 n = C.1 2 n from rfl, hp]
    refine g_dVi h tb_good (c_Heap_shadeRow (len := P) (C := (cshadeRow (C.2.1 1 n) P 0 0 (sI C 1 n 2)).2) (ix_lt 7 (by decide) n hn) (fun C3 e => row_v (C := C) hn C3 (e.trans (cshadeRow_2 _ _ _ _ _))) hP (by decide) (fun i => hok.2.1 _ _ _)) (ix_lt 1 (by decide) _ (by decide)) (wc_at (by decide) (by decide)) rfl v_Heap_150 nm_Heap_shadeRow rfl ⟨rfl, rfl, Nat.le_of_ble_eq_true rfl, Nat.le_of_ble_eq_true rfl, Nat.zero_le _, Nat.zero_le _⟩ rfl (Nat.le_of_ble_eq_true rfl) d_Heap_blacken_61 ?_
    refine g_pop h d_Heap_blacken_64 rfl ?_
    refine g_aload_n h d_Heap_blacken_65 rfl rfl ?_
    refine gf_Cell_table h f_Heap_76 (by first | assumption | omega | (show _ < 16; omega)) d_Heap_blacken_66 ?_
    refine gf_Tab_meta h f_Heap_121 (by first | assumption | omega | (show _ < 16; omega)) d_Heap_blacken_69 ?_
    rw [cshadeRow_1 _ _ _ _ _ _ _ (by decide), cshadeRow_1 _ _ _ _ _ _ _ (by decide), show (sI C 1 n 2).1 3 n = C.1 3 n from rfl]
    refine g_if_lt (tgt := 91) h d_Heap_blacken_72 (by decide) (fun c_72 => ?_) (fun c_72 => ?_)
    · exact g_vret h r d_Heap_blacken_91 (⟨rfl, by first | (simp [cblacken, c_10, c_72, cPairs_eq hp hP]; done) | (simp [cblacken, c_10, c_72, cPairs_eq hp hP, hm2, nI_clamp (show m < 2 ^ 31 by omega), nI_pos (show m < 2 ^ 31 by omega)]; done)⟩)
    · rcases hmm with hm | ⟨m, hm, hm2⟩
      · exact absurd (by rw [hm]; decide) c_72
      · refine g_aload_n h d_Heap_blacken_75 rfl rfl ?_
        refine gf_Heap_cells h f_Heap_17 d_Heap_blacken_76 ?_
        refine g_aload_n h d_Heap_blacken_79 rfl rfl ?_
        refine gf_Cell_table h f_Heap_76 (by first | assumption | omega | (show _ < 16; omega)) d_Heap_blacken_80 ?_
        refine gf_Tab_meta h f_Heap_121 (by first | assumption | omega | (show _ < 16; omega)) d_Heap_blacken_83 ?_
        rw [cshadeRow_1 _ _ _ _ _ _ _ (by decide), cshadeRow_1 _ _ _ _ _ _ _ (by decide), show (sI C 1 n 2).1 3 n = C.1 3 n from rfl]
        refine ga_cells h hm2 hm d_Heap_blacken_86 ?_
        refine g_dSi h tb_good (c_Heap_shade hm) v_Heap_154 nm_Heap_shade rfl ⟨rfl, rfl, Nat.le_of_ble_eq_true rfl, Nat.le_of_ble_eq_true rfl, Nat.zero_le _, Nat.zero_le _⟩ rfl (Nat.le_of_ble_eq_true rfl) d_Heap_blacken_87 ?_
        refine g_pop h d_Heap_blacken_90 rfl ?_
        exact g_vret h r d_Heap_blacken_91 (⟨rfl, by first | (simp [cblacken, c_10, c_72, cPairs_eq hp hP]; done) | (simp [cblacken, c_10, c_72, cPairs_eq hp hP, hm2, nI_clamp (show m < 2 ^ 31 by omega), nI_pos (show m < 2 ^ 31 by omega)]; done)⟩)
  · refine g_aload_n h d_Heap_blacken_13 rfl rfl ?_
    refine g_aload_n h d_Heap_blacken_14 rfl rfl ?_
    refine gf_Cell_coroutine h f_Heap_85 (by first | assumption | omega | (show _ < 16; omega)) d_Heap_blacken_15 ?_
    refine gf_Cor_registers h f_Heap_147 (by first | assumption | omega | (show _ < 16; omega)) d_Heap_blacken_18 ?_
    refine g_iconst (v := 4) h d_Heap_blacken_21 (by decide) ?_
    refine g_dVi h tb_good (c_Heap_shadeRow (len := 4) (C := (sI C 1 n 2)) (ix_lt 9 (by decide) n hn) (row_r (C := C) hn) (Nat.le_refl _) (by decide) (fun i => hok.2.1 _ _ _)) (ix_lt 1 (by decide) _ (by decide)) (wc_at (by decide) (by decide)) rfl v_Heap_150 nm_Heap_shadeRow rfl ⟨rfl, rfl, Nat.le_of_ble_eq_true rfl, Nat.le_of_ble_eq_true rfl, Nat.zero_le _, Nat.zero_le _⟩ rfl (Nat.le_of_ble_eq_true rfl) d_Heap_blacken_22 ?_
    refine g_pop h d_Heap_blacken_25 rfl ?_
    exact g_vret h r d_Heap_blacken_26 (⟨rfl, by simp [cblacken, c_10]⟩)
set_option maxHeartbeats 4000000 in
set_option maxRecDepth 100000 in
theorem c_Heap_sweepOne {l : Launch} {D : va_G} {t : Nat → ClassId} {ad : Nat → Nat} {C : CS} (hok : okC C) : Cd l D t ad y_Heap_sweepOne b_Heap_sweepOne 2 none { frames := 0, cells := 0, slots := 0, locals := 0 } [.ref (ad (ix 1 0))] (C) (none) (csweep C) := by
  refine ct_of (by decide) (Nat.le_of_ble_eq_true rfl) ?_
  intro Γ _ _ hN h r
  obtain ⟨i, hi, hk⟩ := hok.2.2.1
  have hcl : (nI i).toNatClampNeg = i := nI_clamp (by omega)
  refine g_at (L' := [some (.ref (ad (ix 1 0))), none]) rfl rfl rfl ?_
  refine g_aload_n h d_Heap_sweepOne_0 rfl rfl ?_
  refine gf_Heap_cells h f_Heap_17 d_Heap_sweepOne_1 ?_
  refine g_aload_n h d_Heap_sweepOne_4 rfl rfl ?_
  refine gf_Heap_sweepFrom h f_Heap_25 d_Heap_sweepOne_5 ?_
  refine ga_cells h hk hi d_Heap_sweepOne_8 ?_
  refine g_astore_n h d_Heap_sweepOne_9 rfl rfl (by rw [hN]; decide) ?_
  refine g_aload_n h d_Heap_sweepOne_10 rfl rfl ?_
  refine gf_Cell_kind h f_Heap_59 hi d_Heap_sweepOne_11 ?_
  refine g_if_eq (tgt := 39) h d_Heap_sweepOne_14 (by decide) (fun c_14 => ?_) (fun c_14 => ?_)
  · refine g_aload_n h d_Heap_sweepOne_39 rfl rfl ?_
    refine g_iconst (v := 0) h d_Heap_sweepOne_40 (by decide) ?_
    refine pf_Cell_colour h f_Heap_73 hi d_Heap_sweepOne_41 ?_
    refine g_aload_n h d_Heap_sweepOne_44 rfl rfl ?_
    refine g_dup h d_Heap_sweepOne_45 rfl ?_
    refine gf_Heap_sweepFrom h f_Heap_25 d_Heap_sweepOne_46 ?_
    simp only [sI_1, sI_2, sJ_1, sJ_2, sJ_3, sR_1, sR_2, sR_3, Nat.reduceEqDiff, Nat.zero_ne_one, Nat.one_ne_zero, Nat.succ_ne_zero, reduceCtorEq, false_and, if_false, true_and, and_self, if_true, and_true, and_false, reduceIte, hk]
    refine g_iconst (v := 1) h d_Heap_sweepOne_49 (by decide) ?_
    refine g_iadd h d_Heap_sweepOne_50 ?_
    refine pf_Heap_sweepFrom h f_Heap_25 d_Heap_sweepOne_51 ?_
    refine g_aload_n h d_Heap_sweepOne_54 rfl rfl ?_
    refine gf_Heap_sweepFrom h f_Heap_25 d_Heap_sweepOne_55 ?_
    simp only [sI_1, sI_2, sJ_1, sJ_2, sJ_3, sR_1, sR_2, sR_3, Nat.reduceEqDiff, Nat.zero_ne_one, Nat.one_ne_zero, Nat.succ_ne_zero, reduceCtorEq, false_and, if_false, true_and, and_self, if_true, and_true, and_false, reduceIte]
    refine g_bipush (v := 16) h d_Heap_sweepOne_58 (by decide) ?_
    refine g_icmp_ne (tgt := 73) h d_Heap_sweepOne_60 (by decide) (fun c_60 => ?_) (fun c_60 => ?_)
    · exact g_vret h r d_Heap_sweepOne_73 (⟨rfl, by simp only [csweep, hk, hcl]; first | (simp [c_14, c_60]; done) | (simp [c_14, c_21, c_60]; done)⟩)
    · refine g_aload_n h d_Heap_sweepOne_63 rfl rfl ?_
      refine g_iconst (v := 0) h d_Heap_sweepOne_64 (by decide) ?_
      refine pf_Heap_sweepFrom h f_Heap_25 d_Heap_sweepOne_65 ?_
      refine g_aload_n h d_Heap_sweepOne_68 rfl rfl ?_
      refine g_iconst (v := 0) h d_Heap_sweepOne_69 (by decide) ?_
      refine pf_Heap_phase h f_Heap_21 d_Heap_sweepOne_70 ?_
      exact g_vret h r d_Heap_sweepOne_73 (⟨rfl, by simp only [csweep, hk, hcl]; first | (simp [c_14, c_60]; done) | (simp [c_14, c_21, c_60]; done)⟩)
  · refine g_aload_n h d_Heap_sweepOne_17 rfl rfl ?_
    refine gf_Cell_colour h f_Heap_73 hi d_Heap_sweepOne_18 ?_
    skip
    refine g_if_ne (tgt := 39) h d_Heap_sweepOne_21 (by decide) (fun c_21 => ?_) (fun c_21 => ?_)
    · refine g_aload_n h d_Heap_sweepOne_39 rfl rfl ?_
      refine g_iconst (v := 0) h d_Heap_sweepOne_40 (by decide) ?_
      refine pf_Cell_colour h f_Heap_73 hi d_Heap_sweepOne_41 ?_
      refine g_aload_n h d_Heap_sweepOne_44 rfl rfl ?_
      refine g_dup h d_Heap_sweepOne_45 rfl ?_
      refine gf_Heap_sweepFrom h f_Heap_25 d_Heap_sweepOne_46 ?_
      simp only [sI_1, sI_2, sJ_1, sJ_2, sJ_3, sR_1, sR_2, sR_3, Nat.reduceEqDiff, Nat.zero_ne_one, Nat.one_ne_zero, Nat.succ_ne_zero, reduceCtorEq, false_and, if_false, true_and, and_self, if_true, and_true, and_false, reduceIte, hk]
      refine g_iconst (v := 1) h d_Heap_sweepOne_49 (by decide) ?_
      refine g_iadd h d_Heap_sweepOne_50 ?_
      refine pf_Heap_sweepFrom h f_Heap_25 d_Heap_sweepOne_51 ?_
      refine g_aload_n h d_Heap_sweepOne_54 rfl rfl ?_
      refine gf_Heap_sweepFrom h f_Heap_25 d_Heap_sweepOne_55 ?_
      simp only [sI_1, sI_2, sJ_1, sJ_2, sJ_3, sR_1, sR_2, sR_3, Nat.reduceEqDiff, Nat.zero_ne_one, Nat.one_ne_zero, Nat.succ_ne_zero, reduceCtorEq, false_and, if_false, true_and, and_self, if_true, and_true, and_false, reduceIte]
      refine g_bipush (v := 16) h d_Heap_sweepOne_58 (by decide) ?_
      refine g_icmp_ne (tgt := 73) h d_Heap_sweepOne_60 (by decide) (fun c_60 => ?_) (fun c_60 => ?_)
      · exact g_vret h r d_Heap_sweepOne_73 (⟨rfl, by simp only [csweep, hk, hcl]; first | (simp [c_14, c_60]; done) | (simp [c_14, c_21, c_60]; done)⟩)
      · refine g_aload_n h d_Heap_sweepOne_63 rfl rfl ?_
        refine g_iconst (v := 0) h d_Heap_sweepOne_64 (by decide) ?_
        refine pf_Heap_sweepFrom h f_Heap_25 d_Heap_sweepOne_65 ?_
        refine g_aload_n h d_Heap_sweepOne_68 rfl rfl ?_
        refine g_iconst (v := 0) h d_Heap_sweepOne_69 (by decide) ?_
        refine pf_Heap_phase h f_Heap_21 d_Heap_sweepOne_70 ?_
        exact g_vret h r d_Heap_sweepOne_73 (⟨rfl, by simp only [csweep, hk, hcl]; first | (simp [c_14, c_60]; done) | (simp [c_14, c_21, c_60]; done)⟩)
    · refine g_aload_n h d_Heap_sweepOne_24 rfl rfl ?_
      refine g_iconst (v := 0) h d_Heap_sweepOne_25 (by decide) ?_
      refine pf_Cell_kind h f_Heap_59 hi d_Heap_sweepOne_26 ?_
      refine g_aload_n h d_Heap_sweepOne_29 rfl rfl ?_
      refine g_dup h d_Heap_sweepOne_30 rfl ?_
      refine gf_Heap_gone h f_Heap_31 d_Heap_sweepOne_31 ?_
      simp only [sI_1, sI_2, sJ_1, sJ_2, sJ_3, sR_1, sR_2, sR_3, Nat.reduceEqDiff, Nat.zero_ne_one, Nat.one_ne_zero, Nat.succ_ne_zero, reduceCtorEq, false_and, if_false, true_and, and_self, if_true, and_true, and_false, reduceIte]
      refine g_iconst (v := 1) h d_Heap_sweepOne_34 (by decide) ?_
      refine g_iadd h d_Heap_sweepOne_35 ?_
      refine pf_Heap_gone h f_Heap_31 d_Heap_sweepOne_36 ?_
      refine g_aload_n h d_Heap_sweepOne_39 rfl rfl ?_
      refine g_iconst (v := 0) h d_Heap_sweepOne_40 (by decide) ?_
      refine pf_Cell_colour h f_Heap_73 hi d_Heap_sweepOne_41 ?_
      refine g_aload_n h d_Heap_sweepOne_44 rfl rfl ?_
      refine g_dup h d_Heap_sweepOne_45 rfl ?_
      refine gf_Heap_sweepFrom h f_Heap_25 d_Heap_sweepOne_46 ?_
      simp only [sI_1, sI_2, sJ_1, sJ_2, sJ_3, sR_1, sR_2, sR_3, Nat.reduceEqDiff, Nat.zero_ne_one, Nat.one_ne_zero, Nat.succ_ne_zero, reduceCtorEq, false_and, if_false, true_and, and_self, if_true, and_true, and_false, reduceIte, hk]
      refine g_iconst (v := 1) h d_Heap_sweepOne_49 (by decide) ?_
      refine g_iadd h d_Heap_sweepOne_50 ?_
      refine pf_Heap_sweepFrom h f_Heap_25 d_Heap_sweepOne_51 ?_
      refine g_aload_n h d_Heap_sweepOne_54 rfl rfl ?_
      refine gf_Heap_sweepFrom h f_Heap_25 d_Heap_sweepOne_55 ?_
      simp only [sI_1, sI_2, sJ_1, sJ_2, sJ_3, sR_1, sR_2, sR_3, Nat.reduceEqDiff, Nat.zero_ne_one, Nat.one_ne_zero, Nat.succ_ne_zero, reduceCtorEq, false_and, if_false, true_and, and_self, if_true, and_true, and_false, reduceIte]
      refine g_bipush (v := 16) h d_Heap_sweepOne_58 (by decide) ?_
      refine g_icmp_ne (tgt := 73) h d_Heap_sweepOne_60 (by decide) (fun c_60 => ?_) (fun c_60 => ?_)
      · exact g_vret h r d_Heap_sweepOne_73 (⟨rfl, by simp only [csweep, hk, hcl]; first | (simp [c_14, c_60]; done) | (simp [c_14, c_21, c_60]; done)⟩)
      · refine g_aload_n h d_Heap_sweepOne_63 rfl rfl ?_
        refine g_iconst (v := 0) h d_Heap_sweepOne_64 (by decide) ?_
        refine pf_Heap_sweepFrom h f_Heap_25 d_Heap_sweepOne_65 ?_
        refine g_aload_n h d_Heap_sweepOne_68 rfl rfl ?_
        refine g_iconst (v := 0) h d_Heap_sweepOne_69 (by decide) ?_
        refine pf_Heap_phase h f_Heap_21 d_Heap_sweepOne_70 ?_
        exact g_vret h r d_Heap_sweepOne_73 (⟨rfl, by simp only [csweep, hk, hcl]; first | (simp [c_14, c_60]; done) | (simp [c_14, c_21, c_60]; done)⟩)
end
section
set_option maxHeartbeats 4000000 in
set_option maxRecDepth 100000 in
theorem c_Heap_unit {l : Launch} {D : va_G} {t : Nat → ClassId} {ad : Nat → Nat} {C : CS} (hok : okC C) : Cd l D t ad y_Heap_unit b_Heap_unit 3 none { frames := 2, cells := 0, slots := 0, locals := 47 } [.ref (ad (ix 1 0))] (C) (none) (cunit C) := by
  refine ct_of (by decide) (Nat.le_of_ble_eq_true rfl) ?_
  intro Γ _ _ hN h r
  have hok1 : okC (sI C 17 0 (C.1 17 0 + 1)) := okC_17 hok
  refine g_at (L' := [some (.ref (ad (ix 1 0))), none, none]) rfl rfl rfl ?_
  refine g_aload_n h d_Heap_unit_0 rfl rfl ?_
  refine g_dup h d_Heap_unit_1 rfl ?_
  refine gf_Heap_units h f_Heap_34 d_Heap_unit_2 ?_
  refine g_iconst (v := 1) h d_Heap_unit_5 (by decide) ?_
  refine g_iadd h d_Heap_unit_6 ?_
  refine pf_Heap_units h f_Heap_34 d_Heap_unit_7 ?_
  refine g_aload_n h d_Heap_unit_10 rfl rfl ?_
  refine gf_Heap_phase h f_Heap_21 d_Heap_unit_11 ?_
  simp only [sI_1, sI_2, sJ_1, sJ_2, sJ_3, sR_1, sR_2, sR_3, Nat.reduceEqDiff, Nat.zero_ne_one, Nat.one_ne_zero, Nat.succ_ne_zero, reduceCtorEq, false_and, if_false, true_and, and_self, if_true, and_true, and_false, reduceIte]
  refine g_iconst (v := 2) h d_Heap_unit_14 (by decide) ?_
  refine g_icmp_ne (tgt := 23) h d_Heap_unit_15 (by decide) (fun c_15 => ?_) (fun c_15 => ?_)
  · refine g_aload_n h d_Heap_unit_23 rfl rfl ?_
    refine g_dVi h tb_good (c_Heap_leastGray) (ix_lt 1 (by decide) _ (by decide)) (wc_at (by decide) (by decide)) rfl v_Heap_137 nm_Heap_leastGray rfl ⟨rfl, rfl, Nat.le_of_ble_eq_true rfl, Nat.le_of_ble_eq_true rfl, Nat.zero_le _, Nat.zero_le _⟩ rfl (Nat.le_of_ble_eq_true rfl) d_Heap_unit_24 ?_
    refine g_istore_n h d_Heap_unit_27 rfl rfl (by rw [hN]; decide) ?_
    rcases hg : cgray (sI C 17 0 (C.1 17 0 + 1)) with _ | q <;> simp only [enc]
    · refine g_iload_n h d_Heap_unit_28 rfl rfl ?_
      refine g_if_lt (tgt := 43) h d_Heap_unit_29 (by decide) (fun c_29 => ?_) (fun c_29 => ?_)
      · refine g_aload_n h d_Heap_unit_43 rfl rfl ?_
        refine g_dVi h tb_good (c_Heap_shadeRoots hok1) (ix_lt 1 (by decide) _ (by decide)) (wc_at (by decide) (by decide)) rfl v_Heap_144 nm_Heap_shadeRoots rfl ⟨rfl, rfl, Nat.le_of_ble_eq_true rfl, Nat.le_of_ble_eq_true rfl, Nat.zero_le _, Nat.zero_le _⟩ rfl (Nat.le_of_ble_eq_true rfl) d_Heap_unit_44 ?_
        refine g_if_le (tgt := 54) h d_Heap_unit_47 (by decide) (fun c_47 => ?_) (fun c_47 => ?_)
        · skip
          · refine g_iconst (v := 0) h d_Heap_unit_54 (by decide) ?_
            refine g_istore_n h d_Heap_unit_55 rfl rfl (by rw [hN]; decide) ?_
            refine g_aload_n h d_Heap_unit_56 rfl rfl ?_
            refine g_aload_n h d_Heap_unit_57 rfl rfl ?_
            refine gf_Heap_phase h f_Heap_21 d_Heap_unit_58 ?_
            rw [cshadeRoots_1 _ _ _ (by decide)]
            simp only [sI_1, sI_2, sJ_1, sJ_2, sJ_3, sR_1, sR_2, sR_3, Nat.reduceEqDiff, Nat.zero_ne_one, Nat.one_ne_zero, Nat.succ_ne_zero, reduceCtorEq, false_and, if_false, true_and, and_self, if_true, and_true, and_false, reduceIte]
            refine g_if_eq (tgt := 68) h d_Heap_unit_61 (by decide) (fun c_61 => ?_) (fun c_61 => ?_)
            · refine g_iconst (v := 1) h d_Heap_unit_68 (by decide) ?_
              refine g_goto (tgt := 73) h d_Heap_unit_69 (by decide) ?_
              refine pf_Heap_phase h f_Heap_21 d_Heap_unit_73 ?_
              exact g_vret h r d_Heap_unit_76 (⟨rfl, by first | (simp [cunit, c_15, hg, c_61]; done) | (simp [cunit, c_15, hg, c_61, Int32.not_lt.mpr c_47]; done) | (simp [cunit, c_15, hg, c_61, Int32.not_le.mp c_47]; done)⟩)
            · refine g_iload_n h d_Heap_unit_64 rfl rfl ?_
              refine g_if_eq (tgt := 72) h d_Heap_unit_65 (by decide) (fun c_65 => ?_) (fun c_65 => ?_)
              · refine g_iconst (v := 2) h d_Heap_unit_72 (by decide) ?_
                refine pf_Heap_phase h f_Heap_21 d_Heap_unit_73 ?_
                exact g_vret h r d_Heap_unit_76 (⟨rfl, by first | (simp [cunit, c_15, hg, c_61]; done) | (simp [cunit, c_15, hg, c_61, Int32.not_lt.mpr c_47]; done) | (simp [cunit, c_15, hg, c_61, Int32.not_le.mp c_47]; done)⟩)
              · exact absurd rfl c_65
        · skip
          · refine g_iconst (v := 1) h d_Heap_unit_50 (by decide) ?_
            refine g_goto (tgt := 55) h d_Heap_unit_51 (by decide) ?_
            refine g_istore_n h d_Heap_unit_55 rfl rfl (by rw [hN]; decide) ?_
            refine g_aload_n h d_Heap_unit_56 rfl rfl ?_
            refine g_aload_n h d_Heap_unit_57 rfl rfl ?_
            refine gf_Heap_phase h f_Heap_21 d_Heap_unit_58 ?_
            rw [cshadeRoots_1 _ _ _ (by decide)]
            simp only [sI_1, sI_2, sJ_1, sJ_2, sJ_3, sR_1, sR_2, sR_3, Nat.reduceEqDiff, Nat.zero_ne_one, Nat.one_ne_zero, Nat.succ_ne_zero, reduceCtorEq, false_and, if_false, true_and, and_self, if_true, and_true, and_false, reduceIte]
            refine g_if_eq (tgt := 68) h d_Heap_unit_61 (by decide) (fun c_61 => ?_) (fun c_61 => ?_)
            · refine g_iconst (v := 1) h d_Heap_unit_68 (by decide) ?_
              refine g_goto (tgt := 73) h d_Heap_unit_69 (by decide) ?_
              refine pf_Heap_phase h f_Heap_21 d_Heap_unit_73 ?_
              exact g_vret h r d_Heap_unit_76 (⟨rfl, by first | (simp [cunit, c_15, hg, c_61]; done) | (simp [cunit, c_15, hg, c_61, Int32.not_lt.mpr c_47]; done) | (simp [cunit, c_15, hg, c_61, Int32.not_le.mp c_47]; done)⟩)
            · refine g_iload_n h d_Heap_unit_64 rfl rfl ?_
              refine g_if_eq (tgt := 72) h d_Heap_unit_65 (by decide) (fun c_65 => ?_) (fun c_65 => ?_)
              · exact absurd c_65 (by decide)
              · refine g_iconst (v := 1) h d_Heap_unit_68 (by decide) ?_
                refine g_goto (tgt := 73) h d_Heap_unit_69 (by decide) ?_
                refine pf_Heap_phase h f_Heap_21 d_Heap_unit_73 ?_
                exact g_vret h r d_Heap_unit_76 (⟨rfl, by first | (simp [cunit, c_15, hg, c_61]; done) | (simp [cunit, c_15, hg, c_61, Int32.not_lt.mpr c_47]; done) | (simp [cunit, c_15, hg, c_61, Int32.not_le.mp c_47]; done)⟩)
      · exact absurd (by decide) c_29
    · have hq := cgray_lt hg
      refine g_iload_n h d_Heap_unit_28 rfl rfl ?_
      refine g_if_lt (tgt := 43) h d_Heap_unit_29 (by decide) (fun c_29 => ?_) (fun c_29 => ?_)
      · exact absurd c_29 (nI_pos (by omega))
      · refine g_aload_n h d_Heap_unit_32 rfl rfl ?_
        refine g_aload_n h d_Heap_unit_33 rfl rfl ?_
        refine gf_Heap_cells h f_Heap_17 d_Heap_unit_34 ?_
        refine g_iload_n h d_Heap_unit_37 rfl rfl ?_
        refine ga_cells h rfl hq d_Heap_unit_38 ?_
        refine g_dVv h tb_good (c_Heap_blacken hok1 hq) (ix_lt 1 (by decide) _ (by decide)) (wc_at (by decide) (by decide)) rfl v_Heap_140 nm_Heap_blacken rfl ⟨rfl, rfl, Nat.le_of_ble_eq_true rfl, Nat.le_of_ble_eq_true rfl, Nat.zero_le _, Nat.zero_le _⟩ rfl (Nat.le_of_ble_eq_true rfl) d_Heap_unit_39 ?_
        exact g_vret h r d_Heap_unit_42 (⟨rfl, by simp [cunit, c_15, hg]⟩)
  · refine g_aload_n h d_Heap_unit_18 rfl rfl ?_
    refine g_dVv h tb_good (c_Heap_sweepOne hok1) (ix_lt 1 (by decide) _ (by decide)) (wc_at (by decide) (by decide)) rfl v_Heap_134 nm_Heap_sweepOne rfl ⟨rfl, rfl, Nat.le_of_ble_eq_true rfl, Nat.le_of_ble_eq_true rfl, Nat.zero_le _, Nat.zero_le _⟩ rfl (Nat.le_of_ble_eq_true rfl) d_Heap_unit_19 ?_
    exact g_vret h r d_Heap_unit_22 (⟨rfl, by simp [cunit, c_15]⟩)
set_option maxHeartbeats 4000000 in
set_option maxRecDepth 100000 in
theorem c_Heap_fullCollection {l : Launch} {D : va_G} {t : Nat → ClassId} {ad : Nat → Nat} {C : CS} (hok : okC C) : Cd l D t ad y_Heap_fullCollection b_Heap_fullCollection 2 none { frames := 3, cells := 0, slots := 0, locals := 69 } [.ref (ad (ix 1 0))] (C) (none) (cfull C) := by
  refine ct_of (by decide) (Nat.le_of_ble_eq_true rfl) ?_
  intro Γ _ _ hN h r
  have hok0 : okC (sI C 18 0 (C.1 18 0 + 1)) := okC_18 hok
  have loop2 : ∀ (c i : Nat) (C2 : CS), i + c = 1000 → okC C2 → cwhile c C2 = cfull C → G Γ 0 0 171 ad (wc ad t C2) 42 [some (.ref (ad (ix 1 0))), some (.int (nI i))] [] := by
    intro c
    induction c with
    | zero =>
      intro i C2 hi hC he
      refine g_iload_n h d_Heap_fullCollection_42 rfl rfl ?_
      refine g_sipush (v := 1000) h d_Heap_fullCollection_43 (by decide) ?_
      refine g_icmp_ge (tgt := 66) h d_Heap_fullCollection_46 (by decide) (fun c_46 => ?_) (fun c_46 => ?_)
      · exact g_vret h r d_Heap_fullCollection_66 (⟨rfl, by rw [← he]; rfl⟩)
      · exact absurd (nI_le (a := 1000) (b := i) (by omega) (by omega)) c_46
    | succ c ih =>
      intro i C2 hi hC he
      refine g_iload_n h d_Heap_fullCollection_42 rfl rfl ?_
      refine g_sipush (v := 1000) h d_Heap_fullCollection_43 (by decide) ?_
      refine g_icmp_ge (tgt := 66) h d_Heap_fullCollection_46 (by decide) (fun c_46 => ?_) (fun c_46 => ?_)
      · exact absurd c_46 (nI_ge (b := 1000) (by omega) (by decide))
      · refine g_aload_n h d_Heap_fullCollection_49 rfl rfl ?_
        refine gf_Heap_phase h f_Heap_21 d_Heap_fullCollection_50 ?_
        refine g_if_eq (tgt := 66) h d_Heap_fullCollection_53 (by decide) (fun c_53 => ?_) (fun c_53 => ?_)
        · exact g_vret h r d_Heap_fullCollection_66 (⟨rfl, by rw [← he]; simp [cwhile, c_53]⟩)
        · refine g_aload_n h d_Heap_fullCollection_56 rfl rfl ?_
          refine g_dVv h tb_good (c_Heap_unit hC) (ix_lt 1 (by decide) _ (by decide)) (wc_at (by decide) (by decide)) rfl v_Heap_131 nm_Heap_unit rfl ⟨rfl, rfl, Nat.le_of_ble_eq_true rfl, Nat.le_of_ble_eq_true rfl, Nat.zero_le _, Nat.zero_le _⟩ rfl (Nat.le_of_ble_eq_true rfl) d_Heap_fullCollection_57 ?_
          refine g_iinc (v := nI (i + 1)) h d_Heap_fullCollection_60 rfl (by rw [nI_succ]; rfl) rfl (by rw [hN]; decide) ?_
          refine g_goto (tgt := 42) h d_Heap_fullCollection_63 (by decide) ?_
          exact ih (i + 1) _ (by omega) (okC_unit hC) (by rw [← he]; simp [cwhile, c_53])
  have hW : okC (cwhile 1000 (sI C 18 0 (C.1 18 0 + 1))) := okC_while _ _ hok0
  have mid : ∀ x : Int32, G Γ 0 0 171 ad (wc ad t (cwhile 1000 (sI C 18 0 (C.1 18 0 + 1)))) 36 [some (.ref (ad (ix 1 0))), some (.int x)] [] := by
    intro x
    refine g_aload_n h d_Heap_fullCollection_36 rfl rfl ?_
    refine g_dVv h tb_good (c_Heap_unit hW) (ix_lt 1 (by decide) _ (by decide)) (wc_at (by decide) (by decide)) rfl v_Heap_131 nm_Heap_unit rfl ⟨rfl, rfl, Nat.le_of_ble_eq_true rfl, Nat.le_of_ble_eq_true rfl, Nat.zero_le _, Nat.zero_le _⟩ rfl (Nat.le_of_ble_eq_true rfl) d_Heap_fullCollection_37 ?_
    refine g_iconst (v := 0) h d_Heap_fullCollection_40 (by decide) ?_
    refine g_istore_n h d_Heap_fullCollection_41 rfl rfl (by rw [hN]; decide) ?_
    exact loop2 1000 0 _ (by omega) (okC_unit hW) rfl
  have loop1 : ∀ (c i : Nat) (C2 : CS), i + c = 1000 → okC C2 → cwhile c C2 = cwhile 1000 (sI C 18 0 (C.1 18 0 + 1)) → G Γ 0 0 171 ad (wc ad t C2) 12 [some (.ref (ad (ix 1 0))), some (.int (nI i))] [] := by
    intro c
    induction c with
    | zero =>
      intro i C2 hi hC he
      refine g_iload_n h d_Heap_fullCollection_12 rfl rfl ?_
      refine g_sipush (v := 1000) h d_Heap_fullCollection_13 (by decide) ?_
      refine g_icmp_ge (tgt := 36) h d_Heap_fullCollection_16 (by decide) (fun c_16 => ?_) (fun c_16 => ?_)
      · rw [show C2 = _ from he]
        exact mid _
      · exact absurd (nI_le (a := 1000) (b := i) (by omega) (by omega)) c_16
    | succ c ih =>
      intro i C2 hi hC he
      refine g_iload_n h d_Heap_fullCollection_12 rfl rfl ?_
      refine g_sipush (v := 1000) h d_Heap_fullCollection_13 (by decide) ?_
      refine g_icmp_ge (tgt := 36) h d_Heap_fullCollection_16 (by decide) (fun c_16 => ?_) (fun c_16 => ?_)
      · exact absurd c_16 (nI_ge (b := 1000) (by omega) (by decide))
      · refine g_aload_n h d_Heap_fullCollection_19 rfl rfl ?_
        refine gf_Heap_phase h f_Heap_21 d_Heap_fullCollection_20 ?_
        refine g_if_eq (tgt := 36) h d_Heap_fullCollection_23 (by decide) (fun c_23 => ?_) (fun c_23 => ?_)
        · have hW1 : C2 = cwhile 1000 (sI C 18 0 (C.1 18 0 + 1)) := by rw [← he]; simp [cwhile, c_23]
          rw [hW1]
          exact mid _
        · refine g_aload_n h d_Heap_fullCollection_26 rfl rfl ?_
          refine g_dVv h tb_good (c_Heap_unit hC) (ix_lt 1 (by decide) _ (by decide)) (wc_at (by decide) (by decide)) rfl v_Heap_131 nm_Heap_unit rfl ⟨rfl, rfl, Nat.le_of_ble_eq_true rfl, Nat.le_of_ble_eq_true rfl, Nat.zero_le _, Nat.zero_le _⟩ rfl (Nat.le_of_ble_eq_true rfl) d_Heap_fullCollection_27 ?_
          refine g_iinc (v := nI (i + 1)) h d_Heap_fullCollection_30 rfl (by rw [nI_succ]; rfl) rfl (by rw [hN]; decide) ?_
          refine g_goto (tgt := 12) h d_Heap_fullCollection_33 (by decide) ?_
          exact ih (i + 1) _ (by omega) (okC_unit hC) (by rw [← he]; simp [cwhile, c_23])
  refine g_at (L' := [some (.ref (ad (ix 1 0))), none]) rfl rfl rfl ?_
  refine g_aload_n h d_Heap_fullCollection_0 rfl rfl ?_
  refine g_dup h d_Heap_fullCollection_1 rfl ?_
  refine gf_Heap_fullCollections h f_Heap_37 d_Heap_fullCollection_2 ?_
  refine g_iconst (v := 1) h d_Heap_fullCollection_5 (by decide) ?_
  refine g_iadd h d_Heap_fullCollection_6 ?_
  refine pf_Heap_fullCollections h f_Heap_37 d_Heap_fullCollection_7 ?_
  refine g_iconst (v := 0) h d_Heap_fullCollection_10 (by decide) ?_
  refine g_istore_n h d_Heap_fullCollection_11 rfl rfl (by rw [hN]; decide) ?_
  exact loop1 1000 0 _ (by omega) hok0 rfl
end
section
set_option maxHeartbeats 4000000 in
set_option maxRecDepth 100000 in
theorem c_Arr_fill {l : Launch} {D : va_G} {t : Nat → ClassId} {ad : Nat → Nat} {C : CS} {n : Nat} {v : Int64} (hn : n < 16) : Cd l D t ad y_Arr_fill b_Arr_fill 5 none { frames := 0, cells := 0, slots := 0, locals := 0 } [.ref (ad (ix 9 n)), .long v] (C) (none) (sR C 3 n (fil v 4 (C.2.1 3 n))) := by
  refine ct_of (by decide) (Nat.le_of_ble_eq_true rfl) ?_
  intro Γ _ _ hN h r
  have loop : ∀ (c i : Nat) (C2 : CS), i + c = 4 → C2 = sR C 3 n (fil v i (C.2.1 3 n)) → G Γ 0 0 171 ad (wc ad t C2) 6 [some (.ref (ad (ix 9 n))), some (.long v), none, some (.int (nI i)), some (.int 4)] [] := by
    intro c
    induction c with
    | zero =>
      intro i C2 hi he
      refine g_iload_n h d_Arr_fill_6 rfl rfl ?_
      refine g_iload h d_Arr_fill_7 rfl ?_
      refine g_icmp_ge (tgt := 22) h d_Arr_fill_9 (by decide) (fun c_9 => ?_) (fun c_9 => ?_)
      · exact g_vret h r d_Arr_fill_22 (⟨rfl, by rw [he, show i = 4 by omega]⟩)
      · exact absurd (nI_le (a := 4) (b := i) (by omega) (by omega)) c_9
    | succ c ih =>
      intro i C2 hi he
      refine g_iload_n h d_Arr_fill_6 rfl rfl ?_
      refine g_iload h d_Arr_fill_7 rfl ?_
      refine g_icmp_ge (tgt := 22) h d_Arr_fill_9 (by decide) (fun c_9 => ?_) (fun c_9 => ?_)
      · exact absurd c_9 (nI_ge (b := 4) (by omega) (by decide))
      · refine g_aload_n h d_Arr_fill_12 rfl rfl ?_
        refine g_iload_n h d_Arr_fill_13 rfl rfl ?_
        refine g_lload_n h d_Arr_fill_14 rfl rfl ?_
        refine pa_regs h hn rfl (show i < 4 by omega) d_Arr_fill_15 ?_
        refine g_iinc (v := nI (i + 1)) h d_Arr_fill_16 rfl (by rw [nI_succ]; rfl) rfl (by rw [hN]; decide) ?_
        refine g_goto (tgt := 6) h d_Arr_fill_19 (by decide) ?_
        exact ih (i + 1) _ (by omega) (by rw [he]; exact fil_step C 3 n i v)
  refine g_at (L' := [some (.ref (ad (ix 9 n))), some (.long v), none, none, none]) rfl rfl rfl ?_
  refine g_iconst (v := 0) h d_Arr_fill_0 (by decide) ?_
  refine g_istore_n h d_Arr_fill_1 rfl rfl (by rw [hN]; decide) ?_
  refine g_aload_n h d_Arr_fill_2 rfl rfl ?_
  refine g_alen h (ix 9 n) 0 (ix_lt 9 (by decide) n hn) (wc_at (by decide) hn) rfl (v := 4) rfl d_Arr_fill_3 ?_
  refine g_istore h d_Arr_fill_4 rfl (by rw [hN]; decide) ?_
  exact loop 4 0 C (by omega) (fil_0 C 3 n v).symm
set_option maxHeartbeats 4000000 in
set_option maxRecDepth 100000 in
theorem c_Cor_clear {l : Launch} {D : va_G} {t : Nat → ClassId} {ad : Nat → Nat} {C : CS} {n : Nat} {f : Int32} (hn : n < 16) : Cd l D t ad y_Cor_clear b_Cor_clear 2 none { frames := 1, cells := 0, slots := 0, locals := 24 } [.ref (ad (ix 8 n)), .int f] (C) (none) (cclear C n f) := by
  refine ct_of (by decide) (Nat.le_of_ble_eq_true rfl) ?_
  intro Γ _ _ hN h r
  refine g_at (L' := [some (.ref (ad (ix 8 n))), some (.int f)]) rfl rfl rfl ?_
  refine g_aload_n h d_Cor_clear_0 rfl rfl ?_
  refine gf_Cor_registers h f_Cor_9 (by first | assumption | omega | (show _ < 16; omega)) d_Cor_clear_1 ?_
  refine g_ldc2 (v := -1000000000000) h d_Cor_clear_4 k_Cor_31 ?_
  refine g_dSv h tb_good (c_Arr_fill hn) v_Cor_33 nm_Arr_fill rfl ⟨rfl, rfl, Nat.le_of_ble_eq_true rfl, Nat.le_of_ble_eq_true rfl, Nat.zero_le _, Nat.zero_le _⟩ rfl (Nat.le_of_ble_eq_true rfl) d_Cor_clear_7 ?_
  refine g_aload_n h d_Cor_clear_10 rfl rfl ?_
  refine g_iload_n h d_Cor_clear_11 rfl rfl ?_
  refine pf_Cor_function h f_Cor_15 (by first | assumption | omega | (show _ < 16; omega)) d_Cor_clear_12 ?_
  refine g_aload_n h d_Cor_clear_15 rfl rfl ?_
  refine g_iconst (v := 0) h d_Cor_clear_16 (by decide) ?_
  refine pf_Cor_place h f_Cor_19 (by first | assumption | omega | (show _ < 16; omega)) d_Cor_clear_17 ?_
  refine g_aload_n h d_Cor_clear_20 rfl rfl ?_
  refine g_iconst (v := 0) h d_Cor_clear_21 (by decide) ?_
  refine pf_Cor_state h f_Cor_22 (by first | assumption | omega | (show _ < 16; omega)) d_Cor_clear_22 ?_
  refine g_aload_n h d_Cor_clear_25 rfl rfl ?_
  refine g_iconst (v := 0) h d_Cor_clear_26 (by decide) ?_
  refine pf_Cor_comesIn h f_Cor_25 (by first | assumption | omega | (show _ < 16; omega)) d_Cor_clear_27 ?_
  exact g_vret h r d_Cor_clear_30 (⟨rfl, rfl⟩)
set_option maxHeartbeats 4000000 in
set_option maxRecDepth 100000 in
theorem c_Tab_append {l : Launch} {D : va_G} {t : Nat → ClassId} {ad : Nat → Nat} {C : CS} {n P : Nat} {k v : Int64} (hn : n < 16) (hp : C.1 2 n = nI P) (hP : P < 6) : Cd l D t ad y_Tab_append b_Tab_append 5 none { frames := 0, cells := 0, slots := 0, locals := 0 } [.ref (ad (ix 5 n)), .long k, .long v] (C) (none) (tappend C n k v) := by
  refine ct_of (by decide) (Nat.le_of_ble_eq_true rfl) ?_
  intro Γ _ _ hN h r
  have hc := cPairs_eq hp (by omega)
  refine g_at (L' := [some (.ref (ad (ix 5 n))), some (.long k), none, some (.long v), none]) rfl rfl rfl ?_
  refine g_aload_n h d_Tab_append_0 rfl rfl ?_
  refine gf_Tab_keys h f_Tab_9 (by first | assumption | omega | (show _ < 16; omega)) d_Tab_append_1 ?_
  refine g_aload_n h d_Tab_append_4 rfl rfl ?_
  refine gf_Tab_pairs h f_Tab_18 (by first | assumption | omega | (show _ < 16; omega)) d_Tab_append_5 ?_
  refine g_lload_n h d_Tab_append_8 rfl rfl ?_
  refine pa_keys h hn hp hP d_Tab_append_9 ?_
  refine g_aload_n h d_Tab_append_10 rfl rfl ?_
  refine gf_Tab_values h f_Tab_15 (by first | assumption | omega | (show _ < 16; omega)) d_Tab_append_11 ?_
  refine g_aload_n h d_Tab_append_14 rfl rfl ?_
  refine gf_Tab_pairs h f_Tab_18 (by first | assumption | omega | (show _ < 16; omega)) d_Tab_append_15 ?_
  simp only [sI_1, sI_2, sJ_1, sJ_2, sJ_3, sR_1, sR_2, sR_3, Nat.reduceEqDiff, Nat.zero_ne_one, Nat.one_ne_zero, Nat.succ_ne_zero, reduceCtorEq, false_and, if_false, true_and, and_self, if_true, and_true, and_false, reduceIte]
  refine g_lload_n h d_Tab_append_18 rfl rfl ?_
  refine pa_vals h hn hp hP d_Tab_append_19 ?_
  refine g_aload_n h d_Tab_append_20 rfl rfl ?_
  refine g_dup h d_Tab_append_21 rfl ?_
  refine gf_Tab_pairs h f_Tab_18 (by first | assumption | omega | (show _ < 16; omega)) d_Tab_append_22 ?_
  simp only [sI_1, sI_2, sJ_1, sJ_2, sJ_3, sR_1, sR_2, sR_3, Nat.reduceEqDiff, Nat.zero_ne_one, Nat.one_ne_zero, Nat.succ_ne_zero, reduceCtorEq, false_and, if_false, true_and, and_self, if_true, and_true, and_false, reduceIte]
  refine g_iconst (v := 1) h d_Tab_append_25 (by decide) ?_
  refine g_iadd h d_Tab_append_26 ?_
  refine pf_Tab_pairs h f_Tab_18 (by first | assumption | omega | (show _ < 16; omega)) d_Tab_append_27 ?_
  exact g_vret h r d_Tab_append_30 (⟨rfl, by unfold tappend; rw [hc]⟩)
set_option maxHeartbeats 4000000 in
set_option maxRecDepth 100000 in
theorem c_Heap_create {l : Launch} {D : va_G} {t : Nat → ClassId} {ad : Nat → Nat} {C : CS} {kind f : Int32} (hok : okC C) : Cd l D t ad y_Heap_create b_Heap_create 5 (some .int) { frames := 4, cells := 0, slots := 0, locals := 90 } [.ref (ad (ix 1 0)), .int kind, .int f] (C) (some (.int (ccreate C kind f).1)) ((ccreate C kind f).2) := by
  refine ct_of (by decide) (Nat.le_of_ble_eq_true rfl) ?_
  intro Γ _ _ hN h r
  refine g_at (L' := [some (.ref (ad (ix 1 0))), some (.int kind), some (.int f), none, none]) rfl rfl rfl ?_
  refine g_aload_n h d_Heap_create_0 rfl rfl ?_
  refine g_dVi h tb_good (c_Heap_leastFree) (ix_lt 1 (by decide) _ (by decide)) (wc_at (by decide) (by decide)) rfl v_Heap_62 nm_Heap_leastFree rfl ⟨rfl, rfl, Nat.le_of_ble_eq_true rfl, Nat.le_of_ble_eq_true rfl, Nat.zero_le _, Nat.zero_le _⟩ rfl (Nat.le_of_ble_eq_true rfl) d_Heap_create_1 ?_
  refine g_istore_n h d_Heap_create_4 rfl rfl (by rw [hN]; decide) ?_
  rcases hf : cfree C with _ | q <;> simp only [enc]
  · refine g_iload_n h d_Heap_create_5 rfl rfl ?_
    refine g_if_ge (tgt := 18) h d_Heap_create_6 (by decide) (fun c_6 => ?_) (fun c_6 => ?_)
    · exact absurd c_6 (by decide)
    · refine g_aload_n h d_Heap_create_9 rfl rfl ?_
      refine g_dVv h tb_good (c_Heap_fullCollection hok) (ix_lt 1 (by decide) _ (by decide)) (wc_at (by decide) (by decide)) rfl v_Heap_66 nm_Heap_fullCollection rfl ⟨rfl, rfl, Nat.le_of_ble_eq_true rfl, Nat.le_of_ble_eq_true rfl, Nat.zero_le _, Nat.zero_le _⟩ rfl (Nat.le_of_ble_eq_true rfl) d_Heap_create_10 ?_
      refine g_aload_n h d_Heap_create_13 rfl rfl ?_
      refine g_dVi h tb_good (c_Heap_leastFree) (ix_lt 1 (by decide) _ (by decide)) (wc_at (by decide) (by decide)) rfl v_Heap_62 nm_Heap_leastFree rfl ⟨rfl, rfl, Nat.le_of_ble_eq_true rfl, Nat.le_of_ble_eq_true rfl, Nat.zero_le _, Nat.zero_le _⟩ rfl (Nat.le_of_ble_eq_true rfl) d_Heap_create_14 ?_
      refine g_istore_n h d_Heap_create_17 rfl rfl (by rw [hN]; decide) ?_
      rcases hf2 : cfree (cfull C) with _ | q <;> simp only [enc]
      · refine g_iload_n h d_Heap_create_18 rfl rfl ?_
        refine g_if_ge (tgt := 24) h d_Heap_create_19 (by decide) (fun c_19 => ?_) (fun c_19 => ?_)
        · exact absurd c_19 (by decide)
        · refine g_iconst (v := 3) h d_Heap_create_22 (by decide) ?_
          exact g_iret h r d_Heap_create_23 (⟨by simp [ccreate, hf, hf2], by simp [ccreate, hf, hf2]⟩)
      · have hq := cfree_lt hf2
        refine g_iload_n h d_Heap_create_18 rfl rfl ?_
        refine g_if_ge (tgt := 24) h d_Heap_create_19 (by decide) (fun c_19 => ?_) (fun c_19 => ?_)
        · refine g_aload_n h d_Heap_create_24 rfl rfl ?_
          refine gf_Heap_cells h f_Heap_17 d_Heap_create_25 ?_
          refine g_iload_n h d_Heap_create_28 rfl rfl ?_
          refine ga_cells h rfl hq d_Heap_create_29 ?_
          refine g_astore h d_Heap_create_30 rfl (by rw [hN]; decide) ?_
          refine g_aload h d_Heap_create_32 rfl ?_
          refine g_iload_n h d_Heap_create_34 rfl rfl ?_
          refine pf_Cell_kind h f_Heap_59 hq d_Heap_create_35 ?_
          refine g_aload h d_Heap_create_38 rfl ?_
          refine g_aload_n h d_Heap_create_40 rfl rfl ?_
          refine g_iload_n h d_Heap_create_41 rfl rfl ?_
          refine g_dVi h tb_good (c_Heap_birthColour) (ix_lt 1 (by decide) _ (by decide)) (wc_at (by decide) (by decide)) rfl v_Heap_69 nm_Heap_birthColour rfl ⟨rfl, rfl, Nat.le_of_ble_eq_true rfl, Nat.le_of_ble_eq_true rfl, Nat.zero_le _, Nat.zero_le _⟩ rfl (Nat.le_of_ble_eq_true rfl) d_Heap_create_42 ?_
          refine pf_Cell_colour h f_Heap_73 hq d_Heap_create_45 ?_
          refine g_iload_n h d_Heap_create_48 rfl rfl ?_
          refine g_iconst (v := 1) h d_Heap_create_49 (by decide) ?_
          refine g_icmp_ne (tgt := 64) h d_Heap_create_50 (by decide) (fun c_50 => ?_) (fun c_50 => ?_)
          · refine g_aload h d_Heap_create_64 rfl ?_
            refine gf_Cell_coroutine h f_Heap_85 hq d_Heap_create_66 ?_
            refine g_iload_n h d_Heap_create_69 rfl rfl ?_
            refine g_dVv h tb_good (c_Cor_clear hq) (ix_lt 8 (by decide) _ hq) (wc_at (by decide) hq) rfl v_Heap_89 nm_Cor_clear rfl ⟨rfl, rfl, Nat.le_of_ble_eq_true rfl, Nat.le_of_ble_eq_true rfl, Nat.zero_le _, Nat.zero_le _⟩ rfl (Nat.le_of_ble_eq_true rfl) d_Heap_create_70 ?_
            refine g_aload_n h d_Heap_create_73 rfl rfl ?_
            refine g_dup h d_Heap_create_74 rfl ?_
            refine gf_Heap_made h f_Heap_28 d_Heap_create_75 ?_
            refine g_iconst (v := 1) h d_Heap_create_78 (by decide) ?_
            refine g_iadd h d_Heap_create_79 ?_
            refine pf_Heap_made h f_Heap_28 d_Heap_create_80 ?_
            refine g_aload_n h d_Heap_create_83 rfl rfl ?_
            refine g_ldc2 (v := 10000000000) h d_Heap_create_84 k_Heap_53 ?_
            refine g_iload_n h d_Heap_create_87 rfl rfl ?_
            refine g_i2l h d_Heap_create_88 ?_
            refine g_ladd h d_Heap_create_89 ?_
            refine pf_Heap_found h f_Heap_42 d_Heap_create_90 ?_
            refine g_iconst (v := 0) h d_Heap_create_93 (by decide) ?_
            exact g_iret h r d_Heap_create_94 (⟨by first | (simp [ccreate, hf]; done) | (simp [ccreate, hf, hf2]; done), by first | (simp [ccreate, hf, c_50]; done) | (simp [ccreate, hf, hf2, c_50]; done)⟩)
          · refine g_aload h d_Heap_create_53 rfl ?_
            refine gf_Cell_table h f_Heap_76 hq d_Heap_create_55 ?_
            refine g_dVv h tb_good (c_Tab_clear hq) (ix_lt 5 (by decide) _ hq) (wc_at (by decide) hq) rfl v_Heap_80 nm_Tab_clear rfl ⟨rfl, rfl, Nat.le_of_ble_eq_true rfl, Nat.le_of_ble_eq_true rfl, Nat.zero_le _, Nat.zero_le _⟩ rfl (Nat.le_of_ble_eq_true rfl) d_Heap_create_58 ?_
            refine g_goto (tgt := 73) h d_Heap_create_61 (by decide) ?_
            refine g_aload_n h d_Heap_create_73 rfl rfl ?_
            refine g_dup h d_Heap_create_74 rfl ?_
            refine gf_Heap_made h f_Heap_28 d_Heap_create_75 ?_
            refine g_iconst (v := 1) h d_Heap_create_78 (by decide) ?_
            refine g_iadd h d_Heap_create_79 ?_
            refine pf_Heap_made h f_Heap_28 d_Heap_create_80 ?_
            refine g_aload_n h d_Heap_create_83 rfl rfl ?_
            refine g_ldc2 (v := 10000000000) h d_Heap_create_84 k_Heap_53 ?_
            refine g_iload_n h d_Heap_create_87 rfl rfl ?_
            refine g_i2l h d_Heap_create_88 ?_
            refine g_ladd h d_Heap_create_89 ?_
            refine pf_Heap_found h f_Heap_42 d_Heap_create_90 ?_
            refine g_iconst (v := 0) h d_Heap_create_93 (by decide) ?_
            exact g_iret h r d_Heap_create_94 (⟨by first | (simp [ccreate, hf]; done) | (simp [ccreate, hf, hf2]; done), by first | (simp [ccreate, hf, c_50]; done) | (simp [ccreate, hf, hf2, c_50]; done)⟩)
        · exact absurd (nI_pos' (by omega)) c_19
  · have hq := cfree_lt hf
    refine g_iload_n h d_Heap_create_5 rfl rfl ?_
    refine g_if_ge (tgt := 18) h d_Heap_create_6 (by decide) (fun c_6 => ?_) (fun c_6 => ?_)
    · refine g_iload_n h d_Heap_create_18 rfl rfl ?_
      refine g_if_ge (tgt := 24) h d_Heap_create_19 (by decide) (fun c_19 => ?_) (fun c_19 => ?_)
      · refine g_aload_n h d_Heap_create_24 rfl rfl ?_
        refine gf_Heap_cells h f_Heap_17 d_Heap_create_25 ?_
        refine g_iload_n h d_Heap_create_28 rfl rfl ?_
        refine ga_cells h rfl hq d_Heap_create_29 ?_
        refine g_astore h d_Heap_create_30 rfl (by rw [hN]; decide) ?_
        refine g_aload h d_Heap_create_32 rfl ?_
        refine g_iload_n h d_Heap_create_34 rfl rfl ?_
        refine pf_Cell_kind h f_Heap_59 hq d_Heap_create_35 ?_
        refine g_aload h d_Heap_create_38 rfl ?_
        refine g_aload_n h d_Heap_create_40 rfl rfl ?_
        refine g_iload_n h d_Heap_create_41 rfl rfl ?_
        refine g_dVi h tb_good (c_Heap_birthColour) (ix_lt 1 (by decide) _ (by decide)) (wc_at (by decide) (by decide)) rfl v_Heap_69 nm_Heap_birthColour rfl ⟨rfl, rfl, Nat.le_of_ble_eq_true rfl, Nat.le_of_ble_eq_true rfl, Nat.zero_le _, Nat.zero_le _⟩ rfl (Nat.le_of_ble_eq_true rfl) d_Heap_create_42 ?_
        refine pf_Cell_colour h f_Heap_73 hq d_Heap_create_45 ?_
        refine g_iload_n h d_Heap_create_48 rfl rfl ?_
        refine g_iconst (v := 1) h d_Heap_create_49 (by decide) ?_
        refine g_icmp_ne (tgt := 64) h d_Heap_create_50 (by decide) (fun c_50 => ?_) (fun c_50 => ?_)
        · refine g_aload h d_Heap_create_64 rfl ?_
          refine gf_Cell_coroutine h f_Heap_85 hq d_Heap_create_66 ?_
          refine g_iload_n h d_Heap_create_69 rfl rfl ?_
          refine g_dVv h tb_good (c_Cor_clear hq) (ix_lt 8 (by decide) _ hq) (wc_at (by decide) hq) rfl v_Heap_89 nm_Cor_clear rfl ⟨rfl, rfl, Nat.le_of_ble_eq_true rfl, Nat.le_of_ble_eq_true rfl, Nat.zero_le _, Nat.zero_le _⟩ rfl (Nat.le_of_ble_eq_true rfl) d_Heap_create_70 ?_
          refine g_aload_n h d_Heap_create_73 rfl rfl ?_
          refine g_dup h d_Heap_create_74 rfl ?_
          refine gf_Heap_made h f_Heap_28 d_Heap_create_75 ?_
          refine g_iconst (v := 1) h d_Heap_create_78 (by decide) ?_
          refine g_iadd h d_Heap_create_79 ?_
          refine pf_Heap_made h f_Heap_28 d_Heap_create_80 ?_
          refine g_aload_n h d_Heap_create_83 rfl rfl ?_
          refine g_ldc2 (v := 10000000000) h d_Heap_create_84 k_Heap_53 ?_
          refine g_iload_n h d_Heap_create_87 rfl rfl ?_
          refine g_i2l h d_Heap_create_88 ?_
          refine g_ladd h d_Heap_create_89 ?_
          refine pf_Heap_found h f_Heap_42 d_Heap_create_90 ?_
          refine g_iconst (v := 0) h d_Heap_create_93 (by decide) ?_
          exact g_iret h r d_Heap_create_94 (⟨by first | (simp [ccreate, hf]; done) | (simp [ccreate, hf, hf2]; done), by first | (simp [ccreate, hf, c_50]; done) | (simp [ccreate, hf, hf2, c_50]; done)⟩)
        · refine g_aload h d_Heap_create_53 rfl ?_
          refine gf_Cell_table h f_Heap_76 hq d_Heap_create_55 ?_
          refine g_dVv h tb_good (c_Tab_clear hq) (ix_lt 5 (by decide) _ hq) (wc_at (by decide) hq) rfl v_Heap_80 nm_Tab_clear rfl ⟨rfl, rfl, Nat.le_of_ble_eq_true rfl, Nat.le_of_ble_eq_true rfl, Nat.zero_le _, Nat.zero_le _⟩ rfl (Nat.le_of_ble_eq_true rfl) d_Heap_create_58 ?_
          refine g_goto (tgt := 73) h d_Heap_create_61 (by decide) ?_
          refine g_aload_n h d_Heap_create_73 rfl rfl ?_
          refine g_dup h d_Heap_create_74 rfl ?_
          refine gf_Heap_made h f_Heap_28 d_Heap_create_75 ?_
          refine g_iconst (v := 1) h d_Heap_create_78 (by decide) ?_
          refine g_iadd h d_Heap_create_79 ?_
          refine pf_Heap_made h f_Heap_28 d_Heap_create_80 ?_
          refine g_aload_n h d_Heap_create_83 rfl rfl ?_
          refine g_ldc2 (v := 10000000000) h d_Heap_create_84 k_Heap_53 ?_
          refine g_iload_n h d_Heap_create_87 rfl rfl ?_
          refine g_i2l h d_Heap_create_88 ?_
          refine g_ladd h d_Heap_create_89 ?_
          refine pf_Heap_found h f_Heap_42 d_Heap_create_90 ?_
          refine g_iconst (v := 0) h d_Heap_create_93 (by decide) ?_
          exact g_iret h r d_Heap_create_94 (⟨by first | (simp [ccreate, hf]; done) | (simp [ccreate, hf, hf2]; done), by first | (simp [ccreate, hf, c_50]; done) | (simp [ccreate, hf, hf2, c_50]; done)⟩)
      · exact absurd (nI_pos' (by omega)) c_19
    · exact absurd (nI_pos' (by omega)) c_6
end
section
set_option maxHeartbeats 4000000 in
set_option maxRecDepth 100000 in
theorem c_Heap_getting {l : Launch} {D : va_G} {t : Nat → ClassId} {ad : Nat → Nat} {C : CS} {tb k : Int64} (hok : okC C) (htb : okV tb) : Cd l D t ad y_Heap_getting b_Heap_getting 8 (some .int) { frames := 4, cells := 0, slots := 0, locals := 98 } [.ref (ad (ix 1 0)), .long tb, .long k] (C) (some (.int (cgetting C tb k).1)) ((cgetting C tb k).2) := by
  refine ct_of (by decide) (Nat.le_of_ble_eq_true rfl) ?_
  intro Γ _ _ hN h r
  have hok1 : okC (sJ C 4 0 0 (-1000000000000)) := okC_J hok okV_nil
  refine g_at (L' := [some (.ref (ad (ix 1 0))), some (.long tb), none, some (.long k), none, none, none, none]) rfl rfl rfl ?_
  refine g_aload_n h d_Heap_getting_0 rfl rfl ?_
  refine g_iconst (v := 1) h d_Heap_getting_1 (by decide) ?_
  refine g_lload_n h d_Heap_getting_2 rfl rfl ?_
  refine g_dVi h tb_good (c_Heap_isA htb) (ix_lt 1 (by decide) _ (by decide)) (wc_at (by decide) (by decide)) rfl v_Heap_94 nm_Heap_isA rfl ⟨rfl, rfl, Nat.le_of_ble_eq_true rfl, Nat.le_of_ble_eq_true rfl, Nat.zero_le _, Nat.zero_le _⟩ rfl (Nat.le_of_ble_eq_true rfl) d_Heap_getting_3 ?_
  by_cases ha : isA C 1 tb = true
  · rw [if_pos ha]
    obtain ⟨ho, hon, -⟩ := isA_on htb ha
    refine g_if_ne (tgt := 11) h d_Heap_getting_6 (by decide) (fun c_6 => ?_) (fun c_6 => ?_)
    · refine g_aload_n h d_Heap_getting_11 rfl rfl ?_
      refine g_ldc2 (v := -1000000000000) h d_Heap_getting_12 k_Heap_40 ?_
      refine pf_Heap_found h f_Heap_42 d_Heap_getting_15 ?_
      refine g_lload_n h d_Heap_getting_18 rfl rfl ?_
      refine g_ldc2 (v := -1000000000000) h d_Heap_getting_19 k_Heap_40 ?_
      refine g_lc_ne (tgt := 28) h d_Heap_getting_22 d_Heap_getting_23 (by decide) (fun c_23 => ?_) (fun c_23 => ?_)
      · refine g_aload_n h d_Heap_getting_28 rfl rfl ?_
        refine g_lload_n h d_Heap_getting_29 rfl rfl ?_
        refine g_dNi h tb_good (c_TCM_numberOf) (host := "TriColourMachine") nl_Heap_55 cd_TCM_numberOf in_TCM st_TCM_numberOf nm_TCM_numberOf rfl ⟨rfl, rfl, Nat.le_of_ble_eq_true rfl, Nat.le_of_ble_eq_true rfl, Nat.zero_le _, Nat.zero_le _⟩ rfl (Nat.le_of_ble_eq_true rfl) d_Heap_getting_30 ?_
        rw [hon]
        refine g_lload_n h d_Heap_getting_33 rfl rfl ?_
        refine g_lconst (v := 0) h d_Heap_getting_34 (by decide) ?_
        refine g_dVi h tb_good (c_Heap_lastTable (C := (sJ C 4 0 0 (-1000000000000))) (n0 := on tb) hok1 ho rfl) (ix_lt 1 (by decide) _ (by decide)) (wc_at (by decide) (by decide)) rfl v_Heap_98 nm_Heap_lastTable rfl ⟨rfl, rfl, Nat.le_of_ble_eq_true rfl, Nat.le_of_ble_eq_true rfl, Nat.zero_le _, Nat.zero_le _⟩ rfl (Nat.le_of_ble_eq_true rfl) d_Heap_getting_35 ?_
        refine g_istore h d_Heap_getting_38 rfl (by rw [hN]; decide) ?_
        rcases hl : tlast (sJ C 4 0 0 (-1000000000000)) k 0 5 (on tb) with _ | q <;> simp only [enc]
        · refine g_iload h d_Heap_getting_40 rfl ?_
          refine g_if_ge (tgt := 47) h d_Heap_getting_42 (by decide) (fun c_42 => ?_) (fun c_42 => ?_)
          · exact absurd c_42 (by decide)
          · refine g_iconst (v := 2) h d_Heap_getting_45 (by decide) ?_
            exact g_iret h r d_Heap_getting_46 (⟨by first | (simp [cgetting, ha]; done) | (simp [cgetting, ha, c_23]; done) | (simp [cgetting, ha, c_23, hl]; done) | (simp [cgetting, ha, c_23, hl, hf]; done), by first | (simp [cgetting, ha]; done) | (simp [cgetting, ha, c_23]; done) | (simp [cgetting, ha, c_23, hl]; done) | (simp [cgetting, ha, c_23, hl, hf]; done)⟩)
        · have hq := tlast_lt hok1 5 _ _ ho hl
          obtain ⟨⟨P, hP, hp⟩, -⟩ := hok1.1 q hq
          refine g_iload h d_Heap_getting_40 rfl ?_
          refine g_if_ge (tgt := 47) h d_Heap_getting_42 (by decide) (fun c_42 => ?_) (fun c_42 => ?_)
          · refine g_aload_n h d_Heap_getting_47 rfl rfl ?_
            refine gf_Heap_cells h f_Heap_17 d_Heap_getting_48 ?_
            refine g_iload h d_Heap_getting_51 rfl ?_
            refine ga_cells h rfl hq d_Heap_getting_53 ?_
            refine gf_Cell_table h f_Heap_76 (by first | assumption | omega | (show _ < 16; omega)) d_Heap_getting_54 ?_
            refine g_astore h d_Heap_getting_57 rfl (by rw [hN]; decide) ?_
            refine g_aload h d_Heap_getting_59 rfl ?_
            refine g_lload_n h d_Heap_getting_61 rfl rfl ?_
            refine g_dVi h tb_good (c_Tab_find (C := (sJ C 4 0 0 (-1000000000000))) hq hp hP) (ix_lt 5 (by decide) _ (by first | assumption | omega | (show _ < 16; omega))) (wc_at (by decide) (by first | assumption | omega | (show _ < 16; omega))) rfl v_Heap_102 nm_Tab_find rfl ⟨rfl, rfl, Nat.le_of_ble_eq_true rfl, Nat.le_of_ble_eq_true rfl, Nat.zero_le _, Nat.zero_le _⟩ rfl (Nat.le_of_ble_eq_true rfl) d_Heap_getting_62 ?_
            refine g_istore h d_Heap_getting_65 rfl (by rw [hN]; decide) ?_
            rcases hf : tfind (sJ C 4 0 0 (-1000000000000)) q k with _ | w <;> simp only [enc]
            · refine g_iload h d_Heap_getting_67 rfl ?_
              refine g_if_lt (tgt := 84) h d_Heap_getting_69 (by decide) (fun c_69 => ?_) (fun c_69 => ?_)
              · refine g_iconst (v := 0) h d_Heap_getting_84 (by decide) ?_
                exact g_iret h r d_Heap_getting_85 (⟨by first | (simp [cgetting, ha]; done) | (simp [cgetting, ha, c_23]; done) | (simp [cgetting, ha, c_23, hl]; done) | (simp [cgetting, ha, c_23, hl, hf]; done), by first | (simp [cgetting, ha]; done) | (simp [cgetting, ha, c_23]; done) | (simp [cgetting, ha, c_23, hl]; done) | (simp [cgetting, ha, c_23, hl, hf]; done)⟩)
              · exact absurd (by decide) c_69
            · have hw := tfind_lt hp hP hf
              refine g_iload h d_Heap_getting_67 rfl ?_
              refine g_if_lt (tgt := 84) h d_Heap_getting_69 (by decide) (fun c_69 => ?_) (fun c_69 => ?_)
              · exact absurd c_69 (nI_pos (by omega))
              · refine g_aload_n h d_Heap_getting_72 rfl rfl ?_
                refine g_aload h d_Heap_getting_73 rfl ?_
                refine gf_Tab_values h f_Heap_105 (by first | assumption | omega | (show _ < 16; omega)) d_Heap_getting_75 ?_
                refine g_iload h d_Heap_getting_78 rfl ?_
                refine ga_vals h hq rfl (by omega) d_Heap_getting_80 ?_
                refine pf_Heap_found h f_Heap_42 d_Heap_getting_81 ?_
                refine g_iconst (v := 0) h d_Heap_getting_84 (by decide) ?_
                exact g_iret h r d_Heap_getting_85 (⟨by first | (simp [cgetting, ha]; done) | (simp [cgetting, ha, c_23]; done) | (simp [cgetting, ha, c_23, hl]; done) | (simp [cgetting, ha, c_23, hl, hf]; done), by first | (simp [cgetting, ha]; done) | (simp [cgetting, ha, c_23]; done) | (simp [cgetting, ha, c_23, hl]; done) | (simp [cgetting, ha, c_23, hl, hf]; done)⟩)
          · exact absurd (nI_pos' (by omega)) c_42
      · refine g_iconst (v := 0) h d_Heap_getting_26 (by decide) ?_
        exact g_iret h r d_Heap_getting_27 (⟨by first | (simp [cgetting, ha]; done) | (simp [cgetting, ha, c_23]; done) | (simp [cgetting, ha, c_23, hl]; done) | (simp [cgetting, ha, c_23, hl, hf]; done), by first | (simp [cgetting, ha]; done) | (simp [cgetting, ha, c_23]; done) | (simp [cgetting, ha, c_23, hl]; done) | (simp [cgetting, ha, c_23, hl, hf]; done)⟩)
    · exact absurd c_6 (by decide)
  · rw [if_neg ha]
    refine g_if_ne (tgt := 11) h d_Heap_getting_6 (by decide) (fun c_6 => ?_) (fun c_6 => ?_)
    · exact absurd rfl c_6
    · refine g_iconst (v := 1) h d_Heap_getting_9 (by decide) ?_
      exact g_iret h r d_Heap_getting_10 (⟨by first | (simp [cgetting, ha]; done) | (simp [cgetting, ha, c_23]; done) | (simp [cgetting, ha, c_23, hl]; done) | (simp [cgetting, ha, c_23, hl, hf]; done), by first | (simp [cgetting, ha]; done) | (simp [cgetting, ha, c_23]; done) | (simp [cgetting, ha, c_23, hl]; done) | (simp [cgetting, ha, c_23, hl, hf]; done)⟩)
set_option maxHeartbeats 4000000 in
set_option maxRecDepth 100000 in
theorem c_Heap_howMany {l : Launch} {D : va_G} {t : Nat → ClassId} {ad : Nat → Nat} {C : CS} {tb : Int64} (hok : okC C) (htb : okV tb) : Cd l D t ad y_Heap_howMany b_Heap_howMany 3 (some .int) { frames := 2, cells := 0, slots := 0, locals := 44 } [.ref (ad (ix 1 0)), .long tb] (C) (some (.int (chowMany C tb).1)) ((chowMany C tb).2) := by
  refine ct_of (by decide) (Nat.le_of_ble_eq_true rfl) ?_
  intro Γ _ _ hN h r
  refine g_at (L' := [some (.ref (ad (ix 1 0))), some (.long tb), none]) rfl rfl rfl ?_
  refine g_aload_n h d_Heap_howMany_0 rfl rfl ?_
  refine g_iconst (v := 1) h d_Heap_howMany_1 (by decide) ?_
  refine g_lload_n h d_Heap_howMany_2 rfl rfl ?_
  refine g_dVi h tb_good (c_Heap_isA htb) (ix_lt 1 (by decide) _ (by decide)) (wc_at (by decide) (by decide)) rfl v_Heap_94 nm_Heap_isA rfl ⟨rfl, rfl, Nat.le_of_ble_eq_true rfl, Nat.le_of_ble_eq_true rfl, Nat.zero_le _, Nat.zero_le _⟩ rfl (Nat.le_of_ble_eq_true rfl) d_Heap_howMany_3 ?_
  by_cases ha : isA C 1 tb = true
  · rw [if_pos ha]
    obtain ⟨ho, hon, -⟩ := isA_on htb ha
    refine g_if_ne (tgt := 11) h d_Heap_howMany_6 (by decide) (fun c_6 => ?_) (fun c_6 => ?_)
    · refine g_aload_n h d_Heap_howMany_11 rfl rfl ?_
      refine g_aload_n h d_Heap_howMany_12 rfl rfl ?_
      refine gf_Heap_cells h f_Heap_17 d_Heap_howMany_13 ?_
      refine g_lload_n h d_Heap_howMany_16 rfl rfl ?_
      refine g_dNi h tb_good (c_TCM_numberOf) (host := "TriColourMachine") nl_Heap_55 cd_TCM_numberOf in_TCM st_TCM_numberOf nm_TCM_numberOf rfl ⟨rfl, rfl, Nat.le_of_ble_eq_true rfl, Nat.le_of_ble_eq_true rfl, Nat.zero_le _, Nat.zero_le _⟩ rfl (Nat.le_of_ble_eq_true rfl) d_Heap_howMany_17 ?_
      skip
      refine ga_cells h hon ho d_Heap_howMany_20 ?_
      refine gf_Cell_table h f_Heap_76 (by first | assumption | omega | (show _ < 16; omega)) d_Heap_howMany_21 ?_
      refine gf_Tab_pairs h f_Heap_108 (by first | assumption | omega | (show _ < 16; omega)) d_Heap_howMany_24 ?_
      refine g_i2l h d_Heap_howMany_27 ?_
      refine pf_Heap_found h f_Heap_42 d_Heap_howMany_28 ?_
      refine g_iconst (v := 0) h d_Heap_howMany_31 (by decide) ?_
      exact g_iret h r d_Heap_howMany_32 (⟨by simp [chowMany, ha], by simp [chowMany, ha]⟩)
    · exact absurd c_6 (by decide)
  · rw [if_neg ha]
    refine g_if_ne (tgt := 11) h d_Heap_howMany_6 (by decide) (fun c_6 => ?_) (fun c_6 => ?_)
    · exact absurd rfl c_6
    · refine g_iconst (v := 1) h d_Heap_howMany_9 (by decide) ?_
      exact g_iret h r d_Heap_howMany_10 (⟨by simp [chowMany, ha], by simp [chowMany, ha]⟩)
set_option maxHeartbeats 4000000 in
set_option maxRecDepth 100000 in
theorem c_Heap_settingMeta {l : Launch} {D : va_G} {t : Nat → ClassId} {ad : Nat → Nat} {C : CS} {tb m : Int64} (hok : okC C) (htb : okV tb) (hm : okV m) : Cd l D t ad y_Heap_settingMeta b_Heap_settingMeta 6 (some .int) { frames := 2, cells := 0, slots := 0, locals := 44 } [.ref (ad (ix 1 0)), .long tb, .long m] (C) (some (.int (csetMeta C tb m).1)) ((csetMeta C tb m).2) := by
  refine ct_of (by decide) (Nat.le_of_ble_eq_true rfl) ?_
  intro Γ _ _ hN h r
  refine g_at (L' := [some (.ref (ad (ix 1 0))), some (.long tb), none, some (.long m), none, none]) rfl rfl rfl ?_
  refine g_aload_n h d_Heap_settingMeta_0 rfl rfl ?_
  refine g_iconst (v := 1) h d_Heap_settingMeta_1 (by decide) ?_
  refine g_lload_n h d_Heap_settingMeta_2 rfl rfl ?_
  refine g_dVi h tb_good (c_Heap_isA htb) (ix_lt 1 (by decide) _ (by decide)) (wc_at (by decide) (by decide)) rfl v_Heap_94 nm_Heap_isA rfl ⟨rfl, rfl, Nat.le_of_ble_eq_true rfl, Nat.le_of_ble_eq_true rfl, Nat.zero_le _, Nat.zero_le _⟩ rfl (Nat.le_of_ble_eq_true rfl) d_Heap_settingMeta_3 ?_
  by_cases ha : isA C 1 tb = true
  · rw [if_pos ha]
    refine g_if_eq (tgt := 26) h d_Heap_settingMeta_6 (by decide) (fun c_6 => ?_) (fun c_6 => ?_)
    · exact absurd c_6 (by decide)
    · refine g_lload_n h d_Heap_settingMeta_9 rfl rfl ?_
      refine g_ldc2 (v := -1000000000000) h d_Heap_settingMeta_10 k_Heap_40 ?_
      refine g_lc_eq (tgt := 28) h d_Heap_settingMeta_13 d_Heap_settingMeta_14 (by decide) (fun c_14 => ?_) (fun c_14 => ?_)
      · refine g_lload_n h d_Heap_settingMeta_28 rfl rfl ?_
        refine g_dNi h tb_good (c_TCM_numberOf) (host := "TriColourMachine") nl_Heap_55 cd_TCM_numberOf in_TCM st_TCM_numberOf nm_TCM_numberOf rfl ⟨rfl, rfl, Nat.le_of_ble_eq_true rfl, Nat.le_of_ble_eq_true rfl, Nat.zero_le _, Nat.zero_le _⟩ rfl (Nat.le_of_ble_eq_true rfl) d_Heap_settingMeta_29 ?_
        obtain ⟨ho, hon, -⟩ := isA_on htb ha
        rw [hon]
        refine g_istore h d_Heap_settingMeta_32 rfl (by rw [hN]; decide) ?_
        refine g_aload_n h d_Heap_settingMeta_34 rfl rfl ?_
        refine gf_Heap_cells h f_Heap_17 d_Heap_settingMeta_35 ?_
        refine g_iload h d_Heap_settingMeta_38 rfl ?_
        refine ga_cells h rfl ho d_Heap_settingMeta_40 ?_
        refine gf_Cell_table h f_Heap_76 (by first | assumption | omega | (show _ < 16; omega)) d_Heap_settingMeta_41 ?_
        refine g_lload_n h d_Heap_settingMeta_44 rfl rfl ?_
        refine g_ldc2 (v := -1000000000000) h d_Heap_settingMeta_45 k_Heap_40 ?_
        refine g_lc_ne (tgt := 56) h d_Heap_settingMeta_48 d_Heap_settingMeta_49 (by decide) (fun c_49 => ?_) (fun c_49 => ?_)
        · exact absurd c_14 c_49
        · refine g_iconst (v := -1) h d_Heap_settingMeta_52 (by decide) ?_
          refine g_goto (tgt := 60) h d_Heap_settingMeta_53 (by decide) ?_
          refine pf_Tab_meta h f_Heap_121 (by first | assumption | omega | (show _ < 16; omega)) d_Heap_settingMeta_60 ?_
          refine g_aload_n h d_Heap_settingMeta_63 rfl rfl ?_
          refine g_iload h d_Heap_settingMeta_64 rfl ?_
          refine g_dVv h tb_good (c_Heap_touch ho) (ix_lt 1 (by decide) _ (by decide)) (wc_at (by decide) (by decide)) rfl v_Heap_118 nm_Heap_touch rfl ⟨rfl, rfl, Nat.le_of_ble_eq_true rfl, Nat.le_of_ble_eq_true rfl, Nat.zero_le _, Nat.zero_le _⟩ rfl (Nat.le_of_ble_eq_true rfl) d_Heap_settingMeta_66 ?_
          refine g_iconst (v := 0) h d_Heap_settingMeta_69 (by decide) ?_
          exact g_iret h r d_Heap_settingMeta_70 (⟨by first | (simp [csetMeta, ha]; done) | (simp [csetMeta, ha, c_14]; done) | (simp [csetMeta, ha, c_14, hb]; done), by first | (simp [csetMeta, ha]; done) | (simp [csetMeta, ha, c_14]; done) | (simp [csetMeta, ha, c_14, hb]; done) | (simp [csetMeta, ha, c_14, hb, (isA_on hm hb).2.1]; done)⟩)
      · skip
        · refine g_aload_n h d_Heap_settingMeta_17 rfl rfl ?_
          refine g_iconst (v := 1) h d_Heap_settingMeta_18 (by decide) ?_
          refine g_lload_n h d_Heap_settingMeta_19 rfl rfl ?_
          refine g_dVi h tb_good (c_Heap_isA hm) (ix_lt 1 (by decide) _ (by decide)) (wc_at (by decide) (by decide)) rfl v_Heap_94 nm_Heap_isA rfl ⟨rfl, rfl, Nat.le_of_ble_eq_true rfl, Nat.le_of_ble_eq_true rfl, Nat.zero_le _, Nat.zero_le _⟩ rfl (Nat.le_of_ble_eq_true rfl) d_Heap_settingMeta_20 ?_
          by_cases hb : isA C 1 m = true
          · rw [if_pos hb]
            refine g_if_ne (tgt := 28) h d_Heap_settingMeta_23 (by decide) (fun c_23 => ?_) (fun c_23 => ?_)
            · refine g_lload_n h d_Heap_settingMeta_28 rfl rfl ?_
              refine g_dNi h tb_good (c_TCM_numberOf) (host := "TriColourMachine") nl_Heap_55 cd_TCM_numberOf in_TCM st_TCM_numberOf nm_TCM_numberOf rfl ⟨rfl, rfl, Nat.le_of_ble_eq_true rfl, Nat.le_of_ble_eq_true rfl, Nat.zero_le _, Nat.zero_le _⟩ rfl (Nat.le_of_ble_eq_true rfl) d_Heap_settingMeta_29 ?_
              obtain ⟨ho, hon, -⟩ := isA_on htb ha
              rw [hon]
              refine g_istore h d_Heap_settingMeta_32 rfl (by rw [hN]; decide) ?_
              refine g_aload_n h d_Heap_settingMeta_34 rfl rfl ?_
              refine gf_Heap_cells h f_Heap_17 d_Heap_settingMeta_35 ?_
              refine g_iload h d_Heap_settingMeta_38 rfl ?_
              refine ga_cells h rfl ho d_Heap_settingMeta_40 ?_
              refine gf_Cell_table h f_Heap_76 (by first | assumption | omega | (show _ < 16; omega)) d_Heap_settingMeta_41 ?_
              refine g_lload_n h d_Heap_settingMeta_44 rfl rfl ?_
              refine g_ldc2 (v := -1000000000000) h d_Heap_settingMeta_45 k_Heap_40 ?_
              refine g_lc_ne (tgt := 56) h d_Heap_settingMeta_48 d_Heap_settingMeta_49 (by decide) (fun c_49 => ?_) (fun c_49 => ?_)
              · refine g_lload_n h d_Heap_settingMeta_56 rfl rfl ?_
                refine g_dNi h tb_good (c_TCM_numberOf) (host := "TriColourMachine") nl_Heap_55 cd_TCM_numberOf in_TCM st_TCM_numberOf nm_TCM_numberOf rfl ⟨rfl, rfl, Nat.le_of_ble_eq_true rfl, Nat.le_of_ble_eq_true rfl, Nat.zero_le _, Nat.zero_le _⟩ rfl (Nat.le_of_ble_eq_true rfl) d_Heap_settingMeta_57 ?_
                refine pf_Tab_meta h f_Heap_121 (by first | assumption | omega | (show _ < 16; omega)) d_Heap_settingMeta_60 ?_
                refine g_aload_n h d_Heap_settingMeta_63 rfl rfl ?_
                refine g_iload h d_Heap_settingMeta_64 rfl ?_
                refine g_dVv h tb_good (c_Heap_touch ho) (ix_lt 1 (by decide) _ (by decide)) (wc_at (by decide) (by decide)) rfl v_Heap_118 nm_Heap_touch rfl ⟨rfl, rfl, Nat.le_of_ble_eq_true rfl, Nat.le_of_ble_eq_true rfl, Nat.zero_le _, Nat.zero_le _⟩ rfl (Nat.le_of_ble_eq_true rfl) d_Heap_settingMeta_66 ?_
                refine g_iconst (v := 0) h d_Heap_settingMeta_69 (by decide) ?_
                exact g_iret h r d_Heap_settingMeta_70 (⟨by first | (simp [csetMeta, ha]; done) | (simp [csetMeta, ha, c_14]; done) | (simp [csetMeta, ha, c_14, hb]; done), by first | (simp [csetMeta, ha]; done) | (simp [csetMeta, ha, c_14]; done) | (simp [csetMeta, ha, c_14, hb]; done) | (simp [csetMeta, ha, c_14, hb, (isA_on hm hb).2.1]; done)⟩)
              · exact absurd c_49 c_14
            · exact absurd c_23 (by decide)
          · rw [if_neg hb]
            refine g_if_ne (tgt := 28) h d_Heap_settingMeta_23 (by decide) (fun c_23 => ?_) (fun c_23 => ?_)
            · exact absurd rfl c_23
            · refine g_iconst (v := 1) h d_Heap_settingMeta_26 (by decide) ?_
              exact g_iret h r d_Heap_settingMeta_27 (⟨by first | (simp [csetMeta, ha]; done) | (simp [csetMeta, ha, c_14]; done) | (simp [csetMeta, ha, c_14, hb]; done), by first | (simp [csetMeta, ha]; done) | (simp [csetMeta, ha, c_14]; done) | (simp [csetMeta, ha, c_14, hb]; done) | (simp [csetMeta, ha, c_14, hb, (isA_on hm hb).2.1]; done)⟩)
  · rw [if_neg ha]
    refine g_if_eq (tgt := 26) h d_Heap_settingMeta_6 (by decide) (fun c_6 => ?_) (fun c_6 => ?_)
    · refine g_iconst (v := 1) h d_Heap_settingMeta_26 (by decide) ?_
      exact g_iret h r d_Heap_settingMeta_27 (⟨by first | (simp [csetMeta, ha]; done) | (simp [csetMeta, ha, c_14]; done) | (simp [csetMeta, ha, c_14, hb]; done), by first | (simp [csetMeta, ha]; done) | (simp [csetMeta, ha, c_14]; done) | (simp [csetMeta, ha, c_14, hb]; done) | (simp [csetMeta, ha, c_14, hb, (isA_on hm hb).2.1]; done)⟩)
    · exact absurd rfl c_6
theorem ac_l : Cond.methodLink "TriColourMachine$Table" 25 arraycopyName ∈ TB := tb_mem 531 (by decide +kernel) rfl
theorem ac_n : Cond.native arraycopyName ∈ TB := tb_mem 533 (by decide +kernel) rfl
theorem ac_s : Cond.static arraycopyName ∈ TB := tb_mem 532 (by decide +kernel) rfl
theorem ac_i : Cond.initialized "java/lang/System" ∈ TB := tb_mem 58 (by decide +kernel) rfl
set_option maxHeartbeats 4000000 in
set_option maxRecDepth 100000 in
theorem c_Tab_takeAway {l : Launch} {D : va_G} {t : Nat → ClassId} {ad : Nat → Nat} {C : CS} {n P j : Nat} (hn : n < 16) (hp : C.1 2 n = nI P) (hP : P ≤ 6) (hj : j < P) : Cd l D t ad y_Tab_takeAway b_Tab_takeAway 3 none { frames := 1, cells := 0, slots := 0, locals := 60 } [.ref (ad (ix 5 n)), .int (nI j)] (C) (none) (ttake C n j) := by
  refine ct_of (by decide) (Nat.le_of_ble_eq_true rfl) ?_
  intro Γ _ _ hN h r
  have hc := cPairs_eq hp hP
  have hb : nI P - nI j - 1 = nI (P - j - 1) := by rw [pk_sub (by omega), show P - j = (P - j - 1) + 1 by omega, nI_pred]; rfl
  refine g_at (L' := [some (.ref (ad (ix 5 n))), some (.int (nI j)), none]) rfl rfl rfl ?_
  refine g_aload_n h d_Tab_takeAway_0 rfl rfl ?_
  refine gf_Tab_pairs h f_Tab_18 (by first | assumption | omega | (show _ < 16; omega)) d_Tab_takeAway_1 ?_
  refine g_iload_n h d_Tab_takeAway_4 rfl rfl ?_
  refine g_isub h d_Tab_takeAway_5 ?_
  refine g_iconst (v := 1) h d_Tab_takeAway_6 (by decide) ?_
  refine g_isub h d_Tab_takeAway_7 ?_
  rw [hp, hb]
  refine g_istore_n h d_Tab_takeAway_8 rfl rfl (by rw [hN]; decide) ?_
  refine g_aload_n h d_Tab_takeAway_9 rfl rfl ?_
  refine gf_Tab_keys h f_Tab_9 (by first | assumption | omega | (show _ < 16; omega)) d_Tab_takeAway_10 ?_
  refine g_iload_n h d_Tab_takeAway_13 rfl rfl ?_
  refine g_iconst (v := 1) h d_Tab_takeAway_14 (by decide) ?_
  refine g_iadd h d_Tab_takeAway_15 ?_
  refine g_aload_n h d_Tab_takeAway_16 rfl rfl ?_
  refine gf_Tab_keys h f_Tab_9 (by first | assumption | omega | (show _ < 16; omega)) d_Tab_takeAway_17 ?_
  refine g_iload_n h d_Tab_takeAway_20 rfl rfl ?_
  refine g_iload_n h d_Tab_takeAway_21 rfl rfl ?_
  refine pc_row h (cd := 6) (f := 1) rfl (by decide) ac_l ac_n ac_s ac_i (sp := j + 1) (dp := j) (m := P - j - 1) hn (fun _ => rfl) (by omega) (by omega) (nI_1 j) rfl rfl (Nat.le_of_ble_eq_true rfl) (Nat.le_of_ble_eq_true rfl) d_Tab_takeAway_22 ?_
  refine g_aload_n h d_Tab_takeAway_25 rfl rfl ?_
  refine gf_Tab_values h f_Tab_15 (by first | assumption | omega | (show _ < 16; omega)) d_Tab_takeAway_26 ?_
  refine g_iload_n h d_Tab_takeAway_29 rfl rfl ?_
  refine g_iconst (v := 1) h d_Tab_takeAway_30 (by decide) ?_
  refine g_iadd h d_Tab_takeAway_31 ?_
  refine g_aload_n h d_Tab_takeAway_32 rfl rfl ?_
  refine gf_Tab_values h f_Tab_15 (by first | assumption | omega | (show _ < 16; omega)) d_Tab_takeAway_33 ?_
  refine g_iload_n h d_Tab_takeAway_36 rfl rfl ?_
  refine g_iload_n h d_Tab_takeAway_37 rfl rfl ?_
  refine pc_row h (cd := 7) (f := 2) rfl (by decide) ac_l ac_n ac_s ac_i (sp := j + 1) (dp := j) (m := P - j - 1) hn (fun _ => rfl) (by omega) (by omega) (nI_1 j) rfl rfl (Nat.le_of_ble_eq_true rfl) (Nat.le_of_ble_eq_true rfl) d_Tab_takeAway_38 ?_
  refine g_aload_n h d_Tab_takeAway_41 rfl rfl ?_
  refine g_dup h d_Tab_takeAway_42 rfl ?_
  refine gf_Tab_pairs h f_Tab_18 (by first | assumption | omega | (show _ < 16; omega)) d_Tab_takeAway_43 ?_
  simp only [sI_1, sI_2, sJ_1, sJ_2, sJ_3, sR_1, sR_2, sR_3, Nat.reduceEqDiff, Nat.zero_ne_one, Nat.one_ne_zero, Nat.succ_ne_zero, reduceCtorEq, false_and, if_false, true_and, and_self, if_true, and_true, and_false, reduceIte]
  refine g_iconst (v := 1) h d_Tab_takeAway_46 (by decide) ?_
  refine g_isub h d_Tab_takeAway_47 ?_
  refine pf_Tab_pairs h f_Tab_18 (by first | assumption | omega | (show _ < 16; omega)) d_Tab_takeAway_48 ?_
  exact g_vret h r d_Tab_takeAway_51 (⟨rfl, by unfold ttake; rw [hc]; rfl⟩)
set_option maxHeartbeats 4000000 in
set_option maxRecDepth 100000 in
theorem c_Heap_setting {l : Launch} {D : va_G} {t : Nat → ClassId} {ad : Nat → Nat} {C : CS} {tb k v : Int64} (hok : okC C) (htb : okV tb) : Cd l D t ad y_Heap_setting b_Heap_setting 10 (some .int) { frames := 4, cells := 0, slots := 0, locals := 98 } [.ref (ad (ix 1 0)), .long tb, .long k, .long v] (C) (some (.int (csetting C tb k v).1)) ((csetting C tb k v).2) := by
  refine ct_of (by decide) (Nat.le_of_ble_eq_true rfl) ?_
  intro Γ _ _ hN h r
  refine g_at (L' := [some (.ref (ad (ix 1 0))), some (.long tb), none, some (.long k), none, some (.long v), none, none, none, none]) rfl rfl rfl ?_
  refine g_aload_n h d_Heap_setting_0 rfl rfl ?_
  refine g_iconst (v := 1) h d_Heap_setting_1 (by decide) ?_
  refine g_lload_n h d_Heap_setting_2 rfl rfl ?_
  refine g_dVi h tb_good (c_Heap_isA htb) (ix_lt 1 (by decide) _ (by decide)) (wc_at (by decide) (by decide)) rfl v_Heap_94 nm_Heap_isA rfl ⟨rfl, rfl, Nat.le_of_ble_eq_true rfl, Nat.le_of_ble_eq_true rfl, Nat.zero_le _, Nat.zero_le _⟩ rfl (Nat.le_of_ble_eq_true rfl) d_Heap_setting_3 ?_
  by_cases ha : isA C 1 tb = true
  · rw [if_pos ha]
    obtain ⟨ho, hon, -⟩ := isA_on htb ha
    refine g_if_eq (tgt := 17) h d_Heap_setting_6 (by decide) (fun c_6 => ?_) (fun c_6 => ?_)
    · exact absurd c_6 (by decide)
    · refine g_lload_n h d_Heap_setting_9 rfl rfl ?_
      refine g_ldc2 (v := -1000000000000) h d_Heap_setting_10 k_Heap_40 ?_
      refine g_lc_ne (tgt := 19) h d_Heap_setting_13 d_Heap_setting_14 (by decide) (fun c_14 => ?_) (fun c_14 => ?_)
      · refine g_aload_n h d_Heap_setting_19 rfl rfl ?_
        refine g_lload_n h d_Heap_setting_20 rfl rfl ?_
        refine g_dNi h tb_good (c_TCM_numberOf) (host := "TriColourMachine") nl_Heap_55 cd_TCM_numberOf in_TCM st_TCM_numberOf nm_TCM_numberOf rfl ⟨rfl, rfl, Nat.le_of_ble_eq_true rfl, Nat.le_of_ble_eq_true rfl, Nat.zero_le _, Nat.zero_le _⟩ rfl (Nat.le_of_ble_eq_true rfl) d_Heap_setting_21 ?_
        rw [hon]
        refine g_lload_n h d_Heap_setting_24 rfl rfl ?_
        refine g_lconst (v := 1) h d_Heap_setting_25 (by decide) ?_
        refine g_dVi h tb_good (c_Heap_lastTable (n0 := on tb) hok ho rfl) (ix_lt 1 (by decide) _ (by decide)) (wc_at (by decide) (by decide)) rfl v_Heap_98 nm_Heap_lastTable rfl ⟨rfl, rfl, Nat.le_of_ble_eq_true rfl, Nat.le_of_ble_eq_true rfl, Nat.zero_le _, Nat.zero_le _⟩ rfl (Nat.le_of_ble_eq_true rfl) d_Heap_setting_26 ?_
        refine g_istore h d_Heap_setting_29 rfl (by rw [hN]; decide) ?_
        rcases hl : tlast C k 1 5 (on tb) with _ | q <;> simp only [enc]
        · refine g_iload h d_Heap_setting_31 rfl ?_
          refine g_if_ge (tgt := 38) h d_Heap_setting_33 (by decide) (fun c_33 => ?_) (fun c_33 => ?_)
          · exact absurd c_33 (by decide)
          · refine g_iconst (v := 2) h d_Heap_setting_36 (by decide) ?_
            exact g_iret h r d_Heap_setting_37 (⟨by first | (simp [csetting, ha]; done) | (simp [csetting, ha, c_14]; done) | (simp [csetting, ha, c_14, hl]; done) | (simp [csetting, ha, c_14, hl, hf, c_69]; done) | (simp [csetting, ha, c_14, hl, hf, c_69, hp, c_86]; done) | (simp [csetting, ha, c_14, hl, hf, c_113]; done), by first | (simp [csetting, ha]; done) | (simp [csetting, ha, c_14]; done) | (simp [csetting, ha, c_14, hl]; done) | (simp [csetting, ha, c_14, hl, hf, c_69]; done) | (simp [csetting, ha, c_14, hl, hf, c_69, hp, c_86]; done) | (simp [csetting, ha, c_14, hl, hf, c_113]; done)⟩)
        · have hq := tlast_lt hok 5 _ _ ho hl
          obtain ⟨⟨P, hP, hp⟩, -⟩ := hok.1 q hq
          refine g_iload h d_Heap_setting_31 rfl ?_
          refine g_if_ge (tgt := 38) h d_Heap_setting_33 (by decide) (fun c_33 => ?_) (fun c_33 => ?_)
          · refine g_aload_n h d_Heap_setting_38 rfl rfl ?_
            refine gf_Heap_cells h f_Heap_17 d_Heap_setting_39 ?_
            refine g_iload h d_Heap_setting_42 rfl ?_
            refine ga_cells h rfl hq d_Heap_setting_44 ?_
            refine gf_Cell_table h f_Heap_76 (by first | assumption | omega | (show _ < 16; omega)) d_Heap_setting_45 ?_
            refine g_astore h d_Heap_setting_48 rfl (by rw [hN]; decide) ?_
            refine g_aload h d_Heap_setting_50 rfl ?_
            refine g_lload_n h d_Heap_setting_52 rfl rfl ?_
            refine g_dVi h tb_good (c_Tab_find hq hp hP) (ix_lt 5 (by decide) _ (by first | assumption | omega | (show _ < 16; omega))) (wc_at (by decide) (by first | assumption | omega | (show _ < 16; omega))) rfl v_Heap_102 nm_Tab_find rfl ⟨rfl, rfl, Nat.le_of_ble_eq_true rfl, Nat.le_of_ble_eq_true rfl, Nat.zero_le _, Nat.zero_le _⟩ rfl (Nat.le_of_ble_eq_true rfl) d_Heap_setting_53 ?_
            refine g_istore h d_Heap_setting_56 rfl (by rw [hN]; decide) ?_
            rcases hf : tfind C q k with _ | w <;> simp only [enc]
            · refine g_iload h d_Heap_setting_58 rfl ?_
              refine g_if_ge (tgt := 74) h d_Heap_setting_60 (by decide) (fun c_60 => ?_) (fun c_60 => ?_)
              · exact absurd c_60 (by decide)
              · refine g_lload h d_Heap_setting_63 rfl ?_
                refine g_ldc2 (v := -1000000000000) h d_Heap_setting_65 k_Heap_40 ?_
                refine g_lc_ne (tgt := 74) h d_Heap_setting_68 d_Heap_setting_69 (by decide) (fun c_69 => ?_) (fun c_69 => ?_)
                · refine g_iload h d_Heap_setting_74 rfl ?_
                  refine g_if_ge (tgt := 91) h d_Heap_setting_76 (by decide) (fun c_76 => ?_) (fun c_76 => ?_)
                  · exact absurd c_76 (by decide)
                  · refine g_aload h d_Heap_setting_79 rfl ?_
                    refine gf_Tab_pairs h f_Heap_108 (by first | assumption | omega | (show _ < 16; omega)) d_Heap_setting_81 ?_
                    refine g_bipush (v := 6) h d_Heap_setting_84 (by decide) ?_
                    rw [hp]
                    refine g_icmp_ne (tgt := 91) h d_Heap_setting_86 (by decide) (fun c_86 => ?_) (fun c_86 => ?_)
                    · refine g_iload h d_Heap_setting_91 rfl ?_
                      refine g_if_ge (tgt := 107) h d_Heap_setting_93 (by decide) (fun c_93 => ?_) (fun c_93 => ?_)
                      · exact absurd c_93 (by decide)
                      · have hP6 := lt6 hP c_86
                        refine g_aload h d_Heap_setting_96 rfl ?_
                        refine g_lload_n h d_Heap_setting_98 rfl rfl ?_
                        refine g_lload h d_Heap_setting_99 rfl ?_
                        refine g_dVv h tb_good (c_Tab_append hq hp hP6) (ix_lt 5 (by decide) _ (by first | assumption | omega | (show _ < 16; omega))) (wc_at (by decide) (by first | assumption | omega | (show _ < 16; omega))) rfl v_Heap_111 nm_Tab_append rfl ⟨rfl, rfl, Nat.le_of_ble_eq_true rfl, Nat.le_of_ble_eq_true rfl, Nat.zero_le _, Nat.zero_le _⟩ rfl (Nat.le_of_ble_eq_true rfl) d_Heap_setting_101 ?_
                        refine g_goto (tgt := 136) h d_Heap_setting_104 (by decide) ?_
                        refine g_aload_n h d_Heap_setting_136 rfl rfl ?_
                        refine g_iload h d_Heap_setting_137 rfl ?_
                        refine g_dVv h tb_good (c_Heap_touch hq) (ix_lt 1 (by decide) _ (by decide)) (wc_at (by decide) (by decide)) rfl v_Heap_118 nm_Heap_touch rfl ⟨rfl, rfl, Nat.le_of_ble_eq_true rfl, Nat.le_of_ble_eq_true rfl, Nat.zero_le _, Nat.zero_le _⟩ rfl (Nat.le_of_ble_eq_true rfl) d_Heap_setting_139 ?_
                        refine g_iconst (v := 0) h d_Heap_setting_142 (by decide) ?_
                        exact g_iret h r d_Heap_setting_143 (⟨by first | (simp [csetting, ha]; done) | (simp [csetting, ha, c_14]; done) | (simp [csetting, ha, c_14, hl]; done) | (simp [csetting, ha, c_14, hl, hf, c_69]; done) | (simp [csetting, ha, c_14, hl, hf, c_69, hp, c_86]; done) | (simp [csetting, ha, c_14, hl, hf, c_113]; done), by first | (simp [csetting, ha]; done) | (simp [csetting, ha, c_14]; done) | (simp [csetting, ha, c_14, hl]; done) | (simp [csetting, ha, c_14, hl, hf, c_69]; done) | (simp [csetting, ha, c_14, hl, hf, c_69, hp, c_86]; done) | (simp [csetting, ha, c_14, hl, hf, c_113]; done)⟩)
                    · refine g_iconst (v := 3) h d_Heap_setting_89 (by decide) ?_
                      exact g_iret h r d_Heap_setting_90 (⟨by first | (simp [csetting, ha]; done) | (simp [csetting, ha, c_14]; done) | (simp [csetting, ha, c_14, hl]; done) | (simp [csetting, ha, c_14, hl, hf, c_69]; done) | (simp [csetting, ha, c_14, hl, hf, c_69, hp, c_86]; done) | (simp [csetting, ha, c_14, hl, hf, c_113]; done), by first | (simp [csetting, ha]; done) | (simp [csetting, ha, c_14]; done) | (simp [csetting, ha, c_14, hl]; done) | (simp [csetting, ha, c_14, hl, hf, c_69]; done) | (simp [csetting, ha, c_14, hl, hf, c_69, hp, c_86]; done) | (simp [csetting, ha, c_14, hl, hf, c_113]; done)⟩)
                · refine g_iconst (v := 0) h d_Heap_setting_72 (by decide) ?_
                  exact g_iret h r d_Heap_setting_73 (⟨by first | (simp [csetting, ha]; done) | (simp [csetting, ha, c_14]; done) | (simp [csetting, ha, c_14, hl]; done) | (simp [csetting, ha, c_14, hl, hf, c_69]; done) | (simp [csetting, ha, c_14, hl, hf, c_69, hp, c_86]; done) | (simp [csetting, ha, c_14, hl, hf, c_113]; done), by first | (simp [csetting, ha]; done) | (simp [csetting, ha, c_14]; done) | (simp [csetting, ha, c_14, hl]; done) | (simp [csetting, ha, c_14, hl, hf, c_69]; done) | (simp [csetting, ha, c_14, hl, hf, c_69, hp, c_86]; done) | (simp [csetting, ha, c_14, hl, hf, c_113]; done)⟩)
            · have hw := tfind_lt hp hP hf
              refine g_iload h d_Heap_setting_58 rfl ?_
              refine g_if_ge (tgt := 74) h d_Heap_setting_60 (by decide) (fun c_60 => ?_) (fun c_60 => ?_)
              · refine g_iload h d_Heap_setting_74 rfl ?_
                refine g_if_ge (tgt := 91) h d_Heap_setting_76 (by decide) (fun c_76 => ?_) (fun c_76 => ?_)
                · refine g_iload h d_Heap_setting_91 rfl ?_
                  refine g_if_ge (tgt := 107) h d_Heap_setting_93 (by decide) (fun c_93 => ?_) (fun c_93 => ?_)
                  · refine g_lload h d_Heap_setting_107 rfl ?_
                    refine g_ldc2 (v := -1000000000000) h d_Heap_setting_109 k_Heap_40 ?_
                    refine g_lc_ne (tgt := 126) h d_Heap_setting_112 d_Heap_setting_113 (by decide) (fun c_113 => ?_) (fun c_113 => ?_)
                    · refine g_aload h d_Heap_setting_126 rfl ?_
                      refine gf_Tab_values h f_Heap_105 (by first | assumption | omega | (show _ < 16; omega)) d_Heap_setting_128 ?_
                      refine g_iload h d_Heap_setting_131 rfl ?_
                      refine g_lload h d_Heap_setting_133 rfl ?_
                      refine pa_vals h hq rfl (by omega) d_Heap_setting_135 ?_
                      refine g_aload_n h d_Heap_setting_136 rfl rfl ?_
                      refine g_iload h d_Heap_setting_137 rfl ?_
                      refine g_dVv h tb_good (c_Heap_touch hq) (ix_lt 1 (by decide) _ (by decide)) (wc_at (by decide) (by decide)) rfl v_Heap_118 nm_Heap_touch rfl ⟨rfl, rfl, Nat.le_of_ble_eq_true rfl, Nat.le_of_ble_eq_true rfl, Nat.zero_le _, Nat.zero_le _⟩ rfl (Nat.le_of_ble_eq_true rfl) d_Heap_setting_139 ?_
                      refine g_iconst (v := 0) h d_Heap_setting_142 (by decide) ?_
                      exact g_iret h r d_Heap_setting_143 (⟨by first | (simp [csetting, ha]; done) | (simp [csetting, ha, c_14]; done) | (simp [csetting, ha, c_14, hl]; done) | (simp [csetting, ha, c_14, hl, hf, c_69]; done) | (simp [csetting, ha, c_14, hl, hf, c_69, hp, c_86]; done) | (simp [csetting, ha, c_14, hl, hf, c_113]; done), by first | (simp [csetting, ha]; done) | (simp [csetting, ha, c_14]; done) | (simp [csetting, ha, c_14, hl]; done) | (simp [csetting, ha, c_14, hl, hf, c_69]; done) | (simp [csetting, ha, c_14, hl, hf, c_69, hp, c_86]; done) | (simp [csetting, ha, c_14, hl, hf, c_113]; done)⟩)
                    · refine g_aload h d_Heap_setting_116 rfl ?_
                      refine g_iload h d_Heap_setting_118 rfl ?_
                      refine g_dVv h tb_good (c_Tab_takeAway hq hp hP hw) (ix_lt 5 (by decide) _ (by first | assumption | omega | (show _ < 16; omega))) (wc_at (by decide) (by first | assumption | omega | (show _ < 16; omega))) rfl v_Heap_115 nm_Tab_takeAway rfl ⟨rfl, rfl, Nat.le_of_ble_eq_true rfl, Nat.le_of_ble_eq_true rfl, Nat.zero_le _, Nat.zero_le _⟩ rfl (Nat.le_of_ble_eq_true rfl) d_Heap_setting_120 ?_
                      refine g_goto (tgt := 136) h d_Heap_setting_123 (by decide) ?_
                      refine g_aload_n h d_Heap_setting_136 rfl rfl ?_
                      refine g_iload h d_Heap_setting_137 rfl ?_
                      refine g_dVv h tb_good (c_Heap_touch hq) (ix_lt 1 (by decide) _ (by decide)) (wc_at (by decide) (by decide)) rfl v_Heap_118 nm_Heap_touch rfl ⟨rfl, rfl, Nat.le_of_ble_eq_true rfl, Nat.le_of_ble_eq_true rfl, Nat.zero_le _, Nat.zero_le _⟩ rfl (Nat.le_of_ble_eq_true rfl) d_Heap_setting_139 ?_
                      refine g_iconst (v := 0) h d_Heap_setting_142 (by decide) ?_
                      exact g_iret h r d_Heap_setting_143 (⟨by first | (simp [csetting, ha]; done) | (simp [csetting, ha, c_14]; done) | (simp [csetting, ha, c_14, hl]; done) | (simp [csetting, ha, c_14, hl, hf, c_69]; done) | (simp [csetting, ha, c_14, hl, hf, c_69, hp, c_86]; done) | (simp [csetting, ha, c_14, hl, hf, c_113]; done), by first | (simp [csetting, ha]; done) | (simp [csetting, ha, c_14]; done) | (simp [csetting, ha, c_14, hl]; done) | (simp [csetting, ha, c_14, hl, hf, c_69]; done) | (simp [csetting, ha, c_14, hl, hf, c_69, hp, c_86]; done) | (simp [csetting, ha, c_14, hl, hf, c_113]; done)⟩)
                  · exact absurd (nI_pos' (by omega)) c_93
                · exact absurd (nI_pos' (by omega)) c_76
              · exact absurd (nI_pos' (by omega)) c_60
          · exact absurd (nI_pos' (by omega)) c_33
      · refine g_iconst (v := 1) h d_Heap_setting_17 (by decide) ?_
        exact g_iret h r d_Heap_setting_18 (⟨by first | (simp [csetting, ha]; done) | (simp [csetting, ha, c_14]; done) | (simp [csetting, ha, c_14, hl]; done) | (simp [csetting, ha, c_14, hl, hf, c_69]; done) | (simp [csetting, ha, c_14, hl, hf, c_69, hp, c_86]; done) | (simp [csetting, ha, c_14, hl, hf, c_113]; done), by first | (simp [csetting, ha]; done) | (simp [csetting, ha, c_14]; done) | (simp [csetting, ha, c_14, hl]; done) | (simp [csetting, ha, c_14, hl, hf, c_69]; done) | (simp [csetting, ha, c_14, hl, hf, c_69, hp, c_86]; done) | (simp [csetting, ha, c_14, hl, hf, c_113]; done)⟩)
  · rw [if_neg ha]
    refine g_if_eq (tgt := 17) h d_Heap_setting_6 (by decide) (fun c_6 => ?_) (fun c_6 => ?_)
    · refine g_iconst (v := 1) h d_Heap_setting_17 (by decide) ?_
      exact g_iret h r d_Heap_setting_18 (⟨by first | (simp [csetting, ha]; done) | (simp [csetting, ha, c_14]; done) | (simp [csetting, ha, c_14, hl]; done) | (simp [csetting, ha, c_14, hl, hf, c_69]; done) | (simp [csetting, ha, c_14, hl, hf, c_69, hp, c_86]; done) | (simp [csetting, ha, c_14, hl, hf, c_113]; done), by first | (simp [csetting, ha]; done) | (simp [csetting, ha, c_14]; done) | (simp [csetting, ha, c_14, hl]; done) | (simp [csetting, ha, c_14, hl, hf, c_69]; done) | (simp [csetting, ha, c_14, hl, hf, c_69, hp, c_86]; done) | (simp [csetting, ha, c_14, hl, hf, c_113]; done)⟩)
    · exact absurd rfl c_6
end
section
set_option maxHeartbeats 4000000 in
set_option maxRecDepth 100000 in
theorem c_Heap_keyAfter {l : Launch} {D : va_G} {t : Nat → ClassId} {ad : Nat → Nat} {C : CS} {tb k : Int64} (hok : okC C) (htb : okV tb) : Cd l D t ad y_Heap_keyAfter b_Heap_keyAfter 7 (some .int) { frames := 2, cells := 0, slots := 0, locals := 44 } [.ref (ad (ix 1 0)), .long tb, .long k] (C) (some (.int (ckeyAfter C tb k).1)) ((ckeyAfter C tb k).2) := by
  refine ct_of (by decide) (Nat.le_of_ble_eq_true rfl) ?_
  intro Γ _ _ hN h r
  refine g_at (L' := [some (.ref (ad (ix 1 0))), some (.long tb), none, some (.long k), none, none, none]) rfl rfl rfl ?_
  refine g_aload_n h d_Heap_keyAfter_0 rfl rfl ?_
  refine g_iconst (v := 1) h d_Heap_keyAfter_1 (by decide) ?_
  refine g_lload_n h d_Heap_keyAfter_2 rfl rfl ?_
  refine g_dVi h tb_good (c_Heap_isA htb) (ix_lt 1 (by decide) _ (by decide)) (wc_at (by decide) (by decide)) rfl v_Heap_94 nm_Heap_isA rfl ⟨rfl, rfl, Nat.le_of_ble_eq_true rfl, Nat.le_of_ble_eq_true rfl, Nat.zero_le _, Nat.zero_le _⟩ rfl (Nat.le_of_ble_eq_true rfl) d_Heap_keyAfter_3 ?_
  by_cases ha : isA C 1 tb = true
  · rw [if_pos ha]
    obtain ⟨ho, hon, -⟩ := isA_on htb ha
    obtain ⟨⟨P, hP, hp⟩, -⟩ := hok.1 _ ho
    have hc := cPairs_eq hp hP
    refine g_if_ne (tgt := 11) h d_Heap_keyAfter_6 (by decide) (fun c_6 => ?_) (fun c_6 => ?_)
    · refine g_aload_n h d_Heap_keyAfter_11 rfl rfl ?_
      refine gf_Heap_cells h f_Heap_17 d_Heap_keyAfter_12 ?_
      refine g_lload_n h d_Heap_keyAfter_15 rfl rfl ?_
      refine g_dNi h tb_good (c_TCM_numberOf) (host := "TriColourMachine") nl_Heap_55 cd_TCM_numberOf in_TCM st_TCM_numberOf nm_TCM_numberOf rfl ⟨rfl, rfl, Nat.le_of_ble_eq_true rfl, Nat.le_of_ble_eq_true rfl, Nat.zero_le _, Nat.zero_le _⟩ rfl (Nat.le_of_ble_eq_true rfl) d_Heap_keyAfter_16 ?_
      refine ga_cells h hon ho d_Heap_keyAfter_19 ?_
      refine gf_Cell_table h f_Heap_76 (by first | assumption | omega | (show _ < 16; omega)) d_Heap_keyAfter_20 ?_
      refine g_astore h d_Heap_keyAfter_23 rfl (by rw [hN]; decide) ?_
      refine g_lload_n h d_Heap_keyAfter_25 rfl rfl ?_
      refine g_ldc2 (v := -1000000000000) h d_Heap_keyAfter_26 k_Heap_40 ?_
      refine g_lc_ne (tgt := 37) h d_Heap_keyAfter_29 d_Heap_keyAfter_30 (by decide) (fun c_30 => ?_) (fun c_30 => ?_)
      · skip
        · refine g_aload h d_Heap_keyAfter_37 rfl ?_
          refine g_lload_n h d_Heap_keyAfter_39 rfl rfl ?_
          refine g_dVi h tb_good (c_Tab_find ho hp hP) (ix_lt 5 (by decide) _ (by first | assumption | omega | (show _ < 16; omega))) (wc_at (by decide) (by first | assumption | omega | (show _ < 16; omega))) rfl v_Heap_102 nm_Tab_find rfl ⟨rfl, rfl, Nat.le_of_ble_eq_true rfl, Nat.le_of_ble_eq_true rfl, Nat.zero_le _, Nat.zero_le _⟩ rfl (Nat.le_of_ble_eq_true rfl) d_Heap_keyAfter_40 ?_
          refine g_istore h d_Heap_keyAfter_43 rfl (by rw [hN]; decide) ?_
          rcases hf : tfind C (on tb) k with _ | w <;> simp only [enc]
          · refine g_iload h d_Heap_keyAfter_45 rfl ?_
            refine g_if_ge (tgt := 60) h d_Heap_keyAfter_47 (by decide) (fun c_47 => ?_) (fun c_47 => ?_)
            · exact absurd c_47 (by decide)
            · refine g_lload_n h d_Heap_keyAfter_50 rfl rfl ?_
              refine g_ldc2 (v := -1000000000000) h d_Heap_keyAfter_51 k_Heap_40 ?_
              refine g_lc_eq (tgt := 60) h d_Heap_keyAfter_54 d_Heap_keyAfter_55 (by decide) (fun c_55 => ?_) (fun c_55 => ?_)
              · exact absurd c_55 c_30
              · refine g_iconst (v := 1) h d_Heap_keyAfter_58 (by decide) ?_
                exact g_iret h r d_Heap_keyAfter_59 (⟨by simp [ckeyAfter, ha, c_30, hf], by simp [ckeyAfter, ha, c_30, hf]⟩)
          · have hw := tfind_lt hp hP hf
            refine g_iload h d_Heap_keyAfter_45 rfl ?_
            refine g_if_ge (tgt := 60) h d_Heap_keyAfter_47 (by decide) (fun c_47 => ?_) (fun c_47 => ?_)
            · refine g_aload_n h d_Heap_keyAfter_60 rfl rfl ?_
              refine g_iload h d_Heap_keyAfter_61 rfl ?_
              refine g_iconst (v := 1) h d_Heap_keyAfter_63 (by decide) ?_
              refine g_iadd h d_Heap_keyAfter_64 ?_
              refine g_aload h d_Heap_keyAfter_65 rfl ?_
              refine gf_Tab_pairs h f_Heap_108 (by first | assumption | omega | (show _ < 16; omega)) d_Heap_keyAfter_67 ?_
              rw [hp, nI_1]
              refine g_icmp_ge (tgt := 86) h d_Heap_keyAfter_70 (by decide) (fun c_70 => ?_) (fun c_70 => ?_)
              · have hlt : ¬ w + 1 < P := fun z => nI_ge z (by omega) c_70
                refine g_ldc2 (v := -1000000000000) h d_Heap_keyAfter_86 k_Heap_40 ?_
                refine pf_Heap_found h f_Heap_42 d_Heap_keyAfter_89 ?_
                refine g_iconst (v := 0) h d_Heap_keyAfter_92 (by decide) ?_
                exact g_iret h r d_Heap_keyAfter_93 (⟨by simp [ckeyAfter, ha, c_30, hf], by simp [ckeyAfter, ha, c_30, hf, hc, hlt]⟩)
              · have hlt : w + 1 < P := by
                  rcases Nat.lt_or_ge (w + 1) P with z | z
                  · exact z
                  · exact absurd (nI_le z (by omega)) c_70
                refine g_aload h d_Heap_keyAfter_73 rfl ?_
                refine gf_Tab_keys h f_Heap_128 (by first | assumption | omega | (show _ < 16; omega)) d_Heap_keyAfter_75 ?_
                refine g_iload h d_Heap_keyAfter_78 rfl ?_
                refine g_iconst (v := 1) h d_Heap_keyAfter_80 (by decide) ?_
                refine g_iadd h d_Heap_keyAfter_81 ?_
                refine ga_keys h ho (nI_1 w) (by omega) d_Heap_keyAfter_82 ?_
                refine g_goto (tgt := 89) h d_Heap_keyAfter_83 (by decide) ?_
                refine pf_Heap_found h f_Heap_42 d_Heap_keyAfter_89 ?_
                refine g_iconst (v := 0) h d_Heap_keyAfter_92 (by decide) ?_
                exact g_iret h r d_Heap_keyAfter_93 (⟨by simp [ckeyAfter, ha, c_30, hf], by simp [ckeyAfter, ha, c_30, hf, hc, hlt]⟩)
            · exact absurd (nI_pos' (by omega)) c_47
      · skip
        · refine g_iconst (v := -1) h d_Heap_keyAfter_33 (by decide) ?_
          refine g_goto (tgt := 43) h d_Heap_keyAfter_34 (by decide) ?_
          refine g_istore h d_Heap_keyAfter_43 rfl (by rw [hN]; decide) ?_
          refine g_iload h d_Heap_keyAfter_45 rfl ?_
          refine g_if_ge (tgt := 60) h d_Heap_keyAfter_47 (by decide) (fun c_47 => ?_) (fun c_47 => ?_)
          · exact absurd c_47 (by decide)
          · refine g_lload_n h d_Heap_keyAfter_50 rfl rfl ?_
            refine g_ldc2 (v := -1000000000000) h d_Heap_keyAfter_51 k_Heap_40 ?_
            refine g_lc_eq (tgt := 60) h d_Heap_keyAfter_54 d_Heap_keyAfter_55 (by decide) (fun c_55 => ?_) (fun c_55 => ?_)
            · refine g_aload_n h d_Heap_keyAfter_60 rfl rfl ?_
              refine g_iload h d_Heap_keyAfter_61 rfl ?_
              refine g_iconst (v := 1) h d_Heap_keyAfter_63 (by decide) ?_
              refine g_iadd h d_Heap_keyAfter_64 ?_
              refine g_aload h d_Heap_keyAfter_65 rfl ?_
              refine gf_Tab_pairs h f_Heap_108 (by first | assumption | omega | (show _ < 16; omega)) d_Heap_keyAfter_67 ?_
              rw [hp, show (-1 : Int32) + 1 = nI 0 from by decide]
              refine g_icmp_ge (tgt := 86) h d_Heap_keyAfter_70 (by decide) (fun c_70 => ?_) (fun c_70 => ?_)
              · have hlt : ¬ 0 < P := fun z => nI_ge z (by omega) c_70
                refine g_ldc2 (v := -1000000000000) h d_Heap_keyAfter_86 k_Heap_40 ?_
                refine pf_Heap_found h f_Heap_42 d_Heap_keyAfter_89 ?_
                refine g_iconst (v := 0) h d_Heap_keyAfter_92 (by decide) ?_
                exact g_iret h r d_Heap_keyAfter_93 (⟨by simp [ckeyAfter, ha, c_30], by simp [ckeyAfter, ha, c_30, hc, hlt]⟩)
              · have hlt : 0 < P := by
                  rcases Nat.lt_or_ge 0 P with z | z
                  · exact z
                  · exact absurd (nI_le z (by omega)) c_70
                refine g_aload h d_Heap_keyAfter_73 rfl ?_
                refine gf_Tab_keys h f_Heap_128 (by first | assumption | omega | (show _ < 16; omega)) d_Heap_keyAfter_75 ?_
                refine g_iload h d_Heap_keyAfter_78 rfl ?_
                refine g_iconst (v := 1) h d_Heap_keyAfter_80 (by decide) ?_
                refine g_iadd h d_Heap_keyAfter_81 ?_
                refine ga_keys h ho (show (-1 : Int32) + 1 = nI 0 by decide) (by omega) d_Heap_keyAfter_82 ?_
                refine g_goto (tgt := 89) h d_Heap_keyAfter_83 (by decide) ?_
                refine pf_Heap_found h f_Heap_42 d_Heap_keyAfter_89 ?_
                refine g_iconst (v := 0) h d_Heap_keyAfter_92 (by decide) ?_
                exact g_iret h r d_Heap_keyAfter_93 (⟨by simp [ckeyAfter, ha, c_30], by simp [ckeyAfter, ha, c_30, hc, hlt]⟩)
            · exact absurd c_30 c_55
    · exact absurd c_6 (by decide)
  · rw [if_neg ha]
    refine g_if_ne (tgt := 11) h d_Heap_keyAfter_6 (by decide) (fun c_6 => ?_) (fun c_6 => ?_)
    · exact absurd rfl c_6
    · refine g_iconst (v := 1) h d_Heap_keyAfter_9 (by decide) ?_
      exact g_iret h r d_Heap_keyAfter_10 (⟨by simp [ckeyAfter, ha], by simp [ckeyAfter, ha]⟩)
set_option maxHeartbeats 4000000 in
set_option maxRecDepth 100000 in
theorem c_Pro_instructionAt {l : Launch} {D : va_G} {t : Nat → ClassId} {ad : Nat → Nat} {C : CS} {f p : Nat} (hf : f < 4) (hp : p ≤ 16) : Cd l D t ad y_Pro_instructionAt b_Pro_instructionAt 3 (some (.object "TriColourMachine$Instruction")) { frames := 0, cells := 0, slots := 0, locals := 0 } [.ref (ad (ix 10 0)), .int (nI f), .int (nI p)] (C) (some (.ref (ad (ix 13 (f * 17 + p))))) (C) := by
  refine ct_of (by decide) (Nat.le_of_ble_eq_true rfl) ?_
  intro Γ _ _ hN h r
  refine g_at (L' := [some (.ref (ad (ix 10 0))), some (.int (nI f)), some (.int (nI p))]) rfl rfl rfl ?_
  refine g_aload_n h d_Pro_instructionAt_0 rfl rfl ?_
  refine gf_Pro_instructions h f_Pro_13 d_Pro_instructionAt_1 ?_
  refine g_iload_n h d_Pro_instructionAt_4 rfl rfl ?_
  refine g_bipush (v := 17) h d_Pro_instructionAt_5 (by decide) ?_
  refine g_imul h d_Pro_instructionAt_7 ?_
  refine g_iload_n h d_Pro_instructionAt_8 rfl rfl ?_
  refine g_iadd h d_Pro_instructionAt_9 ?_
  refine ga_ins h (show nI f * 17 + nI p = nI (f * 17 + p) from by rw [show (17 : Int32) = nI 17 from rfl, pk_mul, nI_add]) (by omega) d_Pro_instructionAt_10 ?_
  exact g_aret h r d_Pro_instructionAt_11 (⟨rfl, rfl⟩)
set_option maxHeartbeats 4000000 in
set_option maxRecDepth 100000 in
theorem c_Pro_keepFound {l : Launch} {D : va_G} {t : Nat → ClassId} {ad : Nat → Nat} {C : CS} {n a : Nat} {tr : Int32} (hn : n < 16) (ha : a < 4) : Cd l D t ad y_Pro_keepFound b_Pro_keepFound 4 (some .int) { frames := 0, cells := 0, slots := 0, locals := 0 } [.ref (ad (ix 10 0)), .ref (ad (ix 9 n)), .int (nI a), .int tr] (C) (some (.int tr)) (ckeep C n a tr) := by
  refine ct_of (by decide) (Nat.le_of_ble_eq_true rfl) ?_
  intro Γ _ _ hN h r
  refine g_at (L' := [some (.ref (ad (ix 10 0))), some (.ref (ad (ix 9 n))), some (.int (nI a)), some (.int tr)]) rfl rfl rfl ?_
  refine g_iload_n h d_Pro_keepFound_0 rfl rfl ?_
  refine g_if_ne (tgt := 14) h d_Pro_keepFound_1 (by decide) (fun c_1 => ?_) (fun c_1 => ?_)
  · refine g_iload_n h d_Pro_keepFound_14 rfl rfl ?_
    exact g_iret h r d_Pro_keepFound_15 (⟨rfl, by simp [ckeep, c_1]⟩)
  · refine g_aload_n h d_Pro_keepFound_4 rfl rfl ?_
    refine g_iload_n h d_Pro_keepFound_5 rfl rfl ?_
    refine g_aload_n h d_Pro_keepFound_6 rfl rfl ?_
    refine gf_Pro_heap h f_Pro_39 d_Pro_keepFound_7 ?_
    refine gf_Heap_found h f_Pro_162 d_Pro_keepFound_10 ?_
    refine pa_regs h hn rfl ha d_Pro_keepFound_13 ?_
    refine g_iload_n h d_Pro_keepFound_14 rfl rfl ?_
    exact g_iret h r d_Pro_keepFound_15 (⟨rfl, by simp [ckeep, c_1]⟩)
set_option maxHeartbeats 4000000 in
set_option maxRecDepth 100000 in
theorem c_Pro_leave {l : Launch} {D : va_G} {t : Nat → ClassId} {ad : Nat → Nat} {C : CS} {d : Nat} {x : Int64} (hok : okC C) (hd5 : d < 5) (hd : C.1 19 0 = nI (d + 1)) (hact : ∀ i, i < d + 1 → ∃ n, n < 16 ∧ C.2.2 i = some n) : Cd l D t ad y_Pro_leave b_Pro_leave 4 none { frames := 0, cells := 0, slots := 0, locals := 0 } [.ref (ad (ix 10 0)), .long x] (C) (none) (cleave C x) := by
  refine ct_of (by decide) (Nat.le_of_ble_eq_true rfl) ?_
  intro Γ _ _ hN h r
  refine g_at (L' := [some (.ref (ad (ix 10 0))), some (.long x), none, none]) rfl rfl rfl ?_
  refine g_aload_n h d_Pro_leave_0 rfl rfl ?_
  refine g_dup h d_Pro_leave_1 rfl ?_
  refine gf_Pro_depth h f_Pro_23 d_Pro_leave_2 ?_
  refine g_iconst (v := 1) h d_Pro_leave_5 (by decide) ?_
  rw [hd]
  refine g_isub h d_Pro_leave_6 ?_
  rw [show nI (d + 1) - 1 = nI d from nI_pred d]
  refine pf_Pro_depth h f_Pro_23 d_Pro_leave_7 ?_
  refine g_aload_n h d_Pro_leave_10 rfl rfl ?_
  refine gf_Pro_depth h f_Pro_23 d_Pro_leave_11 ?_
  simp only [sI_1, sI_2, sJ_1, sJ_2, sJ_3, sR_1, sR_2, sR_3, Nat.reduceEqDiff, Nat.zero_ne_one, Nat.one_ne_zero, Nat.succ_ne_zero, reduceCtorEq, false_and, if_false, true_and, and_self, if_true, and_true, and_false, reduceIte]
  refine g_if_ne (tgt := 23) h d_Pro_leave_14 (by decide) (fun c_14 => ?_) (fun c_14 => ?_)
  · skip
    · have hd0 : 0 < d := by
        rcases Nat.eq_zero_or_pos d with z | z
        · subst z; exact absurd rfl c_14
        · exact z
      obtain ⟨m, hm16, hm⟩ := hact (d - 1) (by omega)
      obtain ⟨-, -, -, -, -, ⟨w, hw, hw2⟩⟩ := hok.1 m hm16
      refine g_aload_n h d_Pro_leave_23 rfl rfl ?_
      refine gf_Pro_active h f_Pro_19 d_Pro_leave_24 ?_
      refine g_aload_n h d_Pro_leave_27 rfl rfl ?_
      refine gf_Pro_depth h f_Pro_23 d_Pro_leave_28 ?_
      simp only [sI_1, sI_2, sJ_1, sJ_2, sJ_3, sR_1, sR_2, sR_3, Nat.reduceEqDiff, Nat.zero_ne_one, Nat.one_ne_zero, Nat.succ_ne_zero, reduceCtorEq, false_and, if_false, true_and, and_self, if_true, and_true, and_false, reduceIte]
      refine g_iconst (v := 1) h d_Pro_leave_31 (by decide) ?_
      refine g_isub h d_Pro_leave_32 ?_
      refine ga_act h (show nI d - 1 = nI (d - 1) from by rw [show nI d = nI (d - 1 + 1) from by rw [show d - 1 + 1 = d by omega]]; exact nI_pred _) (by omega) hm d_Pro_leave_33 ?_
      refine g_astore_n h d_Pro_leave_34 rfl rfl (by rw [hN]; decide) ?_
      refine g_aload_n h d_Pro_leave_35 rfl rfl ?_
      refine gf_Cor_registers h f_Pro_88 (by first | assumption | omega | (show _ < 16; omega)) d_Pro_leave_36 ?_
      refine g_aload_n h d_Pro_leave_39 rfl rfl ?_
      refine gf_Cor_awaits h f_Pro_99 (by first | assumption | omega | (show _ < 16; omega)) d_Pro_leave_40 ?_
      simp only [sI_1, sI_2, sJ_1, sJ_2, sJ_3, sR_1, sR_2, sR_3, Nat.reduceEqDiff, Nat.zero_ne_one, Nat.one_ne_zero, Nat.succ_ne_zero, reduceCtorEq, false_and, if_false, true_and, and_self, if_true, and_true, and_false, reduceIte]
      refine g_lload_n h d_Pro_leave_43 rfl rfl ?_
      refine pa_regs h hm16 hw2 hw d_Pro_leave_44 ?_
      refine g_aload_n h d_Pro_leave_45 rfl rfl ?_
      refine g_dup h d_Pro_leave_46 rfl ?_
      refine gf_Cor_place h f_Pro_51 (by first | assumption | omega | (show _ < 16; omega)) d_Pro_leave_47 ?_
      simp only [sI_1, sI_2, sJ_1, sJ_2, sJ_3, sR_1, sR_2, sR_3, Nat.reduceEqDiff, Nat.zero_ne_one, Nat.one_ne_zero, Nat.succ_ne_zero, reduceCtorEq, false_and, if_false, true_and, and_self, if_true, and_true, and_false, reduceIte]
      refine g_iconst (v := 1) h d_Pro_leave_50 (by decide) ?_
      refine g_iadd h d_Pro_leave_51 ?_
      refine pf_Cor_place h f_Pro_51 (by first | assumption | omega | (show _ < 16; omega)) d_Pro_leave_52 ?_
      exact g_vret h r d_Pro_leave_55 (⟨rfl, by simp [cleave, hd, nI_pred, c_14, cact, cDepth, nI_clamp (show d + 1 < 2 ^ 31 by omega), hm, hw2, nI_clamp (show w < 2 ^ 31 by omega), sJ_1, sI_1]⟩)
  · refine g_aload_n h d_Pro_leave_17 rfl rfl ?_
    refine g_lload_n h d_Pro_leave_18 rfl rfl ?_
    refine pf_Pro_outcome h f_Pro_35 d_Pro_leave_19 ?_
    exact g_vret h r d_Pro_leave_22 (⟨rfl, by simp [cleave, hd, nI_pred, c_14]⟩)
set_option maxHeartbeats 4000000 in
set_option maxRecDepth 100000 in
theorem c_Pro_enter {l : Launch} {D : va_G} {t : Nat → ClassId} {ad : Nat → Nat} {C : CS} {v x : Int64} (hok : okC C) (hv : okV v) : Cd l D t ad y_Pro_enter b_Pro_enter 7 (some .int) { frames := 2, cells := 0, slots := 0, locals := 44 } [.ref (ad (ix 10 0)), .long v, .long x] (C) (some (.int (center C v x).1)) ((center C v x).2) := by
  refine ct_of (by decide) (Nat.le_of_ble_eq_true rfl) ?_
  intro Γ _ _ hN h r
  obtain ⟨d, hd5, hd, hact⟩ := hok.2.2.2
  refine g_at (L' := [some (.ref (ad (ix 10 0))), some (.long v), none, some (.long x), none, none, none]) rfl rfl rfl ?_
  refine g_aload_n h d_Pro_enter_0 rfl rfl ?_
  refine gf_Pro_heap h f_Pro_39 d_Pro_enter_1 ?_
  refine g_iconst (v := 2) h d_Pro_enter_4 (by decide) ?_
  refine g_lload_n h d_Pro_enter_5 rfl rfl ?_
  refine g_dVi h tb_good (c_Heap_isA hv) (ix_lt 1 (by decide) _ (by decide)) (wc_at (by decide) (by decide)) rfl v_Pro_65 nm_Heap_isA rfl ⟨rfl, rfl, Nat.le_of_ble_eq_true rfl, Nat.le_of_ble_eq_true rfl, Nat.zero_le _, Nat.zero_le _⟩ rfl (Nat.le_of_ble_eq_true rfl) d_Pro_enter_6 ?_
  by_cases ha : isA C 2 v = true
  · rw [if_pos ha]
    obtain ⟨ho, hon, -⟩ := isA_on hv ha
    obtain ⟨-, -, -, -, ⟨w, hw, hw2⟩, -⟩ := hok.1 _ ho
    refine g_if_ne (tgt := 14) h d_Pro_enter_9 (by decide) (fun c_9 => ?_) (fun c_9 => ?_)
    · refine g_lload_n h d_Pro_enter_14 rfl rfl ?_
      refine g_dNi h tb_good (c_TCM_numberOf) (host := "TriColourMachine") nl_Pro_71 cd_TCM_numberOf in_TCM st_TCM_numberOf nm_TCM_numberOf rfl ⟨rfl, rfl, Nat.le_of_ble_eq_true rfl, Nat.le_of_ble_eq_true rfl, Nat.zero_le _, Nat.zero_le _⟩ rfl (Nat.le_of_ble_eq_true rfl) d_Pro_enter_15 ?_
      rw [hon]
      refine g_istore h d_Pro_enter_18 rfl (by rw [hN]; decide) ?_
      refine g_aload_n h d_Pro_enter_20 rfl rfl ?_
      refine gf_Pro_heap h f_Pro_39 d_Pro_enter_21 ?_
      refine gf_Heap_cells h f_Pro_75 d_Pro_enter_24 ?_
      refine g_iload h d_Pro_enter_27 rfl ?_
      refine ga_cells h rfl ho d_Pro_enter_29 ?_
      refine gf_Cell_coroutine h f_Pro_79 (by first | assumption | omega | (show _ < 16; omega)) d_Pro_enter_30 ?_
      refine g_astore h d_Pro_enter_33 rfl (by rw [hN]; decide) ?_
      refine g_aload h d_Pro_enter_35 rfl ?_
      refine gf_Cor_state h f_Pro_85 (by first | assumption | omega | (show _ < 16; omega)) d_Pro_enter_37 ?_
      refine g_iconst (v := 3) h d_Pro_enter_40 (by decide) ?_
      refine g_icmp_eq (tgt := 53) h d_Pro_enter_41 (by decide) (fun c_41 => ?_) (fun c_41 => ?_)
      · refine g_iconst (v := 1) h d_Pro_enter_53 (by decide) ?_
        exact g_iret h r d_Pro_enter_54 (⟨by first | (simp [center, centerOk, ha, c_41]; done) | (simp [center, centerOk, ha, c_41, c_50]; done), by first | (simp [center, centerOk, ha, c_41]; done) | (simp [center, centerOk, ha, c_41, c_50]; done)⟩)
      · refine g_aload h d_Pro_enter_44 rfl ?_
        refine gf_Cor_state h f_Pro_85 (by first | assumption | omega | (show _ < 16; omega)) d_Pro_enter_46 ?_
        refine g_iconst (v := 2) h d_Pro_enter_49 (by decide) ?_
        refine g_icmp_ne (tgt := 55) h d_Pro_enter_50 (by decide) (fun c_50 => ?_) (fun c_50 => ?_)
        · refine g_aload_n h d_Pro_enter_55 rfl rfl ?_
          refine gf_Pro_depth h f_Pro_23 d_Pro_enter_56 ?_
          refine g_iconst (v := 5) h d_Pro_enter_59 (by decide) ?_
          rw [hd]
          refine g_icmp_ne (tgt := 65) h d_Pro_enter_60 (by decide) (fun c_60 => ?_) (fun c_60 => ?_)
          · have hd6 : d < 5 := by
              rcases Nat.lt_or_ge d 5 with z | z
              · exact z
              · exact absurd (by rw [show d = 5 by omega]; rfl) c_60
            refine g_aload h d_Pro_enter_65 rfl ?_
            refine gf_Cor_registers h f_Pro_88 (by first | assumption | omega | (show _ < 16; omega)) d_Pro_enter_67 ?_
            refine g_aload h d_Pro_enter_70 rfl ?_
            refine gf_Cor_comesIn h f_Pro_92 (by first | assumption | omega | (show _ < 16; omega)) d_Pro_enter_72 ?_
            refine g_lload_n h d_Pro_enter_75 rfl rfl ?_
            refine pa_regs h ho hw2 hw d_Pro_enter_76 ?_
            refine g_aload h d_Pro_enter_77 rfl ?_
            refine g_iconst (v := 2) h d_Pro_enter_79 (by decide) ?_
            refine pf_Cor_state h f_Pro_85 (by first | assumption | omega | (show _ < 16; omega)) d_Pro_enter_80 ?_
            refine g_aload_n h d_Pro_enter_83 rfl rfl ?_
            refine gf_Pro_heap h f_Pro_39 d_Pro_enter_84 ?_
            refine g_iload h d_Pro_enter_87 rfl ?_
            refine g_dVv h tb_good (c_Heap_touch ho) (ix_lt 1 (by decide) _ (by decide)) (wc_at (by decide) (by decide)) rfl v_Pro_95 nm_Heap_touch rfl ⟨rfl, rfl, Nat.le_of_ble_eq_true rfl, Nat.le_of_ble_eq_true rfl, Nat.zero_le _, Nat.zero_le _⟩ rfl (Nat.le_of_ble_eq_true rfl) d_Pro_enter_89 ?_
            refine g_aload_n h d_Pro_enter_92 rfl rfl ?_
            refine gf_Pro_active h f_Pro_19 d_Pro_enter_93 ?_
            skip
            refine g_aload_n h d_Pro_enter_96 rfl rfl ?_
            refine gf_Pro_depth h f_Pro_23 d_Pro_enter_97 ?_
            rw [ctouch_o (by decide)]
            simp only [sI_1, sI_2, sJ_1, sJ_2, sJ_3, sR_1, sR_2, sR_3, Nat.reduceEqDiff, Nat.zero_ne_one, Nat.one_ne_zero, Nat.succ_ne_zero, reduceCtorEq, false_and, if_false, true_and, and_self, if_true, and_true, and_false, reduceIte]
            refine g_aload h d_Pro_enter_100 rfl ?_
            refine pa_act h hd hd6 ho d_Pro_enter_102 ?_
            refine g_aload_n h d_Pro_enter_103 rfl rfl ?_
            refine g_dup h d_Pro_enter_104 rfl ?_
            refine gf_Pro_depth h f_Pro_23 d_Pro_enter_105 ?_
            simp only [sA_1]
            rw [ctouch_o (by decide)]
            simp only [sI_1, sI_2, sJ_1, sJ_2, sJ_3, sR_1, sR_2, sR_3, Nat.reduceEqDiff, Nat.zero_ne_one, Nat.one_ne_zero, Nat.succ_ne_zero, reduceCtorEq, false_and, if_false, true_and, and_self, if_true, and_true, and_false, reduceIte]
            refine g_iconst (v := 1) h d_Pro_enter_108 (by decide) ?_
            refine g_iadd h d_Pro_enter_109 ?_
            refine pf_Pro_depth h f_Pro_23 d_Pro_enter_110 ?_
            refine g_iconst (v := 0) h d_Pro_enter_113 (by decide) ?_
            exact g_iret h r d_Pro_enter_114 (⟨by simp [center, centerOk, ha, c_41, c_50, hd, c_60], by simp [center, centerOk, ha, c_41, c_50, hd, c_60, hw2, nI_clamp (show w < 2 ^ 31 by omega), cDepth, nI_clamp (show d < 2 ^ 31 by omega)]⟩)
          · refine g_iconst (v := 2) h d_Pro_enter_63 (by decide) ?_
            exact g_iret h r d_Pro_enter_64 (⟨by simp [center, centerOk, ha, c_41, c_50, hd, c_60], by simp [center, centerOk, ha, c_41, c_50, hd, c_60]⟩)
        · refine g_iconst (v := 1) h d_Pro_enter_53 (by decide) ?_
          exact g_iret h r d_Pro_enter_54 (⟨by first | (simp [center, centerOk, ha, c_41]; done) | (simp [center, centerOk, ha, c_41, c_50]; done), by first | (simp [center, centerOk, ha, c_41]; done) | (simp [center, centerOk, ha, c_41, c_50]; done)⟩)
    · exact absurd c_9 (by decide)
  · rw [if_neg ha]
    refine g_if_ne (tgt := 14) h d_Pro_enter_9 (by decide) (fun c_9 => ?_) (fun c_9 => ?_)
    · exact absurd rfl c_9
    · refine g_iconst (v := 1) h d_Pro_enter_12 (by decide) ?_
      exact g_iret h r d_Pro_enter_13 (⟨by simp [center, centerOk, ha], by simp [center, centerOk, ha]⟩)
set_option maxHeartbeats 4000000 in
set_option maxRecDepth 100000 in
theorem c_Pro_endActive {l : Launch} {D : va_G} {t : Nat → ClassId} {ad : Nat → Nat} {C : CS} {d : Nat} (hd5 : d ≤ 5) (hd : C.1 19 0 = nI d) (hact : ∀ i, i < d → ∃ n, n < 16 ∧ C.2.2 i = some n) : Cd l D t ad y_Pro_endActive b_Pro_endActive 2 none { frames := 0, cells := 0, slots := 0, locals := 0 } [.ref (ad (ix 10 0))] (C) (none) (cend d 0 C) := by
  refine ct_of (by decide) (Nat.le_of_ble_eq_true rfl) ?_
  intro Γ _ _ hN h r
  have loop : ∀ (c i : Nat) (C2 : CS), i + c = d → C2.1 19 0 = nI d → C2.2.2 = C.2.2 → cend c i C2 = cend d 0 C → G Γ 0 0 171 ad (wc ad t C2) 2 [some (.ref (ad (ix 10 0))), some (.int (nI i))] [] := by
    intro c
    induction c with
    | zero =>
      intro i C2 hi hD hA he
      refine g_iload_n h d_Pro_endActive_2 rfl rfl ?_
      refine g_aload_n h d_Pro_endActive_3 rfl rfl ?_
      refine gf_Pro_depth h f_Pro_23 d_Pro_endActive_4 ?_
      rw [hD]
      refine g_icmp_ge (tgt := 26) h d_Pro_endActive_7 (by decide) (fun c_7 => ?_) (fun c_7 => ?_)
      · refine g_aload_n h d_Pro_endActive_26 rfl rfl ?_
        refine g_iconst (v := 0) h d_Pro_endActive_27 (by decide) ?_
        refine pf_Pro_depth h f_Pro_23 d_Pro_endActive_28 ?_
        exact g_vret h r d_Pro_endActive_31 (⟨rfl, by rw [← he]; rfl⟩)
      · exact absurd (nI_le (a := d) (b := i) (by omega) (by omega)) c_7
    | succ c ih =>
      intro i C2 hi hD hA he
      obtain ⟨m, hm16, hm0⟩ := hact i (by omega)
      have hm : C2.2.2 i = some m := by rw [hA]; exact hm0
      refine g_iload_n h d_Pro_endActive_2 rfl rfl ?_
      refine g_aload_n h d_Pro_endActive_3 rfl rfl ?_
      refine gf_Pro_depth h f_Pro_23 d_Pro_endActive_4 ?_
      rw [hD]
      refine g_icmp_ge (tgt := 26) h d_Pro_endActive_7 (by decide) (fun c_7 => ?_) (fun c_7 => ?_)
      · exact absurd c_7 (nI_ge (b := d) (by omega) (by omega))
      · refine g_aload_n h d_Pro_endActive_10 rfl rfl ?_
        refine gf_Pro_active h f_Pro_19 d_Pro_endActive_11 ?_
        refine g_iload_n h d_Pro_endActive_14 rfl rfl ?_
        refine ga_act h rfl (by omega) hm d_Pro_endActive_15 ?_
        refine g_iconst (v := 3) h d_Pro_endActive_16 (by decide) ?_
        refine pf_Cor_state h f_Pro_85 (by first | assumption | omega | (show _ < 16; omega)) d_Pro_endActive_17 ?_
        refine g_iinc (v := nI (i + 1)) h d_Pro_endActive_20 rfl (by rw [nI_succ]; rfl) rfl (by rw [hN]; decide) ?_
        refine g_goto (tgt := 2) h d_Pro_endActive_23 (by decide) ?_
        exact ih (i + 1) _ (by omega) (by rw [sI_o (by decide)]; exact hD) hA (by rw [← he]; simp [cend, cact, hA, hm])
  refine g_at (L' := [some (.ref (ad (ix 10 0))), none]) rfl rfl rfl ?_
  refine g_iconst (v := 0) h d_Pro_endActive_0 (by decide) ?_
  refine g_istore_n h d_Pro_endActive_1 rfl rfl (by rw [hN]; decide) ?_
  exact loop d 0 C (by omega) hd rfl rfl
set_option maxHeartbeats 4000000 in
set_option maxRecDepth 100000 in
theorem c_Pro_calculate {l : Launch} {D : va_G} {t : Nat → ClassId} {ad : Nat → Nat} {C : CS} {n a : Nat} {op : Int32} {x y : Int64} (hn : n < 16) (ha : a < 4) : Cd l D t ad y_Pro_calculate b_Pro_calculate 9 (some .int) { frames := 1, cells := 0, slots := 0, locals := 21 } [.int op, .ref (ad (ix 9 n)), .int (nI a), .long x, .long y] (C) (some (.int (ccalc C op n a x y).1)) ((ccalc C op n a x y).2) := by
  refine ct_of (by decide) (Nat.le_of_ble_eq_true rfl) ?_
  intro Γ _ _ hN h r
  refine g_at (L' := [some (.int op), some (.ref (ad (ix 9 n))), some (.int (nI a)), some (.long x), none, some (.long y), none, none, none]) rfl rfl rfl ?_
  refine g_lload_n h d_Pro_calculate_0 rfl rfl ?_
  refine g_dNi h tb_good (c_TCM_isNumber) (host := "TriColourMachine") nl_Pro_165 cd_TCM_isNumber in_TCM st_TCM_isNumber nm_TCM_isNumber rfl ⟨rfl, rfl, Nat.le_of_ble_eq_true rfl, Nat.le_of_ble_eq_true rfl, Nat.zero_le _, Nat.zero_le _⟩ rfl (Nat.le_of_ble_eq_true rfl) d_Pro_calculate_1 ?_
  by_cases h1 : (-2147483648 ≤ x ∧ x ≤ 2147483647)
  · rw [if_pos h1]
    refine g_if_eq (tgt := 15) h d_Pro_calculate_4 (by decide) (fun c_4 => ?_) (fun c_4 => ?_)
    · exact absurd c_4 (by decide)
    · refine g_lload h d_Pro_calculate_7 rfl ?_
      refine g_dNi h tb_good (c_TCM_isNumber) (host := "TriColourMachine") nl_Pro_165 cd_TCM_isNumber in_TCM st_TCM_isNumber nm_TCM_isNumber rfl ⟨rfl, rfl, Nat.le_of_ble_eq_true rfl, Nat.le_of_ble_eq_true rfl, Nat.zero_le _, Nat.zero_le _⟩ rfl (Nat.le_of_ble_eq_true rfl) d_Pro_calculate_9 ?_
      by_cases h2 : (-2147483648 ≤ y ∧ y ≤ 2147483647)
      · rw [if_pos h2]
        refine g_if_ne (tgt := 17) h d_Pro_calculate_12 (by decide) (fun c_12 => ?_) (fun c_12 => ?_)
        · refine g_lload_n h d_Pro_calculate_17 rfl rfl ?_
          refine g_l2i h d_Pro_calculate_18 ?_
          refine g_istore h d_Pro_calculate_19 rfl (by rw [hN]; decide) ?_
          refine g_lload h d_Pro_calculate_21 rfl ?_
          refine g_l2i h d_Pro_calculate_23 ?_
          refine g_istore h d_Pro_calculate_24 rfl (by rw [hN]; decide) ?_
          refine g_aload_n h d_Pro_calculate_26 rfl rfl ?_
          refine g_iload_n h d_Pro_calculate_27 rfl rfl ?_
          refine g_iload_n h d_Pro_calculate_28 rfl rfl ?_
          refine g_bipush (v := 8) h d_Pro_calculate_29 (by decide) ?_
          refine g_icmp_ne (tgt := 43) h d_Pro_calculate_31 (by decide) (fun c_31 => ?_) (fun c_31 => ?_)
          · refine g_iload_n h d_Pro_calculate_43 rfl rfl ?_
            refine g_bipush (v := 9) h d_Pro_calculate_44 (by decide) ?_
            refine g_icmp_ne (tgt := 58) h d_Pro_calculate_46 (by decide) (fun c_46 => ?_) (fun c_46 => ?_)
            · refine g_iload h d_Pro_calculate_58 rfl ?_
              refine g_iload h d_Pro_calculate_60 rfl ?_
              refine g_imul h d_Pro_calculate_62 ?_
              refine g_i2l h d_Pro_calculate_63 ?_
              refine pa_regs h hn rfl ha d_Pro_calculate_64 ?_
              refine g_iconst (v := 0) h d_Pro_calculate_65 (by decide) ?_
              exact g_iret h r d_Pro_calculate_66 (⟨by unfold ccalc isNum; rw [if_pos ⟨h1, h2⟩], by unfold ccalc isNum; rw [if_pos ⟨h1, h2⟩]; first | (simp [c_31]; done) | (simp [c_31, c_46]; done)⟩)
            · refine g_iload h d_Pro_calculate_49 rfl ?_
              refine g_iload h d_Pro_calculate_51 rfl ?_
              refine g_isub h d_Pro_calculate_53 ?_
              refine g_i2l h d_Pro_calculate_54 ?_
              refine g_goto (tgt := 64) h d_Pro_calculate_55 (by decide) ?_
              refine pa_regs h hn rfl ha d_Pro_calculate_64 ?_
              refine g_iconst (v := 0) h d_Pro_calculate_65 (by decide) ?_
              exact g_iret h r d_Pro_calculate_66 (⟨by unfold ccalc isNum; rw [if_pos ⟨h1, h2⟩], by unfold ccalc isNum; rw [if_pos ⟨h1, h2⟩]; first | (simp [c_31]; done) | (simp [c_31, c_46]; done)⟩)
          · refine g_iload h d_Pro_calculate_34 rfl ?_
            refine g_iload h d_Pro_calculate_36 rfl ?_
            refine g_iadd h d_Pro_calculate_38 ?_
            refine g_i2l h d_Pro_calculate_39 ?_
            refine g_goto (tgt := 64) h d_Pro_calculate_40 (by decide) ?_
            refine pa_regs h hn rfl ha d_Pro_calculate_64 ?_
            refine g_iconst (v := 0) h d_Pro_calculate_65 (by decide) ?_
            exact g_iret h r d_Pro_calculate_66 (⟨by unfold ccalc isNum; rw [if_pos ⟨h1, h2⟩], by unfold ccalc isNum; rw [if_pos ⟨h1, h2⟩]; first | (simp [c_31]; done) | (simp [c_31, c_46]; done)⟩)
        · exact absurd c_12 (by decide)
      · rw [if_neg h2]
        refine g_if_ne (tgt := 17) h d_Pro_calculate_12 (by decide) (fun c_12 => ?_) (fun c_12 => ?_)
        · exact absurd rfl c_12
        · refine g_iconst (v := 1) h d_Pro_calculate_15 (by decide) ?_
          exact g_iret h r d_Pro_calculate_16 (⟨by unfold ccalc isNum; first | (rw [if_neg (fun z => h1 z.1)]; done) | (rw [if_neg (fun z => h2 z.2)]; done), by unfold ccalc isNum; first | (rw [if_neg (fun z => h1 z.1)]; done) | (rw [if_neg (fun z => h2 z.2)]; done)⟩)
  · rw [if_neg h1]
    refine g_if_eq (tgt := 15) h d_Pro_calculate_4 (by decide) (fun c_4 => ?_) (fun c_4 => ?_)
    · refine g_iconst (v := 1) h d_Pro_calculate_15 (by decide) ?_
      exact g_iret h r d_Pro_calculate_16 (⟨by unfold ccalc isNum; first | (rw [if_neg (fun z => h1 z.1)]; done) | (rw [if_neg (fun z => h2 z.2)]; done), by unfold ccalc isNum; first | (rw [if_neg (fun z => h1 z.1)]; done) | (rw [if_neg (fun z => h2 z.2)]; done)⟩)
    · exact absurd rfl c_4
end
section
/-! Math.floorMod by 4, 6, 16 -/
theorem fm_bm (z : Int) (h1 : -2147483648 ≤ z) (h2 : z < 2147483648) : z.bmod (2 ^ 32) = z := Int.bmod_eq_of_le (by omega) (by omega)
theorem fm_rng (x : Int32) : -2147483648 ≤ x.toInt ∧ x.toInt < 2147483648 := ⟨by have := Int32.le_toInt x; omega, by have := Int32.toInt_lt x; omega⟩
theorem fm_rem (x : Int32) {m : Nat} (hm : m = 4 ∨ m = 6 ∨ m = 16) : (x - x / nI m * nI m).toInt = x.toInt - x.toInt.tdiv m * m ∧ (if 0 ≤ x.toInt ∨ (m : Int) ∣ x.toInt then x.toInt - x.toInt.tdiv m * m = x.toInt % m else x.toInt - x.toInt.tdiv m * m = x.toInt % m - m) := by
  obtain ⟨r1, r2⟩ := fm_rng x
  have hy : (nI m).toInt = (m : Int) := nI_toInt (by omega)
  have hne : nI m ≠ -1 := by
    intro z
    have := congrArg Int32.toInt z
    rw [hy] at this
    have e : (-1 : Int32).toInt = -1 := by decide
    rw [e] at this
    omega
  have hd : (x / nI m).toInt = x.toInt.tdiv m := by rw [Int32.toInt_div_of_ne_right _ _ hne, hy]
  have hs : (m : Int).sign = 1 := by rcases hm with rfl | rfl | rfl <;> rfl
  rw [Int32.toInt_sub, Int32.toInt_mul, hd, hy, Int.tdiv_eq_ediv, hs]
  generalize x.toInt = X at r1 r2
  rcases hm with rfl | rfl | rfl
  · by_cases h : 0 ≤ X ∨ ((4 : Nat) : Int) ∣ X
    · rw [if_pos h, if_pos h]
      have e : (X / ((4 : Nat) : Int) + 0) * ((4 : Nat) : Int) = X - X % 4 := by omega
      rw [e, fm_bm (X - X % 4) (by omega) (by omega), fm_bm _ (by omega) (by omega)]
      exact ⟨rfl, by omega⟩
    · rw [if_neg h, if_neg h]
      have e : (X / ((4 : Nat) : Int) + 1) * ((4 : Nat) : Int) = X - X % 4 + 4 := by omega
      rw [e, fm_bm (X - X % 4 + 4) (by omega) (by omega), fm_bm _ (by omega) (by omega)]
      exact ⟨rfl, by omega⟩
  · by_cases h : 0 ≤ X ∨ ((6 : Nat) : Int) ∣ X
    · rw [if_pos h, if_pos h]
      have e : (X / ((6 : Nat) : Int) + 0) * ((6 : Nat) : Int) = X - X % 6 := by omega
      rw [e, fm_bm (X - X % 6) (by omega) (by omega), fm_bm _ (by omega) (by omega)]
      exact ⟨rfl, by omega⟩
    · rw [if_neg h, if_neg h]
      have e : (X / ((6 : Nat) : Int) + 1) * ((6 : Nat) : Int) = X - X % 6 + 6 := by omega
      rw [e, fm_bm (X - X % 6 + 6) (by omega) (by omega), fm_bm _ (by omega) (by omega)]
      exact ⟨rfl, by omega⟩
  · by_cases h : 0 ≤ X ∨ ((16 : Nat) : Int) ∣ X
    · rw [if_pos h, if_pos h]
      have e : (X / ((16 : Nat) : Int) + 0) * ((16 : Nat) : Int) = X - X % 16 := by omega
      rw [e, fm_bm (X - X % 16) (by omega) (by omega), fm_bm _ (by omega) (by omega)]
      exact ⟨rfl, by omega⟩
    · rw [if_neg h, if_neg h]
      have e : (X / ((16 : Nat) : Int) + 1) * ((16 : Nat) : Int) = X - X % 16 + 16 := by omega
      rw [e, fm_bm (X - X % 16 + 16) (by omega) (by omega), fm_bm _ (by omega) (by omega)]
      exact ⟨rfl, by omega⟩
theorem fm_xor (x y : Int32) (hy : 0 ≤ y.toInt) : (x ^^^ y).toInt < 0 ↔ x.toInt < 0 := by
  have a : (x ^^^ y).toBitVec.msb = (x.toBitVec.msb ^^ y.toBitVec.msb) := by rw [Int32.toBitVec_xor, BitVec.msb_xor]
  have e : ∀ z : Int32, z.toBitVec.msb = decide (z.toInt < 0) := fun z => BitVec.msb_eq_toInt
  rw [e, e, e, decide_eq_false (show ¬ y.toInt < 0 by omega), Bool.xor_false] at a
  exact decide_eq_decide.mp a
theorem fmod_lt (x : Int32) {m : Nat} (h : 0 < m) : fmod x m < m := by
  unfold fmod
  have h1 := Int.emod_nonneg x.toInt (show (m : Int) ≠ 0 by omega)
  have h2 := Int.emod_lt_of_pos x.toInt (show (0 : Int) < m by omega)
  omega
theorem fmod_int (x : Int32) {m : Nat} (hm : 0 < m) (h2 : m < 2 ^ 30) : (nI (fmod x m)).toInt = x.toInt % m := by
  have h := fmod_lt x hm
  rw [nI_toInt (by omega)]
  unfold fmod
  have h1 := Int.emod_nonneg x.toInt (show (m : Int) ≠ 0 by omega)
  omega
theorem fm_pos {x : Int32} {m : Nat} (hm : m = 4 ∨ m = 6 ∨ m = 16) (h : 0 ≤ x ^^^ nI m) : x - x / nI m * nI m = nI (fmod x m) := by
  obtain ⟨a, b⟩ := fm_rem x hm
  have hx : 0 ≤ x.toInt := by
    have h1 : ¬ (x ^^^ nI m).toInt < 0 := by
      have := Int32.le_iff_toInt_le.mp h
      rw [Int32.toInt_zero] at this
      omega
    have h2 := mt (fm_xor x (nI m) (by rw [nI_toInt (by omega)]; omega)).mpr h1
    omega
  rw [if_pos (Or.inl hx)] at b
  apply Int32.toInt_inj.mp
  rw [a, b, fmod_int x (by omega) (by omega)]
theorem fm_zero {x : Int32} {m : Nat} (hm : m = 4 ∨ m = 6 ∨ m = 16) (h : x - x / nI m * nI m = 0) : x - x / nI m * nI m = nI (fmod x m) := by
  obtain ⟨a, b⟩ := fm_rem x hm
  rw [h, Int32.toInt_zero] at a
  apply Int32.toInt_inj.mp
  rw [h, Int32.toInt_zero, fmod_int x (by omega) (by omega)]
  have h1 := Int.emod_nonneg x.toInt (show (m : Int) ≠ 0 by omega)
  have h2 := Int.emod_lt_of_pos x.toInt (show (0 : Int) < m by omega)
  by_cases c : 0 ≤ x.toInt ∨ (m : Int) ∣ x.toInt
  · rw [if_pos c] at b; omega
  · rw [if_neg c] at b; omega
theorem fm_neg {x : Int32} {m : Nat} (hm : m = 4 ∨ m = 6 ∨ m = 16) (h0 : ¬ 0 ≤ x ^^^ nI m) (h : ¬ x - x / nI m * nI m = 0) : x - x / nI m * nI m + nI m = nI (fmod x m) := by
  obtain ⟨a, b⟩ := fm_rem x hm
  have hy : (nI m).toInt = (m : Int) := nI_toInt (by omega)
  have hx : x.toInt < 0 := by
    have h1 : (x ^^^ nI m).toInt < 0 := by
      have := mt Int32.le_iff_toInt_le.mpr h0
      rw [Int32.toInt_zero] at this
      omega
    exact (fm_xor x (nI m) (by rw [hy]; omega)).mp h1
  have h1 := Int.emod_nonneg x.toInt (show (m : Int) ≠ 0 by omega)
  have h2 := Int.emod_lt_of_pos x.toInt (show (0 : Int) < m by omega)
  have hne : x.toInt - x.toInt.tdiv m * m ≠ 0 := by
    intro z
    apply h
    apply Int32.toInt_inj.mp
    rw [a, z, Int32.toInt_zero]
  have hc : ¬ (0 ≤ x.toInt ∨ (m : Int) ∣ x.toInt) := by
    intro c
    rw [if_pos c] at b
    rcases c with c | c
    · omega
    · rw [Int.emod_eq_zero_of_dvd c] at b
      exact hne b
  rw [if_neg hc] at b
  apply Int32.toInt_inj.mp
  rw [Int32.toInt_add, a, b, hy, fmod_int x (by omega) (by omega)]
  rw [show x.toInt % (m : Int) - m + m = x.toInt % m by omega]
  exact fm_bm _ (by omega) (by omega)
/-- a contract out of a walk, of a method of a class whose natives the machine knows -/
theorem ct_ofF {l : Launch} {D : va_G} {cl : List vw_C} {tys : List (ClassId × FieldType)} {nl : List (String × Nat × MethodName × String)} {N : Nat} {ad : Nat → Nat} {y : MethodName} {TB : List Cond} {rm : Room} {As : List Value} {σ : Nat → va_E} {Rr : Option Value → (Nat → va_E) → Prop} {cc : ByteArray} {n : Nat} {ret : Option FieldType}
    (hy : plainFor y = true) (hn : (lg_sl As).length ≤ n)
    (body : ∀ Γ : GT, gL Γ = l → gD Γ = D → gN Γ = n → Cx Γ cc y.cls rm TB cl tys nl → Rx Γ N ad ret Rr 0 0 → G Γ 0 0 N ad σ 0 (inL As n) []) : Ct l D cl tys nl N ad y (.code y cc n ret :: TB) rm As σ Rr := by
  intro sz
  refine va_MetF (cc := cc) (maxL := n) (ret := ret) hy rfl ?_
  intro p e s m args below meth c s₁ B hml hv
  obtain ⟨rfl, hsz, hP, hK, hD0⟩ := hv
  have hts := atoms_spec (ws := .code y cc n ret :: TB) B.pre
  have hown : s.vm.findClass y.cls = some m.cls := findClass_of_methodNamed B.named
  subst hsz
  have hD := hD0.self (sz := s.heap.size)
  rw [lg_entry_eq]
  exact body (p, l, e, rm, s, m, As.toArray, below, meth, c, MQ below (cQc D cl N ad (va_A (gl N ad σ) s.heap.size) Rr) As.toArray s 0 0 (va_A (gl N ad σ) s.heap.size), D, cl, va_A (gl N ad σ) s.heap.size, n) rfl rfl rfl
    ⟨B.exec, B.bytes, hml, hown, rfl, fun w hw => hts w (List.mem_cons_of_mem _ hw), rfl, hK, fun q h => Or.inr h⟩ ⟨B.returns, B.notSynchronized, rfl⟩ s.heap [] _ hP hD va_S.rf (inL_has hn)
theorem okC_I {C : CS} {f n : Nat} {v : Int32} (h : okC C) (h2 : f ≠ 2) (h3 : f ≠ 3) (h4 : f ≠ 4) (h5 : f ≠ 5) (h7 : f ≠ 7) (h8 : f ≠ 8) (h14 : f ≠ 14) (h19 : f ≠ 19) : okC (sI C f n v) :=
  okC_of h (fun g hg m => sI_o (by omega)) rfl (by rw [sI_o (by omega)]; exact h.2.2.1)
theorem okC_7 {C : CS} {n a : Nat} (h : okC C) (ha : a < 4) : okC (sI C 7 n (nI a)) := by
  obtain ⟨h1, h2, h3, h4⟩ := h
  refine ⟨fun m hm => ?_, h2, by rw [sI_o (by decide)]; exact h3, by rw [sI_o (by decide)]; exact h4⟩
  obtain ⟨a1, a2, a3, a4, a5, a6⟩ := h1 m hm
  rw [sI_o (by decide), sI_o (by decide), sI_o (by decide), sI_o (by decide), sI_o (f := 7) (g := 8) (by decide)]
  refine ⟨a1, a2, a3, a4, ?_, a6⟩
  rw [sI_1]
  split
  · exact ⟨a, ha, rfl⟩
  · exact a5
theorem okC_8 {C : CS} {n a : Nat} (h : okC C) (ha : a < 4) : okC (sI C 8 n (nI a)) := by
  obtain ⟨h1, h2, h3, h4⟩ := h
  refine ⟨fun m hm => ?_, h2, by rw [sI_o (by decide)]; exact h3, by rw [sI_o (by decide)]; exact h4⟩
  obtain ⟨a1, a2, a3, a4, a5, a6⟩ := h1 m hm
  rw [sI_o (by decide), sI_o (by decide), sI_o (by decide), sI_o (by decide), sI_o (f := 8) (g := 7) (by decide)]
  refine ⟨a1, a2, a3, a4, a5, ?_⟩
  rw [sI_1]
  split
  · exact ⟨a, ha, rfl⟩
  · exact a6
theorem okC_beg {C : CS} {n : Nat} (h : okC C) : okC (cbeg C n) := okC_I (okC_I h (by decide) (by decide) (by decide) (by decide) (by decide) (by decide) (by decide) (by decide)) (by decide) (by decide) (by decide) (by decide) (by decide) (by decide) (by decide) (by decide)
theorem cbelow_y {C : CS} {x y : Int64} {p : Int32} (h1 : isNum x) (h2 : isNum y) : cbelow C x y p = (0, if x < y then sI C 21 0 (nI (fmod p 16)) else C) := by unfold cbelow; rw [if_pos ⟨h1, h2⟩]
end
section
set_option maxHeartbeats 4000000 in
set_option maxRecDepth 100000 in
theorem c_Math_floorMod {l : Launch} {D : va_G} {t : Nat → ClassId} {ad : Nat → Nat} {C : CS} {x : Int32} {m : Nat} (hm : m = 4 ∨ m = 6 ∨ m = 16) : Cd l D t ad y_Math_floorMod b_Math_floorMod 3 (some .int) { frames := 0, cells := 0, slots := 0, locals := 0 } [.int x, .int (nI m)] (C) (some (.int (nI (fmod x m)))) (C) := by
  refine ct_ofF (by decide +kernel) (Nat.le_of_ble_eq_true rfl) ?_
  intro Γ _ _ hN h r
  refine g_at (L' := [some (.int x), some (.int (nI m)), none]) rfl rfl rfl ?_
  refine g_iload_n h d_Math_floorMod_0 rfl rfl ?_
  refine g_iload_n h d_Math_floorMod_1 rfl rfl ?_
  refine g_irem h d_Math_floorMod_2 (nI_ne0 (by omega) (by omega)) ?_
  refine g_istore_n h d_Math_floorMod_3 rfl rfl (by rw [hN]; decide) ?_
  refine g_iload_n h d_Math_floorMod_4 rfl rfl ?_
  refine g_iload_n h d_Math_floorMod_5 rfl rfl ?_
  refine g_ixor h d_Math_floorMod_6 ?_
  refine g_if_ge (tgt := 18) h d_Math_floorMod_7 (by decide) (fun c_7 => ?_) (fun c_7 => ?_)
  · refine g_iload_n h d_Math_floorMod_18 rfl rfl ?_
    exact g_iret h r d_Math_floorMod_19 (⟨by first | rw [fm_pos hm c_7] | rw [fm_zero hm c_11], rfl⟩)
  · refine g_iload_n h d_Math_floorMod_10 rfl rfl ?_
    refine g_if_eq (tgt := 18) h d_Math_floorMod_11 (by decide) (fun c_11 => ?_) (fun c_11 => ?_)
    · refine g_iload_n h d_Math_floorMod_18 rfl rfl ?_
      exact g_iret h r d_Math_floorMod_19 (⟨by first | rw [fm_pos hm c_7] | rw [fm_zero hm c_11], rfl⟩)
    · refine g_iload_n h d_Math_floorMod_14 rfl rfl ?_
      refine g_iload_n h d_Math_floorMod_15 rfl rfl ?_
      refine g_iadd h d_Math_floorMod_16 ?_
      exact g_iret h r d_Math_floorMod_17 (⟨by rw [fm_neg hm c_7 c_11], rfl⟩)
set_option maxHeartbeats 4000000 in
set_option maxRecDepth 100000 in
theorem c_Pro_jumpIf {l : Launch} {D : va_G} {t : Nat → ClassId} {ad : Nat → Nat} {C : CS} {b x : Int32} : Cd l D t ad y_Pro_jumpIf b_Pro_jumpIf 3 (some .int) { frames := 1, cells := 0, slots := 0, locals := 22 } [.ref (ad (ix 10 0)), .int b, .int x] (C) (some (.int 0)) (if b = 0 then C else sI C 21 0 (nI (fmod x 16))) := by
  refine ct_of (by decide) (Nat.le_of_ble_eq_true rfl) ?_
  intro Γ _ _ hN h r
  refine g_at (L' := [some (.ref (ad (ix 10 0))), some (.int b), some (.int x)]) rfl rfl rfl ?_
  refine g_iload_n h d_Pro_jumpIf_0 rfl rfl ?_
  refine g_if_eq (tgt := 14) h d_Pro_jumpIf_1 (by decide) (fun c_1 => ?_) (fun c_1 => ?_)
  · refine g_iconst (v := 0) h d_Pro_jumpIf_14 (by decide) ?_
    exact g_iret h r d_Pro_jumpIf_15 (⟨rfl, by simp [c_1]⟩)
  · refine g_aload_n h d_Pro_jumpIf_4 rfl rfl ?_
    refine g_iload_n h d_Pro_jumpIf_5 rfl rfl ?_
    refine g_bipush (v := 16) h d_Pro_jumpIf_6 (by decide) ?_
    refine g_dSi h tb_good (c_Math_floorMod (m := 16) (by omega)) v_Pro_108 nm_Math_floorMod rfl ⟨rfl, rfl, Nat.le_of_ble_eq_true rfl, Nat.le_of_ble_eq_true rfl, Nat.zero_le _, Nat.zero_le _⟩ rfl (Nat.le_of_ble_eq_true rfl) d_Pro_jumpIf_8 ?_
    refine pf_Pro_nextPlace h f_Pro_30 d_Pro_jumpIf_11 ?_
    refine g_iconst (v := 0) h d_Pro_jumpIf_14 (by decide) ?_
    exact g_iret h r d_Pro_jumpIf_15 (⟨rfl, by simp [c_1]⟩)
set_option maxHeartbeats 4000000 in
set_option maxRecDepth 100000 in
theorem c_Pro_jumpIfBelow {l : Launch} {D : va_G} {t : Nat → ClassId} {ad : Nat → Nat} {C : CS} {x y : Int64} {p : Int32} : Cd l D t ad y_Pro_jumpIfBelow b_Pro_jumpIfBelow 6 (some .int) { frames := 2, cells := 0, slots := 0, locals := 44 } [.ref (ad (ix 10 0)), .long x, .long y, .int p] (C) (some (.int (cbelow C x y p).1)) ((cbelow C x y p).2) := by
  refine ct_of (by decide) (Nat.le_of_ble_eq_true rfl) ?_
  intro Γ _ _ hN h r
  refine g_at (L' := [some (.ref (ad (ix 10 0))), some (.long x), none, some (.long y), none, some (.int p)]) rfl rfl rfl ?_
  refine g_lload_n h d_Pro_jumpIfBelow_0 rfl rfl ?_
  refine g_dNi h tb_good (c_TCM_isNumber) (host := "TriColourMachine") nl_Pro_165 cd_TCM_isNumber in_TCM st_TCM_isNumber nm_TCM_isNumber rfl ⟨rfl, rfl, Nat.le_of_ble_eq_true rfl, Nat.le_of_ble_eq_true rfl, Nat.zero_le _, Nat.zero_le _⟩ rfl (Nat.le_of_ble_eq_true rfl) d_Pro_jumpIfBelow_1 ?_
  by_cases h1 : (-2147483648 ≤ x ∧ x ≤ 2147483647)
  · rw [if_pos h1]
    refine g_if_eq (tgt := 14) h d_Pro_jumpIfBelow_4 (by decide) (fun c_4 => ?_) (fun c_4 => ?_)
    · exact absurd c_4 (by decide)
    · refine g_lload_n h d_Pro_jumpIfBelow_7 rfl rfl ?_
      refine g_dNi h tb_good (c_TCM_isNumber) (host := "TriColourMachine") nl_Pro_165 cd_TCM_isNumber in_TCM st_TCM_isNumber nm_TCM_isNumber rfl ⟨rfl, rfl, Nat.le_of_ble_eq_true rfl, Nat.le_of_ble_eq_true rfl, Nat.zero_le _, Nat.zero_le _⟩ rfl (Nat.le_of_ble_eq_true rfl) d_Pro_jumpIfBelow_8 ?_
      by_cases h2 : (-2147483648 ≤ y ∧ y ≤ 2147483647)
      · rw [if_pos h2]
        refine g_if_ne (tgt := 16) h d_Pro_jumpIfBelow_11 (by decide) (fun c_11 => ?_) (fun c_11 => ?_)
        · refine g_aload_n h d_Pro_jumpIfBelow_16 rfl rfl ?_
          refine g_lload_n h d_Pro_jumpIfBelow_17 rfl rfl ?_
          refine g_lload_n h d_Pro_jumpIfBelow_18 rfl rfl ?_
          refine g_lc_ge (tgt := 27) h d_Pro_jumpIfBelow_19 d_Pro_jumpIfBelow_20 (by decide) (fun c_20 => ?_) (fun c_20 => ?_)
          · refine g_iconst (v := 0) h d_Pro_jumpIfBelow_27 (by decide) ?_
            refine g_iload h d_Pro_jumpIfBelow_28 rfl ?_
            refine g_dVi h tb_good (c_Pro_jumpIf) (ix_lt 10 (by decide) _ (by decide)) (wc_at (by decide) (by decide)) rfl v_Pro_145 nm_Pro_jumpIf rfl ⟨rfl, rfl, Nat.le_of_ble_eq_true rfl, Nat.le_of_ble_eq_true rfl, Nat.zero_le _, Nat.zero_le _⟩ rfl (Nat.le_of_ble_eq_true rfl) d_Pro_jumpIfBelow_30 ?_
            exact g_iret h r d_Pro_jumpIfBelow_33 (⟨by rw [cbelow_y h1 h2], by first | (simp [cbelow_y h1 h2, Int64.not_le.mp c_20]; done) | (simp [cbelow_y h1 h2, Int64.not_lt.mpr c_20]; done)⟩)
          · refine g_iconst (v := 1) h d_Pro_jumpIfBelow_23 (by decide) ?_
            refine g_goto (tgt := 28) h d_Pro_jumpIfBelow_24 (by decide) ?_
            refine g_iload h d_Pro_jumpIfBelow_28 rfl ?_
            refine g_dVi h tb_good (c_Pro_jumpIf) (ix_lt 10 (by decide) _ (by decide)) (wc_at (by decide) (by decide)) rfl v_Pro_145 nm_Pro_jumpIf rfl ⟨rfl, rfl, Nat.le_of_ble_eq_true rfl, Nat.le_of_ble_eq_true rfl, Nat.zero_le _, Nat.zero_le _⟩ rfl (Nat.le_of_ble_eq_true rfl) d_Pro_jumpIfBelow_30 ?_
            exact g_iret h r d_Pro_jumpIfBelow_33 (⟨by rw [cbelow_y h1 h2], by first | (simp [cbelow_y h1 h2, Int64.not_le.mp c_20]; done) | (simp [cbelow_y h1 h2, Int64.not_lt.mpr c_20]; done)⟩)
        · exact absurd c_11 (by decide)
      · rw [if_neg h2]
        refine g_if_ne (tgt := 16) h d_Pro_jumpIfBelow_11 (by decide) (fun c_11 => ?_) (fun c_11 => ?_)
        · exact absurd rfl c_11
        · refine g_iconst (v := 1) h d_Pro_jumpIfBelow_14 (by decide) ?_
          exact g_iret h r d_Pro_jumpIfBelow_15 (⟨by unfold cbelow isNum; first | (rw [if_neg (fun z => h1 z.1)]; done) | (rw [if_neg (fun z => h2 z.2)]; done), by unfold cbelow isNum; first | (rw [if_neg (fun z => h1 z.1)]; done) | (rw [if_neg (fun z => h2 z.2)]; done)⟩)
  · rw [if_neg h1]
    refine g_if_eq (tgt := 14) h d_Pro_jumpIfBelow_4 (by decide) (fun c_4 => ?_) (fun c_4 => ?_)
    · refine g_iconst (v := 1) h d_Pro_jumpIfBelow_14 (by decide) ?_
      exact g_iret h r d_Pro_jumpIfBelow_15 (⟨by unfold cbelow isNum; first | (rw [if_neg (fun z => h1 z.1)]; done) | (rw [if_neg (fun z => h2 z.2)]; done), by unfold cbelow isNum; first | (rw [if_neg (fun z => h1 z.1)]; done) | (rw [if_neg (fun z => h2 z.2)]; done)⟩)
    · exact absurd rfl c_4
end
section
set_option maxHeartbeats 4000000 in
set_option maxRecDepth 100000 in
theorem c_Pro_perform {l : Launch} {D : va_G} {t : Nat → ClassId} {ad : Nat → Nat} {C : CS} {n k o d : Nat} (hok : okC C) (hn : n < 16) (hk : k < 68) (hop : C.1 9 k = nI o) (ho : o ≤ 21) (hd5 : d < 5) (hd : C.1 19 0 = nI (d + 1)) (hact : ∀ i, i < d + 1 → ∃ n, n < 16 ∧ C.2.2 i = some n) : Cd l D t ad y_Pro_perform b_Pro_perform 7 (some .int) { frames := 5, cells := 0, slots := 0, locals := 127 } [.ref (ad (ix 10 0)), .ref (ad (ix 8 n)), .ref (ad (ix 13 k))] (C) (some (.int (cperfO C n k o).1)) ((cperfO C n k o).2) := by
  refine ct_of (by decide) (Nat.le_of_ble_eq_true rfl) ?_
  intro Γ _ _ hN h r
  have hok1 : okC (cbeg C n) := okC_beg hok
  refine g_at (L' := [some (.ref (ad (ix 10 0))), some (.ref (ad (ix 8 n))), some (.ref (ad (ix 13 k))), none, none, none, none]) rfl rfl rfl ?_
  refine g_aload_n h d_Pro_perform_0 rfl rfl ?_
  refine gf_Ins_op h f_Pro_102 (by first | assumption | omega | (show _ < 16; omega) | (show _ < 68; omega)) d_Pro_perform_1 ?_
  rw [hop]
  refine g_iconst (v := -1) h d_Pro_perform_4 (by decide) ?_
  refine g_icmp_ne (tgt := 10) h d_Pro_perform_5 (by decide) (fun c_5 => ?_) (fun c_5 => ?_)
  · refine g_aload_n h d_Pro_perform_10 rfl rfl ?_
    refine g_dup h d_Pro_perform_11 rfl ?_
    refine gf_Pro_begun h f_Pro_27 d_Pro_perform_12 ?_
    skip
    refine g_iconst (v := 1) h d_Pro_perform_15 (by decide) ?_
    refine g_iadd h d_Pro_perform_16 ?_
    refine pf_Pro_begun h f_Pro_27 d_Pro_perform_17 ?_
    refine g_aload_n h d_Pro_perform_20 rfl rfl ?_
    refine g_aload_n h d_Pro_perform_21 rfl rfl ?_
    refine gf_Cor_place h f_Pro_51 (by first | assumption | omega | (show _ < 16; omega) | (show _ < 68; omega)) d_Pro_perform_22 ?_
    simp only [sI_1, sI_2, sJ_1, sJ_2, sJ_3, sR_1, sR_2, sR_3, Nat.reduceEqDiff, Nat.zero_ne_one, Nat.one_ne_zero, Nat.succ_ne_zero, reduceCtorEq, false_and, if_false, true_and, and_self, if_true, and_true, and_false, reduceIte]
    refine g_iconst (v := 1) h d_Pro_perform_25 (by decide) ?_
    refine g_iadd h d_Pro_perform_26 ?_
    refine pf_Pro_nextPlace h f_Pro_30 d_Pro_perform_27 ?_
    show G Γ 0 0 171 ad (wc ad t (cbeg C n)) 30 _ _
    refine g_aload_n h d_Pro_perform_30 rfl rfl ?_
    refine gf_Cor_registers h f_Pro_88 (by first | assumption | omega | (show _ < 16; omega) | (show _ < 68; omega)) d_Pro_perform_31 ?_
    refine g_astore_n h d_Pro_perform_34 rfl rfl (by rw [hN]; decide) ?_
    refine g_aload_n h d_Pro_perform_35 rfl rfl ?_
    refine gf_Ins_a h f_Pro_105 (by first | assumption | omega | (show _ < 16; omega) | (show _ < 68; omega)) d_Pro_perform_36 ?_
    rw [show (cbeg C n).1 10 k = C.1 10 k from rfl]
    refine g_iconst (v := 4) h d_Pro_perform_39 (by decide) ?_
    refine g_dSi h tb_good (c_Math_floorMod (m := 4) (by omega)) v_Pro_108 nm_Math_floorMod rfl ⟨rfl, rfl, Nat.le_of_ble_eq_true rfl, Nat.le_of_ble_eq_true rfl, Nat.zero_le _, Nat.zero_le _⟩ rfl (Nat.le_of_ble_eq_true rfl) d_Pro_perform_40 ?_
    refine g_istore h d_Pro_perform_43 rfl (by rw [hN]; decide) ?_
    refine g_aload_n h d_Pro_perform_45 rfl rfl ?_
    refine gf_Ins_b h f_Pro_114 (by first | assumption | omega | (show _ < 16; omega) | (show _ < 68; omega)) d_Pro_perform_46 ?_
    rw [show (cbeg C n).1 11 k = C.1 11 k from rfl]
    refine g_iconst (v := 4) h d_Pro_perform_49 (by decide) ?_
    refine g_dSi h tb_good (c_Math_floorMod (m := 4) (by omega)) v_Pro_108 nm_Math_floorMod rfl ⟨rfl, rfl, Nat.le_of_ble_eq_true rfl, Nat.le_of_ble_eq_true rfl, Nat.zero_le _, Nat.zero_le _⟩ rfl (Nat.le_of_ble_eq_true rfl) d_Pro_perform_50 ?_
    refine g_istore h d_Pro_perform_53 rfl (by rw [hN]; decide) ?_
    refine g_aload_n h d_Pro_perform_55 rfl rfl ?_
    refine gf_Ins_c h f_Pro_117 (by first | assumption | omega | (show _ < 16; omega) | (show _ < 68; omega)) d_Pro_perform_56 ?_
    rw [show (cbeg C n).1 12 k = C.1 12 k from rfl]
    refine g_iconst (v := 4) h d_Pro_perform_59 (by decide) ?_
    refine g_dSi h tb_good (c_Math_floorMod (m := 4) (by omega)) v_Pro_108 nm_Math_floorMod rfl ⟨rfl, rfl, Nat.le_of_ble_eq_true rfl, Nat.le_of_ble_eq_true rfl, Nat.zero_le _, Nat.zero_le _⟩ rfl (Nat.le_of_ble_eq_true rfl) d_Pro_perform_60 ?_
    refine g_istore h d_Pro_perform_63 rfl (by rw [hN]; decide) ?_
    refine g_aload_n h d_Pro_perform_65 rfl rfl ?_
    refine gf_Ins_op h f_Pro_102 (by first | assumption | omega | (show _ < 16; omega) | (show _ < 68; omega)) d_Pro_perform_66 ?_
    rw [show (cbeg C n).1 9 k = C.1 9 k from rfl, hop]
    have hcs : o = 0 ∨ o = 1 ∨ o = 2 ∨ o = 3 ∨ o = 4 ∨ o = 5 ∨ o = 6 ∨ o = 7 ∨ o = 8 ∨ o = 9 ∨ o = 10 ∨ o = 11 ∨ o = 12 ∨ o = 13 ∨ o = 14 ∨ o = 15 ∨ o = 16 ∨ o = 17 ∨ o = 18 ∨ o = 19 ∨ o = 20 ∨ o = 21 := by omega
    rcases hcs with rfl | rfl | rfl | rfl | rfl | rfl | rfl | rfl | rfl | rfl | rfl | rfl | rfl | rfl | rfl | rfl | rfl | rfl | rfl | rfl | rfl | rfl
    · refine g_tableIn (off := 103) (tgt := 172) h d_Pro_perform_69 (by decide) (by decide) (by decide) (by decide) ?_
      refine g_aload_n h d_Pro_perform_172 rfl rfl ?_
      refine g_iload h d_Pro_perform_173 rfl ?_
      refine g_ldc2 (v := -1000000000000) h d_Pro_perform_175 k_Pro_33 ?_
      refine pa_regs h hn rfl (fmod_lt _ (by decide)) d_Pro_perform_178 ?_
      refine g_iconst (v := 0) h d_Pro_perform_179 (by decide) ?_
      exact g_iret h r d_Pro_perform_180 (⟨rfl, rfl⟩)
    · refine g_tableIn (off := 112) (tgt := 181) h d_Pro_perform_69 (by decide) (by decide) (by decide) (by decide) ?_
      refine g_aload_n h d_Pro_perform_181 rfl rfl ?_
      refine g_iload h d_Pro_perform_182 rfl ?_
      refine g_aload_n h d_Pro_perform_184 rfl rfl ?_
      refine gf_Ins_c h f_Pro_117 (by first | assumption | omega | (show _ < 16; omega) | (show _ < 68; omega)) d_Pro_perform_185 ?_
      refine g_i2l h d_Pro_perform_188 ?_
      refine pa_regs h hn rfl (fmod_lt _ (by decide)) d_Pro_perform_189 ?_
      refine g_iconst (v := 0) h d_Pro_perform_190 (by decide) ?_
      exact g_iret h r d_Pro_perform_191 (⟨rfl, rfl⟩)
    · refine g_tableIn (off := 123) (tgt := 192) h d_Pro_perform_69 (by decide) (by decide) (by decide) (by decide) ?_
      refine g_aload_n h d_Pro_perform_192 rfl rfl ?_
      refine g_iload h d_Pro_perform_193 rfl ?_
      refine g_aload_n h d_Pro_perform_195 rfl rfl ?_
      refine g_iload h d_Pro_perform_196 rfl ?_
      refine ga_regs h hn rfl (fmod_lt _ (by decide)) d_Pro_perform_198 ?_
      refine pa_regs h hn rfl (fmod_lt _ (by decide)) d_Pro_perform_199 ?_
      refine g_iconst (v := 0) h d_Pro_perform_200 (by decide) ?_
      exact g_iret h r d_Pro_perform_201 (⟨rfl, rfl⟩)
    · refine g_tableIn (off := 133) (tgt := 202) h d_Pro_perform_69 (by decide) (by decide) (by decide) (by decide) ?_
      refine g_aload_n h d_Pro_perform_202 rfl rfl ?_
      refine g_iload h d_Pro_perform_203 rfl ?_
      refine g_aload_n h d_Pro_perform_205 rfl rfl ?_
      refine gf_Pro_heap h f_Pro_39 d_Pro_perform_206 ?_
      refine gf_Heap_globals h f_Pro_120 d_Pro_perform_209 ?_
      refine g_aload_n h d_Pro_perform_212 rfl rfl ?_
      refine gf_Ins_c h f_Pro_117 (by first | assumption | omega | (show _ < 16; omega) | (show _ < 68; omega)) d_Pro_perform_213 ?_
      refine g_bipush (v := 6) h d_Pro_perform_216 (by decide) ?_
      refine g_dSi h tb_good (c_Math_floorMod (m := 6) (by omega)) v_Pro_108 nm_Math_floorMod rfl ⟨rfl, rfl, Nat.le_of_ble_eq_true rfl, Nat.le_of_ble_eq_true rfl, Nat.zero_le _, Nat.zero_le _⟩ rfl (Nat.le_of_ble_eq_true rfl) d_Pro_perform_218 ?_
      refine ga_glo h rfl (fmod_lt _ (by decide)) d_Pro_perform_221 ?_
      refine pa_regs h hn rfl (fmod_lt _ (by decide)) d_Pro_perform_222 ?_
      refine g_iconst (v := 0) h d_Pro_perform_223 (by decide) ?_
      exact g_iret h r d_Pro_perform_224 (⟨rfl, rfl⟩)
    · refine g_tableIn (off := 156) (tgt := 225) h d_Pro_perform_69 (by decide) (by decide) (by decide) (by decide) ?_
      refine g_aload_n h d_Pro_perform_225 rfl rfl ?_
      refine gf_Pro_heap h f_Pro_39 d_Pro_perform_226 ?_
      refine gf_Heap_globals h f_Pro_120 d_Pro_perform_229 ?_
      refine g_aload_n h d_Pro_perform_232 rfl rfl ?_
      refine gf_Ins_c h f_Pro_117 (by first | assumption | omega | (show _ < 16; omega) | (show _ < 68; omega)) d_Pro_perform_233 ?_
      refine g_bipush (v := 6) h d_Pro_perform_236 (by decide) ?_
      refine g_dSi h tb_good (c_Math_floorMod (m := 6) (by omega)) v_Pro_108 nm_Math_floorMod rfl ⟨rfl, rfl, Nat.le_of_ble_eq_true rfl, Nat.le_of_ble_eq_true rfl, Nat.zero_le _, Nat.zero_le _⟩ rfl (Nat.le_of_ble_eq_true rfl) d_Pro_perform_238 ?_
      refine g_aload_n h d_Pro_perform_241 rfl rfl ?_
      refine g_iload h d_Pro_perform_242 rfl ?_
      refine ga_regs h hn rfl (fmod_lt _ (by decide)) d_Pro_perform_244 ?_
      refine pa_glo h rfl (fmod_lt _ (by decide)) d_Pro_perform_245 ?_
      refine g_iconst (v := 0) h d_Pro_perform_246 (by decide) ?_
      exact g_iret h r d_Pro_perform_247 (⟨rfl, rfl⟩)
    · refine g_tableIn (off := 179) (tgt := 248) h d_Pro_perform_69 (by decide) (by decide) (by decide) (by decide) ?_
      refine g_aload_n h d_Pro_perform_248 rfl rfl ?_
      refine g_aload_n h d_Pro_perform_249 rfl rfl ?_
      refine g_iload h d_Pro_perform_250 rfl ?_
      refine g_aload_n h d_Pro_perform_252 rfl rfl ?_
      refine gf_Pro_heap h f_Pro_39 d_Pro_perform_253 ?_
      refine g_iconst (v := 1) h d_Pro_perform_256 (by decide) ?_
      refine g_iconst (v := 0) h d_Pro_perform_257 (by decide) ?_
      refine g_dVi h tb_good (c_Heap_create (C := (cbeg C n)) hok1) (ix_lt 1 (by decide) _ (by decide)) (wc_at (by decide) (by decide)) rfl v_Pro_123 nm_Heap_create rfl ⟨rfl, rfl, Nat.le_of_ble_eq_true rfl, Nat.le_of_ble_eq_true rfl, Nat.zero_le _, Nat.zero_le _⟩ rfl (Nat.le_of_ble_eq_true rfl) d_Pro_perform_258 ?_
      refine g_dVi h tb_good (c_Pro_keepFound hn (fmod_lt _ (by decide))) (ix_lt 10 (by decide) _ (by decide)) (wc_at (by decide) (by decide)) rfl v_Pro_126 nm_Pro_keepFound rfl ⟨rfl, rfl, Nat.le_of_ble_eq_true rfl, Nat.le_of_ble_eq_true rfl, Nat.zero_le _, Nat.zero_le _⟩ rfl (Nat.le_of_ble_eq_true rfl) d_Pro_perform_261 ?_
      exact g_iret h r d_Pro_perform_264 (⟨rfl, rfl⟩)
    · refine g_tableIn (off := 196) (tgt := 265) h d_Pro_perform_69 (by decide) (by decide) (by decide) (by decide) ?_
      refine g_aload_n h d_Pro_perform_265 rfl rfl ?_
      refine g_aload_n h d_Pro_perform_266 rfl rfl ?_
      refine g_iload h d_Pro_perform_267 rfl ?_
      refine g_aload_n h d_Pro_perform_269 rfl rfl ?_
      refine gf_Pro_heap h f_Pro_39 d_Pro_perform_270 ?_
      refine g_aload_n h d_Pro_perform_273 rfl rfl ?_
      refine g_iload h d_Pro_perform_274 rfl ?_
      refine ga_regs h hn rfl (fmod_lt _ (by decide)) d_Pro_perform_276 ?_
      refine g_aload_n h d_Pro_perform_277 rfl rfl ?_
      refine g_iload h d_Pro_perform_278 rfl ?_
      refine ga_regs h hn rfl (fmod_lt _ (by decide)) d_Pro_perform_280 ?_
      refine g_dVi h tb_good (c_Heap_getting (C := (cbeg C n)) (tb := (C.2.1 3 n (fmod (C.1 11 k) 4))) (k := (C.2.1 3 n (fmod (C.1 12 k) 4))) hok1 (hok.2.1 _ _ _)) (ix_lt 1 (by decide) _ (by decide)) (wc_at (by decide) (by decide)) rfl v_Pro_130 nm_Heap_getting rfl ⟨rfl, rfl, Nat.le_of_ble_eq_true rfl, Nat.le_of_ble_eq_true rfl, Nat.zero_le _, Nat.zero_le _⟩ rfl (Nat.le_of_ble_eq_true rfl) d_Pro_perform_281 ?_
      refine g_dVi h tb_good (c_Pro_keepFound hn (fmod_lt _ (by decide))) (ix_lt 10 (by decide) _ (by decide)) (wc_at (by decide) (by decide)) rfl v_Pro_126 nm_Pro_keepFound rfl ⟨rfl, rfl, Nat.le_of_ble_eq_true rfl, Nat.le_of_ble_eq_true rfl, Nat.zero_le _, Nat.zero_le _⟩ rfl (Nat.le_of_ble_eq_true rfl) d_Pro_perform_284 ?_
      exact g_iret h r d_Pro_perform_287 (⟨rfl, rfl⟩)
    · refine g_tableIn (off := 219) (tgt := 288) h d_Pro_perform_69 (by decide) (by decide) (by decide) (by decide) ?_
      refine g_aload_n h d_Pro_perform_288 rfl rfl ?_
      refine gf_Pro_heap h f_Pro_39 d_Pro_perform_289 ?_
      refine g_aload_n h d_Pro_perform_292 rfl rfl ?_
      refine g_iload h d_Pro_perform_293 rfl ?_
      refine ga_regs h hn rfl (fmod_lt _ (by decide)) d_Pro_perform_295 ?_
      refine g_aload_n h d_Pro_perform_296 rfl rfl ?_
      refine g_iload h d_Pro_perform_297 rfl ?_
      refine ga_regs h hn rfl (fmod_lt _ (by decide)) d_Pro_perform_299 ?_
      refine g_aload_n h d_Pro_perform_300 rfl rfl ?_
      refine g_iload h d_Pro_perform_301 rfl ?_
      refine ga_regs h hn rfl (fmod_lt _ (by decide)) d_Pro_perform_303 ?_
      refine g_dVi h tb_good (c_Heap_setting (C := (cbeg C n)) (tb := (C.2.1 3 n (fmod (C.1 10 k) 4))) (k := (C.2.1 3 n (fmod (C.1 11 k) 4))) (v := (C.2.1 3 n (fmod (C.1 12 k) 4))) hok1 (hok.2.1 _ _ _)) (ix_lt 1 (by decide) _ (by decide)) (wc_at (by decide) (by decide)) rfl v_Pro_133 nm_Heap_setting rfl ⟨rfl, rfl, Nat.le_of_ble_eq_true rfl, Nat.le_of_ble_eq_true rfl, Nat.zero_le _, Nat.zero_le _⟩ rfl (Nat.le_of_ble_eq_true rfl) d_Pro_perform_304 ?_
      exact g_iret h r d_Pro_perform_307 (⟨rfl, rfl⟩)
    · refine g_tableIn (off := 239) (tgt := 308) h d_Pro_perform_69 (by decide) (by decide) (by decide) (by decide) ?_
      refine g_aload_n h d_Pro_perform_308 rfl rfl ?_
      refine gf_Ins_op h f_Pro_102 (by first | assumption | omega | (show _ < 16; omega) | (show _ < 68; omega)) d_Pro_perform_309 ?_
      rw [show (cbeg C n).1 9 k = C.1 9 k from rfl, hop]
      refine g_aload_n h d_Pro_perform_312 rfl rfl ?_
      refine g_iload h d_Pro_perform_313 rfl ?_
      refine g_aload_n h d_Pro_perform_315 rfl rfl ?_
      refine g_iload h d_Pro_perform_316 rfl ?_
      refine ga_regs h hn rfl (fmod_lt _ (by decide)) d_Pro_perform_318 ?_
      refine g_aload_n h d_Pro_perform_319 rfl rfl ?_
      refine g_iload h d_Pro_perform_320 rfl ?_
      refine ga_regs h hn rfl (fmod_lt _ (by decide)) d_Pro_perform_322 ?_
      refine g_dSi h tb_good (c_Pro_calculate (C := (cbeg C n)) (x := (C.2.1 3 n (fmod (C.1 11 k) 4))) (y := (C.2.1 3 n (fmod (C.1 12 k) 4))) hn (fmod_lt _ (by decide))) v_Pro_137 nm_Pro_calculate rfl ⟨rfl, rfl, Nat.le_of_ble_eq_true rfl, Nat.le_of_ble_eq_true rfl, Nat.zero_le _, Nat.zero_le _⟩ rfl (Nat.le_of_ble_eq_true rfl) d_Pro_perform_323 ?_
      exact g_iret h r d_Pro_perform_326 (⟨rfl, rfl⟩)
    · refine g_tableIn (off := 239) (tgt := 308) h d_Pro_perform_69 (by decide) (by decide) (by decide) (by decide) ?_
      refine g_aload_n h d_Pro_perform_308 rfl rfl ?_
      refine gf_Ins_op h f_Pro_102 (by first | assumption | omega | (show _ < 16; omega) | (show _ < 68; omega)) d_Pro_perform_309 ?_
      rw [show (cbeg C n).1 9 k = C.1 9 k from rfl, hop]
      refine g_aload_n h d_Pro_perform_312 rfl rfl ?_
      refine g_iload h d_Pro_perform_313 rfl ?_
      refine g_aload_n h d_Pro_perform_315 rfl rfl ?_
      refine g_iload h d_Pro_perform_316 rfl ?_
      refine ga_regs h hn rfl (fmod_lt _ (by decide)) d_Pro_perform_318 ?_
      refine g_aload_n h d_Pro_perform_319 rfl rfl ?_
      refine g_iload h d_Pro_perform_320 rfl ?_
      refine ga_regs h hn rfl (fmod_lt _ (by decide)) d_Pro_perform_322 ?_
      refine g_dSi h tb_good (c_Pro_calculate (C := (cbeg C n)) (x := (C.2.1 3 n (fmod (C.1 11 k) 4))) (y := (C.2.1 3 n (fmod (C.1 12 k) 4))) hn (fmod_lt _ (by decide))) v_Pro_137 nm_Pro_calculate rfl ⟨rfl, rfl, Nat.le_of_ble_eq_true rfl, Nat.le_of_ble_eq_true rfl, Nat.zero_le _, Nat.zero_le _⟩ rfl (Nat.le_of_ble_eq_true rfl) d_Pro_perform_323 ?_
      exact g_iret h r d_Pro_perform_326 (⟨rfl, rfl⟩)
    · refine g_tableIn (off := 239) (tgt := 308) h d_Pro_perform_69 (by decide) (by decide) (by decide) (by decide) ?_
      refine g_aload_n h d_Pro_perform_308 rfl rfl ?_
      refine gf_Ins_op h f_Pro_102 (by first | assumption | omega | (show _ < 16; omega) | (show _ < 68; omega)) d_Pro_perform_309 ?_
      rw [show (cbeg C n).1 9 k = C.1 9 k from rfl, hop]
      refine g_aload_n h d_Pro_perform_312 rfl rfl ?_
      refine g_iload h d_Pro_perform_313 rfl ?_
      refine g_aload_n h d_Pro_perform_315 rfl rfl ?_
      refine g_iload h d_Pro_perform_316 rfl ?_
      refine ga_regs h hn rfl (fmod_lt _ (by decide)) d_Pro_perform_318 ?_
      refine g_aload_n h d_Pro_perform_319 rfl rfl ?_
      refine g_iload h d_Pro_perform_320 rfl ?_
      refine ga_regs h hn rfl (fmod_lt _ (by decide)) d_Pro_perform_322 ?_
      refine g_dSi h tb_good (c_Pro_calculate (C := (cbeg C n)) (x := (C.2.1 3 n (fmod (C.1 11 k) 4))) (y := (C.2.1 3 n (fmod (C.1 12 k) 4))) hn (fmod_lt _ (by decide))) v_Pro_137 nm_Pro_calculate rfl ⟨rfl, rfl, Nat.le_of_ble_eq_true rfl, Nat.le_of_ble_eq_true rfl, Nat.zero_le _, Nat.zero_le _⟩ rfl (Nat.le_of_ble_eq_true rfl) d_Pro_perform_323 ?_
      exact g_iret h r d_Pro_perform_326 (⟨rfl, rfl⟩)
    · refine g_tableIn (off := 258) (tgt := 327) h d_Pro_perform_69 (by decide) (by decide) (by decide) (by decide) ?_
      refine g_aload_n h d_Pro_perform_327 rfl rfl ?_
      refine g_aload_n h d_Pro_perform_328 rfl rfl ?_
      refine g_iload h d_Pro_perform_329 rfl ?_
      refine ga_regs h hn rfl (fmod_lt _ (by decide)) d_Pro_perform_331 ?_
      refine g_aload_n h d_Pro_perform_332 rfl rfl ?_
      refine g_iload h d_Pro_perform_333 rfl ?_
      refine ga_regs h hn rfl (fmod_lt _ (by decide)) d_Pro_perform_335 ?_
      refine g_aload_n h d_Pro_perform_336 rfl rfl ?_
      refine gf_Ins_c h f_Pro_117 (by first | assumption | omega | (show _ < 16; omega) | (show _ < 68; omega)) d_Pro_perform_337 ?_
      refine g_dVi h tb_good (c_Pro_jumpIfBelow (C := (cbeg C n))) (ix_lt 10 (by decide) _ (by decide)) (wc_at (by decide) (by decide)) rfl v_Pro_141 nm_Pro_jumpIfBelow rfl ⟨rfl, rfl, Nat.le_of_ble_eq_true rfl, Nat.le_of_ble_eq_true rfl, Nat.zero_le _, Nat.zero_le _⟩ rfl (Nat.le_of_ble_eq_true rfl) d_Pro_perform_340 ?_
      exact g_iret h r d_Pro_perform_343 (⟨rfl, rfl⟩)
    · refine g_tableIn (off := 275) (tgt := 344) h d_Pro_perform_69 (by decide) (by decide) (by decide) (by decide) ?_
      refine g_aload_n h d_Pro_perform_344 rfl rfl ?_
      refine g_iconst (v := 1) h d_Pro_perform_345 (by decide) ?_
      refine g_aload_n h d_Pro_perform_346 rfl rfl ?_
      refine gf_Ins_c h f_Pro_117 (by first | assumption | omega | (show _ < 16; omega) | (show _ < 68; omega)) d_Pro_perform_347 ?_
      refine g_dVi h tb_good (c_Pro_jumpIf (C := (cbeg C n))) (ix_lt 10 (by decide) _ (by decide)) (wc_at (by decide) (by decide)) rfl v_Pro_145 nm_Pro_jumpIf rfl ⟨rfl, rfl, Nat.le_of_ble_eq_true rfl, Nat.le_of_ble_eq_true rfl, Nat.zero_le _, Nat.zero_le _⟩ rfl (Nat.le_of_ble_eq_true rfl) d_Pro_perform_350 ?_
      exact g_iret h r d_Pro_perform_353 (⟨rfl, rfl⟩)
    · refine g_tableIn (off := 285) (tgt := 354) h d_Pro_perform_69 (by decide) (by decide) (by decide) (by decide) ?_
      refine g_aload_n h d_Pro_perform_354 rfl rfl ?_
      refine g_aload_n h d_Pro_perform_355 rfl rfl ?_
      refine g_iload h d_Pro_perform_356 rfl ?_
      refine ga_regs h hn rfl (fmod_lt _ (by decide)) d_Pro_perform_358 ?_
      refine g_ldc2 (v := -1000000000000) h d_Pro_perform_359 k_Pro_33 ?_
      refine g_lc_ne (tgt := 370) h d_Pro_perform_362 d_Pro_perform_363 (by decide) (fun c_363 => ?_) (fun c_363 => ?_)
      · refine g_iconst (v := 0) h d_Pro_perform_370 (by decide) ?_
        refine g_aload_n h d_Pro_perform_371 rfl rfl ?_
        refine gf_Ins_c h f_Pro_117 (by first | assumption | omega | (show _ < 16; omega) | (show _ < 68; omega)) d_Pro_perform_372 ?_
        refine g_dVi h tb_good (c_Pro_jumpIf (C := (cbeg C n))) (ix_lt 10 (by decide) _ (by decide)) (wc_at (by decide) (by decide)) rfl v_Pro_145 nm_Pro_jumpIf rfl ⟨rfl, rfl, Nat.le_of_ble_eq_true rfl, Nat.le_of_ble_eq_true rfl, Nat.zero_le _, Nat.zero_le _⟩ rfl (Nat.le_of_ble_eq_true rfl) d_Pro_perform_375 ?_
        exact g_iret h r d_Pro_perform_378 (⟨rfl, by first | exact congrArg (wc ad t) (if_neg c_363).symm | exact congrArg (wc ad t) (if_pos c_363).symm⟩)
      · refine g_iconst (v := 1) h d_Pro_perform_366 (by decide) ?_
        refine g_goto (tgt := 371) h d_Pro_perform_367 (by decide) ?_
        refine g_aload_n h d_Pro_perform_371 rfl rfl ?_
        refine gf_Ins_c h f_Pro_117 (by first | assumption | omega | (show _ < 16; omega) | (show _ < 68; omega)) d_Pro_perform_372 ?_
        refine g_dVi h tb_good (c_Pro_jumpIf (C := (cbeg C n))) (ix_lt 10 (by decide) _ (by decide)) (wc_at (by decide) (by decide)) rfl v_Pro_145 nm_Pro_jumpIf rfl ⟨rfl, rfl, Nat.le_of_ble_eq_true rfl, Nat.le_of_ble_eq_true rfl, Nat.zero_le _, Nat.zero_le _⟩ rfl (Nat.le_of_ble_eq_true rfl) d_Pro_perform_375 ?_
        exact g_iret h r d_Pro_perform_378 (⟨rfl, by first | exact congrArg (wc ad t) (if_neg c_363).symm | exact congrArg (wc ad t) (if_pos c_363).symm⟩)
    · refine g_tableIn (off := 310) (tgt := 379) h d_Pro_perform_69 (by decide) (by decide) (by decide) (by decide) ?_
      refine g_aload_n h d_Pro_perform_379 rfl rfl ?_
      refine g_aload_n h d_Pro_perform_380 rfl rfl ?_
      refine g_iload h d_Pro_perform_381 rfl ?_
      refine ga_regs h hn rfl (fmod_lt _ (by decide)) d_Pro_perform_383 ?_
      refine g_aload_n h d_Pro_perform_384 rfl rfl ?_
      refine g_iload h d_Pro_perform_385 rfl ?_
      refine ga_regs h hn rfl (fmod_lt _ (by decide)) d_Pro_perform_387 ?_
      refine g_lc_ne (tgt := 396) h d_Pro_perform_388 d_Pro_perform_389 (by decide) (fun c_389 => ?_) (fun c_389 => ?_)
      · refine g_iconst (v := 0) h d_Pro_perform_396 (by decide) ?_
        refine g_aload_n h d_Pro_perform_397 rfl rfl ?_
        refine gf_Ins_c h f_Pro_117 (by first | assumption | omega | (show _ < 16; omega) | (show _ < 68; omega)) d_Pro_perform_398 ?_
        refine g_dVi h tb_good (c_Pro_jumpIf (C := (cbeg C n))) (ix_lt 10 (by decide) _ (by decide)) (wc_at (by decide) (by decide)) rfl v_Pro_145 nm_Pro_jumpIf rfl ⟨rfl, rfl, Nat.le_of_ble_eq_true rfl, Nat.le_of_ble_eq_true rfl, Nat.zero_le _, Nat.zero_le _⟩ rfl (Nat.le_of_ble_eq_true rfl) d_Pro_perform_401 ?_
        exact g_iret h r d_Pro_perform_404 (⟨rfl, by first | exact congrArg (wc ad t) (if_neg c_389).symm | exact congrArg (wc ad t) (if_pos c_389).symm⟩)
      · refine g_iconst (v := 1) h d_Pro_perform_392 (by decide) ?_
        refine g_goto (tgt := 397) h d_Pro_perform_393 (by decide) ?_
        refine g_aload_n h d_Pro_perform_397 rfl rfl ?_
        refine gf_Ins_c h f_Pro_117 (by first | assumption | omega | (show _ < 16; omega) | (show _ < 68; omega)) d_Pro_perform_398 ?_
        refine g_dVi h tb_good (c_Pro_jumpIf (C := (cbeg C n))) (ix_lt 10 (by decide) _ (by decide)) (wc_at (by decide) (by decide)) rfl v_Pro_145 nm_Pro_jumpIf rfl ⟨rfl, rfl, Nat.le_of_ble_eq_true rfl, Nat.le_of_ble_eq_true rfl, Nat.zero_le _, Nat.zero_le _⟩ rfl (Nat.le_of_ble_eq_true rfl) d_Pro_perform_401 ?_
        exact g_iret h r d_Pro_perform_404 (⟨rfl, by first | exact congrArg (wc ad t) (if_neg c_389).symm | exact congrArg (wc ad t) (if_pos c_389).symm⟩)
    · refine g_tableIn (off := 336) (tgt := 405) h d_Pro_perform_69 (by decide) (by decide) (by decide) (by decide) ?_
      refine g_aload_n h d_Pro_perform_405 rfl rfl ?_
      refine gf_Pro_heap h f_Pro_39 d_Pro_perform_406 ?_
      refine g_aload_n h d_Pro_perform_409 rfl rfl ?_
      refine g_iload h d_Pro_perform_410 rfl ?_
      refine ga_regs h hn rfl (fmod_lt _ (by decide)) d_Pro_perform_412 ?_
      refine g_aload_n h d_Pro_perform_413 rfl rfl ?_
      refine g_iload h d_Pro_perform_414 rfl ?_
      refine ga_regs h hn rfl (fmod_lt _ (by decide)) d_Pro_perform_416 ?_
      refine g_dVi h tb_good (c_Heap_settingMeta (C := (cbeg C n)) (tb := (C.2.1 3 n (fmod (C.1 10 k) 4))) (m := (C.2.1 3 n (fmod (C.1 11 k) 4))) hok1 (hok.2.1 _ _ _) (hok.2.1 _ _ _)) (ix_lt 1 (by decide) _ (by decide)) (wc_at (by decide) (by decide)) rfl v_Pro_149 nm_Heap_settingMeta rfl ⟨rfl, rfl, Nat.le_of_ble_eq_true rfl, Nat.le_of_ble_eq_true rfl, Nat.zero_le _, Nat.zero_le _⟩ rfl (Nat.le_of_ble_eq_true rfl) d_Pro_perform_417 ?_
      exact g_iret h r d_Pro_perform_420 (⟨rfl, rfl⟩)
    · refine g_tableIn (off := 352) (tgt := 421) h d_Pro_perform_69 (by decide) (by decide) (by decide) (by decide) ?_
      refine g_aload_n h d_Pro_perform_421 rfl rfl ?_
      refine g_aload_n h d_Pro_perform_422 rfl rfl ?_
      refine g_iload h d_Pro_perform_423 rfl ?_
      refine g_aload_n h d_Pro_perform_425 rfl rfl ?_
      refine gf_Pro_heap h f_Pro_39 d_Pro_perform_426 ?_
      refine g_iconst (v := 2) h d_Pro_perform_429 (by decide) ?_
      refine g_aload_n h d_Pro_perform_430 rfl rfl ?_
      refine gf_Ins_c h f_Pro_117 (by first | assumption | omega | (show _ < 16; omega) | (show _ < 68; omega)) d_Pro_perform_431 ?_
      refine g_iconst (v := 4) h d_Pro_perform_434 (by decide) ?_
      refine g_dSi h tb_good (c_Math_floorMod (m := 4) (by omega)) v_Pro_108 nm_Math_floorMod rfl ⟨rfl, rfl, Nat.le_of_ble_eq_true rfl, Nat.le_of_ble_eq_true rfl, Nat.zero_le _, Nat.zero_le _⟩ rfl (Nat.le_of_ble_eq_true rfl) d_Pro_perform_435 ?_
      refine g_dVi h tb_good (c_Heap_create (C := (cbeg C n)) hok1) (ix_lt 1 (by decide) _ (by decide)) (wc_at (by decide) (by decide)) rfl v_Pro_123 nm_Heap_create rfl ⟨rfl, rfl, Nat.le_of_ble_eq_true rfl, Nat.le_of_ble_eq_true rfl, Nat.zero_le _, Nat.zero_le _⟩ rfl (Nat.le_of_ble_eq_true rfl) d_Pro_perform_438 ?_
      refine g_dVi h tb_good (c_Pro_keepFound hn (fmod_lt _ (by decide))) (ix_lt 10 (by decide) _ (by decide)) (wc_at (by decide) (by decide)) rfl v_Pro_126 nm_Pro_keepFound rfl ⟨rfl, rfl, Nat.le_of_ble_eq_true rfl, Nat.le_of_ble_eq_true rfl, Nat.zero_le _, Nat.zero_le _⟩ rfl (Nat.le_of_ble_eq_true rfl) d_Pro_perform_441 ?_
      exact g_iret h r d_Pro_perform_444 (⟨rfl, rfl⟩)
    · refine g_tableIn (off := 376) (tgt := 445) h d_Pro_perform_69 (by decide) (by decide) (by decide) (by decide) ?_
      refine g_aload_n h d_Pro_perform_445 rfl rfl ?_
      refine g_aload_n h d_Pro_perform_446 rfl rfl ?_
      refine gf_Cor_place h f_Pro_51 (by first | assumption | omega | (show _ < 16; omega) | (show _ < 68; omega)) d_Pro_perform_447 ?_
      refine pf_Pro_nextPlace h f_Pro_30 d_Pro_perform_450 ?_
      refine g_aload_n h d_Pro_perform_453 rfl rfl ?_
      refine g_iload h d_Pro_perform_454 rfl ?_
      refine pf_Cor_awaits h f_Pro_99 (by first | assumption | omega | (show _ < 16; omega) | (show _ < 68; omega)) d_Pro_perform_456 ?_
      refine g_aload_n h d_Pro_perform_459 rfl rfl ?_
      refine g_aload_n h d_Pro_perform_460 rfl rfl ?_
      refine g_iload h d_Pro_perform_461 rfl ?_
      refine ga_regs h hn rfl (fmod_lt _ (by decide)) d_Pro_perform_463 ?_
      refine g_aload_n h d_Pro_perform_464 rfl rfl ?_
      refine g_iload h d_Pro_perform_465 rfl ?_
      refine ga_regs h hn rfl (fmod_lt _ (by decide)) d_Pro_perform_467 ?_
      refine g_dVi h tb_good (c_Pro_enter (C := sI (sI (cbeg C n) 21 0 (C.1 5 n)) 8 n (nI (fmod (C.1 10 k) 4))) (v := (C.2.1 3 n (fmod (C.1 11 k) 4))) (x := (C.2.1 3 n (fmod (C.1 12 k) 4))) (okC_8 (okC_I hok1 (by decide) (by decide) (by decide) (by decide) (by decide) (by decide) (by decide) (by decide)) (fmod_lt _ (by decide))) (hok.2.1 _ _ _)) (ix_lt 10 (by decide) _ (by decide)) (wc_at (by decide) (by decide)) rfl v_Pro_44 nm_Pro_enter rfl ⟨rfl, rfl, Nat.le_of_ble_eq_true rfl, Nat.le_of_ble_eq_true rfl, Nat.zero_le _, Nat.zero_le _⟩ rfl (Nat.le_of_ble_eq_true rfl) d_Pro_perform_468 ?_
      exact g_iret h r d_Pro_perform_471 (⟨rfl, rfl⟩)
    · refine g_tableIn (off := 403) (tgt := 472) h d_Pro_perform_69 (by decide) (by decide) (by decide) (by decide) ?_
      refine g_aload_n h d_Pro_perform_472 rfl rfl ?_
      refine g_iconst (v := 1) h d_Pro_perform_473 (by decide) ?_
      refine pf_Cor_state h f_Pro_85 (by first | assumption | omega | (show _ < 16; omega) | (show _ < 68; omega)) d_Pro_perform_474 ?_
      refine g_aload_n h d_Pro_perform_477 rfl rfl ?_
      refine g_iload h d_Pro_perform_478 rfl ?_
      refine pf_Cor_comesIn h f_Pro_92 (by first | assumption | omega | (show _ < 16; omega) | (show _ < 68; omega)) d_Pro_perform_480 ?_
      refine g_aload_n h d_Pro_perform_483 rfl rfl ?_
      refine g_aload_n h d_Pro_perform_484 rfl rfl ?_
      refine g_iload h d_Pro_perform_485 rfl ?_
      refine ga_regs h hn rfl (fmod_lt _ (by decide)) d_Pro_perform_487 ?_
      refine g_dVv h tb_good (c_Pro_leave (d := d) (C := sI (sI (cbeg C n) 6 n 1) 7 n (nI (fmod (C.1 10 k) 4))) (x := (C.2.1 3 n (fmod (C.1 10 k) 4))) (okC_7 (okC_I hok1 (by decide) (by decide) (by decide) (by decide) (by decide) (by decide) (by decide) (by decide)) (fmod_lt _ (by decide))) hd5 hd hact) (ix_lt 10 (by decide) _ (by decide)) (wc_at (by decide) (by decide)) rfl v_Pro_152 nm_Pro_leave rfl ⟨rfl, rfl, Nat.le_of_ble_eq_true rfl, Nat.le_of_ble_eq_true rfl, Nat.zero_le _, Nat.zero_le _⟩ rfl (Nat.le_of_ble_eq_true rfl) d_Pro_perform_488 ?_
      refine g_iconst (v := 0) h d_Pro_perform_491 (by decide) ?_
      exact g_iret h r d_Pro_perform_492 (⟨rfl, rfl⟩)
    · refine g_tableIn (off := 424) (tgt := 493) h d_Pro_perform_69 (by decide) (by decide) (by decide) (by decide) ?_
      refine g_aload_n h d_Pro_perform_493 rfl rfl ?_
      refine g_iconst (v := 3) h d_Pro_perform_494 (by decide) ?_
      refine pf_Cor_state h f_Pro_85 (by first | assumption | omega | (show _ < 16; omega) | (show _ < 68; omega)) d_Pro_perform_495 ?_
      refine g_aload_n h d_Pro_perform_498 rfl rfl ?_
      refine g_aload_n h d_Pro_perform_499 rfl rfl ?_
      refine g_iload h d_Pro_perform_500 rfl ?_
      refine ga_regs h hn rfl (fmod_lt _ (by decide)) d_Pro_perform_502 ?_
      refine g_dVv h tb_good (c_Pro_leave (d := d) (C := sI (cbeg C n) 6 n 3) (x := (C.2.1 3 n (fmod (C.1 10 k) 4))) (okC_I hok1 (by decide) (by decide) (by decide) (by decide) (by decide) (by decide) (by decide) (by decide)) hd5 hd hact) (ix_lt 10 (by decide) _ (by decide)) (wc_at (by decide) (by decide)) rfl v_Pro_152 nm_Pro_leave rfl ⟨rfl, rfl, Nat.le_of_ble_eq_true rfl, Nat.le_of_ble_eq_true rfl, Nat.zero_le _, Nat.zero_le _⟩ rfl (Nat.le_of_ble_eq_true rfl) d_Pro_perform_503 ?_
      refine g_iconst (v := 0) h d_Pro_perform_506 (by decide) ?_
      exact g_iret h r d_Pro_perform_507 (⟨rfl, rfl⟩)
    · refine g_tableIn (off := 439) (tgt := 508) h d_Pro_perform_69 (by decide) (by decide) (by decide) (by decide) ?_
      refine g_aload_n h d_Pro_perform_508 rfl rfl ?_
      refine g_aload_n h d_Pro_perform_509 rfl rfl ?_
      refine g_iload h d_Pro_perform_510 rfl ?_
      refine g_aload_n h d_Pro_perform_512 rfl rfl ?_
      refine gf_Pro_heap h f_Pro_39 d_Pro_perform_513 ?_
      refine g_aload_n h d_Pro_perform_516 rfl rfl ?_
      refine g_iload h d_Pro_perform_517 rfl ?_
      refine ga_regs h hn rfl (fmod_lt _ (by decide)) d_Pro_perform_519 ?_
      refine g_aload_n h d_Pro_perform_520 rfl rfl ?_
      refine g_iload h d_Pro_perform_521 rfl ?_
      refine ga_regs h hn rfl (fmod_lt _ (by decide)) d_Pro_perform_523 ?_
      refine g_dVi h tb_good (c_Heap_keyAfter (C := (cbeg C n)) (tb := (C.2.1 3 n (fmod (C.1 11 k) 4))) (k := (C.2.1 3 n (fmod (C.1 12 k) 4))) hok1 (hok.2.1 _ _ _)) (ix_lt 1 (by decide) _ (by decide)) (wc_at (by decide) (by decide)) rfl v_Pro_156 nm_Heap_keyAfter rfl ⟨rfl, rfl, Nat.le_of_ble_eq_true rfl, Nat.le_of_ble_eq_true rfl, Nat.zero_le _, Nat.zero_le _⟩ rfl (Nat.le_of_ble_eq_true rfl) d_Pro_perform_524 ?_
      refine g_dVi h tb_good (c_Pro_keepFound hn (fmod_lt _ (by decide))) (ix_lt 10 (by decide) _ (by decide)) (wc_at (by decide) (by decide)) rfl v_Pro_126 nm_Pro_keepFound rfl ⟨rfl, rfl, Nat.le_of_ble_eq_true rfl, Nat.le_of_ble_eq_true rfl, Nat.zero_le _, Nat.zero_le _⟩ rfl (Nat.le_of_ble_eq_true rfl) d_Pro_perform_527 ?_
      exact g_iret h r d_Pro_perform_530 (⟨rfl, rfl⟩)
    · refine g_tableIn (off := 462) (tgt := 531) h d_Pro_perform_69 (by decide) (by decide) (by decide) (by decide) ?_
      refine g_aload_n h d_Pro_perform_531 rfl rfl ?_
      refine g_aload_n h d_Pro_perform_532 rfl rfl ?_
      refine g_iload h d_Pro_perform_533 rfl ?_
      refine g_aload_n h d_Pro_perform_535 rfl rfl ?_
      refine gf_Pro_heap h f_Pro_39 d_Pro_perform_536 ?_
      refine g_aload_n h d_Pro_perform_539 rfl rfl ?_
      refine g_iload h d_Pro_perform_540 rfl ?_
      refine ga_regs h hn rfl (fmod_lt _ (by decide)) d_Pro_perform_542 ?_
      refine g_dVi h tb_good (c_Heap_howMany (C := (cbeg C n)) (tb := (C.2.1 3 n (fmod (C.1 11 k) 4))) hok1 (hok.2.1 _ _ _)) (ix_lt 1 (by decide) _ (by decide)) (wc_at (by decide) (by decide)) rfl v_Pro_159 nm_Heap_howMany rfl ⟨rfl, rfl, Nat.le_of_ble_eq_true rfl, Nat.le_of_ble_eq_true rfl, Nat.zero_le _, Nat.zero_le _⟩ rfl (Nat.le_of_ble_eq_true rfl) d_Pro_perform_543 ?_
      refine g_dVi h tb_good (c_Pro_keepFound hn (fmod_lt _ (by decide))) (ix_lt 10 (by decide) _ (by decide)) (wc_at (by decide) (by decide)) rfl v_Pro_126 nm_Pro_keepFound rfl ⟨rfl, rfl, Nat.le_of_ble_eq_true rfl, Nat.le_of_ble_eq_true rfl, Nat.zero_le _, Nat.zero_le _⟩ rfl (Nat.le_of_ble_eq_true rfl) d_Pro_perform_546 ?_
      exact g_iret h r d_Pro_perform_549 (⟨rfl, rfl⟩)
  · exact absurd c_5 (fun z => by have := congrArg Int32.toInt z; rw [nI_toInt (by omega), show (-1 : Int32).toInt = -1 from by decide] at this; omega)
end
section
theorem tb_last {ws : List Cond} {w : Cond} (h : ∀ x ∈ ws, x ∈ TB) (hw : w ∈ TB) : ∀ x ∈ ws ++ [w], x ∈ TB := fun x hx => by
  rcases List.mem_append.mp hx with hx | hx
  · exact h x hx
  · exact (List.mem_singleton.mp hx) ▸ hw
theorem f_Mod_7 : Cond.fieldLink "TriColourMachineModel" 7 "TriColourMachineModel" "ops" "[I" ∈ TB := tb_mem 682 (by decide +kernel) rfl
theorem f_Mod_13 : Cond.fieldLink "TriColourMachineModel" 13 "TriColourMachineModel" "as" "[I" ∈ TB := tb_mem 683 (by decide +kernel) rfl
theorem f_Mod_16 : Cond.fieldLink "TriColourMachineModel" 16 "TriColourMachineModel" "bs" "[I" ∈ TB := tb_mem 684 (by decide +kernel) rfl
theorem f_Mod_19 : Cond.fieldLink "TriColourMachineModel" 19 "TriColourMachineModel" "cs" "[I" ∈ TB := tb_mem 685 (by decide +kernel) rfl
theorem f_Mod_22 : Cond.fieldLink "TriColourMachineModel" 22 "TriColourMachineModel" "globals" "[J" ∈ TB := tb_mem 686 (by decide +kernel) rfl
theorem f_Mod_26 : Cond.fieldLink "TriColourMachineModel" 26 "TriColourMachineModel" "kind" "[I" ∈ TB := tb_mem 687 (by decide +kernel) rfl
theorem f_Mod_29 : Cond.fieldLink "TriColourMachineModel" 29 "TriColourMachineModel" "colour" "[I" ∈ TB := tb_mem 688 (by decide +kernel) rfl
theorem f_Mod_32 : Cond.fieldLink "TriColourMachineModel" 32 "TriColourMachineModel" "size" "[I" ∈ TB := tb_mem 689 (by decide +kernel) rfl
theorem f_Mod_35 : Cond.fieldLink "TriColourMachineModel" 35 "TriColourMachineModel" "metaOf" "[I" ∈ TB := tb_mem 690 (by decide +kernel) rfl
theorem f_Mod_38 : Cond.fieldLink "TriColourMachineModel" 38 "TriColourMachineModel" "keys" "[J" ∈ TB := tb_mem 691 (by decide +kernel) rfl
theorem f_Mod_41 : Cond.fieldLink "TriColourMachineModel" 41 "TriColourMachineModel" "values" "[J" ∈ TB := tb_mem 692 (by decide +kernel) rfl
theorem f_Mod_44 : Cond.fieldLink "TriColourMachineModel" 44 "TriColourMachineModel" "registers" "[J" ∈ TB := tb_mem 693 (by decide +kernel) rfl
theorem f_Mod_47 : Cond.fieldLink "TriColourMachineModel" 47 "TriColourMachineModel" "function" "[I" ∈ TB := tb_mem 694 (by decide +kernel) rfl
theorem f_Mod_50 : Cond.fieldLink "TriColourMachineModel" 50 "TriColourMachineModel" "place" "[I" ∈ TB := tb_mem 695 (by decide +kernel) rfl
theorem f_Mod_53 : Cond.fieldLink "TriColourMachineModel" 53 "TriColourMachineModel" "state" "[I" ∈ TB := tb_mem 696 (by decide +kernel) rfl
theorem f_Mod_56 : Cond.fieldLink "TriColourMachineModel" 56 "TriColourMachineModel" "waits" "[I" ∈ TB := tb_mem 697 (by decide +kernel) rfl
theorem f_Mod_59 : Cond.fieldLink "TriColourMachineModel" 59 "TriColourMachineModel" "active" "[I" ∈ TB := tb_mem 698 (by decide +kernel) rfl
theorem k_Mod_62 : Cond.constantLong "TriColourMachineModel" 62 (-1000000000000) ∈ TB := tb_mem 681 (by decide +kernel) rfl
theorem f_Mod_64 : Cond.fieldLink "TriColourMachineModel" 64 "TriColourMachineModel" "thrown" "I" ∈ TB := tb_mem 707 (by decide +kernel) rfl
set_option maxRecDepth 100000 in
theorem v_Mod_78 : ∀ w ∈ cwsV "TriColourMachineModel" 78 "TriColourMachineModel" y_Mod_badGlobal b_Mod_badGlobal 2 (some .boolean), w ∈ TB := tb_last (tb_all [780, 782, 17, 51] (by decide +kernel) (by decide +kernel)) (List.mem_filter.mpr ⟨List.mem_of_getElem? (i := 783) rfl, rfl⟩)
set_option maxRecDepth 100000 in
theorem v_Mod_127 : ∀ w ∈ cwsV "TriColourMachineModel" 127 "TriColourMachineModel" y_Mod_create b_Mod_create 5 (some .int), w ∈ TB := tb_last (tb_all [792, 794, 18, 51] (by decide +kernel) (by decide +kernel)) (List.mem_filter.mpr ⟨List.mem_of_getElem? (i := 795) rfl, rfl⟩)
theorem k_Mod_72 : Cond.constantLong "TriColourMachineModel" 72 (10000000000) ∈ TB := tb_mem 820 (by decide +kernel) rfl
set_option maxRecDepth 100000 in
theorem v_Mod_118 : ∀ w ∈ cwsV "TriColourMachineModel" 118 "TriColourMachineModel" y_Mod_free b_Mod_free 2 (some .int), w ∈ TB := tb_last (tb_all [796, 798, 19, 51] (by decide +kernel) (by decide +kernel)) (List.mem_filter.mpr ⟨List.mem_of_getElem? (i := 799) rfl, rfl⟩)
set_option maxRecDepth 100000 in
theorem v_Mod_121 : ∀ w ∈ cwsV "TriColourMachineModel" 121 "TriColourMachineModel" y_Mod_whole b_Mod_whole 2 (some .int), w ∈ TB := tb_last (tb_all [800, 802, 20, 51] (by decide +kernel) (by decide +kernel)) (List.mem_filter.mpr ⟨List.mem_of_getElem? (i := 803) rfl, rfl⟩)
theorem f_Mod_92 : Cond.fieldLink "TriColourMachineModel" 92 "TriColourMachineModel" "phase" "I" ∈ TB := tb_mem 700 (by decide +kernel) rfl
theorem f_Mod_106 : Cond.fieldLink "TriColourMachineModel" 106 "TriColourMachineModel" "sweep" "I" ∈ TB := tb_mem 701 (by decide +kernel) rfl
theorem f_Mod_124 : Cond.fieldLink "TriColourMachineModel" 124 "TriColourMachineModel" "made" "I" ∈ TB := tb_mem 702 (by decide +kernel) rfl
theorem f_Mod_112 : Cond.fieldLink "TriColourMachineModel" 112 "TriColourMachineModel" "fulls" "I" ∈ TB := tb_mem 706 (by decide +kernel) rfl
set_option maxRecDepth 100000 in
theorem v_Mod_115 : ∀ w ∈ cwsV "TriColourMachineModel" 115 "TriColourMachineModel" y_Mod_unit b_Mod_unit 3 (some .int), w ∈ TB := tb_last (tb_all [804, 806, 21, 51] (by decide +kernel) (by decide +kernel)) (List.mem_filter.mpr ⟨List.mem_of_getElem? (i := 807) rfl, rfl⟩)
theorem f_Mod_89 : Cond.fieldLink "TriColourMachineModel" 89 "TriColourMachineModel" "units" "I" ∈ TB := tb_mem 705 (by decide +kernel) rfl
set_option maxRecDepth 100000 in
theorem v_Mod_95 : ∀ w ∈ cwsV "TriColourMachineModel" 95 "TriColourMachineModel" y_Mod_shadeRoots b_Mod_shadeRoots 3 none, w ∈ TB := tb_last (tb_all [808, 810, 22, 51] (by decide +kernel) (by decide +kernel)) (List.mem_filter.mpr ⟨List.mem_of_getElem? (i := 811) rfl, rfl⟩)
set_option maxRecDepth 100000 in
theorem v_Mod_98 : ∀ w ∈ cwsV "TriColourMachineModel" 98 "TriColourMachineModel" y_Mod_leastGray b_Mod_leastGray 2 (some .int), w ∈ TB := tb_last (tb_all [821, 823, 25, 51] (by decide +kernel) (by decide +kernel)) (List.mem_filter.mpr ⟨List.mem_of_getElem? (i := 824) rfl, rfl⟩)
set_option maxRecDepth 100000 in
theorem v_Mod_102 : ∀ w ∈ cwsV "TriColourMachineModel" 102 "TriColourMachineModel" y_Mod_blacken b_Mod_blacken 3 none, w ∈ TB := tb_last (tb_all [825, 827, 26, 51] (by decide +kernel) (by decide +kernel)) (List.mem_filter.mpr ⟨List.mem_of_getElem? (i := 828) rfl, rfl⟩)
theorem f_Mod_109 : Cond.fieldLink "TriColourMachineModel" 109 "TriColourMachineModel" "gone" "I" ∈ TB := tb_mem 703 (by decide +kernel) rfl
set_option maxRecDepth 100000 in
theorem v_Mod_82 : ∀ w ∈ cwsV "TriColourMachineModel" 82 "TriColourMachineModel" y_Mod_shade b_Mod_shade 4 none, w ∈ TB := tb_last (tb_all [812, 814, 23, 51] (by decide +kernel) (by decide +kernel)) (List.mem_filter.mpr ⟨List.mem_of_getElem? (i := 815) rfl, rfl⟩)
theorem f_Mod_86 : Cond.fieldLink "TriColourMachineModel" 86 "TriColourMachineModel" "depth" "I" ∈ TB := tb_mem 699 (by decide +kernel) rfl
set_option maxRecDepth 100000 in
theorem v_Mod_74 : ∀ w ∈ cwsV "TriColourMachineModel" 74 "TriColourMachineModel" y_Mod_objectOf b_Mod_objectOf 3 (some .int), w ∈ TB := tb_last (tb_all [816, 818, 24, 51] (by decide +kernel) (by decide +kernel)) (List.mem_filter.mpr ⟨List.mem_of_getElem? (i := 819) rfl, rfl⟩)
set_option maxRecDepth 100000 in
theorem v_Mod_135 : ∀ w ∈ cwsV "TriColourMachineModel" 135 "TriColourMachineModel" y_Mod_tableOf b_Mod_tableOf 4 (some .int), w ∈ TB := tb_last (tb_all [833, 835, 27, 51] (by decide +kernel) (by decide +kernel)) (List.mem_filter.mpr ⟨List.mem_of_getElem? (i := 836) rfl, rfl⟩)
theorem f_Mod_141 : Cond.fieldLink "TriColourMachineModel" 141 "TriColourMachineModel" "trouble" "I" ∈ TB := tb_mem 708 (by decide +kernel) rfl
set_option maxRecDepth 100000 in
theorem v_Mod_147 : ∀ w ∈ cwsV "TriColourMachineModel" 147 "TriColourMachineModel" y_Mod_setting b_Mod_setting 10 none, w ∈ TB := tb_last (tb_all [837, 839, 28, 51] (by decide +kernel) (by decide +kernel)) (List.mem_filter.mpr ⟨List.mem_of_getElem? (i := 840) rfl, rfl⟩)
set_option maxRecDepth 100000 in
theorem v_Mod_131 : ∀ w ∈ cwsV "TriColourMachineModel" 131 "TriColourMachineModel" y_Mod_pairOf b_Mod_pairOf 5 (some .int), w ∈ TB := tb_last (tb_all [841, 843, 29, 51] (by decide +kernel) (by decide +kernel)) (List.mem_filter.mpr ⟨List.mem_of_getElem? (i := 844) rfl, rfl⟩)
set_option maxRecDepth 100000 in
theorem v_Mod_138 : ∀ w ∈ cwsV "TriColourMachineModel" 138 "TriColourMachineModel" y_Mod_next b_Mod_next 6 (some .int), w ∈ TB := tb_last (tb_all [845, 847, 30, 51] (by decide +kernel) (by decide +kernel)) (List.mem_filter.mpr ⟨List.mem_of_getElem? (i := 848) rfl, rfl⟩)
set_option maxRecDepth 100000 in
theorem v_Mod_144 : ∀ w ∈ cwsV "TriColourMachineModel" 144 "TriColourMachineModel" y_Mod_touch b_Mod_touch 2 none, w ∈ TB := tb_last (tb_all [849, 851, 31, 51] (by decide +kernel) (by decide +kernel)) (List.mem_filter.mpr ⟨List.mem_of_getElem? (i := 852) rfl, rfl⟩)
set_option maxRecDepth 100000 in
theorem v_Mod_151 : ∀ w ∈ cwsV "TriColourMachineModel" 151 "TriColourMachineModel" y_Mod_getting b_Mod_getting 7 (some .long), w ∈ TB := tb_last (tb_all [857, 859, 32, 51] (by decide +kernel) (by decide +kernel)) (List.mem_filter.mpr ⟨List.mem_of_getElem? (i := 860) rfl, rfl⟩)
set_option maxRecDepth 100000 in
theorem v_Mod_155 : ∀ w ∈ cwsV "TriColourMachineModel" 155 "TriColourMachineModel" y_Mod_join b_Mod_join 6 none, w ∈ TB := tb_last (tb_all [865, 867, 33, 51] (by decide +kernel) (by decide +kernel)) (List.mem_filter.mpr ⟨List.mem_of_getElem? (i := 868) rfl, rfl⟩)
set_option maxRecDepth 100000 in
theorem v_Mod_173 : ∀ w ∈ cwsV "TriColourMachineModel" 173 "TriColourMachineModel" y_Mod_enter b_Mod_enter 7 none, w ∈ TB := tb_last (tb_all [873, 875, 34, 51] (by decide +kernel) (by decide +kernel)) (List.mem_filter.mpr ⟨List.mem_of_getElem? (i := 876) rfl, rfl⟩)
set_option maxRecDepth 100000 in
theorem v_Mod_191 : ∀ w ∈ cwsV "TriColourMachineModel" 191 "TriColourMachineModel" y_Mod_step b_Mod_step 15 none, w ∈ TB := tb_last (tb_all [881, 883, 36, 51] (by decide +kernel) (by decide +kernel)) (List.mem_filter.mpr ⟨List.mem_of_getElem? (i := 884) rfl, rfl⟩)
theorem f_Mod_162 : Cond.fieldLink "TriColourMachineModel" 162 "TriColourMachineModel" "outcome" "J" ∈ TB := tb_mem 709 (by decide +kernel) rfl
set_option maxRecDepth 100000 in
theorem v_Mod_159 : ∀ w ∈ cwsV "TriColourMachineModel" 159 "TriColourMachineModel" y_Mod_coroutineOf b_Mod_coroutineOf 4 (some .int), w ∈ TB := tb_last (tb_all [877, 879, 35, 51] (by decide +kernel) (by decide +kernel)) (List.mem_filter.mpr ⟨List.mem_of_getElem? (i := 880) rfl, rfl⟩)
theorem f_Mod_170 : Cond.fieldLink "TriColourMachineModel" 170 "TriColourMachineModel" "done" "I" ∈ TB := tb_mem 704 (by decide +kernel) rfl
set_option maxRecDepth 100000 in
theorem v_Mod_176 : ∀ w ∈ cwsV "TriColourMachineModel" 176 "TriColourMachineModel" y_Mod_leave b_Mod_leave 6 none, w ∈ TB := tb_last (tb_all [885, 887, 37, 51] (by decide +kernel) (by decide +kernel)) (List.mem_filter.mpr ⟨List.mem_of_getElem? (i := 888) rfl, rfl⟩)
set_option maxRecDepth 100000 in
theorem v_Mod_180 : ∀ w ∈ cwsV "TriColourMachineModel" 180 "TriColourMachineModel" y_Mod_jumps b_Mod_jumps 6 (some .boolean), w ∈ TB := tb_last (tb_all [889, 891, 38, 51] (by decide +kernel) (by decide +kernel)) (List.mem_filter.mpr ⟨List.mem_of_getElem? (i := 892) rfl, rfl⟩)
set_option maxRecDepth 100000 in
theorem v_Mod_184 : ∀ w ∈ cwsV "TriColourMachineModel" 184 "TriColourMachineModel" y_Mod_calculate b_Mod_calculate 8 none, w ∈ TB := tb_last (tb_all [899, 901, 40, 51] (by decide +kernel) (by decide +kernel)) (List.mem_filter.mpr ⟨List.mem_of_getElem? (i := 902) rfl, rfl⟩)
set_option maxRecDepth 100000 in
theorem v_Mod_188 : ∀ w ∈ cwsV "TriColourMachineModel" 188 "TriColourMachineModel" y_Mod_following b_Mod_following 5 (some .long), w ∈ TB := tb_last (tb_all [903, 905, 41, 51] (by decide +kernel) (by decide +kernel)) (List.mem_filter.mpr ⟨List.mem_of_getElem? (i := 906) rfl, rfl⟩)
set_option maxRecDepth 100000 in
theorem v_Mod_166 : ∀ w ∈ cwsV "TriColourMachineModel" 166 "TriColourMachineModel" y_Mod_isNumber b_Mod_isNumber 3 (some .boolean), w ∈ TB := tb_last (tb_all [893, 895, 39, 51] (by decide +kernel) (by decide +kernel)) (List.mem_filter.mpr ⟨List.mem_of_getElem? (i := 896) rfl, rfl⟩)
theorem k_Mod_68 : Cond.constantLong "TriColourMachineModel" 68 (-2147483648) ∈ TB := tb_mem 897 (by decide +kernel) rfl
theorem k_Mod_70 : Cond.constantLong "TriColourMachineModel" 70 (2147483647) ∈ TB := tb_mem 898 (by decide +kernel) rfl
end
section
theorem d_Mod_thrown_0 : decode b_Mod_thrown 0 = .ok (.aload_n 0, 1) := by decide +kernel
theorem d_Mod_thrown_1 : decode b_Mod_thrown 1 = .ok (.getfield 64, 3) := by decide +kernel
theorem d_Mod_thrown_4 : decode b_Mod_thrown 4 = .ok (.ireturn, 1) := by decide +kernel
theorem d_Mod_code_0 : decode b_Mod_code 0 = .ok (.aload_n 0, 1) := by decide +kernel
theorem d_Mod_code_1 : decode b_Mod_code 1 = .ok (.iload_n 1, 1) := by decide +kernel
theorem d_Mod_code_2 : decode b_Mod_code 2 = .ok (.ifCond .lt 29, 3) := by decide +kernel
theorem d_Mod_code_5 : decode b_Mod_code 5 = .ok (.iload_n 1, 1) := by decide +kernel
theorem d_Mod_code_6 : decode b_Mod_code 6 = .ok (.iconst 3, 1) := by decide +kernel
theorem d_Mod_code_7 : decode b_Mod_code 7 = .ok (.if_icmp .gt 24, 3) := by decide +kernel
theorem d_Mod_code_10 : decode b_Mod_code 10 = .ok (.iload_n 2, 1) := by decide +kernel
theorem d_Mod_code_11 : decode b_Mod_code 11 = .ok (.ifCond .lt 20, 3) := by decide +kernel
theorem d_Mod_code_14 : decode b_Mod_code 14 = .ok (.iload_n 2, 1) := by decide +kernel
theorem d_Mod_code_15 : decode b_Mod_code 15 = .ok (.bipush 15, 2) := by decide +kernel
theorem d_Mod_code_17 : decode b_Mod_code 17 = .ok (.if_icmp .gt 14, 3) := by decide +kernel
theorem d_Mod_code_20 : decode b_Mod_code 20 = .ok (.iload_n 3, 1) := by decide +kernel
theorem d_Mod_code_21 : decode b_Mod_code 21 = .ok (.iconst (-1), 1) := by decide +kernel
theorem d_Mod_code_22 : decode b_Mod_code 22 = .ok (.if_icmp .lt 9, 3) := by decide +kernel
theorem d_Mod_code_25 : decode b_Mod_code 25 = .ok (.iload_n 3, 1) := by decide +kernel
theorem d_Mod_code_26 : decode b_Mod_code 26 = .ok (.bipush 21, 2) := by decide +kernel
theorem d_Mod_code_28 : decode b_Mod_code 28 = .ok (.if_icmp .le 7, 3) := by decide +kernel
theorem d_Mod_code_31 : decode b_Mod_code 31 = .ok (.iconst 1, 1) := by decide +kernel
theorem d_Mod_code_32 : decode b_Mod_code 32 = .ok (.goto 4, 3) := by decide +kernel
theorem d_Mod_code_35 : decode b_Mod_code 35 = .ok (.iconst 0, 1) := by decide +kernel
theorem d_Mod_code_36 : decode b_Mod_code 36 = .ok (.putfield 64, 3) := by decide +kernel
theorem d_Mod_code_39 : decode b_Mod_code 39 = .ok (.aload_n 0, 1) := by decide +kernel
theorem d_Mod_code_40 : decode b_Mod_code 40 = .ok (.getfield 64, 3) := by decide +kernel
theorem d_Mod_code_43 : decode b_Mod_code 43 = .ok (.ifCond .eq 4, 3) := by decide +kernel
theorem d_Mod_code_46 : decode b_Mod_code 46 = .ok (.return_, 1) := by decide +kernel
theorem d_Mod_code_47 : decode b_Mod_code 47 = .ok (.iload_n 1, 1) := by decide +kernel
theorem d_Mod_code_48 : decode b_Mod_code 48 = .ok (.bipush 16, 2) := by decide +kernel
theorem d_Mod_code_50 : decode b_Mod_code 50 = .ok (.imul, 1) := by decide +kernel
theorem d_Mod_code_51 : decode b_Mod_code 51 = .ok (.iload_n 2, 1) := by decide +kernel
theorem d_Mod_code_52 : decode b_Mod_code 52 = .ok (.iadd, 1) := by decide +kernel
theorem d_Mod_code_53 : decode b_Mod_code 53 = .ok (.istore 7, 2) := by decide +kernel
theorem d_Mod_code_55 : decode b_Mod_code 55 = .ok (.aload_n 0, 1) := by decide +kernel
theorem d_Mod_code_56 : decode b_Mod_code 56 = .ok (.getfield 7, 3) := by decide +kernel
theorem d_Mod_code_59 : decode b_Mod_code 59 = .ok (.iload 7, 2) := by decide +kernel
theorem d_Mod_code_61 : decode b_Mod_code 61 = .ok (.iload_n 3, 1) := by decide +kernel
theorem d_Mod_code_62 : decode b_Mod_code 62 = .ok (.iastore, 1) := by decide +kernel
theorem d_Mod_code_63 : decode b_Mod_code 63 = .ok (.aload_n 0, 1) := by decide +kernel
theorem d_Mod_code_64 : decode b_Mod_code 64 = .ok (.getfield 13, 3) := by decide +kernel
theorem d_Mod_code_67 : decode b_Mod_code 67 = .ok (.iload 7, 2) := by decide +kernel
theorem d_Mod_code_69 : decode b_Mod_code 69 = .ok (.iload 4, 2) := by decide +kernel
theorem d_Mod_code_71 : decode b_Mod_code 71 = .ok (.iastore, 1) := by decide +kernel
theorem d_Mod_code_72 : decode b_Mod_code 72 = .ok (.aload_n 0, 1) := by decide +kernel
theorem d_Mod_code_73 : decode b_Mod_code 73 = .ok (.getfield 16, 3) := by decide +kernel
theorem d_Mod_code_76 : decode b_Mod_code 76 = .ok (.iload 7, 2) := by decide +kernel
theorem d_Mod_code_78 : decode b_Mod_code 78 = .ok (.iload 5, 2) := by decide +kernel
theorem d_Mod_code_80 : decode b_Mod_code 80 = .ok (.iastore, 1) := by decide +kernel
theorem d_Mod_code_81 : decode b_Mod_code 81 = .ok (.aload_n 0, 1) := by decide +kernel
theorem d_Mod_code_82 : decode b_Mod_code 82 = .ok (.getfield 19, 3) := by decide +kernel
theorem d_Mod_code_85 : decode b_Mod_code 85 = .ok (.iload 7, 2) := by decide +kernel
theorem d_Mod_code_87 : decode b_Mod_code 87 = .ok (.iload 6, 2) := by decide +kernel
theorem d_Mod_code_89 : decode b_Mod_code 89 = .ok (.iastore, 1) := by decide +kernel
theorem d_Mod_code_90 : decode b_Mod_code 90 = .ok (.return_, 1) := by decide +kernel
theorem d_Mod_number_0 : decode b_Mod_number 0 = .ok (.aload_n 0, 1) := by decide +kernel
theorem d_Mod_number_1 : decode b_Mod_number 1 = .ok (.aload_n 0, 1) := by decide +kernel
theorem d_Mod_number_2 : decode b_Mod_number 2 = .ok (.iload_n 1, 1) := by decide +kernel
theorem d_Mod_number_3 : decode b_Mod_number 3 = .ok (.invokevirtual 78, 3) := by decide +kernel
theorem d_Mod_number_6 : decode b_Mod_number 6 = .ok (.ifCond .eq 7, 3) := by decide +kernel
theorem d_Mod_number_9 : decode b_Mod_number 9 = .ok (.iconst 1, 1) := by decide +kernel
theorem d_Mod_number_10 : decode b_Mod_number 10 = .ok (.goto 4, 3) := by decide +kernel
theorem d_Mod_number_13 : decode b_Mod_number 13 = .ok (.iconst 0, 1) := by decide +kernel
theorem d_Mod_number_14 : decode b_Mod_number 14 = .ok (.putfield 64, 3) := by decide +kernel
theorem d_Mod_number_17 : decode b_Mod_number 17 = .ok (.aload_n 0, 1) := by decide +kernel
theorem d_Mod_number_18 : decode b_Mod_number 18 = .ok (.getfield 64, 3) := by decide +kernel
theorem d_Mod_number_21 : decode b_Mod_number 21 = .ok (.ifCond .ne 11, 3) := by decide +kernel
theorem d_Mod_number_24 : decode b_Mod_number 24 = .ok (.aload_n 0, 1) := by decide +kernel
theorem d_Mod_number_25 : decode b_Mod_number 25 = .ok (.getfield 22, 3) := by decide +kernel
theorem d_Mod_number_28 : decode b_Mod_number 28 = .ok (.iload_n 1, 1) := by decide +kernel
theorem d_Mod_number_29 : decode b_Mod_number 29 = .ok (.iload_n 2, 1) := by decide +kernel
theorem d_Mod_number_30 : decode b_Mod_number 30 = .ok (.i2l, 1) := by decide +kernel
theorem d_Mod_number_31 : decode b_Mod_number 31 = .ok (.lastore, 1) := by decide +kernel
theorem d_Mod_number_32 : decode b_Mod_number 32 = .ok (.return_, 1) := by decide +kernel
theorem d_Mod_badGlobal_0 : decode b_Mod_badGlobal 0 = .ok (.iload_n 1, 1) := by decide +kernel
theorem d_Mod_badGlobal_1 : decode b_Mod_badGlobal 1 = .ok (.ifCond .lt 8, 3) := by decide +kernel
theorem d_Mod_badGlobal_4 : decode b_Mod_badGlobal 4 = .ok (.iload_n 1, 1) := by decide +kernel
theorem d_Mod_badGlobal_5 : decode b_Mod_badGlobal 5 = .ok (.iconst 5, 1) := by decide +kernel
theorem d_Mod_badGlobal_6 : decode b_Mod_badGlobal 6 = .ok (.if_icmp .le 7, 3) := by decide +kernel
theorem d_Mod_badGlobal_9 : decode b_Mod_badGlobal 9 = .ok (.iconst 1, 1) := by decide +kernel
theorem d_Mod_badGlobal_10 : decode b_Mod_badGlobal 10 = .ok (.goto 4, 3) := by decide +kernel
theorem d_Mod_badGlobal_13 : decode b_Mod_badGlobal 13 = .ok (.iconst 0, 1) := by decide +kernel
theorem d_Mod_badGlobal_14 : decode b_Mod_badGlobal 14 = .ok (.ireturn, 1) := by decide +kernel
theorem d_Mod_move_0 : decode b_Mod_move 0 = .ok (.aload_n 0, 1) := by decide +kernel
theorem d_Mod_move_1 : decode b_Mod_move 1 = .ok (.aload_n 0, 1) := by decide +kernel
theorem d_Mod_move_2 : decode b_Mod_move 2 = .ok (.iload_n 1, 1) := by decide +kernel
theorem d_Mod_move_3 : decode b_Mod_move 3 = .ok (.invokevirtual 78, 3) := by decide +kernel
theorem d_Mod_move_6 : decode b_Mod_move 6 = .ok (.ifCond .ne 13, 3) := by decide +kernel
theorem d_Mod_move_9 : decode b_Mod_move 9 = .ok (.iload_n 2, 1) := by decide +kernel
theorem d_Mod_move_10 : decode b_Mod_move 10 = .ok (.iconst (-1), 1) := by decide +kernel
theorem d_Mod_move_11 : decode b_Mod_move 11 = .ok (.if_icmp .lt 8, 3) := by decide +kernel
theorem d_Mod_move_14 : decode b_Mod_move 14 = .ok (.iload_n 2, 1) := by decide +kernel
theorem d_Mod_move_15 : decode b_Mod_move 15 = .ok (.iconst 5, 1) := by decide +kernel
theorem d_Mod_move_16 : decode b_Mod_move 16 = .ok (.if_icmp .le 7, 3) := by decide +kernel
theorem d_Mod_move_19 : decode b_Mod_move 19 = .ok (.iconst 1, 1) := by decide +kernel
theorem d_Mod_move_20 : decode b_Mod_move 20 = .ok (.goto 4, 3) := by decide +kernel
theorem d_Mod_move_23 : decode b_Mod_move 23 = .ok (.iconst 0, 1) := by decide +kernel
theorem d_Mod_move_24 : decode b_Mod_move 24 = .ok (.putfield 64, 3) := by decide +kernel
theorem d_Mod_move_27 : decode b_Mod_move 27 = .ok (.aload_n 0, 1) := by decide +kernel
theorem d_Mod_move_28 : decode b_Mod_move 28 = .ok (.getfield 64, 3) := by decide +kernel
theorem d_Mod_move_31 : decode b_Mod_move 31 = .ok (.ifCond .ne 25, 3) := by decide +kernel
theorem d_Mod_move_34 : decode b_Mod_move 34 = .ok (.aload_n 0, 1) := by decide +kernel
theorem d_Mod_move_35 : decode b_Mod_move 35 = .ok (.getfield 22, 3) := by decide +kernel
theorem d_Mod_move_38 : decode b_Mod_move 38 = .ok (.iload_n 1, 1) := by decide +kernel
theorem d_Mod_move_39 : decode b_Mod_move 39 = .ok (.iload_n 2, 1) := by decide +kernel
theorem d_Mod_move_40 : decode b_Mod_move 40 = .ok (.ifCond .ge 9, 3) := by decide +kernel
theorem d_Mod_move_43 : decode b_Mod_move 43 = .ok (.ldc2_w 62, 3) := by decide +kernel
theorem d_Mod_move_46 : decode b_Mod_move 46 = .ok (.goto 9, 3) := by decide +kernel
theorem d_Mod_move_49 : decode b_Mod_move 49 = .ok (.aload_n 0, 1) := by decide +kernel
theorem d_Mod_move_50 : decode b_Mod_move 50 = .ok (.getfield 22, 3) := by decide +kernel
theorem d_Mod_move_53 : decode b_Mod_move 53 = .ok (.iload_n 2, 1) := by decide +kernel
theorem d_Mod_move_54 : decode b_Mod_move 54 = .ok (.laload, 1) := by decide +kernel
theorem d_Mod_move_55 : decode b_Mod_move 55 = .ok (.lastore, 1) := by decide +kernel
theorem d_Mod_move_56 : decode b_Mod_move 56 = .ok (.return_, 1) := by decide +kernel
theorem d_Mod_make_0 : decode b_Mod_make 0 = .ok (.aload_n 0, 1) := by decide +kernel
theorem d_Mod_make_1 : decode b_Mod_make 1 = .ok (.aload_n 0, 1) := by decide +kernel
theorem d_Mod_make_2 : decode b_Mod_make 2 = .ok (.iload_n 1, 1) := by decide +kernel
theorem d_Mod_make_3 : decode b_Mod_make 3 = .ok (.invokevirtual 78, 3) := by decide +kernel
theorem d_Mod_make_6 : decode b_Mod_make 6 = .ok (.ifCond .ne 13, 3) := by decide +kernel
theorem d_Mod_make_9 : decode b_Mod_make 9 = .ok (.iload_n 2, 1) := by decide +kernel
theorem d_Mod_make_10 : decode b_Mod_make 10 = .ok (.iconst (-1), 1) := by decide +kernel
theorem d_Mod_make_11 : decode b_Mod_make 11 = .ok (.if_icmp .lt 8, 3) := by decide +kernel
theorem d_Mod_make_14 : decode b_Mod_make 14 = .ok (.iload_n 2, 1) := by decide +kernel
theorem d_Mod_make_15 : decode b_Mod_make 15 = .ok (.iconst 3, 1) := by decide +kernel
theorem d_Mod_make_16 : decode b_Mod_make 16 = .ok (.if_icmp .le 7, 3) := by decide +kernel
theorem d_Mod_make_19 : decode b_Mod_make 19 = .ok (.iconst 1, 1) := by decide +kernel
theorem d_Mod_make_20 : decode b_Mod_make 20 = .ok (.goto 4, 3) := by decide +kernel
theorem d_Mod_make_23 : decode b_Mod_make 23 = .ok (.iconst 0, 1) := by decide +kernel
theorem d_Mod_make_24 : decode b_Mod_make 24 = .ok (.putfield 64, 3) := by decide +kernel
theorem d_Mod_make_27 : decode b_Mod_make 27 = .ok (.aload_n 0, 1) := by decide +kernel
theorem d_Mod_make_28 : decode b_Mod_make 28 = .ok (.getfield 64, 3) := by decide +kernel
theorem d_Mod_make_31 : decode b_Mod_make 31 = .ok (.ifCond .eq 5, 3) := by decide +kernel
theorem d_Mod_make_34 : decode b_Mod_make 34 = .ok (.iconst 0, 1) := by decide +kernel
theorem d_Mod_make_35 : decode b_Mod_make 35 = .ok (.ireturn, 1) := by decide +kernel
theorem d_Mod_make_36 : decode b_Mod_make 36 = .ok (.aload_n 0, 1) := by decide +kernel
theorem d_Mod_make_37 : decode b_Mod_make 37 = .ok (.iload_n 2, 1) := by decide +kernel
theorem d_Mod_make_38 : decode b_Mod_make 38 = .ok (.ifCond .ge 7, 3) := by decide +kernel
theorem d_Mod_make_41 : decode b_Mod_make 41 = .ok (.iconst 1, 1) := by decide +kernel
theorem d_Mod_make_42 : decode b_Mod_make 42 = .ok (.goto 4, 3) := by decide +kernel
theorem d_Mod_make_45 : decode b_Mod_make 45 = .ok (.iconst 2, 1) := by decide +kernel
theorem d_Mod_make_46 : decode b_Mod_make 46 = .ok (.iload_n 2, 1) := by decide +kernel
theorem d_Mod_make_47 : decode b_Mod_make 47 = .ok (.invokevirtual 127, 3) := by decide +kernel
theorem d_Mod_make_50 : decode b_Mod_make 50 = .ok (.istore_n 3, 1) := by decide +kernel
theorem d_Mod_make_51 : decode b_Mod_make 51 = .ok (.aload_n 0, 1) := by decide +kernel
theorem d_Mod_make_52 : decode b_Mod_make 52 = .ok (.iload_n 3, 1) := by decide +kernel
theorem d_Mod_make_53 : decode b_Mod_make 53 = .ok (.ifCond .ge 7, 3) := by decide +kernel
theorem d_Mod_make_56 : decode b_Mod_make 56 = .ok (.iconst 2, 1) := by decide +kernel
theorem d_Mod_make_57 : decode b_Mod_make 57 = .ok (.goto 4, 3) := by decide +kernel
theorem d_Mod_make_60 : decode b_Mod_make 60 = .ok (.iconst 0, 1) := by decide +kernel
theorem d_Mod_make_61 : decode b_Mod_make 61 = .ok (.putfield 64, 3) := by decide +kernel
theorem d_Mod_make_64 : decode b_Mod_make 64 = .ok (.iload_n 3, 1) := by decide +kernel
theorem d_Mod_make_65 : decode b_Mod_make 65 = .ok (.ifCond .ge 5, 3) := by decide +kernel
theorem d_Mod_make_68 : decode b_Mod_make 68 = .ok (.iconst 0, 1) := by decide +kernel
theorem d_Mod_make_69 : decode b_Mod_make 69 = .ok (.ireturn, 1) := by decide +kernel
theorem d_Mod_make_70 : decode b_Mod_make 70 = .ok (.aload_n 0, 1) := by decide +kernel
theorem d_Mod_make_71 : decode b_Mod_make 71 = .ok (.getfield 22, 3) := by decide +kernel
theorem d_Mod_make_74 : decode b_Mod_make 74 = .ok (.iload_n 1, 1) := by decide +kernel
theorem d_Mod_make_75 : decode b_Mod_make 75 = .ok (.ldc2_w 72, 3) := by decide +kernel
theorem d_Mod_make_78 : decode b_Mod_make 78 = .ok (.iload_n 3, 1) := by decide +kernel
theorem d_Mod_make_79 : decode b_Mod_make 79 = .ok (.i2l, 1) := by decide +kernel
theorem d_Mod_make_80 : decode b_Mod_make 80 = .ok (.ladd, 1) := by decide +kernel
theorem d_Mod_make_81 : decode b_Mod_make 81 = .ok (.lastore, 1) := by decide +kernel
theorem d_Mod_make_82 : decode b_Mod_make 82 = .ok (.iload_n 3, 1) := by decide +kernel
theorem d_Mod_make_83 : decode b_Mod_make 83 = .ok (.ireturn, 1) := by decide +kernel
theorem d_Mod_free_0 : decode b_Mod_free 0 = .ok (.iconst 0, 1) := by decide +kernel
theorem d_Mod_free_1 : decode b_Mod_free 1 = .ok (.istore_n 1, 1) := by decide +kernel
theorem d_Mod_free_2 : decode b_Mod_free 2 = .ok (.iload_n 1, 1) := by decide +kernel
theorem d_Mod_free_3 : decode b_Mod_free 3 = .ok (.bipush 16, 2) := by decide +kernel
theorem d_Mod_free_5 : decode b_Mod_free 5 = .ok (.if_icmp .ge 20, 3) := by decide +kernel
theorem d_Mod_free_8 : decode b_Mod_free 8 = .ok (.aload_n 0, 1) := by decide +kernel
theorem d_Mod_free_9 : decode b_Mod_free 9 = .ok (.getfield 26, 3) := by decide +kernel
theorem d_Mod_free_12 : decode b_Mod_free 12 = .ok (.iload_n 1, 1) := by decide +kernel
theorem d_Mod_free_13 : decode b_Mod_free 13 = .ok (.iaload, 1) := by decide +kernel
theorem d_Mod_free_14 : decode b_Mod_free 14 = .ok (.ifCond .ne 5, 3) := by decide +kernel
theorem d_Mod_free_17 : decode b_Mod_free 17 = .ok (.iload_n 1, 1) := by decide +kernel
theorem d_Mod_free_18 : decode b_Mod_free 18 = .ok (.ireturn, 1) := by decide +kernel
theorem d_Mod_free_19 : decode b_Mod_free 19 = .ok (.iinc 1 1, 3) := by decide +kernel
theorem d_Mod_free_22 : decode b_Mod_free 22 = .ok (.goto (-20), 3) := by decide +kernel
theorem d_Mod_free_25 : decode b_Mod_free 25 = .ok (.iconst (-1), 1) := by decide +kernel
theorem d_Mod_free_26 : decode b_Mod_free 26 = .ok (.ireturn, 1) := by decide +kernel
theorem d_Mod_whole_0 : decode b_Mod_whole 0 = .ok (.aload_n 0, 1) := by decide +kernel
theorem d_Mod_whole_1 : decode b_Mod_whole 1 = .ok (.dup, 1) := by decide +kernel
theorem d_Mod_whole_2 : decode b_Mod_whole 2 = .ok (.getfield 112, 3) := by decide +kernel
theorem d_Mod_whole_5 : decode b_Mod_whole 5 = .ok (.iconst 1, 1) := by decide +kernel
theorem d_Mod_whole_6 : decode b_Mod_whole 6 = .ok (.iadd, 1) := by decide +kernel
theorem d_Mod_whole_7 : decode b_Mod_whole 7 = .ok (.putfield 112, 3) := by decide +kernel
theorem d_Mod_whole_10 : decode b_Mod_whole 10 = .ok (.iconst 0, 1) := by decide +kernel
theorem d_Mod_whole_11 : decode b_Mod_whole 11 = .ok (.istore_n 1, 1) := by decide +kernel
theorem d_Mod_whole_12 : decode b_Mod_whole 12 = .ok (.aload_n 0, 1) := by decide +kernel
theorem d_Mod_whole_13 : decode b_Mod_whole 13 = .ok (.getfield 92, 3) := by decide +kernel
theorem d_Mod_whole_16 : decode b_Mod_whole 16 = .ok (.ifCond .eq 13, 3) := by decide +kernel
theorem d_Mod_whole_19 : decode b_Mod_whole 19 = .ok (.iload_n 1, 1) := by decide +kernel
theorem d_Mod_whole_20 : decode b_Mod_whole 20 = .ok (.aload_n 0, 1) := by decide +kernel
theorem d_Mod_whole_21 : decode b_Mod_whole 21 = .ok (.invokevirtual 115, 3) := by decide +kernel
theorem d_Mod_whole_24 : decode b_Mod_whole 24 = .ok (.iadd, 1) := by decide +kernel
theorem d_Mod_whole_25 : decode b_Mod_whole 25 = .ok (.istore_n 1, 1) := by decide +kernel
theorem d_Mod_whole_26 : decode b_Mod_whole 26 = .ok (.goto (-14), 3) := by decide +kernel
theorem d_Mod_whole_29 : decode b_Mod_whole 29 = .ok (.iload_n 1, 1) := by decide +kernel
theorem d_Mod_whole_30 : decode b_Mod_whole 30 = .ok (.aload_n 0, 1) := by decide +kernel
theorem d_Mod_whole_31 : decode b_Mod_whole 31 = .ok (.invokevirtual 115, 3) := by decide +kernel
theorem d_Mod_whole_34 : decode b_Mod_whole 34 = .ok (.iadd, 1) := by decide +kernel
theorem d_Mod_whole_35 : decode b_Mod_whole 35 = .ok (.istore_n 1, 1) := by decide +kernel
theorem d_Mod_whole_36 : decode b_Mod_whole 36 = .ok (.aload_n 0, 1) := by decide +kernel
theorem d_Mod_whole_37 : decode b_Mod_whole 37 = .ok (.getfield 92, 3) := by decide +kernel
theorem d_Mod_whole_40 : decode b_Mod_whole 40 = .ok (.ifCond .eq 13, 3) := by decide +kernel
theorem d_Mod_whole_43 : decode b_Mod_whole 43 = .ok (.iload_n 1, 1) := by decide +kernel
theorem d_Mod_whole_44 : decode b_Mod_whole 44 = .ok (.aload_n 0, 1) := by decide +kernel
theorem d_Mod_whole_45 : decode b_Mod_whole 45 = .ok (.invokevirtual 115, 3) := by decide +kernel
theorem d_Mod_whole_48 : decode b_Mod_whole 48 = .ok (.iadd, 1) := by decide +kernel
theorem d_Mod_whole_49 : decode b_Mod_whole 49 = .ok (.istore_n 1, 1) := by decide +kernel
theorem d_Mod_whole_50 : decode b_Mod_whole 50 = .ok (.goto (-14), 3) := by decide +kernel
theorem d_Mod_whole_53 : decode b_Mod_whole 53 = .ok (.iload_n 1, 1) := by decide +kernel
theorem d_Mod_whole_54 : decode b_Mod_whole 54 = .ok (.ireturn, 1) := by decide +kernel
theorem d_Mod_shadeRoots_0 : decode b_Mod_shadeRoots 0 = .ok (.iconst 0, 1) := by decide +kernel
theorem d_Mod_shadeRoots_1 : decode b_Mod_shadeRoots 1 = .ok (.istore_n 1, 1) := by decide +kernel
theorem d_Mod_shadeRoots_2 : decode b_Mod_shadeRoots 2 = .ok (.iload_n 1, 1) := by decide +kernel
theorem d_Mod_shadeRoots_3 : decode b_Mod_shadeRoots 3 = .ok (.bipush 6, 2) := by decide +kernel
theorem d_Mod_shadeRoots_5 : decode b_Mod_shadeRoots 5 = .ok (.if_icmp .ge 19, 3) := by decide +kernel
theorem d_Mod_shadeRoots_8 : decode b_Mod_shadeRoots 8 = .ok (.aload_n 0, 1) := by decide +kernel
theorem d_Mod_shadeRoots_9 : decode b_Mod_shadeRoots 9 = .ok (.aload_n 0, 1) := by decide +kernel
theorem d_Mod_shadeRoots_10 : decode b_Mod_shadeRoots 10 = .ok (.getfield 22, 3) := by decide +kernel
theorem d_Mod_shadeRoots_13 : decode b_Mod_shadeRoots 13 = .ok (.iload_n 1, 1) := by decide +kernel
theorem d_Mod_shadeRoots_14 : decode b_Mod_shadeRoots 14 = .ok (.laload, 1) := by decide +kernel
theorem d_Mod_shadeRoots_15 : decode b_Mod_shadeRoots 15 = .ok (.invokevirtual 82, 3) := by decide +kernel
theorem d_Mod_shadeRoots_18 : decode b_Mod_shadeRoots 18 = .ok (.iinc 1 1, 3) := by decide +kernel
theorem d_Mod_shadeRoots_21 : decode b_Mod_shadeRoots 21 = .ok (.goto (-19), 3) := by decide +kernel
theorem d_Mod_shadeRoots_24 : decode b_Mod_shadeRoots 24 = .ok (.iconst 0, 1) := by decide +kernel
theorem d_Mod_shadeRoots_25 : decode b_Mod_shadeRoots 25 = .ok (.istore_n 1, 1) := by decide +kernel
theorem d_Mod_shadeRoots_26 : decode b_Mod_shadeRoots 26 = .ok (.iload_n 1, 1) := by decide +kernel
theorem d_Mod_shadeRoots_27 : decode b_Mod_shadeRoots 27 = .ok (.aload_n 0, 1) := by decide +kernel
theorem d_Mod_shadeRoots_28 : decode b_Mod_shadeRoots 28 = .ok (.getfield 86, 3) := by decide +kernel
theorem d_Mod_shadeRoots_31 : decode b_Mod_shadeRoots 31 = .ok (.if_icmp .ge 56, 3) := by decide +kernel
theorem d_Mod_shadeRoots_34 : decode b_Mod_shadeRoots 34 = .ok (.aload_n 0, 1) := by decide +kernel
theorem d_Mod_shadeRoots_35 : decode b_Mod_shadeRoots 35 = .ok (.ldc2_w 72, 3) := by decide +kernel
theorem d_Mod_shadeRoots_38 : decode b_Mod_shadeRoots 38 = .ok (.aload_n 0, 1) := by decide +kernel
theorem d_Mod_shadeRoots_39 : decode b_Mod_shadeRoots 39 = .ok (.getfield 59, 3) := by decide +kernel
theorem d_Mod_shadeRoots_42 : decode b_Mod_shadeRoots 42 = .ok (.iload_n 1, 1) := by decide +kernel
theorem d_Mod_shadeRoots_43 : decode b_Mod_shadeRoots 43 = .ok (.iaload, 1) := by decide +kernel
theorem d_Mod_shadeRoots_44 : decode b_Mod_shadeRoots 44 = .ok (.i2l, 1) := by decide +kernel
theorem d_Mod_shadeRoots_45 : decode b_Mod_shadeRoots 45 = .ok (.ladd, 1) := by decide +kernel
theorem d_Mod_shadeRoots_46 : decode b_Mod_shadeRoots 46 = .ok (.invokevirtual 82, 3) := by decide +kernel
theorem d_Mod_shadeRoots_49 : decode b_Mod_shadeRoots 49 = .ok (.iconst 0, 1) := by decide +kernel
theorem d_Mod_shadeRoots_50 : decode b_Mod_shadeRoots 50 = .ok (.istore_n 2, 1) := by decide +kernel
theorem d_Mod_shadeRoots_51 : decode b_Mod_shadeRoots 51 = .ok (.iload_n 2, 1) := by decide +kernel
theorem d_Mod_shadeRoots_52 : decode b_Mod_shadeRoots 52 = .ok (.iconst 4, 1) := by decide +kernel
theorem d_Mod_shadeRoots_53 : decode b_Mod_shadeRoots 53 = .ok (.if_icmp .ge 28, 3) := by decide +kernel
theorem d_Mod_shadeRoots_56 : decode b_Mod_shadeRoots 56 = .ok (.aload_n 0, 1) := by decide +kernel
theorem d_Mod_shadeRoots_57 : decode b_Mod_shadeRoots 57 = .ok (.aload_n 0, 1) := by decide +kernel
theorem d_Mod_shadeRoots_58 : decode b_Mod_shadeRoots 58 = .ok (.getfield 44, 3) := by decide +kernel
theorem d_Mod_shadeRoots_61 : decode b_Mod_shadeRoots 61 = .ok (.aload_n 0, 1) := by decide +kernel
theorem d_Mod_shadeRoots_62 : decode b_Mod_shadeRoots 62 = .ok (.getfield 59, 3) := by decide +kernel
theorem d_Mod_shadeRoots_65 : decode b_Mod_shadeRoots 65 = .ok (.iload_n 1, 1) := by decide +kernel
theorem d_Mod_shadeRoots_66 : decode b_Mod_shadeRoots 66 = .ok (.iaload, 1) := by decide +kernel
theorem d_Mod_shadeRoots_67 : decode b_Mod_shadeRoots 67 = .ok (.iconst 4, 1) := by decide +kernel
theorem d_Mod_shadeRoots_68 : decode b_Mod_shadeRoots 68 = .ok (.imul, 1) := by decide +kernel
theorem d_Mod_shadeRoots_69 : decode b_Mod_shadeRoots 69 = .ok (.iload_n 2, 1) := by decide +kernel
theorem d_Mod_shadeRoots_70 : decode b_Mod_shadeRoots 70 = .ok (.iadd, 1) := by decide +kernel
theorem d_Mod_shadeRoots_71 : decode b_Mod_shadeRoots 71 = .ok (.laload, 1) := by decide +kernel
theorem d_Mod_shadeRoots_72 : decode b_Mod_shadeRoots 72 = .ok (.invokevirtual 82, 3) := by decide +kernel
theorem d_Mod_shadeRoots_75 : decode b_Mod_shadeRoots 75 = .ok (.iinc 2 1, 3) := by decide +kernel
theorem d_Mod_shadeRoots_78 : decode b_Mod_shadeRoots 78 = .ok (.goto (-27), 3) := by decide +kernel
theorem d_Mod_shadeRoots_81 : decode b_Mod_shadeRoots 81 = .ok (.iinc 1 1, 3) := by decide +kernel
theorem d_Mod_shadeRoots_84 : decode b_Mod_shadeRoots 84 = .ok (.goto (-58), 3) := by decide +kernel
theorem d_Mod_shadeRoots_87 : decode b_Mod_shadeRoots 87 = .ok (.return_, 1) := by decide +kernel
theorem d_Mod_shade_0 : decode b_Mod_shade 0 = .ok (.aload_n 0, 1) := by decide +kernel
theorem d_Mod_shade_1 : decode b_Mod_shade 1 = .ok (.lload_n 1, 1) := by decide +kernel
theorem d_Mod_shade_2 : decode b_Mod_shade 2 = .ok (.invokevirtual 74, 3) := by decide +kernel
theorem d_Mod_shade_5 : decode b_Mod_shade 5 = .ok (.istore_n 3, 1) := by decide +kernel
theorem d_Mod_shade_6 : decode b_Mod_shade 6 = .ok (.iload_n 3, 1) := by decide +kernel
theorem d_Mod_shade_7 : decode b_Mod_shade 7 = .ok (.ifCond .lt 19, 3) := by decide +kernel
theorem d_Mod_shade_10 : decode b_Mod_shade 10 = .ok (.aload_n 0, 1) := by decide +kernel
theorem d_Mod_shade_11 : decode b_Mod_shade 11 = .ok (.getfield 29, 3) := by decide +kernel
theorem d_Mod_shade_14 : decode b_Mod_shade 14 = .ok (.iload_n 3, 1) := by decide +kernel
theorem d_Mod_shade_15 : decode b_Mod_shade 15 = .ok (.iaload, 1) := by decide +kernel
theorem d_Mod_shade_16 : decode b_Mod_shade 16 = .ok (.ifCond .ne 10, 3) := by decide +kernel
theorem d_Mod_shade_19 : decode b_Mod_shade 19 = .ok (.aload_n 0, 1) := by decide +kernel
theorem d_Mod_shade_20 : decode b_Mod_shade 20 = .ok (.getfield 29, 3) := by decide +kernel
theorem d_Mod_shade_23 : decode b_Mod_shade 23 = .ok (.iload_n 3, 1) := by decide +kernel
theorem d_Mod_shade_24 : decode b_Mod_shade 24 = .ok (.iconst 1, 1) := by decide +kernel
theorem d_Mod_shade_25 : decode b_Mod_shade 25 = .ok (.iastore, 1) := by decide +kernel
theorem d_Mod_shade_26 : decode b_Mod_shade 26 = .ok (.return_, 1) := by decide +kernel
theorem d_Mod_objectOf_0 : decode b_Mod_objectOf 0 = .ok (.lload_n 1, 1) := by decide +kernel
theorem d_Mod_objectOf_1 : decode b_Mod_objectOf 1 = .ok (.ldc2_w 72, 3) := by decide +kernel
theorem d_Mod_objectOf_4 : decode b_Mod_objectOf 4 = .ok (.lcmp, 1) := by decide +kernel
theorem d_Mod_objectOf_5 : decode b_Mod_objectOf 5 = .ok (.ifCond .lt 12, 3) := by decide +kernel
theorem d_Mod_objectOf_8 : decode b_Mod_objectOf 8 = .ok (.lload_n 1, 1) := by decide +kernel
theorem d_Mod_objectOf_9 : decode b_Mod_objectOf 9 = .ok (.ldc2_w 72, 3) := by decide +kernel
theorem d_Mod_objectOf_12 : decode b_Mod_objectOf 12 = .ok (.lsub, 1) := by decide +kernel
theorem d_Mod_objectOf_13 : decode b_Mod_objectOf 13 = .ok (.l2i, 1) := by decide +kernel
theorem d_Mod_objectOf_14 : decode b_Mod_objectOf 14 = .ok (.goto 4, 3) := by decide +kernel
theorem d_Mod_objectOf_17 : decode b_Mod_objectOf 17 = .ok (.iconst (-1), 1) := by decide +kernel
theorem d_Mod_objectOf_18 : decode b_Mod_objectOf 18 = .ok (.ireturn, 1) := by decide +kernel
theorem d_Mod_leastGray_0 : decode b_Mod_leastGray 0 = .ok (.iconst 0, 1) := by decide +kernel
theorem d_Mod_leastGray_1 : decode b_Mod_leastGray 1 = .ok (.istore_n 1, 1) := by decide +kernel
theorem d_Mod_leastGray_2 : decode b_Mod_leastGray 2 = .ok (.iload_n 1, 1) := by decide +kernel
theorem d_Mod_leastGray_3 : decode b_Mod_leastGray 3 = .ok (.bipush 16, 2) := by decide +kernel
theorem d_Mod_leastGray_5 : decode b_Mod_leastGray 5 = .ok (.if_icmp .ge 30, 3) := by decide +kernel
theorem d_Mod_leastGray_8 : decode b_Mod_leastGray 8 = .ok (.aload_n 0, 1) := by decide +kernel
theorem d_Mod_leastGray_9 : decode b_Mod_leastGray 9 = .ok (.getfield 26, 3) := by decide +kernel
theorem d_Mod_leastGray_12 : decode b_Mod_leastGray 12 = .ok (.iload_n 1, 1) := by decide +kernel
theorem d_Mod_leastGray_13 : decode b_Mod_leastGray 13 = .ok (.iaload, 1) := by decide +kernel
theorem d_Mod_leastGray_14 : decode b_Mod_leastGray 14 = .ok (.ifCond .eq 15, 3) := by decide +kernel
theorem d_Mod_leastGray_17 : decode b_Mod_leastGray 17 = .ok (.aload_n 0, 1) := by decide +kernel
theorem d_Mod_leastGray_18 : decode b_Mod_leastGray 18 = .ok (.getfield 29, 3) := by decide +kernel
theorem d_Mod_leastGray_21 : decode b_Mod_leastGray 21 = .ok (.iload_n 1, 1) := by decide +kernel
theorem d_Mod_leastGray_22 : decode b_Mod_leastGray 22 = .ok (.iaload, 1) := by decide +kernel
theorem d_Mod_leastGray_23 : decode b_Mod_leastGray 23 = .ok (.iconst 1, 1) := by decide +kernel
theorem d_Mod_leastGray_24 : decode b_Mod_leastGray 24 = .ok (.if_icmp .ne 5, 3) := by decide +kernel
theorem d_Mod_leastGray_27 : decode b_Mod_leastGray 27 = .ok (.iload_n 1, 1) := by decide +kernel
theorem d_Mod_leastGray_28 : decode b_Mod_leastGray 28 = .ok (.ireturn, 1) := by decide +kernel
theorem d_Mod_leastGray_29 : decode b_Mod_leastGray 29 = .ok (.iinc 1 1, 3) := by decide +kernel
theorem d_Mod_leastGray_32 : decode b_Mod_leastGray 32 = .ok (.goto (-30), 3) := by decide +kernel
theorem d_Mod_leastGray_35 : decode b_Mod_leastGray 35 = .ok (.iconst (-1), 1) := by decide +kernel
theorem d_Mod_leastGray_36 : decode b_Mod_leastGray 36 = .ok (.ireturn, 1) := by decide +kernel
theorem d_Mod_blacken_0 : decode b_Mod_blacken 0 = .ok (.aload_n 0, 1) := by decide +kernel
theorem d_Mod_blacken_1 : decode b_Mod_blacken 1 = .ok (.getfield 29, 3) := by decide +kernel
theorem d_Mod_blacken_4 : decode b_Mod_blacken 4 = .ok (.iload_n 1, 1) := by decide +kernel
theorem d_Mod_blacken_5 : decode b_Mod_blacken 5 = .ok (.iconst 2, 1) := by decide +kernel
theorem d_Mod_blacken_6 : decode b_Mod_blacken 6 = .ok (.iastore, 1) := by decide +kernel
theorem d_Mod_blacken_7 : decode b_Mod_blacken 7 = .ok (.aload_n 0, 1) := by decide +kernel
theorem d_Mod_blacken_8 : decode b_Mod_blacken 8 = .ok (.getfield 26, 3) := by decide +kernel
theorem d_Mod_blacken_11 : decode b_Mod_blacken 11 = .ok (.iload_n 1, 1) := by decide +kernel
theorem d_Mod_blacken_12 : decode b_Mod_blacken 12 = .ok (.iaload, 1) := by decide +kernel
theorem d_Mod_blacken_13 : decode b_Mod_blacken 13 = .ok (.iconst 2, 1) := by decide +kernel
theorem d_Mod_blacken_14 : decode b_Mod_blacken 14 = .ok (.if_icmp .ne 31, 3) := by decide +kernel
theorem d_Mod_blacken_17 : decode b_Mod_blacken 17 = .ok (.iconst 0, 1) := by decide +kernel
theorem d_Mod_blacken_18 : decode b_Mod_blacken 18 = .ok (.istore_n 2, 1) := by decide +kernel
theorem d_Mod_blacken_19 : decode b_Mod_blacken 19 = .ok (.iload_n 2, 1) := by decide +kernel
theorem d_Mod_blacken_20 : decode b_Mod_blacken 20 = .ok (.iconst 4, 1) := by decide +kernel
theorem d_Mod_blacken_21 : decode b_Mod_blacken 21 = .ok (.if_icmp .ge 23, 3) := by decide +kernel
theorem d_Mod_blacken_24 : decode b_Mod_blacken 24 = .ok (.aload_n 0, 1) := by decide +kernel
theorem d_Mod_blacken_25 : decode b_Mod_blacken 25 = .ok (.aload_n 0, 1) := by decide +kernel
theorem d_Mod_blacken_26 : decode b_Mod_blacken 26 = .ok (.getfield 44, 3) := by decide +kernel
theorem d_Mod_blacken_29 : decode b_Mod_blacken 29 = .ok (.iload_n 1, 1) := by decide +kernel
theorem d_Mod_blacken_30 : decode b_Mod_blacken 30 = .ok (.iconst 4, 1) := by decide +kernel
theorem d_Mod_blacken_31 : decode b_Mod_blacken 31 = .ok (.imul, 1) := by decide +kernel
theorem d_Mod_blacken_32 : decode b_Mod_blacken 32 = .ok (.iload_n 2, 1) := by decide +kernel
theorem d_Mod_blacken_33 : decode b_Mod_blacken 33 = .ok (.iadd, 1) := by decide +kernel
theorem d_Mod_blacken_34 : decode b_Mod_blacken 34 = .ok (.laload, 1) := by decide +kernel
theorem d_Mod_blacken_35 : decode b_Mod_blacken 35 = .ok (.invokevirtual 82, 3) := by decide +kernel
theorem d_Mod_blacken_38 : decode b_Mod_blacken 38 = .ok (.iinc 2 1, 3) := by decide +kernel
theorem d_Mod_blacken_41 : decode b_Mod_blacken 41 = .ok (.goto (-22), 3) := by decide +kernel
theorem d_Mod_blacken_44 : decode b_Mod_blacken 44 = .ok (.return_, 1) := by decide +kernel
theorem d_Mod_blacken_45 : decode b_Mod_blacken 45 = .ok (.aload_n 0, 1) := by decide +kernel
theorem d_Mod_blacken_46 : decode b_Mod_blacken 46 = .ok (.getfield 35, 3) := by decide +kernel
theorem d_Mod_blacken_49 : decode b_Mod_blacken 49 = .ok (.iload_n 1, 1) := by decide +kernel
theorem d_Mod_blacken_50 : decode b_Mod_blacken 50 = .ok (.iaload, 1) := by decide +kernel
theorem d_Mod_blacken_51 : decode b_Mod_blacken 51 = .ok (.ifCond .lt 18, 3) := by decide +kernel
theorem d_Mod_blacken_54 : decode b_Mod_blacken 54 = .ok (.aload_n 0, 1) := by decide +kernel
theorem d_Mod_blacken_55 : decode b_Mod_blacken 55 = .ok (.ldc2_w 72, 3) := by decide +kernel
theorem d_Mod_blacken_58 : decode b_Mod_blacken 58 = .ok (.aload_n 0, 1) := by decide +kernel
theorem d_Mod_blacken_59 : decode b_Mod_blacken 59 = .ok (.getfield 35, 3) := by decide +kernel
theorem d_Mod_blacken_62 : decode b_Mod_blacken 62 = .ok (.iload_n 1, 1) := by decide +kernel
theorem d_Mod_blacken_63 : decode b_Mod_blacken 63 = .ok (.iaload, 1) := by decide +kernel
theorem d_Mod_blacken_64 : decode b_Mod_blacken 64 = .ok (.i2l, 1) := by decide +kernel
theorem d_Mod_blacken_65 : decode b_Mod_blacken 65 = .ok (.ladd, 1) := by decide +kernel
theorem d_Mod_blacken_66 : decode b_Mod_blacken 66 = .ok (.invokevirtual 82, 3) := by decide +kernel
theorem d_Mod_blacken_69 : decode b_Mod_blacken 69 = .ok (.iconst 0, 1) := by decide +kernel
theorem d_Mod_blacken_70 : decode b_Mod_blacken 70 = .ok (.istore_n 2, 1) := by decide +kernel
theorem d_Mod_blacken_71 : decode b_Mod_blacken 71 = .ok (.iload_n 2, 1) := by decide +kernel
theorem d_Mod_blacken_72 : decode b_Mod_blacken 72 = .ok (.aload_n 0, 1) := by decide +kernel
theorem d_Mod_blacken_73 : decode b_Mod_blacken 73 = .ok (.getfield 32, 3) := by decide +kernel
theorem d_Mod_blacken_76 : decode b_Mod_blacken 76 = .ok (.iload_n 1, 1) := by decide +kernel
theorem d_Mod_blacken_77 : decode b_Mod_blacken 77 = .ok (.iaload, 1) := by decide +kernel
theorem d_Mod_blacken_78 : decode b_Mod_blacken 78 = .ok (.if_icmp .ge 39, 3) := by decide +kernel
theorem d_Mod_blacken_81 : decode b_Mod_blacken 81 = .ok (.aload_n 0, 1) := by decide +kernel
theorem d_Mod_blacken_82 : decode b_Mod_blacken 82 = .ok (.aload_n 0, 1) := by decide +kernel
theorem d_Mod_blacken_83 : decode b_Mod_blacken 83 = .ok (.getfield 38, 3) := by decide +kernel
theorem d_Mod_blacken_86 : decode b_Mod_blacken 86 = .ok (.iload_n 1, 1) := by decide +kernel
theorem d_Mod_blacken_87 : decode b_Mod_blacken 87 = .ok (.bipush 6, 2) := by decide +kernel
theorem d_Mod_blacken_89 : decode b_Mod_blacken 89 = .ok (.imul, 1) := by decide +kernel
theorem d_Mod_blacken_90 : decode b_Mod_blacken 90 = .ok (.iload_n 2, 1) := by decide +kernel
theorem d_Mod_blacken_91 : decode b_Mod_blacken 91 = .ok (.iadd, 1) := by decide +kernel
theorem d_Mod_blacken_92 : decode b_Mod_blacken 92 = .ok (.laload, 1) := by decide +kernel
theorem d_Mod_blacken_93 : decode b_Mod_blacken 93 = .ok (.invokevirtual 82, 3) := by decide +kernel
theorem d_Mod_blacken_96 : decode b_Mod_blacken 96 = .ok (.aload_n 0, 1) := by decide +kernel
theorem d_Mod_blacken_97 : decode b_Mod_blacken 97 = .ok (.aload_n 0, 1) := by decide +kernel
theorem d_Mod_blacken_98 : decode b_Mod_blacken 98 = .ok (.getfield 41, 3) := by decide +kernel
theorem d_Mod_blacken_101 : decode b_Mod_blacken 101 = .ok (.iload_n 1, 1) := by decide +kernel
theorem d_Mod_blacken_102 : decode b_Mod_blacken 102 = .ok (.bipush 6, 2) := by decide +kernel
theorem d_Mod_blacken_104 : decode b_Mod_blacken 104 = .ok (.imul, 1) := by decide +kernel
theorem d_Mod_blacken_105 : decode b_Mod_blacken 105 = .ok (.iload_n 2, 1) := by decide +kernel
theorem d_Mod_blacken_106 : decode b_Mod_blacken 106 = .ok (.iadd, 1) := by decide +kernel
theorem d_Mod_blacken_107 : decode b_Mod_blacken 107 = .ok (.laload, 1) := by decide +kernel
theorem d_Mod_blacken_108 : decode b_Mod_blacken 108 = .ok (.invokevirtual 82, 3) := by decide +kernel
theorem d_Mod_blacken_111 : decode b_Mod_blacken 111 = .ok (.iinc 2 1, 3) := by decide +kernel
theorem d_Mod_blacken_114 : decode b_Mod_blacken 114 = .ok (.goto (-43), 3) := by decide +kernel
theorem d_Mod_blacken_117 : decode b_Mod_blacken 117 = .ok (.return_, 1) := by decide +kernel
theorem d_Mod_set_0 : decode b_Mod_set 0 = .ok (.aload_n 0, 1) := by decide +kernel
theorem d_Mod_set_1 : decode b_Mod_set 1 = .ok (.aload_n 0, 1) := by decide +kernel
theorem d_Mod_set_2 : decode b_Mod_set 2 = .ok (.iload_n 1, 1) := by decide +kernel
theorem d_Mod_set_3 : decode b_Mod_set 3 = .ok (.invokevirtual 78, 3) := by decide +kernel
theorem d_Mod_set_6 : decode b_Mod_set 6 = .ok (.ifCond .ne 19, 3) := by decide +kernel
theorem d_Mod_set_9 : decode b_Mod_set 9 = .ok (.aload_n 0, 1) := by decide +kernel
theorem d_Mod_set_10 : decode b_Mod_set 10 = .ok (.iload_n 2, 1) := by decide +kernel
theorem d_Mod_set_11 : decode b_Mod_set 11 = .ok (.invokevirtual 78, 3) := by decide +kernel
theorem d_Mod_set_14 : decode b_Mod_set 14 = .ok (.ifCond .ne 11, 3) := by decide +kernel
theorem d_Mod_set_17 : decode b_Mod_set 17 = .ok (.aload_n 0, 1) := by decide +kernel
theorem d_Mod_set_18 : decode b_Mod_set 18 = .ok (.iload_n 3, 1) := by decide +kernel
theorem d_Mod_set_19 : decode b_Mod_set 19 = .ok (.invokevirtual 78, 3) := by decide +kernel
theorem d_Mod_set_22 : decode b_Mod_set 22 = .ok (.ifCond .eq 7, 3) := by decide +kernel
theorem d_Mod_set_25 : decode b_Mod_set 25 = .ok (.iconst 1, 1) := by decide +kernel
theorem d_Mod_set_26 : decode b_Mod_set 26 = .ok (.goto 21, 3) := by decide +kernel
theorem d_Mod_set_29 : decode b_Mod_set 29 = .ok (.aload_n 0, 1) := by decide +kernel
theorem d_Mod_set_30 : decode b_Mod_set 30 = .ok (.aload_n 0, 1) := by decide +kernel
theorem d_Mod_set_31 : decode b_Mod_set 31 = .ok (.getfield 22, 3) := by decide +kernel
theorem d_Mod_set_34 : decode b_Mod_set 34 = .ok (.iload_n 1, 1) := by decide +kernel
theorem d_Mod_set_35 : decode b_Mod_set 35 = .ok (.laload, 1) := by decide +kernel
theorem d_Mod_set_36 : decode b_Mod_set 36 = .ok (.invokevirtual 135, 3) := by decide +kernel
theorem d_Mod_set_39 : decode b_Mod_set 39 = .ok (.ifCond .ge 7, 3) := by decide +kernel
theorem d_Mod_set_42 : decode b_Mod_set 42 = .ok (.iconst 3, 1) := by decide +kernel
theorem d_Mod_set_43 : decode b_Mod_set 43 = .ok (.goto 4, 3) := by decide +kernel
theorem d_Mod_set_46 : decode b_Mod_set 46 = .ok (.iconst 0, 1) := by decide +kernel
theorem d_Mod_set_47 : decode b_Mod_set 47 = .ok (.putfield 64, 3) := by decide +kernel
theorem d_Mod_set_50 : decode b_Mod_set 50 = .ok (.aload_n 0, 1) := by decide +kernel
theorem d_Mod_set_51 : decode b_Mod_set 51 = .ok (.getfield 64, 3) := by decide +kernel
theorem d_Mod_set_54 : decode b_Mod_set 54 = .ok (.ifCond .eq 4, 3) := by decide +kernel
theorem d_Mod_set_57 : decode b_Mod_set 57 = .ok (.return_, 1) := by decide +kernel
theorem d_Mod_set_58 : decode b_Mod_set 58 = .ok (.aload_n 0, 1) := by decide +kernel
theorem d_Mod_set_59 : decode b_Mod_set 59 = .ok (.iconst 0, 1) := by decide +kernel
theorem d_Mod_set_60 : decode b_Mod_set 60 = .ok (.putfield 141, 3) := by decide +kernel
theorem d_Mod_set_63 : decode b_Mod_set 63 = .ok (.aload_n 0, 1) := by decide +kernel
theorem d_Mod_set_64 : decode b_Mod_set 64 = .ok (.aload_n 0, 1) := by decide +kernel
theorem d_Mod_set_65 : decode b_Mod_set 65 = .ok (.aload_n 0, 1) := by decide +kernel
theorem d_Mod_set_66 : decode b_Mod_set 66 = .ok (.getfield 22, 3) := by decide +kernel
theorem d_Mod_set_69 : decode b_Mod_set 69 = .ok (.iload_n 1, 1) := by decide +kernel
theorem d_Mod_set_70 : decode b_Mod_set 70 = .ok (.laload, 1) := by decide +kernel
theorem d_Mod_set_71 : decode b_Mod_set 71 = .ok (.invokevirtual 135, 3) := by decide +kernel
theorem d_Mod_set_74 : decode b_Mod_set 74 = .ok (.aload_n 0, 1) := by decide +kernel
theorem d_Mod_set_75 : decode b_Mod_set 75 = .ok (.getfield 22, 3) := by decide +kernel
theorem d_Mod_set_78 : decode b_Mod_set 78 = .ok (.iload_n 2, 1) := by decide +kernel
theorem d_Mod_set_79 : decode b_Mod_set 79 = .ok (.laload, 1) := by decide +kernel
theorem d_Mod_set_80 : decode b_Mod_set 80 = .ok (.aload_n 0, 1) := by decide +kernel
theorem d_Mod_set_81 : decode b_Mod_set 81 = .ok (.getfield 22, 3) := by decide +kernel
theorem d_Mod_set_84 : decode b_Mod_set 84 = .ok (.iload_n 3, 1) := by decide +kernel
theorem d_Mod_set_85 : decode b_Mod_set 85 = .ok (.laload, 1) := by decide +kernel
theorem d_Mod_set_86 : decode b_Mod_set 86 = .ok (.invokevirtual 147, 3) := by decide +kernel
theorem d_Mod_set_89 : decode b_Mod_set 89 = .ok (.aload_n 0, 1) := by decide +kernel
theorem d_Mod_set_90 : decode b_Mod_set 90 = .ok (.aload_n 0, 1) := by decide +kernel
theorem d_Mod_set_91 : decode b_Mod_set 91 = .ok (.getfield 141, 3) := by decide +kernel
theorem d_Mod_set_94 : decode b_Mod_set 94 = .ok (.putfield 64, 3) := by decide +kernel
theorem d_Mod_set_97 : decode b_Mod_set 97 = .ok (.return_, 1) := by decide +kernel
theorem d_Mod_tableOf_0 : decode b_Mod_tableOf 0 = .ok (.aload_n 0, 1) := by decide +kernel
theorem d_Mod_tableOf_1 : decode b_Mod_tableOf 1 = .ok (.lload_n 1, 1) := by decide +kernel
theorem d_Mod_tableOf_2 : decode b_Mod_tableOf 2 = .ok (.invokevirtual 74, 3) := by decide +kernel
theorem d_Mod_tableOf_5 : decode b_Mod_tableOf 5 = .ok (.istore_n 3, 1) := by decide +kernel
theorem d_Mod_tableOf_6 : decode b_Mod_tableOf 6 = .ok (.iload_n 3, 1) := by decide +kernel
theorem d_Mod_tableOf_7 : decode b_Mod_tableOf 7 = .ok (.ifCond .lt 17, 3) := by decide +kernel
theorem d_Mod_tableOf_10 : decode b_Mod_tableOf 10 = .ok (.aload_n 0, 1) := by decide +kernel
theorem d_Mod_tableOf_11 : decode b_Mod_tableOf 11 = .ok (.getfield 26, 3) := by decide +kernel
theorem d_Mod_tableOf_14 : decode b_Mod_tableOf 14 = .ok (.iload_n 3, 1) := by decide +kernel
theorem d_Mod_tableOf_15 : decode b_Mod_tableOf 15 = .ok (.iaload, 1) := by decide +kernel
theorem d_Mod_tableOf_16 : decode b_Mod_tableOf 16 = .ok (.iconst 1, 1) := by decide +kernel
theorem d_Mod_tableOf_17 : decode b_Mod_tableOf 17 = .ok (.if_icmp .ne 7, 3) := by decide +kernel
theorem d_Mod_tableOf_20 : decode b_Mod_tableOf 20 = .ok (.iload_n 3, 1) := by decide +kernel
theorem d_Mod_tableOf_21 : decode b_Mod_tableOf 21 = .ok (.goto 4, 3) := by decide +kernel
theorem d_Mod_tableOf_24 : decode b_Mod_tableOf 24 = .ok (.iconst (-1), 1) := by decide +kernel
theorem d_Mod_tableOf_25 : decode b_Mod_tableOf 25 = .ok (.ireturn, 1) := by decide +kernel
theorem d_Mod_pairOf_0 : decode b_Mod_pairOf 0 = .ok (.iconst 0, 1) := by decide +kernel
theorem d_Mod_pairOf_1 : decode b_Mod_pairOf 1 = .ok (.istore 4, 2) := by decide +kernel
theorem d_Mod_pairOf_3 : decode b_Mod_pairOf 3 = .ok (.iload 4, 2) := by decide +kernel
theorem d_Mod_pairOf_5 : decode b_Mod_pairOf 5 = .ok (.aload_n 0, 1) := by decide +kernel
theorem d_Mod_pairOf_6 : decode b_Mod_pairOf 6 = .ok (.getfield 32, 3) := by decide +kernel
theorem d_Mod_pairOf_9 : decode b_Mod_pairOf 9 = .ok (.iload_n 1, 1) := by decide +kernel
theorem d_Mod_pairOf_10 : decode b_Mod_pairOf 10 = .ok (.iaload, 1) := by decide +kernel
theorem d_Mod_pairOf_11 : decode b_Mod_pairOf 11 = .ok (.if_icmp .ge 29, 3) := by decide +kernel
theorem d_Mod_pairOf_14 : decode b_Mod_pairOf 14 = .ok (.aload_n 0, 1) := by decide +kernel
theorem d_Mod_pairOf_15 : decode b_Mod_pairOf 15 = .ok (.getfield 38, 3) := by decide +kernel
theorem d_Mod_pairOf_18 : decode b_Mod_pairOf 18 = .ok (.iload_n 1, 1) := by decide +kernel
theorem d_Mod_pairOf_19 : decode b_Mod_pairOf 19 = .ok (.bipush 6, 2) := by decide +kernel
theorem d_Mod_pairOf_21 : decode b_Mod_pairOf 21 = .ok (.imul, 1) := by decide +kernel
theorem d_Mod_pairOf_22 : decode b_Mod_pairOf 22 = .ok (.iload 4, 2) := by decide +kernel
theorem d_Mod_pairOf_24 : decode b_Mod_pairOf 24 = .ok (.iadd, 1) := by decide +kernel
theorem d_Mod_pairOf_25 : decode b_Mod_pairOf 25 = .ok (.laload, 1) := by decide +kernel
theorem d_Mod_pairOf_26 : decode b_Mod_pairOf 26 = .ok (.lload_n 2, 1) := by decide +kernel
theorem d_Mod_pairOf_27 : decode b_Mod_pairOf 27 = .ok (.lcmp, 1) := by decide +kernel
theorem d_Mod_pairOf_28 : decode b_Mod_pairOf 28 = .ok (.ifCond .ne 6, 3) := by decide +kernel
theorem d_Mod_pairOf_31 : decode b_Mod_pairOf 31 = .ok (.iload 4, 2) := by decide +kernel
theorem d_Mod_pairOf_33 : decode b_Mod_pairOf 33 = .ok (.ireturn, 1) := by decide +kernel
theorem d_Mod_pairOf_34 : decode b_Mod_pairOf 34 = .ok (.iinc 4 1, 3) := by decide +kernel
theorem d_Mod_pairOf_37 : decode b_Mod_pairOf 37 = .ok (.goto (-34), 3) := by decide +kernel
theorem d_Mod_pairOf_40 : decode b_Mod_pairOf 40 = .ok (.iconst (-1), 1) := by decide +kernel
theorem d_Mod_pairOf_41 : decode b_Mod_pairOf 41 = .ok (.ireturn, 1) := by decide +kernel
theorem d_Mod_next_0 : decode b_Mod_next 0 = .ok (.aload_n 0, 1) := by decide +kernel
theorem d_Mod_next_1 : decode b_Mod_next 1 = .ok (.getfield 35, 3) := by decide +kernel
theorem d_Mod_next_4 : decode b_Mod_next 4 = .ok (.iload_n 1, 1) := by decide +kernel
theorem d_Mod_next_5 : decode b_Mod_next 5 = .ok (.iaload, 1) := by decide +kernel
theorem d_Mod_next_6 : decode b_Mod_next 6 = .ok (.istore 4, 2) := by decide +kernel
theorem d_Mod_next_8 : decode b_Mod_next 8 = .ok (.iload 4, 2) := by decide +kernel
theorem d_Mod_next_10 : decode b_Mod_next 10 = .ok (.ifCond .ge 5, 3) := by decide +kernel
theorem d_Mod_next_13 : decode b_Mod_next 13 = .ok (.iconst (-1), 1) := by decide +kernel
theorem d_Mod_next_14 : decode b_Mod_next 14 = .ok (.ireturn, 1) := by decide +kernel
theorem d_Mod_next_15 : decode b_Mod_next 15 = .ok (.aload_n 0, 1) := by decide +kernel
theorem d_Mod_next_16 : decode b_Mod_next 16 = .ok (.iload 4, 2) := by decide +kernel
theorem d_Mod_next_18 : decode b_Mod_next 18 = .ok (.lload_n 2, 1) := by decide +kernel
theorem d_Mod_next_19 : decode b_Mod_next 19 = .ok (.invokevirtual 131, 3) := by decide +kernel
theorem d_Mod_next_22 : decode b_Mod_next 22 = .ok (.istore 5, 2) := by decide +kernel
theorem d_Mod_next_24 : decode b_Mod_next 24 = .ok (.iload 5, 2) := by decide +kernel
theorem d_Mod_next_26 : decode b_Mod_next 26 = .ok (.ifCond .ge 7, 3) := by decide +kernel
theorem d_Mod_next_29 : decode b_Mod_next 29 = .ok (.iconst (-1), 1) := by decide +kernel
theorem d_Mod_next_30 : decode b_Mod_next 30 = .ok (.goto 20, 3) := by decide +kernel
theorem d_Mod_next_33 : decode b_Mod_next 33 = .ok (.aload_n 0, 1) := by decide +kernel
theorem d_Mod_next_34 : decode b_Mod_next 34 = .ok (.aload_n 0, 1) := by decide +kernel
theorem d_Mod_next_35 : decode b_Mod_next 35 = .ok (.getfield 41, 3) := by decide +kernel
theorem d_Mod_next_38 : decode b_Mod_next 38 = .ok (.iload 4, 2) := by decide +kernel
theorem d_Mod_next_40 : decode b_Mod_next 40 = .ok (.bipush 6, 2) := by decide +kernel
theorem d_Mod_next_42 : decode b_Mod_next 42 = .ok (.imul, 1) := by decide +kernel
theorem d_Mod_next_43 : decode b_Mod_next 43 = .ok (.iload 5, 2) := by decide +kernel
theorem d_Mod_next_45 : decode b_Mod_next 45 = .ok (.iadd, 1) := by decide +kernel
theorem d_Mod_next_46 : decode b_Mod_next 46 = .ok (.laload, 1) := by decide +kernel
theorem d_Mod_next_47 : decode b_Mod_next 47 = .ok (.invokevirtual 135, 3) := by decide +kernel
theorem d_Mod_next_50 : decode b_Mod_next 50 = .ok (.ireturn, 1) := by decide +kernel
theorem d_Mod_touch_0 : decode b_Mod_touch 0 = .ok (.aload_n 0, 1) := by decide +kernel
theorem d_Mod_touch_1 : decode b_Mod_touch 1 = .ok (.getfield 92, 3) := by decide +kernel
theorem d_Mod_touch_4 : decode b_Mod_touch 4 = .ok (.iconst 1, 1) := by decide +kernel
theorem d_Mod_touch_5 : decode b_Mod_touch 5 = .ok (.if_icmp .ne 20, 3) := by decide +kernel
theorem d_Mod_touch_8 : decode b_Mod_touch 8 = .ok (.aload_n 0, 1) := by decide +kernel
theorem d_Mod_touch_9 : decode b_Mod_touch 9 = .ok (.getfield 29, 3) := by decide +kernel
theorem d_Mod_touch_12 : decode b_Mod_touch 12 = .ok (.iload_n 1, 1) := by decide +kernel
theorem d_Mod_touch_13 : decode b_Mod_touch 13 = .ok (.iaload, 1) := by decide +kernel
theorem d_Mod_touch_14 : decode b_Mod_touch 14 = .ok (.iconst 2, 1) := by decide +kernel
theorem d_Mod_touch_15 : decode b_Mod_touch 15 = .ok (.if_icmp .ne 10, 3) := by decide +kernel
theorem d_Mod_touch_18 : decode b_Mod_touch 18 = .ok (.aload_n 0, 1) := by decide +kernel
theorem d_Mod_touch_19 : decode b_Mod_touch 19 = .ok (.getfield 29, 3) := by decide +kernel
theorem d_Mod_touch_22 : decode b_Mod_touch 22 = .ok (.iload_n 1, 1) := by decide +kernel
theorem d_Mod_touch_23 : decode b_Mod_touch 23 = .ok (.iconst 1, 1) := by decide +kernel
theorem d_Mod_touch_24 : decode b_Mod_touch 24 = .ok (.iastore, 1) := by decide +kernel
theorem d_Mod_touch_25 : decode b_Mod_touch 25 = .ok (.return_, 1) := by decide +kernel
theorem d_Mod_get_0 : decode b_Mod_get 0 = .ok (.aload_n 0, 1) := by decide +kernel
theorem d_Mod_get_1 : decode b_Mod_get 1 = .ok (.aload_n 0, 1) := by decide +kernel
theorem d_Mod_get_2 : decode b_Mod_get 2 = .ok (.iload_n 1, 1) := by decide +kernel
theorem d_Mod_get_3 : decode b_Mod_get 3 = .ok (.invokevirtual 78, 3) := by decide +kernel
theorem d_Mod_get_6 : decode b_Mod_get 6 = .ok (.ifCond .ne 19, 3) := by decide +kernel
theorem d_Mod_get_9 : decode b_Mod_get 9 = .ok (.aload_n 0, 1) := by decide +kernel
theorem d_Mod_get_10 : decode b_Mod_get 10 = .ok (.iload_n 2, 1) := by decide +kernel
theorem d_Mod_get_11 : decode b_Mod_get 11 = .ok (.invokevirtual 78, 3) := by decide +kernel
theorem d_Mod_get_14 : decode b_Mod_get 14 = .ok (.ifCond .ne 11, 3) := by decide +kernel
theorem d_Mod_get_17 : decode b_Mod_get 17 = .ok (.aload_n 0, 1) := by decide +kernel
theorem d_Mod_get_18 : decode b_Mod_get 18 = .ok (.iload_n 3, 1) := by decide +kernel
theorem d_Mod_get_19 : decode b_Mod_get 19 = .ok (.invokevirtual 78, 3) := by decide +kernel
theorem d_Mod_get_22 : decode b_Mod_get 22 = .ok (.ifCond .eq 7, 3) := by decide +kernel
theorem d_Mod_get_25 : decode b_Mod_get 25 = .ok (.iconst 1, 1) := by decide +kernel
theorem d_Mod_get_26 : decode b_Mod_get 26 = .ok (.goto 21, 3) := by decide +kernel
theorem d_Mod_get_29 : decode b_Mod_get 29 = .ok (.aload_n 0, 1) := by decide +kernel
theorem d_Mod_get_30 : decode b_Mod_get 30 = .ok (.aload_n 0, 1) := by decide +kernel
theorem d_Mod_get_31 : decode b_Mod_get 31 = .ok (.getfield 22, 3) := by decide +kernel
theorem d_Mod_get_34 : decode b_Mod_get 34 = .ok (.iload_n 1, 1) := by decide +kernel
theorem d_Mod_get_35 : decode b_Mod_get 35 = .ok (.laload, 1) := by decide +kernel
theorem d_Mod_get_36 : decode b_Mod_get 36 = .ok (.invokevirtual 135, 3) := by decide +kernel
theorem d_Mod_get_39 : decode b_Mod_get 39 = .ok (.ifCond .ge 7, 3) := by decide +kernel
theorem d_Mod_get_42 : decode b_Mod_get 42 = .ok (.iconst 3, 1) := by decide +kernel
theorem d_Mod_get_43 : decode b_Mod_get 43 = .ok (.goto 4, 3) := by decide +kernel
theorem d_Mod_get_46 : decode b_Mod_get 46 = .ok (.iconst 0, 1) := by decide +kernel
theorem d_Mod_get_47 : decode b_Mod_get 47 = .ok (.putfield 64, 3) := by decide +kernel
theorem d_Mod_get_50 : decode b_Mod_get 50 = .ok (.aload_n 0, 1) := by decide +kernel
theorem d_Mod_get_51 : decode b_Mod_get 51 = .ok (.getfield 64, 3) := by decide +kernel
theorem d_Mod_get_54 : decode b_Mod_get 54 = .ok (.ifCond .eq 5, 3) := by decide +kernel
theorem d_Mod_get_57 : decode b_Mod_get 57 = .ok (.lconst 0, 1) := by decide +kernel
theorem d_Mod_get_58 : decode b_Mod_get 58 = .ok (.lreturn, 1) := by decide +kernel
theorem d_Mod_get_59 : decode b_Mod_get 59 = .ok (.aload_n 0, 1) := by decide +kernel
theorem d_Mod_get_60 : decode b_Mod_get 60 = .ok (.iconst 0, 1) := by decide +kernel
theorem d_Mod_get_61 : decode b_Mod_get 61 = .ok (.putfield 141, 3) := by decide +kernel
theorem d_Mod_get_64 : decode b_Mod_get 64 = .ok (.aload_n 0, 1) := by decide +kernel
theorem d_Mod_get_65 : decode b_Mod_get 65 = .ok (.aload_n 0, 1) := by decide +kernel
theorem d_Mod_get_66 : decode b_Mod_get 66 = .ok (.aload_n 0, 1) := by decide +kernel
theorem d_Mod_get_67 : decode b_Mod_get 67 = .ok (.getfield 22, 3) := by decide +kernel
theorem d_Mod_get_70 : decode b_Mod_get 70 = .ok (.iload_n 1, 1) := by decide +kernel
theorem d_Mod_get_71 : decode b_Mod_get 71 = .ok (.laload, 1) := by decide +kernel
theorem d_Mod_get_72 : decode b_Mod_get 72 = .ok (.invokevirtual 135, 3) := by decide +kernel
theorem d_Mod_get_75 : decode b_Mod_get 75 = .ok (.aload_n 0, 1) := by decide +kernel
theorem d_Mod_get_76 : decode b_Mod_get 76 = .ok (.getfield 22, 3) := by decide +kernel
theorem d_Mod_get_79 : decode b_Mod_get 79 = .ok (.iload_n 2, 1) := by decide +kernel
theorem d_Mod_get_80 : decode b_Mod_get 80 = .ok (.laload, 1) := by decide +kernel
theorem d_Mod_get_81 : decode b_Mod_get 81 = .ok (.invokevirtual 151, 3) := by decide +kernel
theorem d_Mod_get_84 : decode b_Mod_get 84 = .ok (.lstore 4, 2) := by decide +kernel
theorem d_Mod_get_86 : decode b_Mod_get 86 = .ok (.aload_n 0, 1) := by decide +kernel
theorem d_Mod_get_87 : decode b_Mod_get 87 = .ok (.aload_n 0, 1) := by decide +kernel
theorem d_Mod_get_88 : decode b_Mod_get 88 = .ok (.getfield 141, 3) := by decide +kernel
theorem d_Mod_get_91 : decode b_Mod_get 91 = .ok (.putfield 64, 3) := by decide +kernel
theorem d_Mod_get_94 : decode b_Mod_get 94 = .ok (.aload_n 0, 1) := by decide +kernel
theorem d_Mod_get_95 : decode b_Mod_get 95 = .ok (.getfield 64, 3) := by decide +kernel
theorem d_Mod_get_98 : decode b_Mod_get 98 = .ok (.ifCond .eq 5, 3) := by decide +kernel
theorem d_Mod_get_101 : decode b_Mod_get 101 = .ok (.lconst 0, 1) := by decide +kernel
theorem d_Mod_get_102 : decode b_Mod_get 102 = .ok (.lreturn, 1) := by decide +kernel
theorem d_Mod_get_103 : decode b_Mod_get 103 = .ok (.aload_n 0, 1) := by decide +kernel
theorem d_Mod_get_104 : decode b_Mod_get 104 = .ok (.getfield 22, 3) := by decide +kernel
theorem d_Mod_get_107 : decode b_Mod_get 107 = .ok (.iload_n 3, 1) := by decide +kernel
theorem d_Mod_get_108 : decode b_Mod_get 108 = .ok (.lload 4, 2) := by decide +kernel
theorem d_Mod_get_110 : decode b_Mod_get 110 = .ok (.lastore, 1) := by decide +kernel
theorem d_Mod_get_111 : decode b_Mod_get 111 = .ok (.lload 4, 2) := by decide +kernel
theorem d_Mod_get_113 : decode b_Mod_get 113 = .ok (.lreturn, 1) := by decide +kernel
theorem d_Mod_getting_0 : decode b_Mod_getting 0 = .ok (.iload_n 1, 1) := by decide +kernel
theorem d_Mod_getting_1 : decode b_Mod_getting 1 = .ok (.istore 4, 2) := by decide +kernel
theorem d_Mod_getting_3 : decode b_Mod_getting 3 = .ok (.iconst 0, 1) := by decide +kernel
theorem d_Mod_getting_4 : decode b_Mod_getting 4 = .ok (.istore 5, 2) := by decide +kernel
theorem d_Mod_getting_6 : decode b_Mod_getting 6 = .ok (.iload 5, 2) := by decide +kernel
theorem d_Mod_getting_8 : decode b_Mod_getting 8 = .ok (.iconst 5, 1) := by decide +kernel
theorem d_Mod_getting_9 : decode b_Mod_getting 9 = .ok (.if_icmp .ge 67, 3) := by decide +kernel
theorem d_Mod_getting_12 : decode b_Mod_getting 12 = .ok (.lload_n 2, 1) := by decide +kernel
theorem d_Mod_getting_13 : decode b_Mod_getting 13 = .ok (.ldc2_w 62, 3) := by decide +kernel
theorem d_Mod_getting_16 : decode b_Mod_getting 16 = .ok (.lcmp, 1) := by decide +kernel
theorem d_Mod_getting_17 : decode b_Mod_getting 17 = .ok (.ifCond .ne 7, 3) := by decide +kernel
theorem d_Mod_getting_20 : decode b_Mod_getting 20 = .ok (.ldc2_w 62, 3) := by decide +kernel
theorem d_Mod_getting_23 : decode b_Mod_getting 23 = .ok (.lreturn, 1) := by decide +kernel
theorem d_Mod_getting_24 : decode b_Mod_getting 24 = .ok (.aload_n 0, 1) := by decide +kernel
theorem d_Mod_getting_25 : decode b_Mod_getting 25 = .ok (.iload 4, 2) := by decide +kernel
theorem d_Mod_getting_27 : decode b_Mod_getting 27 = .ok (.lload_n 2, 1) := by decide +kernel
theorem d_Mod_getting_28 : decode b_Mod_getting 28 = .ok (.invokevirtual 131, 3) := by decide +kernel
theorem d_Mod_getting_31 : decode b_Mod_getting 31 = .ok (.istore 6, 2) := by decide +kernel
theorem d_Mod_getting_33 : decode b_Mod_getting 33 = .ok (.iload 6, 2) := by decide +kernel
theorem d_Mod_getting_35 : decode b_Mod_getting 35 = .ok (.ifCond .lt 17, 3) := by decide +kernel
theorem d_Mod_getting_38 : decode b_Mod_getting 38 = .ok (.aload_n 0, 1) := by decide +kernel
theorem d_Mod_getting_39 : decode b_Mod_getting 39 = .ok (.getfield 41, 3) := by decide +kernel
theorem d_Mod_getting_42 : decode b_Mod_getting 42 = .ok (.iload 4, 2) := by decide +kernel
theorem d_Mod_getting_44 : decode b_Mod_getting 44 = .ok (.bipush 6, 2) := by decide +kernel
theorem d_Mod_getting_46 : decode b_Mod_getting 46 = .ok (.imul, 1) := by decide +kernel
theorem d_Mod_getting_47 : decode b_Mod_getting 47 = .ok (.iload 6, 2) := by decide +kernel
theorem d_Mod_getting_49 : decode b_Mod_getting 49 = .ok (.iadd, 1) := by decide +kernel
theorem d_Mod_getting_50 : decode b_Mod_getting 50 = .ok (.laload, 1) := by decide +kernel
theorem d_Mod_getting_51 : decode b_Mod_getting 51 = .ok (.lreturn, 1) := by decide +kernel
theorem d_Mod_getting_52 : decode b_Mod_getting 52 = .ok (.aload_n 0, 1) := by decide +kernel
theorem d_Mod_getting_53 : decode b_Mod_getting 53 = .ok (.iload 4, 2) := by decide +kernel
theorem d_Mod_getting_55 : decode b_Mod_getting 55 = .ok (.lconst 0, 1) := by decide +kernel
theorem d_Mod_getting_56 : decode b_Mod_getting 56 = .ok (.invokevirtual 138, 3) := by decide +kernel
theorem d_Mod_getting_59 : decode b_Mod_getting 59 = .ok (.istore 4, 2) := by decide +kernel
theorem d_Mod_getting_61 : decode b_Mod_getting 61 = .ok (.iload 4, 2) := by decide +kernel
theorem d_Mod_getting_63 : decode b_Mod_getting 63 = .ok (.ifCond .ge 7, 3) := by decide +kernel
theorem d_Mod_getting_66 : decode b_Mod_getting 66 = .ok (.ldc2_w 62, 3) := by decide +kernel
theorem d_Mod_getting_69 : decode b_Mod_getting 69 = .ok (.lreturn, 1) := by decide +kernel
theorem d_Mod_getting_70 : decode b_Mod_getting 70 = .ok (.iinc 5 1, 3) := by decide +kernel
theorem d_Mod_getting_73 : decode b_Mod_getting 73 = .ok (.goto (-67), 3) := by decide +kernel
theorem d_Mod_getting_76 : decode b_Mod_getting 76 = .ok (.aload_n 0, 1) := by decide +kernel
theorem d_Mod_getting_77 : decode b_Mod_getting 77 = .ok (.iconst 2, 1) := by decide +kernel
theorem d_Mod_getting_78 : decode b_Mod_getting 78 = .ok (.putfield 141, 3) := by decide +kernel
theorem d_Mod_getting_81 : decode b_Mod_getting 81 = .ok (.ldc2_w 62, 3) := by decide +kernel
theorem d_Mod_getting_84 : decode b_Mod_getting 84 = .ok (.lreturn, 1) := by decide +kernel
theorem d_Mod_meta_0 : decode b_Mod_meta 0 = .ok (.aload_n 0, 1) := by decide +kernel
theorem d_Mod_meta_1 : decode b_Mod_meta 1 = .ok (.aload_n 0, 1) := by decide +kernel
theorem d_Mod_meta_2 : decode b_Mod_meta 2 = .ok (.iload_n 1, 1) := by decide +kernel
theorem d_Mod_meta_3 : decode b_Mod_meta 3 = .ok (.invokevirtual 78, 3) := by decide +kernel
theorem d_Mod_meta_6 : decode b_Mod_meta 6 = .ok (.ifCond .ne 11, 3) := by decide +kernel
theorem d_Mod_meta_9 : decode b_Mod_meta 9 = .ok (.aload_n 0, 1) := by decide +kernel
theorem d_Mod_meta_10 : decode b_Mod_meta 10 = .ok (.iload_n 2, 1) := by decide +kernel
theorem d_Mod_meta_11 : decode b_Mod_meta 11 = .ok (.invokevirtual 78, 3) := by decide +kernel
theorem d_Mod_meta_14 : decode b_Mod_meta 14 = .ok (.ifCond .eq 7, 3) := by decide +kernel
theorem d_Mod_meta_17 : decode b_Mod_meta 17 = .ok (.iconst 1, 1) := by decide +kernel
theorem d_Mod_meta_18 : decode b_Mod_meta 18 = .ok (.goto 4, 3) := by decide +kernel
theorem d_Mod_meta_21 : decode b_Mod_meta 21 = .ok (.iconst 0, 1) := by decide +kernel
theorem d_Mod_meta_22 : decode b_Mod_meta 22 = .ok (.putfield 64, 3) := by decide +kernel
theorem d_Mod_meta_25 : decode b_Mod_meta 25 = .ok (.aload_n 0, 1) := by decide +kernel
theorem d_Mod_meta_26 : decode b_Mod_meta 26 = .ok (.getfield 64, 3) := by decide +kernel
theorem d_Mod_meta_29 : decode b_Mod_meta 29 = .ok (.ifCond .eq 4, 3) := by decide +kernel
theorem d_Mod_meta_32 : decode b_Mod_meta 32 = .ok (.return_, 1) := by decide +kernel
theorem d_Mod_meta_33 : decode b_Mod_meta 33 = .ok (.aload_n 0, 1) := by decide +kernel
theorem d_Mod_meta_34 : decode b_Mod_meta 34 = .ok (.iconst 0, 1) := by decide +kernel
theorem d_Mod_meta_35 : decode b_Mod_meta 35 = .ok (.putfield 141, 3) := by decide +kernel
theorem d_Mod_meta_38 : decode b_Mod_meta 38 = .ok (.aload_n 0, 1) := by decide +kernel
theorem d_Mod_meta_39 : decode b_Mod_meta 39 = .ok (.aload_n 0, 1) := by decide +kernel
theorem d_Mod_meta_40 : decode b_Mod_meta 40 = .ok (.getfield 22, 3) := by decide +kernel
theorem d_Mod_meta_43 : decode b_Mod_meta 43 = .ok (.iload_n 1, 1) := by decide +kernel
theorem d_Mod_meta_44 : decode b_Mod_meta 44 = .ok (.laload, 1) := by decide +kernel
theorem d_Mod_meta_45 : decode b_Mod_meta 45 = .ok (.aload_n 0, 1) := by decide +kernel
theorem d_Mod_meta_46 : decode b_Mod_meta 46 = .ok (.getfield 22, 3) := by decide +kernel
theorem d_Mod_meta_49 : decode b_Mod_meta 49 = .ok (.iload_n 2, 1) := by decide +kernel
theorem d_Mod_meta_50 : decode b_Mod_meta 50 = .ok (.laload, 1) := by decide +kernel
theorem d_Mod_meta_51 : decode b_Mod_meta 51 = .ok (.invokevirtual 155, 3) := by decide +kernel
theorem d_Mod_meta_54 : decode b_Mod_meta 54 = .ok (.aload_n 0, 1) := by decide +kernel
theorem d_Mod_meta_55 : decode b_Mod_meta 55 = .ok (.aload_n 0, 1) := by decide +kernel
theorem d_Mod_meta_56 : decode b_Mod_meta 56 = .ok (.getfield 141, 3) := by decide +kernel
theorem d_Mod_meta_59 : decode b_Mod_meta 59 = .ok (.ifCond .ne 7, 3) := by decide +kernel
theorem d_Mod_meta_62 : decode b_Mod_meta 62 = .ok (.iconst 0, 1) := by decide +kernel
theorem d_Mod_meta_63 : decode b_Mod_meta 63 = .ok (.goto 4, 3) := by decide +kernel
theorem d_Mod_meta_66 : decode b_Mod_meta 66 = .ok (.iconst 2, 1) := by decide +kernel
theorem d_Mod_meta_67 : decode b_Mod_meta 67 = .ok (.putfield 64, 3) := by decide +kernel
theorem d_Mod_meta_70 : decode b_Mod_meta 70 = .ok (.return_, 1) := by decide +kernel
theorem d_Mod_join_0 : decode b_Mod_join 0 = .ok (.aload_n 0, 1) := by decide +kernel
theorem d_Mod_join_1 : decode b_Mod_join 1 = .ok (.lload_n 1, 1) := by decide +kernel
theorem d_Mod_join_2 : decode b_Mod_join 2 = .ok (.invokevirtual 135, 3) := by decide +kernel
theorem d_Mod_join_5 : decode b_Mod_join 5 = .ok (.istore 5, 2) := by decide +kernel
theorem d_Mod_join_7 : decode b_Mod_join 7 = .ok (.iload 5, 2) := by decide +kernel
theorem d_Mod_join_9 : decode b_Mod_join 9 = .ok (.ifCond .lt 19, 3) := by decide +kernel
theorem d_Mod_join_12 : decode b_Mod_join 12 = .ok (.lload_n 3, 1) := by decide +kernel
theorem d_Mod_join_13 : decode b_Mod_join 13 = .ok (.ldc2_w 62, 3) := by decide +kernel
theorem d_Mod_join_16 : decode b_Mod_join 16 = .ok (.lcmp, 1) := by decide +kernel
theorem d_Mod_join_17 : decode b_Mod_join 17 = .ok (.ifCond .eq 17, 3) := by decide +kernel
theorem d_Mod_join_20 : decode b_Mod_join 20 = .ok (.aload_n 0, 1) := by decide +kernel
theorem d_Mod_join_21 : decode b_Mod_join 21 = .ok (.lload_n 3, 1) := by decide +kernel
theorem d_Mod_join_22 : decode b_Mod_join 22 = .ok (.invokevirtual 135, 3) := by decide +kernel
theorem d_Mod_join_25 : decode b_Mod_join 25 = .ok (.ifCond .ge 9, 3) := by decide +kernel
theorem d_Mod_join_28 : decode b_Mod_join 28 = .ok (.aload_n 0, 1) := by decide +kernel
theorem d_Mod_join_29 : decode b_Mod_join 29 = .ok (.iconst 3, 1) := by decide +kernel
theorem d_Mod_join_30 : decode b_Mod_join 30 = .ok (.putfield 141, 3) := by decide +kernel
theorem d_Mod_join_33 : decode b_Mod_join 33 = .ok (.return_, 1) := by decide +kernel
theorem d_Mod_join_34 : decode b_Mod_join 34 = .ok (.aload_n 0, 1) := by decide +kernel
theorem d_Mod_join_35 : decode b_Mod_join 35 = .ok (.getfield 35, 3) := by decide +kernel
theorem d_Mod_join_38 : decode b_Mod_join 38 = .ok (.iload 5, 2) := by decide +kernel
theorem d_Mod_join_40 : decode b_Mod_join 40 = .ok (.lload_n 3, 1) := by decide +kernel
theorem d_Mod_join_41 : decode b_Mod_join 41 = .ok (.ldc2_w 62, 3) := by decide +kernel
theorem d_Mod_join_44 : decode b_Mod_join 44 = .ok (.lcmp, 1) := by decide +kernel
theorem d_Mod_join_45 : decode b_Mod_join 45 = .ok (.ifCond .ne 7, 3) := by decide +kernel
theorem d_Mod_join_48 : decode b_Mod_join 48 = .ok (.iconst (-1), 1) := by decide +kernel
theorem d_Mod_join_49 : decode b_Mod_join 49 = .ok (.goto 8, 3) := by decide +kernel
theorem d_Mod_join_52 : decode b_Mod_join 52 = .ok (.aload_n 0, 1) := by decide +kernel
theorem d_Mod_join_53 : decode b_Mod_join 53 = .ok (.lload_n 3, 1) := by decide +kernel
theorem d_Mod_join_54 : decode b_Mod_join 54 = .ok (.invokevirtual 135, 3) := by decide +kernel
theorem d_Mod_join_57 : decode b_Mod_join 57 = .ok (.iastore, 1) := by decide +kernel
theorem d_Mod_join_58 : decode b_Mod_join 58 = .ok (.aload_n 0, 1) := by decide +kernel
theorem d_Mod_join_59 : decode b_Mod_join 59 = .ok (.iload 5, 2) := by decide +kernel
theorem d_Mod_join_61 : decode b_Mod_join 61 = .ok (.invokevirtual 144, 3) := by decide +kernel
theorem d_Mod_join_64 : decode b_Mod_join 64 = .ok (.return_, 1) := by decide +kernel
theorem d_Mod_enter_0 : decode b_Mod_enter 0 = .ok (.aload_n 0, 1) := by decide +kernel
theorem d_Mod_enter_1 : decode b_Mod_enter 1 = .ok (.lload_n 1, 1) := by decide +kernel
theorem d_Mod_enter_2 : decode b_Mod_enter 2 = .ok (.invokevirtual 159, 3) := by decide +kernel
theorem d_Mod_enter_5 : decode b_Mod_enter 5 = .ok (.istore 5, 2) := by decide +kernel
theorem d_Mod_enter_7 : decode b_Mod_enter 7 = .ok (.iload 5, 2) := by decide +kernel
theorem d_Mod_enter_9 : decode b_Mod_enter 9 = .ok (.ifCond .lt 14, 3) := by decide +kernel
theorem d_Mod_enter_12 : decode b_Mod_enter 12 = .ok (.aload_n 0, 1) := by decide +kernel
theorem d_Mod_enter_13 : decode b_Mod_enter 13 = .ok (.getfield 53, 3) := by decide +kernel
theorem d_Mod_enter_16 : decode b_Mod_enter 16 = .ok (.iload 5, 2) := by decide +kernel
theorem d_Mod_enter_18 : decode b_Mod_enter 18 = .ok (.iaload, 1) := by decide +kernel
theorem d_Mod_enter_19 : decode b_Mod_enter 19 = .ok (.iconst 1, 1) := by decide +kernel
theorem d_Mod_enter_20 : decode b_Mod_enter 20 = .ok (.if_icmp .le 9, 3) := by decide +kernel
theorem d_Mod_enter_23 : decode b_Mod_enter 23 = .ok (.aload_n 0, 1) := by decide +kernel
theorem d_Mod_enter_24 : decode b_Mod_enter 24 = .ok (.iconst 3, 1) := by decide +kernel
theorem d_Mod_enter_25 : decode b_Mod_enter 25 = .ok (.putfield 141, 3) := by decide +kernel
theorem d_Mod_enter_28 : decode b_Mod_enter 28 = .ok (.return_, 1) := by decide +kernel
theorem d_Mod_enter_29 : decode b_Mod_enter 29 = .ok (.aload_n 0, 1) := by decide +kernel
theorem d_Mod_enter_30 : decode b_Mod_enter 30 = .ok (.getfield 86, 3) := by decide +kernel
theorem d_Mod_enter_33 : decode b_Mod_enter 33 = .ok (.iconst 5, 1) := by decide +kernel
theorem d_Mod_enter_34 : decode b_Mod_enter 34 = .ok (.if_icmp .ne 9, 3) := by decide +kernel
theorem d_Mod_enter_37 : decode b_Mod_enter 37 = .ok (.aload_n 0, 1) := by decide +kernel
theorem d_Mod_enter_38 : decode b_Mod_enter 38 = .ok (.iconst 2, 1) := by decide +kernel
theorem d_Mod_enter_39 : decode b_Mod_enter 39 = .ok (.putfield 141, 3) := by decide +kernel
theorem d_Mod_enter_42 : decode b_Mod_enter 42 = .ok (.return_, 1) := by decide +kernel
theorem d_Mod_enter_43 : decode b_Mod_enter 43 = .ok (.iconst 0, 1) := by decide +kernel
theorem d_Mod_enter_44 : decode b_Mod_enter 44 = .ok (.istore 6, 2) := by decide +kernel
theorem d_Mod_enter_46 : decode b_Mod_enter 46 = .ok (.aload_n 0, 1) := by decide +kernel
theorem d_Mod_enter_47 : decode b_Mod_enter 47 = .ok (.getfield 53, 3) := by decide +kernel
theorem d_Mod_enter_50 : decode b_Mod_enter 50 = .ok (.iload 5, 2) := by decide +kernel
theorem d_Mod_enter_52 : decode b_Mod_enter 52 = .ok (.iaload, 1) := by decide +kernel
theorem d_Mod_enter_53 : decode b_Mod_enter 53 = .ok (.iconst 1, 1) := by decide +kernel
theorem d_Mod_enter_54 : decode b_Mod_enter 54 = .ok (.if_icmp .ne 12, 3) := by decide +kernel
theorem d_Mod_enter_57 : decode b_Mod_enter 57 = .ok (.aload_n 0, 1) := by decide +kernel
theorem d_Mod_enter_58 : decode b_Mod_enter 58 = .ok (.getfield 56, 3) := by decide +kernel
theorem d_Mod_enter_61 : decode b_Mod_enter 61 = .ok (.iload 5, 2) := by decide +kernel
theorem d_Mod_enter_63 : decode b_Mod_enter 63 = .ok (.iaload, 1) := by decide +kernel
theorem d_Mod_enter_64 : decode b_Mod_enter 64 = .ok (.istore 6, 2) := by decide +kernel
theorem d_Mod_enter_66 : decode b_Mod_enter 66 = .ok (.aload_n 0, 1) := by decide +kernel
theorem d_Mod_enter_67 : decode b_Mod_enter 67 = .ok (.getfield 44, 3) := by decide +kernel
theorem d_Mod_enter_70 : decode b_Mod_enter 70 = .ok (.iload 5, 2) := by decide +kernel
theorem d_Mod_enter_72 : decode b_Mod_enter 72 = .ok (.iconst 4, 1) := by decide +kernel
theorem d_Mod_enter_73 : decode b_Mod_enter 73 = .ok (.imul, 1) := by decide +kernel
theorem d_Mod_enter_74 : decode b_Mod_enter 74 = .ok (.iload 6, 2) := by decide +kernel
theorem d_Mod_enter_76 : decode b_Mod_enter 76 = .ok (.iadd, 1) := by decide +kernel
theorem d_Mod_enter_77 : decode b_Mod_enter 77 = .ok (.lload_n 3, 1) := by decide +kernel
theorem d_Mod_enter_78 : decode b_Mod_enter 78 = .ok (.lastore, 1) := by decide +kernel
theorem d_Mod_enter_79 : decode b_Mod_enter 79 = .ok (.aload_n 0, 1) := by decide +kernel
theorem d_Mod_enter_80 : decode b_Mod_enter 80 = .ok (.iload 5, 2) := by decide +kernel
theorem d_Mod_enter_82 : decode b_Mod_enter 82 = .ok (.invokevirtual 144, 3) := by decide +kernel
theorem d_Mod_enter_85 : decode b_Mod_enter 85 = .ok (.aload_n 0, 1) := by decide +kernel
theorem d_Mod_enter_86 : decode b_Mod_enter 86 = .ok (.getfield 53, 3) := by decide +kernel
theorem d_Mod_enter_89 : decode b_Mod_enter 89 = .ok (.iload 5, 2) := by decide +kernel
theorem d_Mod_enter_91 : decode b_Mod_enter 91 = .ok (.iconst 2, 1) := by decide +kernel
theorem d_Mod_enter_92 : decode b_Mod_enter 92 = .ok (.iastore, 1) := by decide +kernel
theorem d_Mod_enter_93 : decode b_Mod_enter 93 = .ok (.aload_n 0, 1) := by decide +kernel
theorem d_Mod_enter_94 : decode b_Mod_enter 94 = .ok (.getfield 59, 3) := by decide +kernel
theorem d_Mod_enter_97 : decode b_Mod_enter 97 = .ok (.aload_n 0, 1) := by decide +kernel
theorem d_Mod_enter_98 : decode b_Mod_enter 98 = .ok (.getfield 86, 3) := by decide +kernel
theorem d_Mod_enter_101 : decode b_Mod_enter 101 = .ok (.iload 5, 2) := by decide +kernel
theorem d_Mod_enter_103 : decode b_Mod_enter 103 = .ok (.iastore, 1) := by decide +kernel
theorem d_Mod_enter_104 : decode b_Mod_enter 104 = .ok (.aload_n 0, 1) := by decide +kernel
theorem d_Mod_enter_105 : decode b_Mod_enter 105 = .ok (.dup, 1) := by decide +kernel
theorem d_Mod_enter_106 : decode b_Mod_enter 106 = .ok (.getfield 86, 3) := by decide +kernel
theorem d_Mod_enter_109 : decode b_Mod_enter 109 = .ok (.iconst 1, 1) := by decide +kernel
theorem d_Mod_enter_110 : decode b_Mod_enter 110 = .ok (.iadd, 1) := by decide +kernel
theorem d_Mod_enter_111 : decode b_Mod_enter 111 = .ok (.putfield 86, 3) := by decide +kernel
theorem d_Mod_enter_114 : decode b_Mod_enter 114 = .ok (.return_, 1) := by decide +kernel
theorem d_Mod_coroutineOf_0 : decode b_Mod_coroutineOf 0 = .ok (.aload_n 0, 1) := by decide +kernel
theorem d_Mod_coroutineOf_1 : decode b_Mod_coroutineOf 1 = .ok (.lload_n 1, 1) := by decide +kernel
theorem d_Mod_coroutineOf_2 : decode b_Mod_coroutineOf 2 = .ok (.invokevirtual 74, 3) := by decide +kernel
theorem d_Mod_coroutineOf_5 : decode b_Mod_coroutineOf 5 = .ok (.istore_n 3, 1) := by decide +kernel
theorem d_Mod_coroutineOf_6 : decode b_Mod_coroutineOf 6 = .ok (.iload_n 3, 1) := by decide +kernel
theorem d_Mod_coroutineOf_7 : decode b_Mod_coroutineOf 7 = .ok (.ifCond .lt 17, 3) := by decide +kernel
theorem d_Mod_coroutineOf_10 : decode b_Mod_coroutineOf 10 = .ok (.aload_n 0, 1) := by decide +kernel
theorem d_Mod_coroutineOf_11 : decode b_Mod_coroutineOf 11 = .ok (.getfield 26, 3) := by decide +kernel
theorem d_Mod_coroutineOf_14 : decode b_Mod_coroutineOf 14 = .ok (.iload_n 3, 1) := by decide +kernel
theorem d_Mod_coroutineOf_15 : decode b_Mod_coroutineOf 15 = .ok (.iaload, 1) := by decide +kernel
theorem d_Mod_coroutineOf_16 : decode b_Mod_coroutineOf 16 = .ok (.iconst 2, 1) := by decide +kernel
theorem d_Mod_coroutineOf_17 : decode b_Mod_coroutineOf 17 = .ok (.if_icmp .ne 7, 3) := by decide +kernel
theorem d_Mod_coroutineOf_20 : decode b_Mod_coroutineOf 20 = .ok (.iload_n 3, 1) := by decide +kernel
theorem d_Mod_coroutineOf_21 : decode b_Mod_coroutineOf 21 = .ok (.goto 4, 3) := by decide +kernel
theorem d_Mod_coroutineOf_24 : decode b_Mod_coroutineOf 24 = .ok (.iconst (-1), 1) := by decide +kernel
theorem d_Mod_coroutineOf_25 : decode b_Mod_coroutineOf 25 = .ok (.ireturn, 1) := by decide +kernel
theorem d_Mod_leave_0 : decode b_Mod_leave 0 = .ok (.aload_n 0, 1) := by decide +kernel
theorem d_Mod_leave_1 : decode b_Mod_leave 1 = .ok (.dup, 1) := by decide +kernel
theorem d_Mod_leave_2 : decode b_Mod_leave 2 = .ok (.getfield 86, 3) := by decide +kernel
theorem d_Mod_leave_5 : decode b_Mod_leave 5 = .ok (.iconst 1, 1) := by decide +kernel
theorem d_Mod_leave_6 : decode b_Mod_leave 6 = .ok (.isub, 1) := by decide +kernel
theorem d_Mod_leave_7 : decode b_Mod_leave 7 = .ok (.putfield 86, 3) := by decide +kernel
theorem d_Mod_leave_10 : decode b_Mod_leave 10 = .ok (.aload_n 0, 1) := by decide +kernel
theorem d_Mod_leave_11 : decode b_Mod_leave 11 = .ok (.getfield 53, 3) := by decide +kernel
theorem d_Mod_leave_14 : decode b_Mod_leave 14 = .ok (.aload_n 0, 1) := by decide +kernel
theorem d_Mod_leave_15 : decode b_Mod_leave 15 = .ok (.getfield 59, 3) := by decide +kernel
theorem d_Mod_leave_18 : decode b_Mod_leave 18 = .ok (.aload_n 0, 1) := by decide +kernel
theorem d_Mod_leave_19 : decode b_Mod_leave 19 = .ok (.getfield 86, 3) := by decide +kernel
theorem d_Mod_leave_22 : decode b_Mod_leave 22 = .ok (.iaload, 1) := by decide +kernel
theorem d_Mod_leave_23 : decode b_Mod_leave 23 = .ok (.iload_n 1, 1) := by decide +kernel
theorem d_Mod_leave_24 : decode b_Mod_leave 24 = .ok (.iastore, 1) := by decide +kernel
theorem d_Mod_leave_25 : decode b_Mod_leave 25 = .ok (.aload_n 0, 1) := by decide +kernel
theorem d_Mod_leave_26 : decode b_Mod_leave 26 = .ok (.lload_n 2, 1) := by decide +kernel
theorem d_Mod_leave_27 : decode b_Mod_leave 27 = .ok (.putfield 162, 3) := by decide +kernel
theorem d_Mod_leave_30 : decode b_Mod_leave 30 = .ok (.aload_n 0, 1) := by decide +kernel
theorem d_Mod_leave_31 : decode b_Mod_leave 31 = .ok (.getfield 86, 3) := by decide +kernel
theorem d_Mod_leave_34 : decode b_Mod_leave 34 = .ok (.ifCond .ne 4, 3) := by decide +kernel
theorem d_Mod_leave_37 : decode b_Mod_leave 37 = .ok (.return_, 1) := by decide +kernel
theorem d_Mod_leave_38 : decode b_Mod_leave 38 = .ok (.aload_n 0, 1) := by decide +kernel
theorem d_Mod_leave_39 : decode b_Mod_leave 39 = .ok (.getfield 59, 3) := by decide +kernel
theorem d_Mod_leave_42 : decode b_Mod_leave 42 = .ok (.aload_n 0, 1) := by decide +kernel
theorem d_Mod_leave_43 : decode b_Mod_leave 43 = .ok (.getfield 86, 3) := by decide +kernel
theorem d_Mod_leave_46 : decode b_Mod_leave 46 = .ok (.iconst 1, 1) := by decide +kernel
theorem d_Mod_leave_47 : decode b_Mod_leave 47 = .ok (.isub, 1) := by decide +kernel
theorem d_Mod_leave_48 : decode b_Mod_leave 48 = .ok (.iaload, 1) := by decide +kernel
theorem d_Mod_leave_49 : decode b_Mod_leave 49 = .ok (.istore 4, 2) := by decide +kernel
theorem d_Mod_leave_51 : decode b_Mod_leave 51 = .ok (.aload_n 0, 1) := by decide +kernel
theorem d_Mod_leave_52 : decode b_Mod_leave 52 = .ok (.getfield 47, 3) := by decide +kernel
theorem d_Mod_leave_55 : decode b_Mod_leave 55 = .ok (.iload 4, 2) := by decide +kernel
theorem d_Mod_leave_57 : decode b_Mod_leave 57 = .ok (.iaload, 1) := by decide +kernel
theorem d_Mod_leave_58 : decode b_Mod_leave 58 = .ok (.bipush 16, 2) := by decide +kernel
theorem d_Mod_leave_60 : decode b_Mod_leave 60 = .ok (.imul, 1) := by decide +kernel
theorem d_Mod_leave_61 : decode b_Mod_leave 61 = .ok (.aload_n 0, 1) := by decide +kernel
theorem d_Mod_leave_62 : decode b_Mod_leave 62 = .ok (.getfield 50, 3) := by decide +kernel
theorem d_Mod_leave_65 : decode b_Mod_leave 65 = .ok (.iload 4, 2) := by decide +kernel
theorem d_Mod_leave_67 : decode b_Mod_leave 67 = .ok (.iaload, 1) := by decide +kernel
theorem d_Mod_leave_68 : decode b_Mod_leave 68 = .ok (.iadd, 1) := by decide +kernel
theorem d_Mod_leave_69 : decode b_Mod_leave 69 = .ok (.istore 5, 2) := by decide +kernel
theorem d_Mod_leave_71 : decode b_Mod_leave 71 = .ok (.aload_n 0, 1) := by decide +kernel
theorem d_Mod_leave_72 : decode b_Mod_leave 72 = .ok (.getfield 44, 3) := by decide +kernel
theorem d_Mod_leave_75 : decode b_Mod_leave 75 = .ok (.iload 4, 2) := by decide +kernel
theorem d_Mod_leave_77 : decode b_Mod_leave 77 = .ok (.iconst 4, 1) := by decide +kernel
theorem d_Mod_leave_78 : decode b_Mod_leave 78 = .ok (.imul, 1) := by decide +kernel
theorem d_Mod_leave_79 : decode b_Mod_leave 79 = .ok (.aload_n 0, 1) := by decide +kernel
theorem d_Mod_leave_80 : decode b_Mod_leave 80 = .ok (.getfield 13, 3) := by decide +kernel
theorem d_Mod_leave_83 : decode b_Mod_leave 83 = .ok (.iload 5, 2) := by decide +kernel
theorem d_Mod_leave_85 : decode b_Mod_leave 85 = .ok (.iaload, 1) := by decide +kernel
theorem d_Mod_leave_86 : decode b_Mod_leave 86 = .ok (.iconst 3, 1) := by decide +kernel
theorem d_Mod_leave_87 : decode b_Mod_leave 87 = .ok (.iand, 1) := by decide +kernel
theorem d_Mod_leave_88 : decode b_Mod_leave 88 = .ok (.iadd, 1) := by decide +kernel
theorem d_Mod_leave_89 : decode b_Mod_leave 89 = .ok (.lload_n 2, 1) := by decide +kernel
theorem d_Mod_leave_90 : decode b_Mod_leave 90 = .ok (.lastore, 1) := by decide +kernel
theorem d_Mod_leave_91 : decode b_Mod_leave 91 = .ok (.aload_n 0, 1) := by decide +kernel
theorem d_Mod_leave_92 : decode b_Mod_leave 92 = .ok (.getfield 50, 3) := by decide +kernel
theorem d_Mod_leave_95 : decode b_Mod_leave 95 = .ok (.iload 4, 2) := by decide +kernel
theorem d_Mod_leave_97 : decode b_Mod_leave 97 = .ok (.dup2, 1) := by decide +kernel
theorem d_Mod_leave_98 : decode b_Mod_leave 98 = .ok (.iaload, 1) := by decide +kernel
theorem d_Mod_leave_99 : decode b_Mod_leave 99 = .ok (.iconst 1, 1) := by decide +kernel
theorem d_Mod_leave_100 : decode b_Mod_leave 100 = .ok (.iadd, 1) := by decide +kernel
theorem d_Mod_leave_101 : decode b_Mod_leave 101 = .ok (.iastore, 1) := by decide +kernel
theorem d_Mod_leave_102 : decode b_Mod_leave 102 = .ok (.return_, 1) := by decide +kernel
theorem d_Mod_jumps_0 : decode b_Mod_jumps 0 = .ok (.iload_n 1, 1) := by decide +kernel
theorem d_Mod_jumps_1 : decode b_Mod_jumps 1 = .ok (.bipush 11, 2) := by decide +kernel
theorem d_Mod_jumps_3 : decode b_Mod_jumps 3 = .ok (.if_icmp .ne 38, 3) := by decide +kernel
theorem d_Mod_jumps_6 : decode b_Mod_jumps 6 = .ok (.aload_n 0, 1) := by decide +kernel
theorem d_Mod_jumps_7 : decode b_Mod_jumps 7 = .ok (.lload_n 2, 1) := by decide +kernel
theorem d_Mod_jumps_8 : decode b_Mod_jumps 8 = .ok (.invokevirtual 166, 3) := by decide +kernel
theorem d_Mod_jumps_11 : decode b_Mod_jumps 11 = .ok (.ifCond .eq 12, 3) := by decide +kernel
theorem d_Mod_jumps_14 : decode b_Mod_jumps 14 = .ok (.aload_n 0, 1) := by decide +kernel
theorem d_Mod_jumps_15 : decode b_Mod_jumps 15 = .ok (.lload 4, 2) := by decide +kernel
theorem d_Mod_jumps_17 : decode b_Mod_jumps 17 = .ok (.invokevirtual 166, 3) := by decide +kernel
theorem d_Mod_jumps_20 : decode b_Mod_jumps 20 = .ok (.ifCond .ne 8, 3) := by decide +kernel
theorem d_Mod_jumps_23 : decode b_Mod_jumps 23 = .ok (.aload_n 0, 1) := by decide +kernel
theorem d_Mod_jumps_24 : decode b_Mod_jumps 24 = .ok (.iconst 3, 1) := by decide +kernel
theorem d_Mod_jumps_25 : decode b_Mod_jumps 25 = .ok (.putfield 141, 3) := by decide +kernel
theorem d_Mod_jumps_28 : decode b_Mod_jumps 28 = .ok (.lload_n 2, 1) := by decide +kernel
theorem d_Mod_jumps_29 : decode b_Mod_jumps 29 = .ok (.lload 4, 2) := by decide +kernel
theorem d_Mod_jumps_31 : decode b_Mod_jumps 31 = .ok (.lcmp, 1) := by decide +kernel
theorem d_Mod_jumps_32 : decode b_Mod_jumps 32 = .ok (.ifCond .ge 7, 3) := by decide +kernel
theorem d_Mod_jumps_35 : decode b_Mod_jumps 35 = .ok (.iconst 1, 1) := by decide +kernel
theorem d_Mod_jumps_36 : decode b_Mod_jumps 36 = .ok (.goto 4, 3) := by decide +kernel
theorem d_Mod_jumps_39 : decode b_Mod_jumps 39 = .ok (.iconst 0, 1) := by decide +kernel
theorem d_Mod_jumps_40 : decode b_Mod_jumps 40 = .ok (.ireturn, 1) := by decide +kernel
theorem d_Mod_jumps_41 : decode b_Mod_jumps 41 = .ok (.iload_n 1, 1) := by decide +kernel
theorem d_Mod_jumps_42 : decode b_Mod_jumps 42 = .ok (.bipush 12, 2) := by decide +kernel
theorem d_Mod_jumps_44 : decode b_Mod_jumps 44 = .ok (.if_icmp .eq 30, 3) := by decide +kernel
theorem d_Mod_jumps_47 : decode b_Mod_jumps 47 = .ok (.iload_n 1, 1) := by decide +kernel
theorem d_Mod_jumps_48 : decode b_Mod_jumps 48 = .ok (.bipush 13, 2) := by decide +kernel
theorem d_Mod_jumps_50 : decode b_Mod_jumps 50 = .ok (.if_icmp .ne 11, 3) := by decide +kernel
theorem d_Mod_jumps_53 : decode b_Mod_jumps 53 = .ok (.lload_n 2, 1) := by decide +kernel
theorem d_Mod_jumps_54 : decode b_Mod_jumps 54 = .ok (.ldc2_w 62, 3) := by decide +kernel
theorem d_Mod_jumps_57 : decode b_Mod_jumps 57 = .ok (.lcmp, 1) := by decide +kernel
theorem d_Mod_jumps_58 : decode b_Mod_jumps 58 = .ok (.ifCond .eq 16, 3) := by decide +kernel
theorem d_Mod_jumps_61 : decode b_Mod_jumps 61 = .ok (.iload_n 1, 1) := by decide +kernel
theorem d_Mod_jumps_62 : decode b_Mod_jumps 62 = .ok (.bipush 14, 2) := by decide +kernel
theorem d_Mod_jumps_64 : decode b_Mod_jumps 64 = .ok (.if_icmp .ne 14, 3) := by decide +kernel
theorem d_Mod_jumps_67 : decode b_Mod_jumps 67 = .ok (.lload_n 2, 1) := by decide +kernel
theorem d_Mod_jumps_68 : decode b_Mod_jumps 68 = .ok (.lload 4, 2) := by decide +kernel
theorem d_Mod_jumps_70 : decode b_Mod_jumps 70 = .ok (.lcmp, 1) := by decide +kernel
theorem d_Mod_jumps_71 : decode b_Mod_jumps 71 = .ok (.ifCond .ne 7, 3) := by decide +kernel
theorem d_Mod_jumps_74 : decode b_Mod_jumps 74 = .ok (.iconst 1, 1) := by decide +kernel
theorem d_Mod_jumps_75 : decode b_Mod_jumps 75 = .ok (.goto 4, 3) := by decide +kernel
theorem d_Mod_jumps_78 : decode b_Mod_jumps 78 = .ok (.iconst 0, 1) := by decide +kernel
theorem d_Mod_jumps_79 : decode b_Mod_jumps 79 = .ok (.ireturn, 1) := by decide +kernel
theorem d_Mod_isNumber_0 : decode b_Mod_isNumber 0 = .ok (.lload_n 1, 1) := by decide +kernel
theorem d_Mod_isNumber_1 : decode b_Mod_isNumber 1 = .ok (.ldc2_w 68, 3) := by decide +kernel
theorem d_Mod_isNumber_4 : decode b_Mod_isNumber 4 = .ok (.lcmp, 1) := by decide +kernel
theorem d_Mod_isNumber_5 : decode b_Mod_isNumber 5 = .ok (.ifCond .lt 15, 3) := by decide +kernel
theorem d_Mod_isNumber_8 : decode b_Mod_isNumber 8 = .ok (.lload_n 1, 1) := by decide +kernel
theorem d_Mod_isNumber_9 : decode b_Mod_isNumber 9 = .ok (.ldc2_w 70, 3) := by decide +kernel
theorem d_Mod_isNumber_12 : decode b_Mod_isNumber 12 = .ok (.lcmp, 1) := by decide +kernel
theorem d_Mod_isNumber_13 : decode b_Mod_isNumber 13 = .ok (.ifCond .gt 7, 3) := by decide +kernel
theorem d_Mod_isNumber_16 : decode b_Mod_isNumber 16 = .ok (.iconst 1, 1) := by decide +kernel
theorem d_Mod_isNumber_17 : decode b_Mod_isNumber 17 = .ok (.goto 4, 3) := by decide +kernel
theorem d_Mod_isNumber_20 : decode b_Mod_isNumber 20 = .ok (.iconst 0, 1) := by decide +kernel
theorem d_Mod_isNumber_21 : decode b_Mod_isNumber 21 = .ok (.ireturn, 1) := by decide +kernel
theorem d_Mod_calculate_0 : decode b_Mod_calculate 0 = .ok (.aload_n 0, 1) := by decide +kernel
theorem d_Mod_calculate_1 : decode b_Mod_calculate 1 = .ok (.lload 4, 2) := by decide +kernel
theorem d_Mod_calculate_3 : decode b_Mod_calculate 3 = .ok (.invokevirtual 166, 3) := by decide +kernel
theorem d_Mod_calculate_6 : decode b_Mod_calculate 6 = .ok (.ifCond .eq 12, 3) := by decide +kernel
theorem d_Mod_calculate_9 : decode b_Mod_calculate 9 = .ok (.aload_n 0, 1) := by decide +kernel
theorem d_Mod_calculate_10 : decode b_Mod_calculate 10 = .ok (.lload 6, 2) := by decide +kernel
theorem d_Mod_calculate_12 : decode b_Mod_calculate 12 = .ok (.invokevirtual 166, 3) := by decide +kernel
theorem d_Mod_calculate_15 : decode b_Mod_calculate 15 = .ok (.ifCond .ne 9, 3) := by decide +kernel
theorem d_Mod_calculate_18 : decode b_Mod_calculate 18 = .ok (.aload_n 0, 1) := by decide +kernel
theorem d_Mod_calculate_19 : decode b_Mod_calculate 19 = .ok (.iconst 3, 1) := by decide +kernel
theorem d_Mod_calculate_20 : decode b_Mod_calculate 20 = .ok (.putfield 141, 3) := by decide +kernel
theorem d_Mod_calculate_23 : decode b_Mod_calculate 23 = .ok (.return_, 1) := by decide +kernel
theorem d_Mod_calculate_24 : decode b_Mod_calculate 24 = .ok (.aload_n 0, 1) := by decide +kernel
theorem d_Mod_calculate_25 : decode b_Mod_calculate 25 = .ok (.getfield 44, 3) := by decide +kernel
theorem d_Mod_calculate_28 : decode b_Mod_calculate 28 = .ok (.iload_n 3, 1) := by decide +kernel
theorem d_Mod_calculate_29 : decode b_Mod_calculate 29 = .ok (.iload_n 2, 1) := by decide +kernel
theorem d_Mod_calculate_30 : decode b_Mod_calculate 30 = .ok (.bipush 8, 2) := by decide +kernel
theorem d_Mod_calculate_32 : decode b_Mod_calculate 32 = .ok (.if_icmp .ne 11, 3) := by decide +kernel
theorem d_Mod_calculate_35 : decode b_Mod_calculate 35 = .ok (.lload 4, 2) := by decide +kernel
theorem d_Mod_calculate_37 : decode b_Mod_calculate 37 = .ok (.lload 6, 2) := by decide +kernel
theorem d_Mod_calculate_39 : decode b_Mod_calculate 39 = .ok (.ladd, 1) := by decide +kernel
theorem d_Mod_calculate_40 : decode b_Mod_calculate 40 = .ok (.goto 22, 3) := by decide +kernel
theorem d_Mod_calculate_43 : decode b_Mod_calculate 43 = .ok (.iload_n 2, 1) := by decide +kernel
theorem d_Mod_calculate_44 : decode b_Mod_calculate 44 = .ok (.bipush 9, 2) := by decide +kernel
theorem d_Mod_calculate_46 : decode b_Mod_calculate 46 = .ok (.if_icmp .ne 11, 3) := by decide +kernel
theorem d_Mod_calculate_49 : decode b_Mod_calculate 49 = .ok (.lload 4, 2) := by decide +kernel
theorem d_Mod_calculate_51 : decode b_Mod_calculate 51 = .ok (.lload 6, 2) := by decide +kernel
theorem d_Mod_calculate_53 : decode b_Mod_calculate 53 = .ok (.lsub, 1) := by decide +kernel
theorem d_Mod_calculate_54 : decode b_Mod_calculate 54 = .ok (.goto 8, 3) := by decide +kernel
theorem d_Mod_calculate_57 : decode b_Mod_calculate 57 = .ok (.lload 4, 2) := by decide +kernel
theorem d_Mod_calculate_59 : decode b_Mod_calculate 59 = .ok (.lload 6, 2) := by decide +kernel
theorem d_Mod_calculate_61 : decode b_Mod_calculate 61 = .ok (.lmul, 1) := by decide +kernel
theorem d_Mod_calculate_62 : decode b_Mod_calculate 62 = .ok (.l2i, 1) := by decide +kernel
theorem d_Mod_calculate_63 : decode b_Mod_calculate 63 = .ok (.i2l, 1) := by decide +kernel
theorem d_Mod_calculate_64 : decode b_Mod_calculate 64 = .ok (.lastore, 1) := by decide +kernel
theorem d_Mod_calculate_65 : decode b_Mod_calculate 65 = .ok (.return_, 1) := by decide +kernel
theorem d_Mod_following_0 : decode b_Mod_following 0 = .ok (.lload_n 2, 1) := by decide +kernel
theorem d_Mod_following_1 : decode b_Mod_following 1 = .ok (.ldc2_w 62, 3) := by decide +kernel
theorem d_Mod_following_4 : decode b_Mod_following 4 = .ok (.lcmp, 1) := by decide +kernel
theorem d_Mod_following_5 : decode b_Mod_following 5 = .ok (.ifCond .ne 28, 3) := by decide +kernel
theorem d_Mod_following_8 : decode b_Mod_following 8 = .ok (.aload_n 0, 1) := by decide +kernel
theorem d_Mod_following_9 : decode b_Mod_following 9 = .ok (.getfield 32, 3) := by decide +kernel
theorem d_Mod_following_12 : decode b_Mod_following 12 = .ok (.iload_n 1, 1) := by decide +kernel
theorem d_Mod_following_13 : decode b_Mod_following 13 = .ok (.iaload, 1) := by decide +kernel
theorem d_Mod_following_14 : decode b_Mod_following 14 = .ok (.ifCond .le 15, 3) := by decide +kernel
theorem d_Mod_following_17 : decode b_Mod_following 17 = .ok (.aload_n 0, 1) := by decide +kernel
theorem d_Mod_following_18 : decode b_Mod_following 18 = .ok (.getfield 38, 3) := by decide +kernel
theorem d_Mod_following_21 : decode b_Mod_following 21 = .ok (.iload_n 1, 1) := by decide +kernel
theorem d_Mod_following_22 : decode b_Mod_following 22 = .ok (.bipush 6, 2) := by decide +kernel
theorem d_Mod_following_24 : decode b_Mod_following 24 = .ok (.imul, 1) := by decide +kernel
theorem d_Mod_following_25 : decode b_Mod_following 25 = .ok (.laload, 1) := by decide +kernel
theorem d_Mod_following_26 : decode b_Mod_following 26 = .ok (.goto 6, 3) := by decide +kernel
theorem d_Mod_following_29 : decode b_Mod_following 29 = .ok (.ldc2_w 62, 3) := by decide +kernel
theorem d_Mod_following_32 : decode b_Mod_following 32 = .ok (.lreturn, 1) := by decide +kernel
theorem d_Mod_following_33 : decode b_Mod_following 33 = .ok (.aload_n 0, 1) := by decide +kernel
theorem d_Mod_following_34 : decode b_Mod_following 34 = .ok (.iload_n 1, 1) := by decide +kernel
theorem d_Mod_following_35 : decode b_Mod_following 35 = .ok (.lload_n 2, 1) := by decide +kernel
theorem d_Mod_following_36 : decode b_Mod_following 36 = .ok (.invokevirtual 131, 3) := by decide +kernel
theorem d_Mod_following_39 : decode b_Mod_following 39 = .ok (.istore 4, 2) := by decide +kernel
theorem d_Mod_following_41 : decode b_Mod_following 41 = .ok (.iload 4, 2) := by decide +kernel
theorem d_Mod_following_43 : decode b_Mod_following 43 = .ok (.ifCond .ge 8, 3) := by decide +kernel
theorem d_Mod_following_46 : decode b_Mod_following 46 = .ok (.aload_n 0, 1) := by decide +kernel
theorem d_Mod_following_47 : decode b_Mod_following 47 = .ok (.iconst 3, 1) := by decide +kernel
theorem d_Mod_following_48 : decode b_Mod_following 48 = .ok (.putfield 141, 3) := by decide +kernel
theorem d_Mod_following_51 : decode b_Mod_following 51 = .ok (.iload 4, 2) := by decide +kernel
theorem d_Mod_following_53 : decode b_Mod_following 53 = .ok (.ifCond .lt 16, 3) := by decide +kernel
theorem d_Mod_following_56 : decode b_Mod_following 56 = .ok (.iload 4, 2) := by decide +kernel
theorem d_Mod_following_58 : decode b_Mod_following 58 = .ok (.iconst 1, 1) := by decide +kernel
theorem d_Mod_following_59 : decode b_Mod_following 59 = .ok (.iadd, 1) := by decide +kernel
theorem d_Mod_following_60 : decode b_Mod_following 60 = .ok (.aload_n 0, 1) := by decide +kernel
theorem d_Mod_following_61 : decode b_Mod_following 61 = .ok (.getfield 32, 3) := by decide +kernel
theorem d_Mod_following_64 : decode b_Mod_following 64 = .ok (.iload_n 1, 1) := by decide +kernel
theorem d_Mod_following_65 : decode b_Mod_following 65 = .ok (.iaload, 1) := by decide +kernel
theorem d_Mod_following_66 : decode b_Mod_following 66 = .ok (.if_icmp .lt 9, 3) := by decide +kernel
theorem d_Mod_following_69 : decode b_Mod_following 69 = .ok (.ldc2_w 62, 3) := by decide +kernel
theorem d_Mod_following_72 : decode b_Mod_following 72 = .ok (.goto 17, 3) := by decide +kernel
theorem d_Mod_following_75 : decode b_Mod_following 75 = .ok (.aload_n 0, 1) := by decide +kernel
theorem d_Mod_following_76 : decode b_Mod_following 76 = .ok (.getfield 38, 3) := by decide +kernel
theorem d_Mod_following_79 : decode b_Mod_following 79 = .ok (.iload_n 1, 1) := by decide +kernel
theorem d_Mod_following_80 : decode b_Mod_following 80 = .ok (.bipush 6, 2) := by decide +kernel
theorem d_Mod_following_82 : decode b_Mod_following 82 = .ok (.imul, 1) := by decide +kernel
theorem d_Mod_following_83 : decode b_Mod_following 83 = .ok (.iload 4, 2) := by decide +kernel
theorem d_Mod_following_85 : decode b_Mod_following 85 = .ok (.iadd, 1) := by decide +kernel
theorem d_Mod_following_86 : decode b_Mod_following 86 = .ok (.iconst 1, 1) := by decide +kernel
theorem d_Mod_following_87 : decode b_Mod_following 87 = .ok (.iadd, 1) := by decide +kernel
theorem d_Mod_following_88 : decode b_Mod_following 88 = .ok (.laload, 1) := by decide +kernel
theorem d_Mod_following_89 : decode b_Mod_following 89 = .ok (.lreturn, 1) := by decide +kernel
theorem d_Mod_collect_0 : decode b_Mod_collect 0 = .ok (.aload_n 0, 1) := by decide +kernel
theorem d_Mod_collect_1 : decode b_Mod_collect 1 = .ok (.iload_n 1, 1) := by decide +kernel
theorem d_Mod_collect_2 : decode b_Mod_collect 2 = .ok (.iconst 1, 1) := by decide +kernel
theorem d_Mod_collect_3 : decode b_Mod_collect 3 = .ok (.if_icmp .lt 9, 3) := by decide +kernel
theorem d_Mod_collect_6 : decode b_Mod_collect 6 = .ok (.iload_n 1, 1) := by decide +kernel
theorem d_Mod_collect_7 : decode b_Mod_collect 7 = .ok (.bipush 100, 2) := by decide +kernel
theorem d_Mod_collect_9 : decode b_Mod_collect 9 = .ok (.if_icmp .le 7, 3) := by decide +kernel
theorem d_Mod_collect_12 : decode b_Mod_collect 12 = .ok (.iconst 1, 1) := by decide +kernel
theorem d_Mod_collect_13 : decode b_Mod_collect 13 = .ok (.goto 4, 3) := by decide +kernel
theorem d_Mod_collect_16 : decode b_Mod_collect 16 = .ok (.iconst 0, 1) := by decide +kernel
theorem d_Mod_collect_17 : decode b_Mod_collect 17 = .ok (.putfield 64, 3) := by decide +kernel
theorem d_Mod_collect_20 : decode b_Mod_collect 20 = .ok (.iconst 0, 1) := by decide +kernel
theorem d_Mod_collect_21 : decode b_Mod_collect 21 = .ok (.istore_n 2, 1) := by decide +kernel
theorem d_Mod_collect_22 : decode b_Mod_collect 22 = .ok (.iconst 0, 1) := by decide +kernel
theorem d_Mod_collect_23 : decode b_Mod_collect 23 = .ok (.istore_n 3, 1) := by decide +kernel
theorem d_Mod_collect_24 : decode b_Mod_collect 24 = .ok (.iload_n 3, 1) := by decide +kernel
theorem d_Mod_collect_25 : decode b_Mod_collect 25 = .ok (.iload_n 1, 1) := by decide +kernel
theorem d_Mod_collect_26 : decode b_Mod_collect 26 = .ok (.if_icmp .ge 23, 3) := by decide +kernel
theorem d_Mod_collect_29 : decode b_Mod_collect 29 = .ok (.aload_n 0, 1) := by decide +kernel
theorem d_Mod_collect_30 : decode b_Mod_collect 30 = .ok (.getfield 64, 3) := by decide +kernel
theorem d_Mod_collect_33 : decode b_Mod_collect 33 = .ok (.ifCond .ne 16, 3) := by decide +kernel
theorem d_Mod_collect_36 : decode b_Mod_collect 36 = .ok (.iload_n 2, 1) := by decide +kernel
theorem d_Mod_collect_37 : decode b_Mod_collect 37 = .ok (.aload_n 0, 1) := by decide +kernel
theorem d_Mod_collect_38 : decode b_Mod_collect 38 = .ok (.invokevirtual 115, 3) := by decide +kernel
theorem d_Mod_collect_41 : decode b_Mod_collect 41 = .ok (.iadd, 1) := by decide +kernel
theorem d_Mod_collect_42 : decode b_Mod_collect 42 = .ok (.istore_n 2, 1) := by decide +kernel
theorem d_Mod_collect_43 : decode b_Mod_collect 43 = .ok (.iinc 3 1, 3) := by decide +kernel
theorem d_Mod_collect_46 : decode b_Mod_collect 46 = .ok (.goto (-22), 3) := by decide +kernel
theorem d_Mod_collect_49 : decode b_Mod_collect 49 = .ok (.iload_n 2, 1) := by decide +kernel
theorem d_Mod_collect_50 : decode b_Mod_collect 50 = .ok (.ireturn, 1) := by decide +kernel
theorem d_Mod_full_0 : decode b_Mod_full 0 = .ok (.aload_n 0, 1) := by decide +kernel
theorem d_Mod_full_1 : decode b_Mod_full 1 = .ok (.iconst 0, 1) := by decide +kernel
theorem d_Mod_full_2 : decode b_Mod_full 2 = .ok (.putfield 64, 3) := by decide +kernel
theorem d_Mod_full_5 : decode b_Mod_full 5 = .ok (.aload_n 0, 1) := by decide +kernel
theorem d_Mod_full_6 : decode b_Mod_full 6 = .ok (.invokevirtual 121, 3) := by decide +kernel
theorem d_Mod_full_9 : decode b_Mod_full 9 = .ok (.ireturn, 1) := by decide +kernel
theorem d_Mod_global_0 : decode b_Mod_global 0 = .ok (.aload_n 0, 1) := by decide +kernel
theorem d_Mod_global_1 : decode b_Mod_global 1 = .ok (.aload_n 0, 1) := by decide +kernel
theorem d_Mod_global_2 : decode b_Mod_global 2 = .ok (.iload_n 1, 1) := by decide +kernel
theorem d_Mod_global_3 : decode b_Mod_global 3 = .ok (.invokevirtual 78, 3) := by decide +kernel
theorem d_Mod_global_6 : decode b_Mod_global 6 = .ok (.ifCond .eq 7, 3) := by decide +kernel
theorem d_Mod_global_9 : decode b_Mod_global 9 = .ok (.iconst 1, 1) := by decide +kernel
theorem d_Mod_global_10 : decode b_Mod_global 10 = .ok (.goto 4, 3) := by decide +kernel
theorem d_Mod_global_13 : decode b_Mod_global 13 = .ok (.iconst 0, 1) := by decide +kernel
theorem d_Mod_global_14 : decode b_Mod_global 14 = .ok (.putfield 64, 3) := by decide +kernel
theorem d_Mod_global_17 : decode b_Mod_global 17 = .ok (.aload_n 0, 1) := by decide +kernel
theorem d_Mod_global_18 : decode b_Mod_global 18 = .ok (.getfield 64, 3) := by decide +kernel
theorem d_Mod_global_21 : decode b_Mod_global 21 = .ok (.ifCond .ne 12, 3) := by decide +kernel
theorem d_Mod_global_24 : decode b_Mod_global 24 = .ok (.aload_n 0, 1) := by decide +kernel
theorem d_Mod_global_25 : decode b_Mod_global 25 = .ok (.getfield 22, 3) := by decide +kernel
theorem d_Mod_global_28 : decode b_Mod_global 28 = .ok (.iload_n 1, 1) := by decide +kernel
theorem d_Mod_global_29 : decode b_Mod_global 29 = .ok (.laload, 1) := by decide +kernel
theorem d_Mod_global_30 : decode b_Mod_global 30 = .ok (.goto 4, 3) := by decide +kernel
theorem d_Mod_global_33 : decode b_Mod_global 33 = .ok (.lconst 0, 1) := by decide +kernel
theorem d_Mod_global_34 : decode b_Mod_global 34 = .ok (.lreturn, 1) := by decide +kernel
theorem d_Mod_object_0 : decode b_Mod_object 0 = .ok (.aload_n 0, 1) := by decide +kernel
theorem d_Mod_object_1 : decode b_Mod_object 1 = .ok (.iload_n 1, 1) := by decide +kernel
theorem d_Mod_object_2 : decode b_Mod_object 2 = .ok (.ifCond .lt 18, 3) := by decide +kernel
theorem d_Mod_object_5 : decode b_Mod_object 5 = .ok (.iload_n 1, 1) := by decide +kernel
theorem d_Mod_object_6 : decode b_Mod_object 6 = .ok (.bipush 15, 2) := by decide +kernel
theorem d_Mod_object_8 : decode b_Mod_object 8 = .ok (.if_icmp .gt 12, 3) := by decide +kernel
theorem d_Mod_object_11 : decode b_Mod_object 11 = .ok (.iload_n 2, 1) := by decide +kernel
theorem d_Mod_object_12 : decode b_Mod_object 12 = .ok (.ifCond .lt 8, 3) := by decide +kernel
theorem d_Mod_object_15 : decode b_Mod_object 15 = .ok (.iload_n 2, 1) := by decide +kernel
theorem d_Mod_object_16 : decode b_Mod_object 16 = .ok (.iconst 3, 1) := by decide +kernel
theorem d_Mod_object_17 : decode b_Mod_object 17 = .ok (.if_icmp .le 7, 3) := by decide +kernel
theorem d_Mod_object_20 : decode b_Mod_object 20 = .ok (.iconst 1, 1) := by decide +kernel
theorem d_Mod_object_21 : decode b_Mod_object 21 = .ok (.goto 21, 3) := by decide +kernel
theorem d_Mod_object_24 : decode b_Mod_object 24 = .ok (.iload_n 2, 1) := by decide +kernel
theorem d_Mod_object_25 : decode b_Mod_object 25 = .ok (.ifCond .le 16, 3) := by decide +kernel
theorem d_Mod_object_28 : decode b_Mod_object 28 = .ok (.aload_n 0, 1) := by decide +kernel
theorem d_Mod_object_29 : decode b_Mod_object 29 = .ok (.getfield 26, 3) := by decide +kernel
theorem d_Mod_object_32 : decode b_Mod_object 32 = .ok (.iload_n 1, 1) := by decide +kernel
theorem d_Mod_object_33 : decode b_Mod_object 33 = .ok (.iaload, 1) := by decide +kernel
theorem d_Mod_object_34 : decode b_Mod_object 34 = .ok (.ifCond .ne 7, 3) := by decide +kernel
theorem d_Mod_object_37 : decode b_Mod_object 37 = .ok (.iconst 2, 1) := by decide +kernel
theorem d_Mod_object_38 : decode b_Mod_object 38 = .ok (.goto 4, 3) := by decide +kernel
theorem d_Mod_object_41 : decode b_Mod_object 41 = .ok (.iconst 0, 1) := by decide +kernel
theorem d_Mod_object_42 : decode b_Mod_object 42 = .ok (.putfield 64, 3) := by decide +kernel
theorem d_Mod_object_45 : decode b_Mod_object 45 = .ok (.aload_n 0, 1) := by decide +kernel
theorem d_Mod_object_46 : decode b_Mod_object 46 = .ok (.getfield 64, 3) := by decide +kernel
theorem d_Mod_object_49 : decode b_Mod_object 49 = .ok (.ifCond .eq 5, 3) := by decide +kernel
theorem d_Mod_object_52 : decode b_Mod_object 52 = .ok (.iconst 0, 1) := by decide +kernel
theorem d_Mod_object_53 : decode b_Mod_object 53 = .ok (.ireturn, 1) := by decide +kernel
theorem d_Mod_object_54 : decode b_Mod_object 54 = .ok (.iload_n 2, 1) := by decide +kernel
theorem d_Mod_object_55 : decode b_Mod_object 55 = .ok (.ifCond .ne 10, 3) := by decide +kernel
theorem d_Mod_object_58 : decode b_Mod_object 58 = .ok (.aload_n 0, 1) := by decide +kernel
theorem d_Mod_object_59 : decode b_Mod_object 59 = .ok (.getfield 26, 3) := by decide +kernel
theorem d_Mod_object_62 : decode b_Mod_object 62 = .ok (.iload_n 1, 1) := by decide +kernel
theorem d_Mod_object_63 : decode b_Mod_object 63 = .ok (.iaload, 1) := by decide +kernel
theorem d_Mod_object_64 : decode b_Mod_object 64 = .ok (.ireturn, 1) := by decide +kernel
theorem d_Mod_object_65 : decode b_Mod_object 65 = .ok (.iload_n 2, 1) := by decide +kernel
theorem d_Mod_object_66 : decode b_Mod_object 66 = .ok (.iconst 1, 1) := by decide +kernel
theorem d_Mod_object_67 : decode b_Mod_object 67 = .ok (.if_icmp .ne 10, 3) := by decide +kernel
theorem d_Mod_object_70 : decode b_Mod_object 70 = .ok (.aload_n 0, 1) := by decide +kernel
theorem d_Mod_object_71 : decode b_Mod_object 71 = .ok (.getfield 29, 3) := by decide +kernel
theorem d_Mod_object_74 : decode b_Mod_object 74 = .ok (.iload_n 1, 1) := by decide +kernel
theorem d_Mod_object_75 : decode b_Mod_object 75 = .ok (.iaload, 1) := by decide +kernel
theorem d_Mod_object_76 : decode b_Mod_object 76 = .ok (.ireturn, 1) := by decide +kernel
theorem d_Mod_object_77 : decode b_Mod_object 77 = .ok (.iload_n 2, 1) := by decide +kernel
theorem d_Mod_object_78 : decode b_Mod_object 78 = .ok (.iconst 2, 1) := by decide +kernel
theorem d_Mod_object_79 : decode b_Mod_object 79 = .ok (.if_icmp .ne 29, 3) := by decide +kernel
theorem d_Mod_object_82 : decode b_Mod_object 82 = .ok (.aload_n 0, 1) := by decide +kernel
theorem d_Mod_object_83 : decode b_Mod_object 83 = .ok (.getfield 26, 3) := by decide +kernel
theorem d_Mod_object_86 : decode b_Mod_object 86 = .ok (.iload_n 1, 1) := by decide +kernel
theorem d_Mod_object_87 : decode b_Mod_object 87 = .ok (.iaload, 1) := by decide +kernel
theorem d_Mod_object_88 : decode b_Mod_object 88 = .ok (.iconst 1, 1) := by decide +kernel
theorem d_Mod_object_89 : decode b_Mod_object 89 = .ok (.if_icmp .ne 12, 3) := by decide +kernel
theorem d_Mod_object_92 : decode b_Mod_object 92 = .ok (.aload_n 0, 1) := by decide +kernel
theorem d_Mod_object_93 : decode b_Mod_object 93 = .ok (.getfield 32, 3) := by decide +kernel
theorem d_Mod_object_96 : decode b_Mod_object 96 = .ok (.iload_n 1, 1) := by decide +kernel
theorem d_Mod_object_97 : decode b_Mod_object 97 = .ok (.iaload, 1) := by decide +kernel
theorem d_Mod_object_98 : decode b_Mod_object 98 = .ok (.goto 9, 3) := by decide +kernel
theorem d_Mod_object_101 : decode b_Mod_object 101 = .ok (.aload_n 0, 1) := by decide +kernel
theorem d_Mod_object_102 : decode b_Mod_object 102 = .ok (.getfield 50, 3) := by decide +kernel
theorem d_Mod_object_105 : decode b_Mod_object 105 = .ok (.iload_n 1, 1) := by decide +kernel
theorem d_Mod_object_106 : decode b_Mod_object 106 = .ok (.iaload, 1) := by decide +kernel
theorem d_Mod_object_107 : decode b_Mod_object 107 = .ok (.ireturn, 1) := by decide +kernel
theorem d_Mod_object_108 : decode b_Mod_object 108 = .ok (.aload_n 0, 1) := by decide +kernel
theorem d_Mod_object_109 : decode b_Mod_object 109 = .ok (.getfield 26, 3) := by decide +kernel
theorem d_Mod_object_112 : decode b_Mod_object 112 = .ok (.iload_n 1, 1) := by decide +kernel
theorem d_Mod_object_113 : decode b_Mod_object 113 = .ok (.iaload, 1) := by decide +kernel
theorem d_Mod_object_114 : decode b_Mod_object 114 = .ok (.iconst 1, 1) := by decide +kernel
theorem d_Mod_object_115 : decode b_Mod_object 115 = .ok (.if_icmp .ne 12, 3) := by decide +kernel
theorem d_Mod_object_118 : decode b_Mod_object 118 = .ok (.aload_n 0, 1) := by decide +kernel
theorem d_Mod_object_119 : decode b_Mod_object 119 = .ok (.getfield 35, 3) := by decide +kernel
theorem d_Mod_object_122 : decode b_Mod_object 122 = .ok (.iload_n 1, 1) := by decide +kernel
theorem d_Mod_object_123 : decode b_Mod_object 123 = .ok (.iaload, 1) := by decide +kernel
theorem d_Mod_object_124 : decode b_Mod_object 124 = .ok (.goto 9, 3) := by decide +kernel
theorem d_Mod_object_127 : decode b_Mod_object 127 = .ok (.aload_n 0, 1) := by decide +kernel
theorem d_Mod_object_128 : decode b_Mod_object 128 = .ok (.getfield 53, 3) := by decide +kernel
theorem d_Mod_object_131 : decode b_Mod_object 131 = .ok (.iload_n 1, 1) := by decide +kernel
theorem d_Mod_object_132 : decode b_Mod_object 132 = .ok (.iaload, 1) := by decide +kernel
theorem d_Mod_object_133 : decode b_Mod_object 133 = .ok (.ireturn, 1) := by decide +kernel
theorem d_Mod_inside_0 : decode b_Mod_inside 0 = .ok (.aload_n 0, 1) := by decide +kernel
theorem d_Mod_inside_1 : decode b_Mod_inside 1 = .ok (.iload_n 1, 1) := by decide +kernel
theorem d_Mod_inside_2 : decode b_Mod_inside 2 = .ok (.ifCond .lt 9, 3) := by decide +kernel
theorem d_Mod_inside_5 : decode b_Mod_inside 5 = .ok (.iload_n 1, 1) := by decide +kernel
theorem d_Mod_inside_6 : decode b_Mod_inside 6 = .ok (.bipush 15, 2) := by decide +kernel
theorem d_Mod_inside_8 : decode b_Mod_inside 8 = .ok (.if_icmp .le 7, 3) := by decide +kernel
theorem d_Mod_inside_11 : decode b_Mod_inside 11 = .ok (.iconst 1, 1) := by decide +kernel
theorem d_Mod_inside_12 : decode b_Mod_inside 12 = .ok (.goto 57, 3) := by decide +kernel
theorem d_Mod_inside_15 : decode b_Mod_inside 15 = .ok (.iload_n 2, 1) := by decide +kernel
theorem d_Mod_inside_16 : decode b_Mod_inside 16 = .ok (.ifCond .lt 48, 3) := by decide +kernel
theorem d_Mod_inside_19 : decode b_Mod_inside 19 = .ok (.iload_n 2, 1) := by decide +kernel
theorem d_Mod_inside_20 : decode b_Mod_inside 20 = .ok (.aload_n 0, 1) := by decide +kernel
theorem d_Mod_inside_21 : decode b_Mod_inside 21 = .ok (.getfield 26, 3) := by decide +kernel
theorem d_Mod_inside_24 : decode b_Mod_inside 24 = .ok (.iload_n 1, 1) := by decide +kernel
theorem d_Mod_inside_25 : decode b_Mod_inside 25 = .ok (.iaload, 1) := by decide +kernel
theorem d_Mod_inside_26 : decode b_Mod_inside 26 = .ok (.ifCond .ne 7, 3) := by decide +kernel
theorem d_Mod_inside_29 : decode b_Mod_inside 29 = .ok (.iconst 0, 1) := by decide +kernel
theorem d_Mod_inside_30 : decode b_Mod_inside 30 = .ok (.goto 31, 3) := by decide +kernel
theorem d_Mod_inside_33 : decode b_Mod_inside 33 = .ok (.aload_n 0, 1) := by decide +kernel
theorem d_Mod_inside_34 : decode b_Mod_inside 34 = .ok (.getfield 26, 3) := by decide +kernel
theorem d_Mod_inside_37 : decode b_Mod_inside 37 = .ok (.iload_n 1, 1) := by decide +kernel
theorem d_Mod_inside_38 : decode b_Mod_inside 38 = .ok (.iaload, 1) := by decide +kernel
theorem d_Mod_inside_39 : decode b_Mod_inside 39 = .ok (.iconst 1, 1) := by decide +kernel
theorem d_Mod_inside_40 : decode b_Mod_inside 40 = .ok (.if_icmp .ne 12, 3) := by decide +kernel
theorem d_Mod_inside_43 : decode b_Mod_inside 43 = .ok (.aload_n 0, 1) := by decide +kernel
theorem d_Mod_inside_44 : decode b_Mod_inside 44 = .ok (.getfield 32, 3) := by decide +kernel
theorem d_Mod_inside_47 : decode b_Mod_inside 47 = .ok (.iload_n 1, 1) := by decide +kernel
theorem d_Mod_inside_48 : decode b_Mod_inside 48 = .ok (.iaload, 1) := by decide +kernel
theorem d_Mod_inside_49 : decode b_Mod_inside 49 = .ok (.goto 12, 3) := by decide +kernel
theorem d_Mod_inside_52 : decode b_Mod_inside 52 = .ok (.iload_n 3, 1) := by decide +kernel
theorem d_Mod_inside_53 : decode b_Mod_inside 53 = .ok (.ifCond .eq 7, 3) := by decide +kernel
theorem d_Mod_inside_56 : decode b_Mod_inside 56 = .ok (.iconst 0, 1) := by decide +kernel
theorem d_Mod_inside_57 : decode b_Mod_inside 57 = .ok (.goto 4, 3) := by decide +kernel
theorem d_Mod_inside_60 : decode b_Mod_inside 60 = .ok (.iconst 4, 1) := by decide +kernel
theorem d_Mod_inside_61 : decode b_Mod_inside 61 = .ok (.if_icmp .lt 7, 3) := by decide +kernel
theorem d_Mod_inside_64 : decode b_Mod_inside 64 = .ok (.iconst 2, 1) := by decide +kernel
theorem d_Mod_inside_65 : decode b_Mod_inside 65 = .ok (.goto 4, 3) := by decide +kernel
theorem d_Mod_inside_68 : decode b_Mod_inside 68 = .ok (.iconst 0, 1) := by decide +kernel
theorem d_Mod_inside_69 : decode b_Mod_inside 69 = .ok (.putfield 64, 3) := by decide +kernel
theorem d_Mod_inside_72 : decode b_Mod_inside 72 = .ok (.aload_n 0, 1) := by decide +kernel
theorem d_Mod_inside_73 : decode b_Mod_inside 73 = .ok (.getfield 64, 3) := by decide +kernel
theorem d_Mod_inside_76 : decode b_Mod_inside 76 = .ok (.ifCond .eq 5, 3) := by decide +kernel
theorem d_Mod_inside_79 : decode b_Mod_inside 79 = .ok (.lconst 0, 1) := by decide +kernel
theorem d_Mod_inside_80 : decode b_Mod_inside 80 = .ok (.lreturn, 1) := by decide +kernel
theorem d_Mod_inside_81 : decode b_Mod_inside 81 = .ok (.aload_n 0, 1) := by decide +kernel
theorem d_Mod_inside_82 : decode b_Mod_inside 82 = .ok (.getfield 26, 3) := by decide +kernel
theorem d_Mod_inside_85 : decode b_Mod_inside 85 = .ok (.iload_n 1, 1) := by decide +kernel
theorem d_Mod_inside_86 : decode b_Mod_inside 86 = .ok (.iaload, 1) := by decide +kernel
theorem d_Mod_inside_87 : decode b_Mod_inside 87 = .ok (.iconst 2, 1) := by decide +kernel
theorem d_Mod_inside_88 : decode b_Mod_inside 88 = .ok (.if_icmp .ne 14, 3) := by decide +kernel
theorem d_Mod_inside_91 : decode b_Mod_inside 91 = .ok (.aload_n 0, 1) := by decide +kernel
theorem d_Mod_inside_92 : decode b_Mod_inside 92 = .ok (.getfield 44, 3) := by decide +kernel
theorem d_Mod_inside_95 : decode b_Mod_inside 95 = .ok (.iload_n 1, 1) := by decide +kernel
theorem d_Mod_inside_96 : decode b_Mod_inside 96 = .ok (.iconst 4, 1) := by decide +kernel
theorem d_Mod_inside_97 : decode b_Mod_inside 97 = .ok (.imul, 1) := by decide +kernel
theorem d_Mod_inside_98 : decode b_Mod_inside 98 = .ok (.iload_n 2, 1) := by decide +kernel
theorem d_Mod_inside_99 : decode b_Mod_inside 99 = .ok (.iadd, 1) := by decide +kernel
theorem d_Mod_inside_100 : decode b_Mod_inside 100 = .ok (.laload, 1) := by decide +kernel
theorem d_Mod_inside_101 : decode b_Mod_inside 101 = .ok (.lreturn, 1) := by decide +kernel
theorem d_Mod_inside_102 : decode b_Mod_inside 102 = .ok (.iload_n 3, 1) := by decide +kernel
theorem d_Mod_inside_103 : decode b_Mod_inside 103 = .ok (.ifCond .eq 17, 3) := by decide +kernel
theorem d_Mod_inside_106 : decode b_Mod_inside 106 = .ok (.aload_n 0, 1) := by decide +kernel
theorem d_Mod_inside_107 : decode b_Mod_inside 107 = .ok (.getfield 41, 3) := by decide +kernel
theorem d_Mod_inside_110 : decode b_Mod_inside 110 = .ok (.iload_n 1, 1) := by decide +kernel
theorem d_Mod_inside_111 : decode b_Mod_inside 111 = .ok (.bipush 6, 2) := by decide +kernel
theorem d_Mod_inside_113 : decode b_Mod_inside 113 = .ok (.imul, 1) := by decide +kernel
theorem d_Mod_inside_114 : decode b_Mod_inside 114 = .ok (.iload_n 2, 1) := by decide +kernel
theorem d_Mod_inside_115 : decode b_Mod_inside 115 = .ok (.iadd, 1) := by decide +kernel
theorem d_Mod_inside_116 : decode b_Mod_inside 116 = .ok (.laload, 1) := by decide +kernel
theorem d_Mod_inside_117 : decode b_Mod_inside 117 = .ok (.goto 14, 3) := by decide +kernel
theorem d_Mod_inside_120 : decode b_Mod_inside 120 = .ok (.aload_n 0, 1) := by decide +kernel
theorem d_Mod_inside_121 : decode b_Mod_inside 121 = .ok (.getfield 38, 3) := by decide +kernel
theorem d_Mod_inside_124 : decode b_Mod_inside 124 = .ok (.iload_n 1, 1) := by decide +kernel
theorem d_Mod_inside_125 : decode b_Mod_inside 125 = .ok (.bipush 6, 2) := by decide +kernel
theorem d_Mod_inside_127 : decode b_Mod_inside 127 = .ok (.imul, 1) := by decide +kernel
theorem d_Mod_inside_128 : decode b_Mod_inside 128 = .ok (.iload_n 2, 1) := by decide +kernel
theorem d_Mod_inside_129 : decode b_Mod_inside 129 = .ok (.iadd, 1) := by decide +kernel
theorem d_Mod_inside_130 : decode b_Mod_inside 130 = .ok (.laload, 1) := by decide +kernel
theorem d_Mod_inside_131 : decode b_Mod_inside 131 = .ok (.lreturn, 1) := by decide +kernel
theorem d_Mod_count_0 : decode b_Mod_count 0 = .ok (.aload_n 0, 1) := by decide +kernel
theorem d_Mod_count_1 : decode b_Mod_count 1 = .ok (.iconst 0, 1) := by decide +kernel
theorem d_Mod_count_2 : decode b_Mod_count 2 = .ok (.putfield 64, 3) := by decide +kernel
theorem d_Mod_count_5 : decode b_Mod_count 5 = .ok (.iconst 0, 1) := by decide +kernel
theorem d_Mod_count_6 : decode b_Mod_count 6 = .ok (.istore_n 2, 1) := by decide +kernel
theorem d_Mod_count_7 : decode b_Mod_count 7 = .ok (.iconst 0, 1) := by decide +kernel
theorem d_Mod_count_8 : decode b_Mod_count 8 = .ok (.istore_n 3, 1) := by decide +kernel
theorem d_Mod_count_9 : decode b_Mod_count 9 = .ok (.iconst 0, 1) := by decide +kernel
theorem d_Mod_count_10 : decode b_Mod_count 10 = .ok (.istore 4, 2) := by decide +kernel
theorem d_Mod_count_12 : decode b_Mod_count 12 = .ok (.iload 4, 2) := by decide +kernel
theorem d_Mod_count_14 : decode b_Mod_count 14 = .ok (.bipush 16, 2) := by decide +kernel
theorem d_Mod_count_16 : decode b_Mod_count 16 = .ok (.if_icmp .ge 46, 3) := by decide +kernel
theorem d_Mod_count_19 : decode b_Mod_count 19 = .ok (.aload_n 0, 1) := by decide +kernel
theorem d_Mod_count_20 : decode b_Mod_count 20 = .ok (.getfield 26, 3) := by decide +kernel
theorem d_Mod_count_23 : decode b_Mod_count 23 = .ok (.iload 4, 2) := by decide +kernel
theorem d_Mod_count_25 : decode b_Mod_count 25 = .ok (.iaload, 1) := by decide +kernel
theorem d_Mod_count_26 : decode b_Mod_count 26 = .ok (.ifCond .eq 6, 3) := by decide +kernel
theorem d_Mod_count_29 : decode b_Mod_count 29 = .ok (.iinc 2 1, 3) := by decide +kernel
theorem d_Mod_count_32 : decode b_Mod_count 32 = .ok (.aload_n 0, 1) := by decide +kernel
theorem d_Mod_count_33 : decode b_Mod_count 33 = .ok (.getfield 26, 3) := by decide +kernel
theorem d_Mod_count_36 : decode b_Mod_count 36 = .ok (.iload 4, 2) := by decide +kernel
theorem d_Mod_count_38 : decode b_Mod_count 38 = .ok (.iaload, 1) := by decide +kernel
theorem d_Mod_count_39 : decode b_Mod_count 39 = .ok (.ifCond .eq 17, 3) := by decide +kernel
theorem d_Mod_count_42 : decode b_Mod_count 42 = .ok (.aload_n 0, 1) := by decide +kernel
theorem d_Mod_count_43 : decode b_Mod_count 43 = .ok (.getfield 29, 3) := by decide +kernel
theorem d_Mod_count_46 : decode b_Mod_count 46 = .ok (.iload 4, 2) := by decide +kernel
theorem d_Mod_count_48 : decode b_Mod_count 48 = .ok (.iaload, 1) := by decide +kernel
theorem d_Mod_count_49 : decode b_Mod_count 49 = .ok (.iconst 1, 1) := by decide +kernel
theorem d_Mod_count_50 : decode b_Mod_count 50 = .ok (.if_icmp .ne 6, 3) := by decide +kernel
theorem d_Mod_count_53 : decode b_Mod_count 53 = .ok (.iinc 3 1, 3) := by decide +kernel
theorem d_Mod_count_56 : decode b_Mod_count 56 = .ok (.iinc 4 1, 3) := by decide +kernel
theorem d_Mod_count_59 : decode b_Mod_count 59 = .ok (.goto (-47), 3) := by decide +kernel
theorem d_Mod_count_62 : decode b_Mod_count 62 = .ok (.iload_n 1, 1) := by decide +kernel
theorem d_Mod_count_63 : decode b_Mod_count 63 = .ok (.tableswitch 88 0 8 #[49, 51, 56, 61, 66, 71, 76, 78, 83], 49) := by decide +kernel
theorem d_Mod_count_112 : decode b_Mod_count 112 = .ok (.iload_n 2, 1) := by decide +kernel
theorem d_Mod_count_113 : decode b_Mod_count 113 = .ok (.ireturn, 1) := by decide +kernel
theorem d_Mod_count_114 : decode b_Mod_count 114 = .ok (.aload_n 0, 1) := by decide +kernel
theorem d_Mod_count_115 : decode b_Mod_count 115 = .ok (.getfield 92, 3) := by decide +kernel
theorem d_Mod_count_118 : decode b_Mod_count 118 = .ok (.ireturn, 1) := by decide +kernel
theorem d_Mod_count_119 : decode b_Mod_count 119 = .ok (.aload_n 0, 1) := by decide +kernel
theorem d_Mod_count_120 : decode b_Mod_count 120 = .ok (.getfield 106, 3) := by decide +kernel
theorem d_Mod_count_123 : decode b_Mod_count 123 = .ok (.ireturn, 1) := by decide +kernel
theorem d_Mod_count_124 : decode b_Mod_count 124 = .ok (.aload_n 0, 1) := by decide +kernel
theorem d_Mod_count_125 : decode b_Mod_count 125 = .ok (.getfield 124, 3) := by decide +kernel
theorem d_Mod_count_128 : decode b_Mod_count 128 = .ok (.ireturn, 1) := by decide +kernel
theorem d_Mod_count_129 : decode b_Mod_count 129 = .ok (.aload_n 0, 1) := by decide +kernel
theorem d_Mod_count_130 : decode b_Mod_count 130 = .ok (.getfield 109, 3) := by decide +kernel
theorem d_Mod_count_133 : decode b_Mod_count 133 = .ok (.ireturn, 1) := by decide +kernel
theorem d_Mod_count_134 : decode b_Mod_count 134 = .ok (.aload_n 0, 1) := by decide +kernel
theorem d_Mod_count_135 : decode b_Mod_count 135 = .ok (.getfield 170, 3) := by decide +kernel
theorem d_Mod_count_138 : decode b_Mod_count 138 = .ok (.ireturn, 1) := by decide +kernel
theorem d_Mod_count_139 : decode b_Mod_count 139 = .ok (.iload_n 3, 1) := by decide +kernel
theorem d_Mod_count_140 : decode b_Mod_count 140 = .ok (.ireturn, 1) := by decide +kernel
theorem d_Mod_count_141 : decode b_Mod_count 141 = .ok (.aload_n 0, 1) := by decide +kernel
theorem d_Mod_count_142 : decode b_Mod_count 142 = .ok (.getfield 89, 3) := by decide +kernel
theorem d_Mod_count_145 : decode b_Mod_count 145 = .ok (.ireturn, 1) := by decide +kernel
theorem d_Mod_count_146 : decode b_Mod_count 146 = .ok (.aload_n 0, 1) := by decide +kernel
theorem d_Mod_count_147 : decode b_Mod_count 147 = .ok (.getfield 112, 3) := by decide +kernel
theorem d_Mod_count_150 : decode b_Mod_count 150 = .ok (.ireturn, 1) := by decide +kernel
theorem d_Mod_count_151 : decode b_Mod_count 151 = .ok (.iconst (-1), 1) := by decide +kernel
theorem d_Mod_count_152 : decode b_Mod_count 152 = .ok (.ireturn, 1) := by decide +kernel
end
section
theorem d_Mod_init_0 : decode b_Mod_init 0 = .ok (.aload_n 0, 1) := by decide +kernel
theorem d_Mod_init_1 : decode b_Mod_init 1 = .ok (.invokespecial 1, 3) := by decide +kernel
theorem d_Mod_init_4 : decode b_Mod_init 4 = .ok (.aload_n 0, 1) := by decide +kernel
theorem d_Mod_init_5 : decode b_Mod_init 5 = .ok (.bipush 64, 2) := by decide +kernel
theorem d_Mod_init_7 : decode b_Mod_init 7 = .ok (.newarray .int, 2) := by decide +kernel
theorem d_Mod_init_9 : decode b_Mod_init 9 = .ok (.putfield 7, 3) := by decide +kernel
theorem d_Mod_init_12 : decode b_Mod_init 12 = .ok (.aload_n 0, 1) := by decide +kernel
theorem d_Mod_init_13 : decode b_Mod_init 13 = .ok (.bipush 64, 2) := by decide +kernel
theorem d_Mod_init_15 : decode b_Mod_init 15 = .ok (.newarray .int, 2) := by decide +kernel
theorem d_Mod_init_17 : decode b_Mod_init 17 = .ok (.putfield 13, 3) := by decide +kernel
theorem d_Mod_init_20 : decode b_Mod_init 20 = .ok (.aload_n 0, 1) := by decide +kernel
theorem d_Mod_init_21 : decode b_Mod_init 21 = .ok (.bipush 64, 2) := by decide +kernel
theorem d_Mod_init_23 : decode b_Mod_init 23 = .ok (.newarray .int, 2) := by decide +kernel
theorem d_Mod_init_25 : decode b_Mod_init 25 = .ok (.putfield 16, 3) := by decide +kernel
theorem d_Mod_init_28 : decode b_Mod_init 28 = .ok (.aload_n 0, 1) := by decide +kernel
theorem d_Mod_init_29 : decode b_Mod_init 29 = .ok (.bipush 64, 2) := by decide +kernel
theorem d_Mod_init_31 : decode b_Mod_init 31 = .ok (.newarray .int, 2) := by decide +kernel
theorem d_Mod_init_33 : decode b_Mod_init 33 = .ok (.putfield 19, 3) := by decide +kernel
theorem d_Mod_init_36 : decode b_Mod_init 36 = .ok (.aload_n 0, 1) := by decide +kernel
theorem d_Mod_init_37 : decode b_Mod_init 37 = .ok (.bipush 6, 2) := by decide +kernel
theorem d_Mod_init_39 : decode b_Mod_init 39 = .ok (.newarray .long, 2) := by decide +kernel
theorem d_Mod_init_41 : decode b_Mod_init 41 = .ok (.putfield 22, 3) := by decide +kernel
theorem d_Mod_init_44 : decode b_Mod_init 44 = .ok (.aload_n 0, 1) := by decide +kernel
theorem d_Mod_init_45 : decode b_Mod_init 45 = .ok (.bipush 16, 2) := by decide +kernel
theorem d_Mod_init_47 : decode b_Mod_init 47 = .ok (.newarray .int, 2) := by decide +kernel
theorem d_Mod_init_49 : decode b_Mod_init 49 = .ok (.putfield 26, 3) := by decide +kernel
theorem d_Mod_init_52 : decode b_Mod_init 52 = .ok (.aload_n 0, 1) := by decide +kernel
theorem d_Mod_init_53 : decode b_Mod_init 53 = .ok (.bipush 16, 2) := by decide +kernel
theorem d_Mod_init_55 : decode b_Mod_init 55 = .ok (.newarray .int, 2) := by decide +kernel
theorem d_Mod_init_57 : decode b_Mod_init 57 = .ok (.putfield 29, 3) := by decide +kernel
theorem d_Mod_init_60 : decode b_Mod_init 60 = .ok (.aload_n 0, 1) := by decide +kernel
theorem d_Mod_init_61 : decode b_Mod_init 61 = .ok (.bipush 16, 2) := by decide +kernel
theorem d_Mod_init_63 : decode b_Mod_init 63 = .ok (.newarray .int, 2) := by decide +kernel
theorem d_Mod_init_65 : decode b_Mod_init 65 = .ok (.putfield 32, 3) := by decide +kernel
theorem d_Mod_init_68 : decode b_Mod_init 68 = .ok (.aload_n 0, 1) := by decide +kernel
theorem d_Mod_init_69 : decode b_Mod_init 69 = .ok (.bipush 16, 2) := by decide +kernel
theorem d_Mod_init_71 : decode b_Mod_init 71 = .ok (.newarray .int, 2) := by decide +kernel
theorem d_Mod_init_73 : decode b_Mod_init 73 = .ok (.putfield 35, 3) := by decide +kernel
theorem d_Mod_init_76 : decode b_Mod_init 76 = .ok (.aload_n 0, 1) := by decide +kernel
theorem d_Mod_init_77 : decode b_Mod_init 77 = .ok (.bipush 96, 2) := by decide +kernel
theorem d_Mod_init_79 : decode b_Mod_init 79 = .ok (.newarray .long, 2) := by decide +kernel
theorem d_Mod_init_81 : decode b_Mod_init 81 = .ok (.putfield 38, 3) := by decide +kernel
theorem d_Mod_init_84 : decode b_Mod_init 84 = .ok (.aload_n 0, 1) := by decide +kernel
theorem d_Mod_init_85 : decode b_Mod_init 85 = .ok (.bipush 96, 2) := by decide +kernel
theorem d_Mod_init_87 : decode b_Mod_init 87 = .ok (.newarray .long, 2) := by decide +kernel
theorem d_Mod_init_89 : decode b_Mod_init 89 = .ok (.putfield 41, 3) := by decide +kernel
theorem d_Mod_init_92 : decode b_Mod_init 92 = .ok (.aload_n 0, 1) := by decide +kernel
theorem d_Mod_init_93 : decode b_Mod_init 93 = .ok (.bipush 64, 2) := by decide +kernel
theorem d_Mod_init_95 : decode b_Mod_init 95 = .ok (.newarray .long, 2) := by decide +kernel
theorem d_Mod_init_97 : decode b_Mod_init 97 = .ok (.putfield 44, 3) := by decide +kernel
theorem d_Mod_init_100 : decode b_Mod_init 100 = .ok (.aload_n 0, 1) := by decide +kernel
theorem d_Mod_init_101 : decode b_Mod_init 101 = .ok (.bipush 16, 2) := by decide +kernel
theorem d_Mod_init_103 : decode b_Mod_init 103 = .ok (.newarray .int, 2) := by decide +kernel
theorem d_Mod_init_105 : decode b_Mod_init 105 = .ok (.putfield 47, 3) := by decide +kernel
theorem d_Mod_init_108 : decode b_Mod_init 108 = .ok (.aload_n 0, 1) := by decide +kernel
theorem d_Mod_init_109 : decode b_Mod_init 109 = .ok (.bipush 16, 2) := by decide +kernel
theorem d_Mod_init_111 : decode b_Mod_init 111 = .ok (.newarray .int, 2) := by decide +kernel
theorem d_Mod_init_113 : decode b_Mod_init 113 = .ok (.putfield 50, 3) := by decide +kernel
theorem d_Mod_init_116 : decode b_Mod_init 116 = .ok (.aload_n 0, 1) := by decide +kernel
theorem d_Mod_init_117 : decode b_Mod_init 117 = .ok (.bipush 16, 2) := by decide +kernel
theorem d_Mod_init_119 : decode b_Mod_init 119 = .ok (.newarray .int, 2) := by decide +kernel
theorem d_Mod_init_121 : decode b_Mod_init 121 = .ok (.putfield 53, 3) := by decide +kernel
theorem d_Mod_init_124 : decode b_Mod_init 124 = .ok (.aload_n 0, 1) := by decide +kernel
theorem d_Mod_init_125 : decode b_Mod_init 125 = .ok (.bipush 16, 2) := by decide +kernel
theorem d_Mod_init_127 : decode b_Mod_init 127 = .ok (.newarray .int, 2) := by decide +kernel
theorem d_Mod_init_129 : decode b_Mod_init 129 = .ok (.putfield 56, 3) := by decide +kernel
theorem d_Mod_init_132 : decode b_Mod_init 132 = .ok (.aload_n 0, 1) := by decide +kernel
theorem d_Mod_init_133 : decode b_Mod_init 133 = .ok (.bipush 6, 2) := by decide +kernel
theorem d_Mod_init_135 : decode b_Mod_init 135 = .ok (.newarray .int, 2) := by decide +kernel
theorem d_Mod_init_137 : decode b_Mod_init 137 = .ok (.putfield 59, 3) := by decide +kernel
theorem d_Mod_init_140 : decode b_Mod_init 140 = .ok (.iconst 0, 1) := by decide +kernel
theorem d_Mod_init_141 : decode b_Mod_init 141 = .ok (.istore_n 1, 1) := by decide +kernel
theorem d_Mod_init_142 : decode b_Mod_init 142 = .ok (.iload_n 1, 1) := by decide +kernel
theorem d_Mod_init_143 : decode b_Mod_init 143 = .ok (.bipush 64, 2) := by decide +kernel
theorem d_Mod_init_145 : decode b_Mod_init 145 = .ok (.if_icmp .ge 16, 3) := by decide +kernel
theorem d_Mod_init_148 : decode b_Mod_init 148 = .ok (.aload_n 0, 1) := by decide +kernel
theorem d_Mod_init_149 : decode b_Mod_init 149 = .ok (.getfield 7, 3) := by decide +kernel
theorem d_Mod_init_152 : decode b_Mod_init 152 = .ok (.iload_n 1, 1) := by decide +kernel
theorem d_Mod_init_153 : decode b_Mod_init 153 = .ok (.iconst (-1), 1) := by decide +kernel
theorem d_Mod_init_154 : decode b_Mod_init 154 = .ok (.iastore, 1) := by decide +kernel
theorem d_Mod_init_155 : decode b_Mod_init 155 = .ok (.iinc 1 1, 3) := by decide +kernel
theorem d_Mod_init_158 : decode b_Mod_init 158 = .ok (.goto (-16), 3) := by decide +kernel
theorem d_Mod_init_161 : decode b_Mod_init 161 = .ok (.iconst 0, 1) := by decide +kernel
theorem d_Mod_init_162 : decode b_Mod_init 162 = .ok (.istore_n 1, 1) := by decide +kernel
theorem d_Mod_init_163 : decode b_Mod_init 163 = .ok (.iload_n 1, 1) := by decide +kernel
theorem d_Mod_init_164 : decode b_Mod_init 164 = .ok (.bipush 6, 2) := by decide +kernel
theorem d_Mod_init_166 : decode b_Mod_init 166 = .ok (.if_icmp .ge 18, 3) := by decide +kernel
theorem d_Mod_init_169 : decode b_Mod_init 169 = .ok (.aload_n 0, 1) := by decide +kernel
theorem d_Mod_init_170 : decode b_Mod_init 170 = .ok (.getfield 22, 3) := by decide +kernel
theorem d_Mod_init_173 : decode b_Mod_init 173 = .ok (.iload_n 1, 1) := by decide +kernel
theorem d_Mod_init_174 : decode b_Mod_init 174 = .ok (.ldc2_w 62, 3) := by decide +kernel
theorem d_Mod_init_177 : decode b_Mod_init 177 = .ok (.lastore, 1) := by decide +kernel
theorem d_Mod_init_178 : decode b_Mod_init 178 = .ok (.iinc 1 1, 3) := by decide +kernel
theorem d_Mod_init_181 : decode b_Mod_init 181 = .ok (.goto (-18), 3) := by decide +kernel
theorem d_Mod_init_184 : decode b_Mod_init 184 = .ok (.return_, 1) := by decide +kernel
theorem d_Mod_create_0 : decode b_Mod_create 0 = .ok (.aload_n 0, 1) := by decide +kernel
theorem d_Mod_create_1 : decode b_Mod_create 1 = .ok (.invokevirtual 118, 3) := by decide +kernel
theorem d_Mod_create_4 : decode b_Mod_create 4 = .ok (.istore_n 3, 1) := by decide +kernel
theorem d_Mod_create_5 : decode b_Mod_create 5 = .ok (.iload_n 3, 1) := by decide +kernel
theorem d_Mod_create_6 : decode b_Mod_create 6 = .ok (.ifCond .ge 14, 3) := by decide +kernel
theorem d_Mod_create_9 : decode b_Mod_create 9 = .ok (.aload_n 0, 1) := by decide +kernel
theorem d_Mod_create_10 : decode b_Mod_create 10 = .ok (.invokevirtual 121, 3) := by decide +kernel
theorem d_Mod_create_13 : decode b_Mod_create 13 = .ok (.istore 4, 2) := by decide +kernel
theorem d_Mod_create_15 : decode b_Mod_create 15 = .ok (.aload_n 0, 1) := by decide +kernel
theorem d_Mod_create_16 : decode b_Mod_create 16 = .ok (.invokevirtual 118, 3) := by decide +kernel
theorem d_Mod_create_19 : decode b_Mod_create 19 = .ok (.istore_n 3, 1) := by decide +kernel
theorem d_Mod_create_20 : decode b_Mod_create 20 = .ok (.iload_n 3, 1) := by decide +kernel
theorem d_Mod_create_21 : decode b_Mod_create 21 = .ok (.ifCond .ge 5, 3) := by decide +kernel
theorem d_Mod_create_24 : decode b_Mod_create 24 = .ok (.iconst (-1), 1) := by decide +kernel
theorem d_Mod_create_25 : decode b_Mod_create 25 = .ok (.ireturn, 1) := by decide +kernel
theorem d_Mod_create_26 : decode b_Mod_create 26 = .ok (.aload_n 0, 1) := by decide +kernel
theorem d_Mod_create_27 : decode b_Mod_create 27 = .ok (.getfield 26, 3) := by decide +kernel
theorem d_Mod_create_30 : decode b_Mod_create 30 = .ok (.iload_n 3, 1) := by decide +kernel
theorem d_Mod_create_31 : decode b_Mod_create 31 = .ok (.iload_n 1, 1) := by decide +kernel
theorem d_Mod_create_32 : decode b_Mod_create 32 = .ok (.iastore, 1) := by decide +kernel
theorem d_Mod_create_33 : decode b_Mod_create 33 = .ok (.aload_n 0, 1) := by decide +kernel
theorem d_Mod_create_34 : decode b_Mod_create 34 = .ok (.getfield 29, 3) := by decide +kernel
theorem d_Mod_create_37 : decode b_Mod_create 37 = .ok (.iload_n 3, 1) := by decide +kernel
theorem d_Mod_create_38 : decode b_Mod_create 38 = .ok (.aload_n 0, 1) := by decide +kernel
theorem d_Mod_create_39 : decode b_Mod_create 39 = .ok (.getfield 92, 3) := by decide +kernel
theorem d_Mod_create_42 : decode b_Mod_create 42 = .ok (.iconst 1, 1) := by decide +kernel
theorem d_Mod_create_43 : decode b_Mod_create 43 = .ok (.if_icmp .eq 19, 3) := by decide +kernel
theorem d_Mod_create_46 : decode b_Mod_create 46 = .ok (.aload_n 0, 1) := by decide +kernel
theorem d_Mod_create_47 : decode b_Mod_create 47 = .ok (.getfield 92, 3) := by decide +kernel
theorem d_Mod_create_50 : decode b_Mod_create 50 = .ok (.iconst 2, 1) := by decide +kernel
theorem d_Mod_create_51 : decode b_Mod_create 51 = .ok (.if_icmp .ne 15, 3) := by decide +kernel
theorem d_Mod_create_54 : decode b_Mod_create 54 = .ok (.iload_n 3, 1) := by decide +kernel
theorem d_Mod_create_55 : decode b_Mod_create 55 = .ok (.aload_n 0, 1) := by decide +kernel
theorem d_Mod_create_56 : decode b_Mod_create 56 = .ok (.getfield 106, 3) := by decide +kernel
theorem d_Mod_create_59 : decode b_Mod_create 59 = .ok (.if_icmp .lt 7, 3) := by decide +kernel
theorem d_Mod_create_62 : decode b_Mod_create 62 = .ok (.iconst 2, 1) := by decide +kernel
theorem d_Mod_create_63 : decode b_Mod_create 63 = .ok (.goto 4, 3) := by decide +kernel
theorem d_Mod_create_66 : decode b_Mod_create 66 = .ok (.iconst 0, 1) := by decide +kernel
theorem d_Mod_create_67 : decode b_Mod_create 67 = .ok (.iastore, 1) := by decide +kernel
theorem d_Mod_create_68 : decode b_Mod_create 68 = .ok (.aload_n 0, 1) := by decide +kernel
theorem d_Mod_create_69 : decode b_Mod_create 69 = .ok (.getfield 32, 3) := by decide +kernel
theorem d_Mod_create_72 : decode b_Mod_create 72 = .ok (.iload_n 3, 1) := by decide +kernel
theorem d_Mod_create_73 : decode b_Mod_create 73 = .ok (.iconst 0, 1) := by decide +kernel
theorem d_Mod_create_74 : decode b_Mod_create 74 = .ok (.iastore, 1) := by decide +kernel
theorem d_Mod_create_75 : decode b_Mod_create 75 = .ok (.aload_n 0, 1) := by decide +kernel
theorem d_Mod_create_76 : decode b_Mod_create 76 = .ok (.getfield 35, 3) := by decide +kernel
theorem d_Mod_create_79 : decode b_Mod_create 79 = .ok (.iload_n 3, 1) := by decide +kernel
theorem d_Mod_create_80 : decode b_Mod_create 80 = .ok (.iconst (-1), 1) := by decide +kernel
theorem d_Mod_create_81 : decode b_Mod_create 81 = .ok (.iastore, 1) := by decide +kernel
theorem d_Mod_create_82 : decode b_Mod_create 82 = .ok (.aload_n 0, 1) := by decide +kernel
theorem d_Mod_create_83 : decode b_Mod_create 83 = .ok (.getfield 47, 3) := by decide +kernel
theorem d_Mod_create_86 : decode b_Mod_create 86 = .ok (.iload_n 3, 1) := by decide +kernel
theorem d_Mod_create_87 : decode b_Mod_create 87 = .ok (.iload_n 2, 1) := by decide +kernel
theorem d_Mod_create_88 : decode b_Mod_create 88 = .ok (.iastore, 1) := by decide +kernel
theorem d_Mod_create_89 : decode b_Mod_create 89 = .ok (.aload_n 0, 1) := by decide +kernel
theorem d_Mod_create_90 : decode b_Mod_create 90 = .ok (.getfield 50, 3) := by decide +kernel
theorem d_Mod_create_93 : decode b_Mod_create 93 = .ok (.iload_n 3, 1) := by decide +kernel
theorem d_Mod_create_94 : decode b_Mod_create 94 = .ok (.iconst 0, 1) := by decide +kernel
theorem d_Mod_create_95 : decode b_Mod_create 95 = .ok (.iastore, 1) := by decide +kernel
theorem d_Mod_create_96 : decode b_Mod_create 96 = .ok (.aload_n 0, 1) := by decide +kernel
theorem d_Mod_create_97 : decode b_Mod_create 97 = .ok (.getfield 53, 3) := by decide +kernel
theorem d_Mod_create_100 : decode b_Mod_create 100 = .ok (.iload_n 3, 1) := by decide +kernel
theorem d_Mod_create_101 : decode b_Mod_create 101 = .ok (.iconst 0, 1) := by decide +kernel
theorem d_Mod_create_102 : decode b_Mod_create 102 = .ok (.iastore, 1) := by decide +kernel
theorem d_Mod_create_103 : decode b_Mod_create 103 = .ok (.iconst 0, 1) := by decide +kernel
theorem d_Mod_create_104 : decode b_Mod_create 104 = .ok (.istore 4, 2) := by decide +kernel
theorem d_Mod_create_106 : decode b_Mod_create 106 = .ok (.iload 4, 2) := by decide +kernel
theorem d_Mod_create_108 : decode b_Mod_create 108 = .ok (.iconst 4, 1) := by decide +kernel
theorem d_Mod_create_109 : decode b_Mod_create 109 = .ok (.if_icmp .ge 23, 3) := by decide +kernel
theorem d_Mod_create_112 : decode b_Mod_create 112 = .ok (.aload_n 0, 1) := by decide +kernel
theorem d_Mod_create_113 : decode b_Mod_create 113 = .ok (.getfield 44, 3) := by decide +kernel
theorem d_Mod_create_116 : decode b_Mod_create 116 = .ok (.iload_n 3, 1) := by decide +kernel
theorem d_Mod_create_117 : decode b_Mod_create 117 = .ok (.iconst 4, 1) := by decide +kernel
theorem d_Mod_create_118 : decode b_Mod_create 118 = .ok (.imul, 1) := by decide +kernel
theorem d_Mod_create_119 : decode b_Mod_create 119 = .ok (.iload 4, 2) := by decide +kernel
theorem d_Mod_create_121 : decode b_Mod_create 121 = .ok (.iadd, 1) := by decide +kernel
theorem d_Mod_create_122 : decode b_Mod_create 122 = .ok (.ldc2_w 62, 3) := by decide +kernel
theorem d_Mod_create_125 : decode b_Mod_create 125 = .ok (.lastore, 1) := by decide +kernel
theorem d_Mod_create_126 : decode b_Mod_create 126 = .ok (.iinc 4 1, 3) := by decide +kernel
theorem d_Mod_create_129 : decode b_Mod_create 129 = .ok (.goto (-23), 3) := by decide +kernel
theorem d_Mod_create_132 : decode b_Mod_create 132 = .ok (.aload_n 0, 1) := by decide +kernel
theorem d_Mod_create_133 : decode b_Mod_create 133 = .ok (.dup, 1) := by decide +kernel
theorem d_Mod_create_134 : decode b_Mod_create 134 = .ok (.getfield 124, 3) := by decide +kernel
theorem d_Mod_create_137 : decode b_Mod_create 137 = .ok (.iconst 1, 1) := by decide +kernel
theorem d_Mod_create_138 : decode b_Mod_create 138 = .ok (.iadd, 1) := by decide +kernel
theorem d_Mod_create_139 : decode b_Mod_create 139 = .ok (.putfield 124, 3) := by decide +kernel
theorem d_Mod_create_142 : decode b_Mod_create 142 = .ok (.iload_n 3, 1) := by decide +kernel
theorem d_Mod_create_143 : decode b_Mod_create 143 = .ok (.ireturn, 1) := by decide +kernel
theorem d_Mod_unit_0 : decode b_Mod_unit 0 = .ok (.aload_n 0, 1) := by decide +kernel
theorem d_Mod_unit_1 : decode b_Mod_unit 1 = .ok (.dup, 1) := by decide +kernel
theorem d_Mod_unit_2 : decode b_Mod_unit 2 = .ok (.getfield 89, 3) := by decide +kernel
theorem d_Mod_unit_5 : decode b_Mod_unit 5 = .ok (.iconst 1, 1) := by decide +kernel
theorem d_Mod_unit_6 : decode b_Mod_unit 6 = .ok (.iadd, 1) := by decide +kernel
theorem d_Mod_unit_7 : decode b_Mod_unit 7 = .ok (.putfield 89, 3) := by decide +kernel
theorem d_Mod_unit_10 : decode b_Mod_unit 10 = .ok (.iconst 0, 1) := by decide +kernel
theorem d_Mod_unit_11 : decode b_Mod_unit 11 = .ok (.istore_n 1, 1) := by decide +kernel
theorem d_Mod_unit_12 : decode b_Mod_unit 12 = .ok (.aload_n 0, 1) := by decide +kernel
theorem d_Mod_unit_13 : decode b_Mod_unit 13 = .ok (.getfield 92, 3) := by decide +kernel
theorem d_Mod_unit_16 : decode b_Mod_unit 16 = .ok (.ifCond .ne 15, 3) := by decide +kernel
theorem d_Mod_unit_19 : decode b_Mod_unit 19 = .ok (.aload_n 0, 1) := by decide +kernel
theorem d_Mod_unit_20 : decode b_Mod_unit 20 = .ok (.invokevirtual 95, 3) := by decide +kernel
theorem d_Mod_unit_23 : decode b_Mod_unit 23 = .ok (.aload_n 0, 1) := by decide +kernel
theorem d_Mod_unit_24 : decode b_Mod_unit 24 = .ok (.iconst 1, 1) := by decide +kernel
theorem d_Mod_unit_25 : decode b_Mod_unit 25 = .ok (.putfield 92, 3) := by decide +kernel
theorem d_Mod_unit_28 : decode b_Mod_unit 28 = .ok (.goto 141, 3) := by decide +kernel
theorem d_Mod_unit_31 : decode b_Mod_unit 31 = .ok (.aload_n 0, 1) := by decide +kernel
theorem d_Mod_unit_32 : decode b_Mod_unit 32 = .ok (.getfield 92, 3) := by decide +kernel
theorem d_Mod_unit_35 : decode b_Mod_unit 35 = .ok (.iconst 1, 1) := by decide +kernel
theorem d_Mod_unit_36 : decode b_Mod_unit 36 = .ok (.if_icmp .ne 48, 3) := by decide +kernel
theorem d_Mod_unit_39 : decode b_Mod_unit 39 = .ok (.aload_n 0, 1) := by decide +kernel
theorem d_Mod_unit_40 : decode b_Mod_unit 40 = .ok (.invokevirtual 98, 3) := by decide +kernel
theorem d_Mod_unit_43 : decode b_Mod_unit 43 = .ok (.istore_n 2, 1) := by decide +kernel
theorem d_Mod_unit_44 : decode b_Mod_unit 44 = .ok (.iload_n 2, 1) := by decide +kernel
theorem d_Mod_unit_45 : decode b_Mod_unit 45 = .ok (.ifCond .lt 11, 3) := by decide +kernel
theorem d_Mod_unit_48 : decode b_Mod_unit 48 = .ok (.aload_n 0, 1) := by decide +kernel
theorem d_Mod_unit_49 : decode b_Mod_unit 49 = .ok (.iload_n 2, 1) := by decide +kernel
theorem d_Mod_unit_50 : decode b_Mod_unit 50 = .ok (.invokevirtual 102, 3) := by decide +kernel
theorem d_Mod_unit_53 : decode b_Mod_unit 53 = .ok (.goto 7, 3) := by decide +kernel
theorem d_Mod_unit_56 : decode b_Mod_unit 56 = .ok (.aload_n 0, 1) := by decide +kernel
theorem d_Mod_unit_57 : decode b_Mod_unit 57 = .ok (.invokevirtual 95, 3) := by decide +kernel
theorem d_Mod_unit_60 : decode b_Mod_unit 60 = .ok (.iload_n 2, 1) := by decide +kernel
theorem d_Mod_unit_61 : decode b_Mod_unit 61 = .ok (.ifCond .ge 20, 3) := by decide +kernel
theorem d_Mod_unit_64 : decode b_Mod_unit 64 = .ok (.aload_n 0, 1) := by decide +kernel
theorem d_Mod_unit_65 : decode b_Mod_unit 65 = .ok (.invokevirtual 98, 3) := by decide +kernel
theorem d_Mod_unit_68 : decode b_Mod_unit 68 = .ok (.ifCond .ge 13, 3) := by decide +kernel
theorem d_Mod_unit_71 : decode b_Mod_unit 71 = .ok (.aload_n 0, 1) := by decide +kernel
theorem d_Mod_unit_72 : decode b_Mod_unit 72 = .ok (.iconst 2, 1) := by decide +kernel
theorem d_Mod_unit_73 : decode b_Mod_unit 73 = .ok (.putfield 92, 3) := by decide +kernel
theorem d_Mod_unit_76 : decode b_Mod_unit 76 = .ok (.aload_n 0, 1) := by decide +kernel
theorem d_Mod_unit_77 : decode b_Mod_unit 77 = .ok (.iconst 0, 1) := by decide +kernel
theorem d_Mod_unit_78 : decode b_Mod_unit 78 = .ok (.putfield 106, 3) := by decide +kernel
theorem d_Mod_unit_81 : decode b_Mod_unit 81 = .ok (.goto 88, 3) := by decide +kernel
theorem d_Mod_unit_84 : decode b_Mod_unit 84 = .ok (.aload_n 0, 1) := by decide +kernel
theorem d_Mod_unit_85 : decode b_Mod_unit 85 = .ok (.getfield 26, 3) := by decide +kernel
theorem d_Mod_unit_88 : decode b_Mod_unit 88 = .ok (.aload_n 0, 1) := by decide +kernel
theorem d_Mod_unit_89 : decode b_Mod_unit 89 = .ok (.getfield 106, 3) := by decide +kernel
theorem d_Mod_unit_92 : decode b_Mod_unit 92 = .ok (.iaload, 1) := by decide +kernel
theorem d_Mod_unit_93 : decode b_Mod_unit 93 = .ok (.ifCond .eq 37, 3) := by decide +kernel
theorem d_Mod_unit_96 : decode b_Mod_unit 96 = .ok (.aload_n 0, 1) := by decide +kernel
theorem d_Mod_unit_97 : decode b_Mod_unit 97 = .ok (.getfield 29, 3) := by decide +kernel
theorem d_Mod_unit_100 : decode b_Mod_unit 100 = .ok (.aload_n 0, 1) := by decide +kernel
theorem d_Mod_unit_101 : decode b_Mod_unit 101 = .ok (.getfield 106, 3) := by decide +kernel
theorem d_Mod_unit_104 : decode b_Mod_unit 104 = .ok (.iaload, 1) := by decide +kernel
theorem d_Mod_unit_105 : decode b_Mod_unit 105 = .ok (.ifCond .ne 25, 3) := by decide +kernel
theorem d_Mod_unit_108 : decode b_Mod_unit 108 = .ok (.aload_n 0, 1) := by decide +kernel
theorem d_Mod_unit_109 : decode b_Mod_unit 109 = .ok (.getfield 26, 3) := by decide +kernel
theorem d_Mod_unit_112 : decode b_Mod_unit 112 = .ok (.aload_n 0, 1) := by decide +kernel
theorem d_Mod_unit_113 : decode b_Mod_unit 113 = .ok (.getfield 106, 3) := by decide +kernel
theorem d_Mod_unit_116 : decode b_Mod_unit 116 = .ok (.iconst 0, 1) := by decide +kernel
theorem d_Mod_unit_117 : decode b_Mod_unit 117 = .ok (.iastore, 1) := by decide +kernel
theorem d_Mod_unit_118 : decode b_Mod_unit 118 = .ok (.aload_n 0, 1) := by decide +kernel
theorem d_Mod_unit_119 : decode b_Mod_unit 119 = .ok (.dup, 1) := by decide +kernel
theorem d_Mod_unit_120 : decode b_Mod_unit 120 = .ok (.getfield 109, 3) := by decide +kernel
theorem d_Mod_unit_123 : decode b_Mod_unit 123 = .ok (.iconst 1, 1) := by decide +kernel
theorem d_Mod_unit_124 : decode b_Mod_unit 124 = .ok (.iadd, 1) := by decide +kernel
theorem d_Mod_unit_125 : decode b_Mod_unit 125 = .ok (.putfield 109, 3) := by decide +kernel
theorem d_Mod_unit_128 : decode b_Mod_unit 128 = .ok (.iconst 1, 1) := by decide +kernel
theorem d_Mod_unit_129 : decode b_Mod_unit 129 = .ok (.istore_n 1, 1) := by decide +kernel
theorem d_Mod_unit_130 : decode b_Mod_unit 130 = .ok (.aload_n 0, 1) := by decide +kernel
theorem d_Mod_unit_131 : decode b_Mod_unit 131 = .ok (.getfield 29, 3) := by decide +kernel
theorem d_Mod_unit_134 : decode b_Mod_unit 134 = .ok (.aload_n 0, 1) := by decide +kernel
theorem d_Mod_unit_135 : decode b_Mod_unit 135 = .ok (.getfield 106, 3) := by decide +kernel
theorem d_Mod_unit_138 : decode b_Mod_unit 138 = .ok (.iconst 0, 1) := by decide +kernel
theorem d_Mod_unit_139 : decode b_Mod_unit 139 = .ok (.iastore, 1) := by decide +kernel
theorem d_Mod_unit_140 : decode b_Mod_unit 140 = .ok (.aload_n 0, 1) := by decide +kernel
theorem d_Mod_unit_141 : decode b_Mod_unit 141 = .ok (.dup, 1) := by decide +kernel
theorem d_Mod_unit_142 : decode b_Mod_unit 142 = .ok (.getfield 106, 3) := by decide +kernel
theorem d_Mod_unit_145 : decode b_Mod_unit 145 = .ok (.iconst 1, 1) := by decide +kernel
theorem d_Mod_unit_146 : decode b_Mod_unit 146 = .ok (.iadd, 1) := by decide +kernel
theorem d_Mod_unit_147 : decode b_Mod_unit 147 = .ok (.putfield 106, 3) := by decide +kernel
theorem d_Mod_unit_150 : decode b_Mod_unit 150 = .ok (.aload_n 0, 1) := by decide +kernel
theorem d_Mod_unit_151 : decode b_Mod_unit 151 = .ok (.getfield 106, 3) := by decide +kernel
theorem d_Mod_unit_154 : decode b_Mod_unit 154 = .ok (.bipush 16, 2) := by decide +kernel
theorem d_Mod_unit_156 : decode b_Mod_unit 156 = .ok (.if_icmp .ne 13, 3) := by decide +kernel
theorem d_Mod_unit_159 : decode b_Mod_unit 159 = .ok (.aload_n 0, 1) := by decide +kernel
theorem d_Mod_unit_160 : decode b_Mod_unit 160 = .ok (.iconst 0, 1) := by decide +kernel
theorem d_Mod_unit_161 : decode b_Mod_unit 161 = .ok (.putfield 106, 3) := by decide +kernel
theorem d_Mod_unit_164 : decode b_Mod_unit 164 = .ok (.aload_n 0, 1) := by decide +kernel
theorem d_Mod_unit_165 : decode b_Mod_unit 165 = .ok (.iconst 0, 1) := by decide +kernel
theorem d_Mod_unit_166 : decode b_Mod_unit 166 = .ok (.putfield 92, 3) := by decide +kernel
theorem d_Mod_unit_169 : decode b_Mod_unit 169 = .ok (.iload_n 1, 1) := by decide +kernel
theorem d_Mod_unit_170 : decode b_Mod_unit 170 = .ok (.ireturn, 1) := by decide +kernel
theorem d_Mod_setting_0 : decode b_Mod_setting 0 = .ok (.lload_n 2, 1) := by decide +kernel
theorem d_Mod_setting_1 : decode b_Mod_setting 1 = .ok (.ldc2_w 62, 3) := by decide +kernel
theorem d_Mod_setting_4 : decode b_Mod_setting 4 = .ok (.lcmp, 1) := by decide +kernel
theorem d_Mod_setting_5 : decode b_Mod_setting 5 = .ok (.ifCond .ne 9, 3) := by decide +kernel
theorem d_Mod_setting_8 : decode b_Mod_setting 8 = .ok (.aload_n 0, 1) := by decide +kernel
theorem d_Mod_setting_9 : decode b_Mod_setting 9 = .ok (.iconst 3, 1) := by decide +kernel
theorem d_Mod_setting_10 : decode b_Mod_setting 10 = .ok (.putfield 141, 3) := by decide +kernel
theorem d_Mod_setting_13 : decode b_Mod_setting 13 = .ok (.return_, 1) := by decide +kernel
theorem d_Mod_setting_14 : decode b_Mod_setting 14 = .ok (.iload_n 1, 1) := by decide +kernel
theorem d_Mod_setting_15 : decode b_Mod_setting 15 = .ok (.istore 6, 2) := by decide +kernel
theorem d_Mod_setting_17 : decode b_Mod_setting 17 = .ok (.iconst 1, 1) := by decide +kernel
theorem d_Mod_setting_18 : decode b_Mod_setting 18 = .ok (.istore 7, 2) := by decide +kernel
theorem d_Mod_setting_20 : decode b_Mod_setting 20 = .ok (.aload_n 0, 1) := by decide +kernel
theorem d_Mod_setting_21 : decode b_Mod_setting 21 = .ok (.iload 6, 2) := by decide +kernel
theorem d_Mod_setting_23 : decode b_Mod_setting 23 = .ok (.lload_n 2, 1) := by decide +kernel
theorem d_Mod_setting_24 : decode b_Mod_setting 24 = .ok (.invokevirtual 131, 3) := by decide +kernel
theorem d_Mod_setting_27 : decode b_Mod_setting 27 = .ok (.ifCond .ge 37, 3) := by decide +kernel
theorem d_Mod_setting_30 : decode b_Mod_setting 30 = .ok (.aload_n 0, 1) := by decide +kernel
theorem d_Mod_setting_31 : decode b_Mod_setting 31 = .ok (.iload 6, 2) := by decide +kernel
theorem d_Mod_setting_33 : decode b_Mod_setting 33 = .ok (.lconst 1, 1) := by decide +kernel
theorem d_Mod_setting_34 : decode b_Mod_setting 34 = .ok (.invokevirtual 138, 3) := by decide +kernel
theorem d_Mod_setting_37 : decode b_Mod_setting 37 = .ok (.ifCond .lt 27, 3) := by decide +kernel
theorem d_Mod_setting_40 : decode b_Mod_setting 40 = .ok (.aload_n 0, 1) := by decide +kernel
theorem d_Mod_setting_41 : decode b_Mod_setting 41 = .ok (.iload 6, 2) := by decide +kernel
theorem d_Mod_setting_43 : decode b_Mod_setting 43 = .ok (.lconst 1, 1) := by decide +kernel
theorem d_Mod_setting_44 : decode b_Mod_setting 44 = .ok (.invokevirtual 138, 3) := by decide +kernel
theorem d_Mod_setting_47 : decode b_Mod_setting 47 = .ok (.istore 6, 2) := by decide +kernel
theorem d_Mod_setting_49 : decode b_Mod_setting 49 = .ok (.iinc 7 1, 3) := by decide +kernel
theorem d_Mod_setting_52 : decode b_Mod_setting 52 = .ok (.iload 7, 2) := by decide +kernel
theorem d_Mod_setting_54 : decode b_Mod_setting 54 = .ok (.iconst 5, 1) := by decide +kernel
theorem d_Mod_setting_55 : decode b_Mod_setting 55 = .ok (.if_icmp .le (-35), 3) := by decide +kernel
theorem d_Mod_setting_58 : decode b_Mod_setting 58 = .ok (.aload_n 0, 1) := by decide +kernel
theorem d_Mod_setting_59 : decode b_Mod_setting 59 = .ok (.iconst 2, 1) := by decide +kernel
theorem d_Mod_setting_60 : decode b_Mod_setting 60 = .ok (.putfield 141, 3) := by decide +kernel
theorem d_Mod_setting_63 : decode b_Mod_setting 63 = .ok (.return_, 1) := by decide +kernel
theorem d_Mod_setting_64 : decode b_Mod_setting 64 = .ok (.aload_n 0, 1) := by decide +kernel
theorem d_Mod_setting_65 : decode b_Mod_setting 65 = .ok (.iload 6, 2) := by decide +kernel
theorem d_Mod_setting_67 : decode b_Mod_setting 67 = .ok (.lload_n 2, 1) := by decide +kernel
theorem d_Mod_setting_68 : decode b_Mod_setting 68 = .ok (.invokevirtual 131, 3) := by decide +kernel
theorem d_Mod_setting_71 : decode b_Mod_setting 71 = .ok (.istore 8, 2) := by decide +kernel
theorem d_Mod_setting_73 : decode b_Mod_setting 73 = .ok (.lload 4, 2) := by decide +kernel
theorem d_Mod_setting_75 : decode b_Mod_setting 75 = .ok (.ldc2_w 62, 3) := by decide +kernel
theorem d_Mod_setting_78 : decode b_Mod_setting 78 = .ok (.lcmp, 1) := by decide +kernel
theorem d_Mod_setting_79 : decode b_Mod_setting 79 = .ok (.ifCond .ne 101, 3) := by decide +kernel
theorem d_Mod_setting_82 : decode b_Mod_setting 82 = .ok (.iload 8, 2) := by decide +kernel
theorem d_Mod_setting_84 : decode b_Mod_setting 84 = .ok (.ifCond .ge 4, 3) := by decide +kernel
theorem d_Mod_setting_87 : decode b_Mod_setting 87 = .ok (.return_, 1) := by decide +kernel
theorem d_Mod_setting_88 : decode b_Mod_setting 88 = .ok (.aload_n 0, 1) := by decide +kernel
theorem d_Mod_setting_89 : decode b_Mod_setting 89 = .ok (.getfield 32, 3) := by decide +kernel
theorem d_Mod_setting_92 : decode b_Mod_setting 92 = .ok (.iload 6, 2) := by decide +kernel
theorem d_Mod_setting_94 : decode b_Mod_setting 94 = .ok (.dup2, 1) := by decide +kernel
theorem d_Mod_setting_95 : decode b_Mod_setting 95 = .ok (.iaload, 1) := by decide +kernel
theorem d_Mod_setting_96 : decode b_Mod_setting 96 = .ok (.iconst 1, 1) := by decide +kernel
theorem d_Mod_setting_97 : decode b_Mod_setting 97 = .ok (.isub, 1) := by decide +kernel
theorem d_Mod_setting_98 : decode b_Mod_setting 98 = .ok (.iastore, 1) := by decide +kernel
theorem d_Mod_setting_99 : decode b_Mod_setting 99 = .ok (.iload 8, 2) := by decide +kernel
theorem d_Mod_setting_101 : decode b_Mod_setting 101 = .ok (.istore 9, 2) := by decide +kernel
theorem d_Mod_setting_103 : decode b_Mod_setting 103 = .ok (.iload 9, 2) := by decide +kernel
theorem d_Mod_setting_105 : decode b_Mod_setting 105 = .ok (.aload_n 0, 1) := by decide +kernel
theorem d_Mod_setting_106 : decode b_Mod_setting 106 = .ok (.getfield 32, 3) := by decide +kernel
theorem d_Mod_setting_109 : decode b_Mod_setting 109 = .ok (.iload 6, 2) := by decide +kernel
theorem d_Mod_setting_111 : decode b_Mod_setting 111 = .ok (.iaload, 1) := by decide +kernel
theorem d_Mod_setting_112 : decode b_Mod_setting 112 = .ok (.if_icmp .ge 65, 3) := by decide +kernel
theorem d_Mod_setting_115 : decode b_Mod_setting 115 = .ok (.aload_n 0, 1) := by decide +kernel
theorem d_Mod_setting_116 : decode b_Mod_setting 116 = .ok (.getfield 38, 3) := by decide +kernel
theorem d_Mod_setting_119 : decode b_Mod_setting 119 = .ok (.iload 6, 2) := by decide +kernel
theorem d_Mod_setting_121 : decode b_Mod_setting 121 = .ok (.bipush 6, 2) := by decide +kernel
theorem d_Mod_setting_123 : decode b_Mod_setting 123 = .ok (.imul, 1) := by decide +kernel
theorem d_Mod_setting_124 : decode b_Mod_setting 124 = .ok (.iload 9, 2) := by decide +kernel
theorem d_Mod_setting_126 : decode b_Mod_setting 126 = .ok (.iadd, 1) := by decide +kernel
theorem d_Mod_setting_127 : decode b_Mod_setting 127 = .ok (.aload_n 0, 1) := by decide +kernel
theorem d_Mod_setting_128 : decode b_Mod_setting 128 = .ok (.getfield 38, 3) := by decide +kernel
theorem d_Mod_setting_131 : decode b_Mod_setting 131 = .ok (.iload 6, 2) := by decide +kernel
theorem d_Mod_setting_133 : decode b_Mod_setting 133 = .ok (.bipush 6, 2) := by decide +kernel
theorem d_Mod_setting_135 : decode b_Mod_setting 135 = .ok (.imul, 1) := by decide +kernel
theorem d_Mod_setting_136 : decode b_Mod_setting 136 = .ok (.iload 9, 2) := by decide +kernel
theorem d_Mod_setting_138 : decode b_Mod_setting 138 = .ok (.iadd, 1) := by decide +kernel
theorem d_Mod_setting_139 : decode b_Mod_setting 139 = .ok (.iconst 1, 1) := by decide +kernel
theorem d_Mod_setting_140 : decode b_Mod_setting 140 = .ok (.iadd, 1) := by decide +kernel
theorem d_Mod_setting_141 : decode b_Mod_setting 141 = .ok (.laload, 1) := by decide +kernel
theorem d_Mod_setting_142 : decode b_Mod_setting 142 = .ok (.lastore, 1) := by decide +kernel
theorem d_Mod_setting_143 : decode b_Mod_setting 143 = .ok (.aload_n 0, 1) := by decide +kernel
theorem d_Mod_setting_144 : decode b_Mod_setting 144 = .ok (.getfield 41, 3) := by decide +kernel
theorem d_Mod_setting_147 : decode b_Mod_setting 147 = .ok (.iload 6, 2) := by decide +kernel
theorem d_Mod_setting_149 : decode b_Mod_setting 149 = .ok (.bipush 6, 2) := by decide +kernel
theorem d_Mod_setting_151 : decode b_Mod_setting 151 = .ok (.imul, 1) := by decide +kernel
theorem d_Mod_setting_152 : decode b_Mod_setting 152 = .ok (.iload 9, 2) := by decide +kernel
theorem d_Mod_setting_154 : decode b_Mod_setting 154 = .ok (.iadd, 1) := by decide +kernel
theorem d_Mod_setting_155 : decode b_Mod_setting 155 = .ok (.aload_n 0, 1) := by decide +kernel
theorem d_Mod_setting_156 : decode b_Mod_setting 156 = .ok (.getfield 41, 3) := by decide +kernel
theorem d_Mod_setting_159 : decode b_Mod_setting 159 = .ok (.iload 6, 2) := by decide +kernel
theorem d_Mod_setting_161 : decode b_Mod_setting 161 = .ok (.bipush 6, 2) := by decide +kernel
theorem d_Mod_setting_163 : decode b_Mod_setting 163 = .ok (.imul, 1) := by decide +kernel
theorem d_Mod_setting_164 : decode b_Mod_setting 164 = .ok (.iload 9, 2) := by decide +kernel
theorem d_Mod_setting_166 : decode b_Mod_setting 166 = .ok (.iadd, 1) := by decide +kernel
theorem d_Mod_setting_167 : decode b_Mod_setting 167 = .ok (.iconst 1, 1) := by decide +kernel
theorem d_Mod_setting_168 : decode b_Mod_setting 168 = .ok (.iadd, 1) := by decide +kernel
theorem d_Mod_setting_169 : decode b_Mod_setting 169 = .ok (.laload, 1) := by decide +kernel
theorem d_Mod_setting_170 : decode b_Mod_setting 170 = .ok (.lastore, 1) := by decide +kernel
theorem d_Mod_setting_171 : decode b_Mod_setting 171 = .ok (.iinc 9 1, 3) := by decide +kernel
theorem d_Mod_setting_174 : decode b_Mod_setting 174 = .ok (.goto (-71), 3) := by decide +kernel
theorem d_Mod_setting_177 : decode b_Mod_setting 177 = .ok (.goto 94, 3) := by decide +kernel
theorem d_Mod_setting_180 : decode b_Mod_setting 180 = .ok (.iload 8, 2) := by decide +kernel
theorem d_Mod_setting_182 : decode b_Mod_setting 182 = .ok (.ifCond .lt 21, 3) := by decide +kernel
theorem d_Mod_setting_185 : decode b_Mod_setting 185 = .ok (.aload_n 0, 1) := by decide +kernel
theorem d_Mod_setting_186 : decode b_Mod_setting 186 = .ok (.getfield 41, 3) := by decide +kernel
theorem d_Mod_setting_189 : decode b_Mod_setting 189 = .ok (.iload 6, 2) := by decide +kernel
theorem d_Mod_setting_191 : decode b_Mod_setting 191 = .ok (.bipush 6, 2) := by decide +kernel
theorem d_Mod_setting_193 : decode b_Mod_setting 193 = .ok (.imul, 1) := by decide +kernel
theorem d_Mod_setting_194 : decode b_Mod_setting 194 = .ok (.iload 8, 2) := by decide +kernel
theorem d_Mod_setting_196 : decode b_Mod_setting 196 = .ok (.iadd, 1) := by decide +kernel
theorem d_Mod_setting_197 : decode b_Mod_setting 197 = .ok (.lload 4, 2) := by decide +kernel
theorem d_Mod_setting_199 : decode b_Mod_setting 199 = .ok (.lastore, 1) := by decide +kernel
theorem d_Mod_setting_200 : decode b_Mod_setting 200 = .ok (.goto 71, 3) := by decide +kernel
theorem d_Mod_setting_203 : decode b_Mod_setting 203 = .ok (.aload_n 0, 1) := by decide +kernel
theorem d_Mod_setting_204 : decode b_Mod_setting 204 = .ok (.getfield 32, 3) := by decide +kernel
theorem d_Mod_setting_207 : decode b_Mod_setting 207 = .ok (.iload 6, 2) := by decide +kernel
theorem d_Mod_setting_209 : decode b_Mod_setting 209 = .ok (.iaload, 1) := by decide +kernel
theorem d_Mod_setting_210 : decode b_Mod_setting 210 = .ok (.bipush 6, 2) := by decide +kernel
theorem d_Mod_setting_212 : decode b_Mod_setting 212 = .ok (.if_icmp .ne 9, 3) := by decide +kernel
theorem d_Mod_setting_215 : decode b_Mod_setting 215 = .ok (.aload_n 0, 1) := by decide +kernel
theorem d_Mod_setting_216 : decode b_Mod_setting 216 = .ok (.iconst 2, 1) := by decide +kernel
theorem d_Mod_setting_217 : decode b_Mod_setting 217 = .ok (.putfield 141, 3) := by decide +kernel
theorem d_Mod_setting_220 : decode b_Mod_setting 220 = .ok (.return_, 1) := by decide +kernel
theorem d_Mod_setting_221 : decode b_Mod_setting 221 = .ok (.aload_n 0, 1) := by decide +kernel
theorem d_Mod_setting_222 : decode b_Mod_setting 222 = .ok (.getfield 38, 3) := by decide +kernel
theorem d_Mod_setting_225 : decode b_Mod_setting 225 = .ok (.iload 6, 2) := by decide +kernel
theorem d_Mod_setting_227 : decode b_Mod_setting 227 = .ok (.bipush 6, 2) := by decide +kernel
theorem d_Mod_setting_229 : decode b_Mod_setting 229 = .ok (.imul, 1) := by decide +kernel
theorem d_Mod_setting_230 : decode b_Mod_setting 230 = .ok (.aload_n 0, 1) := by decide +kernel
theorem d_Mod_setting_231 : decode b_Mod_setting 231 = .ok (.getfield 32, 3) := by decide +kernel
theorem d_Mod_setting_234 : decode b_Mod_setting 234 = .ok (.iload 6, 2) := by decide +kernel
theorem d_Mod_setting_236 : decode b_Mod_setting 236 = .ok (.iaload, 1) := by decide +kernel
theorem d_Mod_setting_237 : decode b_Mod_setting 237 = .ok (.iadd, 1) := by decide +kernel
theorem d_Mod_setting_238 : decode b_Mod_setting 238 = .ok (.lload_n 2, 1) := by decide +kernel
theorem d_Mod_setting_239 : decode b_Mod_setting 239 = .ok (.lastore, 1) := by decide +kernel
theorem d_Mod_setting_240 : decode b_Mod_setting 240 = .ok (.aload_n 0, 1) := by decide +kernel
theorem d_Mod_setting_241 : decode b_Mod_setting 241 = .ok (.getfield 41, 3) := by decide +kernel
theorem d_Mod_setting_244 : decode b_Mod_setting 244 = .ok (.iload 6, 2) := by decide +kernel
theorem d_Mod_setting_246 : decode b_Mod_setting 246 = .ok (.bipush 6, 2) := by decide +kernel
theorem d_Mod_setting_248 : decode b_Mod_setting 248 = .ok (.imul, 1) := by decide +kernel
theorem d_Mod_setting_249 : decode b_Mod_setting 249 = .ok (.aload_n 0, 1) := by decide +kernel
theorem d_Mod_setting_250 : decode b_Mod_setting 250 = .ok (.getfield 32, 3) := by decide +kernel
theorem d_Mod_setting_253 : decode b_Mod_setting 253 = .ok (.iload 6, 2) := by decide +kernel
theorem d_Mod_setting_255 : decode b_Mod_setting 255 = .ok (.iaload, 1) := by decide +kernel
theorem d_Mod_setting_256 : decode b_Mod_setting 256 = .ok (.iadd, 1) := by decide +kernel
theorem d_Mod_setting_257 : decode b_Mod_setting 257 = .ok (.lload 4, 2) := by decide +kernel
theorem d_Mod_setting_259 : decode b_Mod_setting 259 = .ok (.lastore, 1) := by decide +kernel
theorem d_Mod_setting_260 : decode b_Mod_setting 260 = .ok (.aload_n 0, 1) := by decide +kernel
theorem d_Mod_setting_261 : decode b_Mod_setting 261 = .ok (.getfield 32, 3) := by decide +kernel
theorem d_Mod_setting_264 : decode b_Mod_setting 264 = .ok (.iload 6, 2) := by decide +kernel
theorem d_Mod_setting_266 : decode b_Mod_setting 266 = .ok (.dup2, 1) := by decide +kernel
theorem d_Mod_setting_267 : decode b_Mod_setting 267 = .ok (.iaload, 1) := by decide +kernel
theorem d_Mod_setting_268 : decode b_Mod_setting 268 = .ok (.iconst 1, 1) := by decide +kernel
theorem d_Mod_setting_269 : decode b_Mod_setting 269 = .ok (.iadd, 1) := by decide +kernel
theorem d_Mod_setting_270 : decode b_Mod_setting 270 = .ok (.iastore, 1) := by decide +kernel
theorem d_Mod_setting_271 : decode b_Mod_setting 271 = .ok (.aload_n 0, 1) := by decide +kernel
theorem d_Mod_setting_272 : decode b_Mod_setting 272 = .ok (.iload 6, 2) := by decide +kernel
theorem d_Mod_setting_274 : decode b_Mod_setting 274 = .ok (.invokevirtual 144, 3) := by decide +kernel
theorem d_Mod_setting_277 : decode b_Mod_setting 277 = .ok (.return_, 1) := by decide +kernel
theorem d_Mod_resume_0 : decode b_Mod_resume 0 = .ok (.aload_n 0, 1) := by decide +kernel
theorem d_Mod_resume_1 : decode b_Mod_resume 1 = .ok (.aload_n 0, 1) := by decide +kernel
theorem d_Mod_resume_2 : decode b_Mod_resume 2 = .ok (.iload_n 1, 1) := by decide +kernel
theorem d_Mod_resume_3 : decode b_Mod_resume 3 = .ok (.invokevirtual 78, 3) := by decide +kernel
theorem d_Mod_resume_6 : decode b_Mod_resume 6 = .ok (.ifCond .ne 19, 3) := by decide +kernel
theorem d_Mod_resume_9 : decode b_Mod_resume 9 = .ok (.aload_n 0, 1) := by decide +kernel
theorem d_Mod_resume_10 : decode b_Mod_resume 10 = .ok (.iload_n 2, 1) := by decide +kernel
theorem d_Mod_resume_11 : decode b_Mod_resume 11 = .ok (.invokevirtual 78, 3) := by decide +kernel
theorem d_Mod_resume_14 : decode b_Mod_resume 14 = .ok (.ifCond .ne 11, 3) := by decide +kernel
theorem d_Mod_resume_17 : decode b_Mod_resume 17 = .ok (.aload_n 0, 1) := by decide +kernel
theorem d_Mod_resume_18 : decode b_Mod_resume 18 = .ok (.iload_n 3, 1) := by decide +kernel
theorem d_Mod_resume_19 : decode b_Mod_resume 19 = .ok (.invokevirtual 78, 3) := by decide +kernel
theorem d_Mod_resume_22 : decode b_Mod_resume 22 = .ok (.ifCond .eq 7, 3) := by decide +kernel
theorem d_Mod_resume_25 : decode b_Mod_resume 25 = .ok (.iconst 1, 1) := by decide +kernel
theorem d_Mod_resume_26 : decode b_Mod_resume 26 = .ok (.goto 4, 3) := by decide +kernel
theorem d_Mod_resume_29 : decode b_Mod_resume 29 = .ok (.iconst 0, 1) := by decide +kernel
theorem d_Mod_resume_30 : decode b_Mod_resume 30 = .ok (.putfield 64, 3) := by decide +kernel
theorem d_Mod_resume_33 : decode b_Mod_resume 33 = .ok (.aload_n 0, 1) := by decide +kernel
theorem d_Mod_resume_34 : decode b_Mod_resume 34 = .ok (.getfield 64, 3) := by decide +kernel
theorem d_Mod_resume_37 : decode b_Mod_resume 37 = .ok (.ifCond .eq 5, 3) := by decide +kernel
theorem d_Mod_resume_40 : decode b_Mod_resume 40 = .ok (.lconst 0, 1) := by decide +kernel
theorem d_Mod_resume_41 : decode b_Mod_resume 41 = .ok (.lreturn, 1) := by decide +kernel
theorem d_Mod_resume_42 : decode b_Mod_resume 42 = .ok (.aload_n 0, 1) := by decide +kernel
theorem d_Mod_resume_43 : decode b_Mod_resume 43 = .ok (.iconst 0, 1) := by decide +kernel
theorem d_Mod_resume_44 : decode b_Mod_resume 44 = .ok (.putfield 141, 3) := by decide +kernel
theorem d_Mod_resume_47 : decode b_Mod_resume 47 = .ok (.aload_n 0, 1) := by decide +kernel
theorem d_Mod_resume_48 : decode b_Mod_resume 48 = .ok (.iconst 0, 1) := by decide +kernel
theorem d_Mod_resume_49 : decode b_Mod_resume 49 = .ok (.putfield 86, 3) := by decide +kernel
theorem d_Mod_resume_52 : decode b_Mod_resume 52 = .ok (.aload_n 0, 1) := by decide +kernel
theorem d_Mod_resume_53 : decode b_Mod_resume 53 = .ok (.aload_n 0, 1) := by decide +kernel
theorem d_Mod_resume_54 : decode b_Mod_resume 54 = .ok (.getfield 22, 3) := by decide +kernel
theorem d_Mod_resume_57 : decode b_Mod_resume 57 = .ok (.iload_n 1, 1) := by decide +kernel
theorem d_Mod_resume_58 : decode b_Mod_resume 58 = .ok (.laload, 1) := by decide +kernel
theorem d_Mod_resume_59 : decode b_Mod_resume 59 = .ok (.aload_n 0, 1) := by decide +kernel
theorem d_Mod_resume_60 : decode b_Mod_resume 60 = .ok (.getfield 22, 3) := by decide +kernel
theorem d_Mod_resume_63 : decode b_Mod_resume 63 = .ok (.iload_n 2, 1) := by decide +kernel
theorem d_Mod_resume_64 : decode b_Mod_resume 64 = .ok (.laload, 1) := by decide +kernel
theorem d_Mod_resume_65 : decode b_Mod_resume 65 = .ok (.invokevirtual 173, 3) := by decide +kernel
theorem d_Mod_resume_68 : decode b_Mod_resume 68 = .ok (.iconst 0, 1) := by decide +kernel
theorem d_Mod_resume_69 : decode b_Mod_resume 69 = .ok (.istore 4, 2) := by decide +kernel
theorem d_Mod_resume_71 : decode b_Mod_resume 71 = .ok (.aload_n 0, 1) := by decide +kernel
theorem d_Mod_resume_72 : decode b_Mod_resume 72 = .ok (.getfield 141, 3) := by decide +kernel
theorem d_Mod_resume_75 : decode b_Mod_resume 75 = .ok (.ifCond .ne 36, 3) := by decide +kernel
theorem d_Mod_resume_78 : decode b_Mod_resume 78 = .ok (.aload_n 0, 1) := by decide +kernel
theorem d_Mod_resume_79 : decode b_Mod_resume 79 = .ok (.getfield 86, 3) := by decide +kernel
theorem d_Mod_resume_82 : decode b_Mod_resume 82 = .ok (.ifCond .le 29, 3) := by decide +kernel
theorem d_Mod_resume_85 : decode b_Mod_resume 85 = .ok (.iload 4, 2) := by decide +kernel
theorem d_Mod_resume_87 : decode b_Mod_resume 87 = .ok (.sipush 200, 3) := by decide +kernel
theorem d_Mod_resume_90 : decode b_Mod_resume 90 = .ok (.if_icmp .ne 11, 3) := by decide +kernel
theorem d_Mod_resume_93 : decode b_Mod_resume 93 = .ok (.aload_n 0, 1) := by decide +kernel
theorem d_Mod_resume_94 : decode b_Mod_resume 94 = .ok (.iconst 2, 1) := by decide +kernel
theorem d_Mod_resume_95 : decode b_Mod_resume 95 = .ok (.putfield 141, 3) := by decide +kernel
theorem d_Mod_resume_98 : decode b_Mod_resume 98 = .ok (.goto 7, 3) := by decide +kernel
theorem d_Mod_resume_101 : decode b_Mod_resume 101 = .ok (.aload_n 0, 1) := by decide +kernel
theorem d_Mod_resume_102 : decode b_Mod_resume 102 = .ok (.invokevirtual 191, 3) := by decide +kernel
theorem d_Mod_resume_105 : decode b_Mod_resume 105 = .ok (.iinc 4 1, 3) := by decide +kernel
theorem d_Mod_resume_108 : decode b_Mod_resume 108 = .ok (.goto (-37), 3) := by decide +kernel
theorem d_Mod_resume_111 : decode b_Mod_resume 111 = .ok (.aload_n 0, 1) := by decide +kernel
theorem d_Mod_resume_112 : decode b_Mod_resume 112 = .ok (.aload_n 0, 1) := by decide +kernel
theorem d_Mod_resume_113 : decode b_Mod_resume 113 = .ok (.getfield 141, 3) := by decide +kernel
theorem d_Mod_resume_116 : decode b_Mod_resume 116 = .ok (.putfield 64, 3) := by decide +kernel
theorem d_Mod_resume_119 : decode b_Mod_resume 119 = .ok (.iconst 0, 1) := by decide +kernel
theorem d_Mod_resume_120 : decode b_Mod_resume 120 = .ok (.istore 5, 2) := by decide +kernel
theorem d_Mod_resume_122 : decode b_Mod_resume 122 = .ok (.iload 5, 2) := by decide +kernel
theorem d_Mod_resume_124 : decode b_Mod_resume 124 = .ok (.aload_n 0, 1) := by decide +kernel
theorem d_Mod_resume_125 : decode b_Mod_resume 125 = .ok (.getfield 86, 3) := by decide +kernel
theorem d_Mod_resume_128 : decode b_Mod_resume 128 = .ok (.if_icmp .ge 22, 3) := by decide +kernel
theorem d_Mod_resume_131 : decode b_Mod_resume 131 = .ok (.aload_n 0, 1) := by decide +kernel
theorem d_Mod_resume_132 : decode b_Mod_resume 132 = .ok (.getfield 53, 3) := by decide +kernel
theorem d_Mod_resume_135 : decode b_Mod_resume 135 = .ok (.aload_n 0, 1) := by decide +kernel
theorem d_Mod_resume_136 : decode b_Mod_resume 136 = .ok (.getfield 59, 3) := by decide +kernel
theorem d_Mod_resume_139 : decode b_Mod_resume 139 = .ok (.iload 5, 2) := by decide +kernel
theorem d_Mod_resume_141 : decode b_Mod_resume 141 = .ok (.iaload, 1) := by decide +kernel
theorem d_Mod_resume_142 : decode b_Mod_resume 142 = .ok (.iconst 3, 1) := by decide +kernel
theorem d_Mod_resume_143 : decode b_Mod_resume 143 = .ok (.iastore, 1) := by decide +kernel
theorem d_Mod_resume_144 : decode b_Mod_resume 144 = .ok (.iinc 5 1, 3) := by decide +kernel
theorem d_Mod_resume_147 : decode b_Mod_resume 147 = .ok (.goto (-25), 3) := by decide +kernel
theorem d_Mod_resume_150 : decode b_Mod_resume 150 = .ok (.aload_n 0, 1) := by decide +kernel
theorem d_Mod_resume_151 : decode b_Mod_resume 151 = .ok (.iconst 0, 1) := by decide +kernel
theorem d_Mod_resume_152 : decode b_Mod_resume 152 = .ok (.putfield 86, 3) := by decide +kernel
theorem d_Mod_resume_155 : decode b_Mod_resume 155 = .ok (.aload_n 0, 1) := by decide +kernel
theorem d_Mod_resume_156 : decode b_Mod_resume 156 = .ok (.getfield 64, 3) := by decide +kernel
theorem d_Mod_resume_159 : decode b_Mod_resume 159 = .ok (.ifCond .eq 5, 3) := by decide +kernel
theorem d_Mod_resume_162 : decode b_Mod_resume 162 = .ok (.lconst 0, 1) := by decide +kernel
theorem d_Mod_resume_163 : decode b_Mod_resume 163 = .ok (.lreturn, 1) := by decide +kernel
theorem d_Mod_resume_164 : decode b_Mod_resume 164 = .ok (.aload_n 0, 1) := by decide +kernel
theorem d_Mod_resume_165 : decode b_Mod_resume 165 = .ok (.getfield 22, 3) := by decide +kernel
theorem d_Mod_resume_168 : decode b_Mod_resume 168 = .ok (.iload_n 3, 1) := by decide +kernel
theorem d_Mod_resume_169 : decode b_Mod_resume 169 = .ok (.aload_n 0, 1) := by decide +kernel
theorem d_Mod_resume_170 : decode b_Mod_resume 170 = .ok (.getfield 162, 3) := by decide +kernel
theorem d_Mod_resume_173 : decode b_Mod_resume 173 = .ok (.lastore, 1) := by decide +kernel
theorem d_Mod_resume_174 : decode b_Mod_resume 174 = .ok (.aload_n 0, 1) := by decide +kernel
theorem d_Mod_resume_175 : decode b_Mod_resume 175 = .ok (.getfield 162, 3) := by decide +kernel
theorem d_Mod_resume_178 : decode b_Mod_resume 178 = .ok (.lreturn, 1) := by decide +kernel
theorem d_Mod_step_0 : decode b_Mod_step 0 = .ok (.aload_n 0, 1) := by decide +kernel
theorem d_Mod_step_1 : decode b_Mod_step 1 = .ok (.getfield 59, 3) := by decide +kernel
theorem d_Mod_step_4 : decode b_Mod_step 4 = .ok (.aload_n 0, 1) := by decide +kernel
theorem d_Mod_step_5 : decode b_Mod_step 5 = .ok (.getfield 86, 3) := by decide +kernel
theorem d_Mod_step_8 : decode b_Mod_step 8 = .ok (.iconst 1, 1) := by decide +kernel
theorem d_Mod_step_9 : decode b_Mod_step 9 = .ok (.isub, 1) := by decide +kernel
theorem d_Mod_step_10 : decode b_Mod_step 10 = .ok (.iaload, 1) := by decide +kernel
theorem d_Mod_step_11 : decode b_Mod_step 11 = .ok (.istore_n 1, 1) := by decide +kernel
theorem d_Mod_step_12 : decode b_Mod_step 12 = .ok (.aload_n 0, 1) := by decide +kernel
theorem d_Mod_step_13 : decode b_Mod_step 13 = .ok (.getfield 47, 3) := by decide +kernel
theorem d_Mod_step_16 : decode b_Mod_step 16 = .ok (.iload_n 1, 1) := by decide +kernel
theorem d_Mod_step_17 : decode b_Mod_step 17 = .ok (.iaload, 1) := by decide +kernel
theorem d_Mod_step_18 : decode b_Mod_step 18 = .ok (.bipush 16, 2) := by decide +kernel
theorem d_Mod_step_20 : decode b_Mod_step 20 = .ok (.imul, 1) := by decide +kernel
theorem d_Mod_step_21 : decode b_Mod_step 21 = .ok (.aload_n 0, 1) := by decide +kernel
theorem d_Mod_step_22 : decode b_Mod_step 22 = .ok (.getfield 50, 3) := by decide +kernel
theorem d_Mod_step_25 : decode b_Mod_step 25 = .ok (.iload_n 1, 1) := by decide +kernel
theorem d_Mod_step_26 : decode b_Mod_step 26 = .ok (.iaload, 1) := by decide +kernel
theorem d_Mod_step_27 : decode b_Mod_step 27 = .ok (.iadd, 1) := by decide +kernel
theorem d_Mod_step_28 : decode b_Mod_step 28 = .ok (.istore_n 2, 1) := by decide +kernel
theorem d_Mod_step_29 : decode b_Mod_step 29 = .ok (.aload_n 0, 1) := by decide +kernel
theorem d_Mod_step_30 : decode b_Mod_step 30 = .ok (.getfield 50, 3) := by decide +kernel
theorem d_Mod_step_33 : decode b_Mod_step 33 = .ok (.iload_n 1, 1) := by decide +kernel
theorem d_Mod_step_34 : decode b_Mod_step 34 = .ok (.iaload, 1) := by decide +kernel
theorem d_Mod_step_35 : decode b_Mod_step 35 = .ok (.bipush 15, 2) := by decide +kernel
theorem d_Mod_step_37 : decode b_Mod_step 37 = .ok (.if_icmp .gt 12, 3) := by decide +kernel
theorem d_Mod_step_40 : decode b_Mod_step 40 = .ok (.aload_n 0, 1) := by decide +kernel
theorem d_Mod_step_41 : decode b_Mod_step 41 = .ok (.getfield 7, 3) := by decide +kernel
theorem d_Mod_step_44 : decode b_Mod_step 44 = .ok (.iload_n 2, 1) := by decide +kernel
theorem d_Mod_step_45 : decode b_Mod_step 45 = .ok (.iaload, 1) := by decide +kernel
theorem d_Mod_step_46 : decode b_Mod_step 46 = .ok (.ifCond .ge 9, 3) := by decide +kernel
theorem d_Mod_step_49 : decode b_Mod_step 49 = .ok (.aload_n 0, 1) := by decide +kernel
theorem d_Mod_step_50 : decode b_Mod_step 50 = .ok (.iconst 3, 1) := by decide +kernel
theorem d_Mod_step_51 : decode b_Mod_step 51 = .ok (.putfield 141, 3) := by decide +kernel
theorem d_Mod_step_54 : decode b_Mod_step 54 = .ok (.return_, 1) := by decide +kernel
theorem d_Mod_step_55 : decode b_Mod_step 55 = .ok (.aload_n 0, 1) := by decide +kernel
theorem d_Mod_step_56 : decode b_Mod_step 56 = .ok (.dup, 1) := by decide +kernel
theorem d_Mod_step_57 : decode b_Mod_step 57 = .ok (.getfield 170, 3) := by decide +kernel
theorem d_Mod_step_60 : decode b_Mod_step 60 = .ok (.iconst 1, 1) := by decide +kernel
theorem d_Mod_step_61 : decode b_Mod_step 61 = .ok (.iadd, 1) := by decide +kernel
theorem d_Mod_step_62 : decode b_Mod_step 62 = .ok (.putfield 170, 3) := by decide +kernel
theorem d_Mod_step_65 : decode b_Mod_step 65 = .ok (.aload_n 0, 1) := by decide +kernel
theorem d_Mod_step_66 : decode b_Mod_step 66 = .ok (.getfield 7, 3) := by decide +kernel
theorem d_Mod_step_69 : decode b_Mod_step 69 = .ok (.iload_n 2, 1) := by decide +kernel
theorem d_Mod_step_70 : decode b_Mod_step 70 = .ok (.iaload, 1) := by decide +kernel
theorem d_Mod_step_71 : decode b_Mod_step 71 = .ok (.istore_n 3, 1) := by decide +kernel
theorem d_Mod_step_72 : decode b_Mod_step 72 = .ok (.iload_n 1, 1) := by decide +kernel
theorem d_Mod_step_73 : decode b_Mod_step 73 = .ok (.iconst 4, 1) := by decide +kernel
theorem d_Mod_step_74 : decode b_Mod_step 74 = .ok (.imul, 1) := by decide +kernel
theorem d_Mod_step_75 : decode b_Mod_step 75 = .ok (.aload_n 0, 1) := by decide +kernel
theorem d_Mod_step_76 : decode b_Mod_step 76 = .ok (.getfield 13, 3) := by decide +kernel
theorem d_Mod_step_79 : decode b_Mod_step 79 = .ok (.iload_n 2, 1) := by decide +kernel
theorem d_Mod_step_80 : decode b_Mod_step 80 = .ok (.iaload, 1) := by decide +kernel
theorem d_Mod_step_81 : decode b_Mod_step 81 = .ok (.iconst 3, 1) := by decide +kernel
theorem d_Mod_step_82 : decode b_Mod_step 82 = .ok (.iand, 1) := by decide +kernel
theorem d_Mod_step_83 : decode b_Mod_step 83 = .ok (.iadd, 1) := by decide +kernel
theorem d_Mod_step_84 : decode b_Mod_step 84 = .ok (.istore 4, 2) := by decide +kernel
theorem d_Mod_step_86 : decode b_Mod_step 86 = .ok (.aload_n 0, 1) := by decide +kernel
theorem d_Mod_step_87 : decode b_Mod_step 87 = .ok (.getfield 44, 3) := by decide +kernel
theorem d_Mod_step_90 : decode b_Mod_step 90 = .ok (.iload 4, 2) := by decide +kernel
theorem d_Mod_step_92 : decode b_Mod_step 92 = .ok (.laload, 1) := by decide +kernel
theorem d_Mod_step_93 : decode b_Mod_step 93 = .ok (.lstore 5, 2) := by decide +kernel
theorem d_Mod_step_95 : decode b_Mod_step 95 = .ok (.aload_n 0, 1) := by decide +kernel
theorem d_Mod_step_96 : decode b_Mod_step 96 = .ok (.getfield 44, 3) := by decide +kernel
theorem d_Mod_step_99 : decode b_Mod_step 99 = .ok (.iload_n 1, 1) := by decide +kernel
theorem d_Mod_step_100 : decode b_Mod_step 100 = .ok (.iconst 4, 1) := by decide +kernel
theorem d_Mod_step_101 : decode b_Mod_step 101 = .ok (.imul, 1) := by decide +kernel
theorem d_Mod_step_102 : decode b_Mod_step 102 = .ok (.aload_n 0, 1) := by decide +kernel
theorem d_Mod_step_103 : decode b_Mod_step 103 = .ok (.getfield 16, 3) := by decide +kernel
theorem d_Mod_step_106 : decode b_Mod_step 106 = .ok (.iload_n 2, 1) := by decide +kernel
theorem d_Mod_step_107 : decode b_Mod_step 107 = .ok (.iaload, 1) := by decide +kernel
theorem d_Mod_step_108 : decode b_Mod_step 108 = .ok (.iconst 3, 1) := by decide +kernel
theorem d_Mod_step_109 : decode b_Mod_step 109 = .ok (.iand, 1) := by decide +kernel
theorem d_Mod_step_110 : decode b_Mod_step 110 = .ok (.iadd, 1) := by decide +kernel
theorem d_Mod_step_111 : decode b_Mod_step 111 = .ok (.laload, 1) := by decide +kernel
theorem d_Mod_step_112 : decode b_Mod_step 112 = .ok (.lstore 7, 2) := by decide +kernel
theorem d_Mod_step_114 : decode b_Mod_step 114 = .ok (.aload_n 0, 1) := by decide +kernel
theorem d_Mod_step_115 : decode b_Mod_step 115 = .ok (.getfield 44, 3) := by decide +kernel
theorem d_Mod_step_118 : decode b_Mod_step 118 = .ok (.iload_n 1, 1) := by decide +kernel
theorem d_Mod_step_119 : decode b_Mod_step 119 = .ok (.iconst 4, 1) := by decide +kernel
theorem d_Mod_step_120 : decode b_Mod_step 120 = .ok (.imul, 1) := by decide +kernel
theorem d_Mod_step_121 : decode b_Mod_step 121 = .ok (.aload_n 0, 1) := by decide +kernel
theorem d_Mod_step_122 : decode b_Mod_step 122 = .ok (.getfield 19, 3) := by decide +kernel
theorem d_Mod_step_125 : decode b_Mod_step 125 = .ok (.iload_n 2, 1) := by decide +kernel
theorem d_Mod_step_126 : decode b_Mod_step 126 = .ok (.iaload, 1) := by decide +kernel
theorem d_Mod_step_127 : decode b_Mod_step 127 = .ok (.iconst 3, 1) := by decide +kernel
theorem d_Mod_step_128 : decode b_Mod_step 128 = .ok (.iand, 1) := by decide +kernel
theorem d_Mod_step_129 : decode b_Mod_step 129 = .ok (.iadd, 1) := by decide +kernel
theorem d_Mod_step_130 : decode b_Mod_step 130 = .ok (.laload, 1) := by decide +kernel
theorem d_Mod_step_131 : decode b_Mod_step 131 = .ok (.lstore 9, 2) := by decide +kernel
theorem d_Mod_step_133 : decode b_Mod_step 133 = .ok (.aload_n 0, 1) := by decide +kernel
theorem d_Mod_step_134 : decode b_Mod_step 134 = .ok (.getfield 19, 3) := by decide +kernel
theorem d_Mod_step_137 : decode b_Mod_step 137 = .ok (.iload_n 2, 1) := by decide +kernel
theorem d_Mod_step_138 : decode b_Mod_step 138 = .ok (.iaload, 1) := by decide +kernel
theorem d_Mod_step_139 : decode b_Mod_step 139 = .ok (.bipush 6, 2) := by decide +kernel
theorem d_Mod_step_141 : decode b_Mod_step 141 = .ok (.irem, 1) := by decide +kernel
theorem d_Mod_step_142 : decode b_Mod_step 142 = .ok (.ifCond .ge 18, 3) := by decide +kernel
theorem d_Mod_step_145 : decode b_Mod_step 145 = .ok (.aload_n 0, 1) := by decide +kernel
theorem d_Mod_step_146 : decode b_Mod_step 146 = .ok (.getfield 19, 3) := by decide +kernel
theorem d_Mod_step_149 : decode b_Mod_step 149 = .ok (.iload_n 2, 1) := by decide +kernel
theorem d_Mod_step_150 : decode b_Mod_step 150 = .ok (.iaload, 1) := by decide +kernel
theorem d_Mod_step_151 : decode b_Mod_step 151 = .ok (.bipush 6, 2) := by decide +kernel
theorem d_Mod_step_153 : decode b_Mod_step 153 = .ok (.irem, 1) := by decide +kernel
theorem d_Mod_step_154 : decode b_Mod_step 154 = .ok (.bipush 6, 2) := by decide +kernel
theorem d_Mod_step_156 : decode b_Mod_step 156 = .ok (.iadd, 1) := by decide +kernel
theorem d_Mod_step_157 : decode b_Mod_step 157 = .ok (.goto 12, 3) := by decide +kernel
theorem d_Mod_step_160 : decode b_Mod_step 160 = .ok (.aload_n 0, 1) := by decide +kernel
theorem d_Mod_step_161 : decode b_Mod_step 161 = .ok (.getfield 19, 3) := by decide +kernel
theorem d_Mod_step_164 : decode b_Mod_step 164 = .ok (.iload_n 2, 1) := by decide +kernel
theorem d_Mod_step_165 : decode b_Mod_step 165 = .ok (.iaload, 1) := by decide +kernel
theorem d_Mod_step_166 : decode b_Mod_step 166 = .ok (.bipush 6, 2) := by decide +kernel
theorem d_Mod_step_168 : decode b_Mod_step 168 = .ok (.irem, 1) := by decide +kernel
theorem d_Mod_step_169 : decode b_Mod_step 169 = .ok (.istore 11, 2) := by decide +kernel
theorem d_Mod_step_171 : decode b_Mod_step 171 = .ok (.iload_n 3, 1) := by decide +kernel
theorem d_Mod_step_172 : decode b_Mod_step 172 = .ok (.bipush 17, 2) := by decide +kernel
theorem d_Mod_step_174 : decode b_Mod_step 174 = .ok (.if_icmp .ne 12, 3) := by decide +kernel
theorem d_Mod_step_177 : decode b_Mod_step 177 = .ok (.aload_n 0, 1) := by decide +kernel
theorem d_Mod_step_178 : decode b_Mod_step 178 = .ok (.lload 7, 2) := by decide +kernel
theorem d_Mod_step_180 : decode b_Mod_step 180 = .ok (.lload 9, 2) := by decide +kernel
theorem d_Mod_step_182 : decode b_Mod_step 182 = .ok (.invokevirtual 173, 3) := by decide +kernel
theorem d_Mod_step_185 : decode b_Mod_step 185 = .ok (.return_, 1) := by decide +kernel
theorem d_Mod_step_186 : decode b_Mod_step 186 = .ok (.iload_n 3, 1) := by decide +kernel
theorem d_Mod_step_187 : decode b_Mod_step 187 = .ok (.bipush 18, 2) := by decide +kernel
theorem d_Mod_step_189 : decode b_Mod_step 189 = .ok (.if_icmp .eq 9, 3) := by decide +kernel
theorem d_Mod_step_192 : decode b_Mod_step 192 = .ok (.iload_n 3, 1) := by decide +kernel
theorem d_Mod_step_193 : decode b_Mod_step 193 = .ok (.bipush 19, 2) := by decide +kernel
theorem d_Mod_step_195 : decode b_Mod_step 195 = .ok (.if_icmp .ne 45, 3) := by decide +kernel
theorem d_Mod_step_198 : decode b_Mod_step 198 = .ok (.aload_n 0, 1) := by decide +kernel
theorem d_Mod_step_199 : decode b_Mod_step 199 = .ok (.getfield 56, 3) := by decide +kernel
theorem d_Mod_step_202 : decode b_Mod_step 202 = .ok (.iload_n 1, 1) := by decide +kernel
theorem d_Mod_step_203 : decode b_Mod_step 203 = .ok (.aload_n 0, 1) := by decide +kernel
theorem d_Mod_step_204 : decode b_Mod_step 204 = .ok (.getfield 13, 3) := by decide +kernel
theorem d_Mod_step_207 : decode b_Mod_step 207 = .ok (.iload_n 2, 1) := by decide +kernel
theorem d_Mod_step_208 : decode b_Mod_step 208 = .ok (.iaload, 1) := by decide +kernel
theorem d_Mod_step_209 : decode b_Mod_step 209 = .ok (.iconst 3, 1) := by decide +kernel
theorem d_Mod_step_210 : decode b_Mod_step 210 = .ok (.iand, 1) := by decide +kernel
theorem d_Mod_step_211 : decode b_Mod_step 211 = .ok (.iastore, 1) := by decide +kernel
theorem d_Mod_step_212 : decode b_Mod_step 212 = .ok (.aload_n 0, 1) := by decide +kernel
theorem d_Mod_step_213 : decode b_Mod_step 213 = .ok (.getfield 50, 3) := by decide +kernel
theorem d_Mod_step_216 : decode b_Mod_step 216 = .ok (.iload_n 1, 1) := by decide +kernel
theorem d_Mod_step_217 : decode b_Mod_step 217 = .ok (.dup2, 1) := by decide +kernel
theorem d_Mod_step_218 : decode b_Mod_step 218 = .ok (.iaload, 1) := by decide +kernel
theorem d_Mod_step_219 : decode b_Mod_step 219 = .ok (.iconst 1, 1) := by decide +kernel
theorem d_Mod_step_220 : decode b_Mod_step 220 = .ok (.iadd, 1) := by decide +kernel
theorem d_Mod_step_221 : decode b_Mod_step 221 = .ok (.iastore, 1) := by decide +kernel
theorem d_Mod_step_222 : decode b_Mod_step 222 = .ok (.aload_n 0, 1) := by decide +kernel
theorem d_Mod_step_223 : decode b_Mod_step 223 = .ok (.iload_n 3, 1) := by decide +kernel
theorem d_Mod_step_224 : decode b_Mod_step 224 = .ok (.bipush 18, 2) := by decide +kernel
theorem d_Mod_step_226 : decode b_Mod_step 226 = .ok (.if_icmp .ne 7, 3) := by decide +kernel
theorem d_Mod_step_229 : decode b_Mod_step 229 = .ok (.iconst 1, 1) := by decide +kernel
theorem d_Mod_step_230 : decode b_Mod_step 230 = .ok (.goto 4, 3) := by decide +kernel
theorem d_Mod_step_233 : decode b_Mod_step 233 = .ok (.iconst 3, 1) := by decide +kernel
theorem d_Mod_step_234 : decode b_Mod_step 234 = .ok (.lload 5, 2) := by decide +kernel
theorem d_Mod_step_236 : decode b_Mod_step 236 = .ok (.invokevirtual 176, 3) := by decide +kernel
theorem d_Mod_step_239 : decode b_Mod_step 239 = .ok (.return_, 1) := by decide +kernel
theorem d_Mod_step_240 : decode b_Mod_step 240 = .ok (.iload_n 3, 1) := by decide +kernel
theorem d_Mod_step_241 : decode b_Mod_step 241 = .ok (.bipush 11, 2) := by decide +kernel
theorem d_Mod_step_243 : decode b_Mod_step 243 = .ok (.if_icmp .lt 59, 3) := by decide +kernel
theorem d_Mod_step_246 : decode b_Mod_step 246 = .ok (.iload_n 3, 1) := by decide +kernel
theorem d_Mod_step_247 : decode b_Mod_step 247 = .ok (.bipush 14, 2) := by decide +kernel
theorem d_Mod_step_249 : decode b_Mod_step 249 = .ok (.if_icmp .gt 53, 3) := by decide +kernel
theorem d_Mod_step_252 : decode b_Mod_step 252 = .ok (.aload_n 0, 1) := by decide +kernel
theorem d_Mod_step_253 : decode b_Mod_step 253 = .ok (.iload_n 3, 1) := by decide +kernel
theorem d_Mod_step_254 : decode b_Mod_step 254 = .ok (.lload 5, 2) := by decide +kernel
theorem d_Mod_step_256 : decode b_Mod_step 256 = .ok (.lload 7, 2) := by decide +kernel
theorem d_Mod_step_258 : decode b_Mod_step 258 = .ok (.invokevirtual 180, 3) := by decide +kernel
theorem d_Mod_step_261 : decode b_Mod_step 261 = .ok (.istore 12, 2) := by decide +kernel
theorem d_Mod_step_263 : decode b_Mod_step 263 = .ok (.aload_n 0, 1) := by decide +kernel
theorem d_Mod_step_264 : decode b_Mod_step 264 = .ok (.getfield 141, 3) := by decide +kernel
theorem d_Mod_step_267 : decode b_Mod_step 267 = .ok (.ifCond .ne 34, 3) := by decide +kernel
theorem d_Mod_step_270 : decode b_Mod_step 270 = .ok (.aload_n 0, 1) := by decide +kernel
theorem d_Mod_step_271 : decode b_Mod_step 271 = .ok (.getfield 50, 3) := by decide +kernel
theorem d_Mod_step_274 : decode b_Mod_step 274 = .ok (.iload_n 1, 1) := by decide +kernel
theorem d_Mod_step_275 : decode b_Mod_step 275 = .ok (.iload 12, 2) := by decide +kernel
theorem d_Mod_step_277 : decode b_Mod_step 277 = .ok (.ifCond .eq 15, 3) := by decide +kernel
theorem d_Mod_step_280 : decode b_Mod_step 280 = .ok (.aload_n 0, 1) := by decide +kernel
theorem d_Mod_step_281 : decode b_Mod_step 281 = .ok (.getfield 19, 3) := by decide +kernel
theorem d_Mod_step_284 : decode b_Mod_step 284 = .ok (.iload_n 2, 1) := by decide +kernel
theorem d_Mod_step_285 : decode b_Mod_step 285 = .ok (.iaload, 1) := by decide +kernel
theorem d_Mod_step_286 : decode b_Mod_step 286 = .ok (.bipush 15, 2) := by decide +kernel
theorem d_Mod_step_288 : decode b_Mod_step 288 = .ok (.iand, 1) := by decide +kernel
theorem d_Mod_step_289 : decode b_Mod_step 289 = .ok (.goto 11, 3) := by decide +kernel
theorem d_Mod_step_292 : decode b_Mod_step 292 = .ok (.aload_n 0, 1) := by decide +kernel
theorem d_Mod_step_293 : decode b_Mod_step 293 = .ok (.getfield 50, 3) := by decide +kernel
theorem d_Mod_step_296 : decode b_Mod_step 296 = .ok (.iload_n 1, 1) := by decide +kernel
theorem d_Mod_step_297 : decode b_Mod_step 297 = .ok (.iaload, 1) := by decide +kernel
theorem d_Mod_step_298 : decode b_Mod_step 298 = .ok (.iconst 1, 1) := by decide +kernel
theorem d_Mod_step_299 : decode b_Mod_step 299 = .ok (.iadd, 1) := by decide +kernel
theorem d_Mod_step_300 : decode b_Mod_step 300 = .ok (.iastore, 1) := by decide +kernel
theorem d_Mod_step_301 : decode b_Mod_step 301 = .ok (.return_, 1) := by decide +kernel
theorem d_Mod_step_302 : decode b_Mod_step 302 = .ok (.aload_n 0, 1) := by decide +kernel
theorem d_Mod_step_303 : decode b_Mod_step 303 = .ok (.iload_n 3, 1) := by decide +kernel
theorem d_Mod_step_304 : decode b_Mod_step 304 = .ok (.bipush 7, 2) := by decide +kernel
theorem d_Mod_step_306 : decode b_Mod_step 306 = .ok (.if_icmp .ne 8, 3) := by decide +kernel
theorem d_Mod_step_309 : decode b_Mod_step 309 = .ok (.lload 5, 2) := by decide +kernel
theorem d_Mod_step_311 : decode b_Mod_step 311 = .ok (.goto 5, 3) := by decide +kernel
theorem d_Mod_step_314 : decode b_Mod_step 314 = .ok (.lload 7, 2) := by decide +kernel
theorem d_Mod_step_316 : decode b_Mod_step 316 = .ok (.invokevirtual 135, 3) := by decide +kernel
theorem d_Mod_step_319 : decode b_Mod_step 319 = .ok (.istore 12, 2) := by decide +kernel
theorem d_Mod_step_321 : decode b_Mod_step 321 = .ok (.iload_n 3, 1) := by decide +kernel
theorem d_Mod_step_322 : decode b_Mod_step 322 = .ok (.bipush 6, 2) := by decide +kernel
theorem d_Mod_step_324 : decode b_Mod_step 324 = .ok (.if_icmp .eq 15, 3) := by decide +kernel
theorem d_Mod_step_327 : decode b_Mod_step 327 = .ok (.iload_n 3, 1) := by decide +kernel
theorem d_Mod_step_328 : decode b_Mod_step 328 = .ok (.bipush 7, 2) := by decide +kernel
theorem d_Mod_step_330 : decode b_Mod_step 330 = .ok (.if_icmp .eq 9, 3) := by decide +kernel
theorem d_Mod_step_333 : decode b_Mod_step 333 = .ok (.iload_n 3, 1) := by decide +kernel
theorem d_Mod_step_334 : decode b_Mod_step 334 = .ok (.bipush 19, 2) := by decide +kernel
theorem d_Mod_step_336 : decode b_Mod_step 336 = .ok (.if_icmp .le 16, 3) := by decide +kernel
theorem d_Mod_step_339 : decode b_Mod_step 339 = .ok (.iload 12, 2) := by decide +kernel
theorem d_Mod_step_341 : decode b_Mod_step 341 = .ok (.ifCond .ge 11, 3) := by decide +kernel
theorem d_Mod_step_344 : decode b_Mod_step 344 = .ok (.aload_n 0, 1) := by decide +kernel
theorem d_Mod_step_345 : decode b_Mod_step 345 = .ok (.iconst 3, 1) := by decide +kernel
theorem d_Mod_step_346 : decode b_Mod_step 346 = .ok (.putfield 141, 3) := by decide +kernel
theorem d_Mod_step_349 : decode b_Mod_step 349 = .ok (.goto 305, 3) := by decide +kernel
theorem d_Mod_step_352 : decode b_Mod_step 352 = .ok (.iload_n 3, 1) := by decide +kernel
theorem d_Mod_step_353 : decode b_Mod_step 353 = .ok (.ifCond .ne 16, 3) := by decide +kernel
theorem d_Mod_step_356 : decode b_Mod_step 356 = .ok (.aload_n 0, 1) := by decide +kernel
theorem d_Mod_step_357 : decode b_Mod_step 357 = .ok (.getfield 44, 3) := by decide +kernel
theorem d_Mod_step_360 : decode b_Mod_step 360 = .ok (.iload 4, 2) := by decide +kernel
theorem d_Mod_step_362 : decode b_Mod_step 362 = .ok (.ldc2_w 62, 3) := by decide +kernel
theorem d_Mod_step_365 : decode b_Mod_step 365 = .ok (.lastore, 1) := by decide +kernel
theorem d_Mod_step_366 : decode b_Mod_step 366 = .ok (.goto 288, 3) := by decide +kernel
theorem d_Mod_step_369 : decode b_Mod_step 369 = .ok (.iload_n 3, 1) := by decide +kernel
theorem d_Mod_step_370 : decode b_Mod_step 370 = .ok (.iconst 1, 1) := by decide +kernel
theorem d_Mod_step_371 : decode b_Mod_step 371 = .ok (.if_icmp .ne 20, 3) := by decide +kernel
theorem d_Mod_step_374 : decode b_Mod_step 374 = .ok (.aload_n 0, 1) := by decide +kernel
theorem d_Mod_step_375 : decode b_Mod_step 375 = .ok (.getfield 44, 3) := by decide +kernel
theorem d_Mod_step_378 : decode b_Mod_step 378 = .ok (.iload 4, 2) := by decide +kernel
theorem d_Mod_step_380 : decode b_Mod_step 380 = .ok (.aload_n 0, 1) := by decide +kernel
theorem d_Mod_step_381 : decode b_Mod_step 381 = .ok (.getfield 19, 3) := by decide +kernel
theorem d_Mod_step_384 : decode b_Mod_step 384 = .ok (.iload_n 2, 1) := by decide +kernel
theorem d_Mod_step_385 : decode b_Mod_step 385 = .ok (.iaload, 1) := by decide +kernel
theorem d_Mod_step_386 : decode b_Mod_step 386 = .ok (.i2l, 1) := by decide +kernel
theorem d_Mod_step_387 : decode b_Mod_step 387 = .ok (.lastore, 1) := by decide +kernel
theorem d_Mod_step_388 : decode b_Mod_step 388 = .ok (.goto 266, 3) := by decide +kernel
theorem d_Mod_step_391 : decode b_Mod_step 391 = .ok (.iload_n 3, 1) := by decide +kernel
theorem d_Mod_step_392 : decode b_Mod_step 392 = .ok (.iconst 2, 1) := by decide +kernel
theorem d_Mod_step_393 : decode b_Mod_step 393 = .ok (.if_icmp .ne 15, 3) := by decide +kernel
theorem d_Mod_step_396 : decode b_Mod_step 396 = .ok (.aload_n 0, 1) := by decide +kernel
theorem d_Mod_step_397 : decode b_Mod_step 397 = .ok (.getfield 44, 3) := by decide +kernel
theorem d_Mod_step_400 : decode b_Mod_step 400 = .ok (.iload 4, 2) := by decide +kernel
theorem d_Mod_step_402 : decode b_Mod_step 402 = .ok (.lload 7, 2) := by decide +kernel
theorem d_Mod_step_404 : decode b_Mod_step 404 = .ok (.lastore, 1) := by decide +kernel
theorem d_Mod_step_405 : decode b_Mod_step 405 = .ok (.goto 249, 3) := by decide +kernel
theorem d_Mod_step_408 : decode b_Mod_step 408 = .ok (.iload_n 3, 1) := by decide +kernel
theorem d_Mod_step_409 : decode b_Mod_step 409 = .ok (.iconst 3, 1) := by decide +kernel
theorem d_Mod_step_410 : decode b_Mod_step 410 = .ok (.if_icmp .ne 20, 3) := by decide +kernel
theorem d_Mod_step_413 : decode b_Mod_step 413 = .ok (.aload_n 0, 1) := by decide +kernel
theorem d_Mod_step_414 : decode b_Mod_step 414 = .ok (.getfield 44, 3) := by decide +kernel
theorem d_Mod_step_417 : decode b_Mod_step 417 = .ok (.iload 4, 2) := by decide +kernel
theorem d_Mod_step_419 : decode b_Mod_step 419 = .ok (.aload_n 0, 1) := by decide +kernel
theorem d_Mod_step_420 : decode b_Mod_step 420 = .ok (.getfield 22, 3) := by decide +kernel
theorem d_Mod_step_423 : decode b_Mod_step 423 = .ok (.iload 11, 2) := by decide +kernel
theorem d_Mod_step_425 : decode b_Mod_step 425 = .ok (.laload, 1) := by decide +kernel
theorem d_Mod_step_426 : decode b_Mod_step 426 = .ok (.lastore, 1) := by decide +kernel
theorem d_Mod_step_427 : decode b_Mod_step 427 = .ok (.goto 227, 3) := by decide +kernel
theorem d_Mod_step_430 : decode b_Mod_step 430 = .ok (.iload_n 3, 1) := by decide +kernel
theorem d_Mod_step_431 : decode b_Mod_step 431 = .ok (.iconst 4, 1) := by decide +kernel
theorem d_Mod_step_432 : decode b_Mod_step 432 = .ok (.if_icmp .ne 15, 3) := by decide +kernel
theorem d_Mod_step_435 : decode b_Mod_step 435 = .ok (.aload_n 0, 1) := by decide +kernel
theorem d_Mod_step_436 : decode b_Mod_step 436 = .ok (.getfield 22, 3) := by decide +kernel
theorem d_Mod_step_439 : decode b_Mod_step 439 = .ok (.iload 11, 2) := by decide +kernel
theorem d_Mod_step_441 : decode b_Mod_step 441 = .ok (.lload 5, 2) := by decide +kernel
theorem d_Mod_step_443 : decode b_Mod_step 443 = .ok (.lastore, 1) := by decide +kernel
theorem d_Mod_step_444 : decode b_Mod_step 444 = .ok (.goto 210, 3) := by decide +kernel
theorem d_Mod_step_447 : decode b_Mod_step 447 = .ok (.iload_n 3, 1) := by decide +kernel
theorem d_Mod_step_448 : decode b_Mod_step 448 = .ok (.iconst 5, 1) := by decide +kernel
theorem d_Mod_step_449 : decode b_Mod_step 449 = .ok (.if_icmp .eq 9, 3) := by decide +kernel
theorem d_Mod_step_452 : decode b_Mod_step 452 = .ok (.iload_n 3, 1) := by decide +kernel
theorem d_Mod_step_453 : decode b_Mod_step 453 = .ok (.bipush 16, 2) := by decide +kernel
theorem d_Mod_step_455 : decode b_Mod_step 455 = .ok (.if_icmp .ne 57, 3) := by decide +kernel
theorem d_Mod_step_458 : decode b_Mod_step 458 = .ok (.aload_n 0, 1) := by decide +kernel
theorem d_Mod_step_459 : decode b_Mod_step 459 = .ok (.iload_n 3, 1) := by decide +kernel
theorem d_Mod_step_460 : decode b_Mod_step 460 = .ok (.iconst 5, 1) := by decide +kernel
theorem d_Mod_step_461 : decode b_Mod_step 461 = .ok (.if_icmp .ne 7, 3) := by decide +kernel
theorem d_Mod_step_464 : decode b_Mod_step 464 = .ok (.iconst 1, 1) := by decide +kernel
theorem d_Mod_step_465 : decode b_Mod_step 465 = .ok (.goto 4, 3) := by decide +kernel
theorem d_Mod_step_468 : decode b_Mod_step 468 = .ok (.iconst 2, 1) := by decide +kernel
theorem d_Mod_step_469 : decode b_Mod_step 469 = .ok (.aload_n 0, 1) := by decide +kernel
theorem d_Mod_step_470 : decode b_Mod_step 470 = .ok (.getfield 19, 3) := by decide +kernel
theorem d_Mod_step_473 : decode b_Mod_step 473 = .ok (.iload_n 2, 1) := by decide +kernel
theorem d_Mod_step_474 : decode b_Mod_step 474 = .ok (.iaload, 1) := by decide +kernel
theorem d_Mod_step_475 : decode b_Mod_step 475 = .ok (.iconst 3, 1) := by decide +kernel
theorem d_Mod_step_476 : decode b_Mod_step 476 = .ok (.iand, 1) := by decide +kernel
theorem d_Mod_step_477 : decode b_Mod_step 477 = .ok (.invokevirtual 127, 3) := by decide +kernel
theorem d_Mod_step_480 : decode b_Mod_step 480 = .ok (.istore 13, 2) := by decide +kernel
theorem d_Mod_step_482 : decode b_Mod_step 482 = .ok (.iload 13, 2) := by decide +kernel
theorem d_Mod_step_484 : decode b_Mod_step 484 = .ok (.ifCond .ge 11, 3) := by decide +kernel
theorem d_Mod_step_487 : decode b_Mod_step 487 = .ok (.aload_n 0, 1) := by decide +kernel
theorem d_Mod_step_488 : decode b_Mod_step 488 = .ok (.iconst 2, 1) := by decide +kernel
theorem d_Mod_step_489 : decode b_Mod_step 489 = .ok (.putfield 141, 3) := by decide +kernel
theorem d_Mod_step_492 : decode b_Mod_step 492 = .ok (.goto 17, 3) := by decide +kernel
theorem d_Mod_step_495 : decode b_Mod_step 495 = .ok (.aload_n 0, 1) := by decide +kernel
theorem d_Mod_step_496 : decode b_Mod_step 496 = .ok (.getfield 44, 3) := by decide +kernel
theorem d_Mod_step_499 : decode b_Mod_step 499 = .ok (.iload 4, 2) := by decide +kernel
theorem d_Mod_step_501 : decode b_Mod_step 501 = .ok (.ldc2_w 72, 3) := by decide +kernel
theorem d_Mod_step_504 : decode b_Mod_step 504 = .ok (.iload 13, 2) := by decide +kernel
theorem d_Mod_step_506 : decode b_Mod_step 506 = .ok (.i2l, 1) := by decide +kernel
theorem d_Mod_step_507 : decode b_Mod_step 507 = .ok (.ladd, 1) := by decide +kernel
theorem d_Mod_step_508 : decode b_Mod_step 508 = .ok (.lastore, 1) := by decide +kernel
theorem d_Mod_step_509 : decode b_Mod_step 509 = .ok (.goto 145, 3) := by decide +kernel
theorem d_Mod_step_512 : decode b_Mod_step 512 = .ok (.iload_n 3, 1) := by decide +kernel
theorem d_Mod_step_513 : decode b_Mod_step 513 = .ok (.bipush 6, 2) := by decide +kernel
theorem d_Mod_step_515 : decode b_Mod_step 515 = .ok (.if_icmp .ne 32, 3) := by decide +kernel
theorem d_Mod_step_518 : decode b_Mod_step 518 = .ok (.aload_n 0, 1) := by decide +kernel
theorem d_Mod_step_519 : decode b_Mod_step 519 = .ok (.iload 12, 2) := by decide +kernel
theorem d_Mod_step_521 : decode b_Mod_step 521 = .ok (.lload 9, 2) := by decide +kernel
theorem d_Mod_step_523 : decode b_Mod_step 523 = .ok (.invokevirtual 151, 3) := by decide +kernel
theorem d_Mod_step_526 : decode b_Mod_step 526 = .ok (.lstore 13, 2) := by decide +kernel
theorem d_Mod_step_528 : decode b_Mod_step 528 = .ok (.aload_n 0, 1) := by decide +kernel
theorem d_Mod_step_529 : decode b_Mod_step 529 = .ok (.getfield 141, 3) := by decide +kernel
theorem d_Mod_step_532 : decode b_Mod_step 532 = .ok (.ifCond .ne 12, 3) := by decide +kernel
theorem d_Mod_step_535 : decode b_Mod_step 535 = .ok (.aload_n 0, 1) := by decide +kernel
theorem d_Mod_step_536 : decode b_Mod_step 536 = .ok (.getfield 44, 3) := by decide +kernel
theorem d_Mod_step_539 : decode b_Mod_step 539 = .ok (.iload 4, 2) := by decide +kernel
theorem d_Mod_step_541 : decode b_Mod_step 541 = .ok (.lload 13, 2) := by decide +kernel
theorem d_Mod_step_543 : decode b_Mod_step 543 = .ok (.lastore, 1) := by decide +kernel
theorem d_Mod_step_544 : decode b_Mod_step 544 = .ok (.goto 110, 3) := by decide +kernel
theorem d_Mod_step_547 : decode b_Mod_step 547 = .ok (.iload_n 3, 1) := by decide +kernel
theorem d_Mod_step_548 : decode b_Mod_step 548 = .ok (.bipush 7, 2) := by decide +kernel
theorem d_Mod_step_550 : decode b_Mod_step 550 = .ok (.if_icmp .ne 16, 3) := by decide +kernel
theorem d_Mod_step_553 : decode b_Mod_step 553 = .ok (.aload_n 0, 1) := by decide +kernel
theorem d_Mod_step_554 : decode b_Mod_step 554 = .ok (.iload 12, 2) := by decide +kernel
theorem d_Mod_step_556 : decode b_Mod_step 556 = .ok (.lload 7, 2) := by decide +kernel
theorem d_Mod_step_558 : decode b_Mod_step 558 = .ok (.lload 9, 2) := by decide +kernel
theorem d_Mod_step_560 : decode b_Mod_step 560 = .ok (.invokevirtual 147, 3) := by decide +kernel
theorem d_Mod_step_563 : decode b_Mod_step 563 = .ok (.goto 91, 3) := by decide +kernel
theorem d_Mod_step_566 : decode b_Mod_step 566 = .ok (.iload_n 3, 1) := by decide +kernel
theorem d_Mod_step_567 : decode b_Mod_step 567 = .ok (.bipush 11, 2) := by decide +kernel
theorem d_Mod_step_569 : decode b_Mod_step 569 = .ok (.if_icmp .ge 18, 3) := by decide +kernel
theorem d_Mod_step_572 : decode b_Mod_step 572 = .ok (.aload_n 0, 1) := by decide +kernel
theorem d_Mod_step_573 : decode b_Mod_step 573 = .ok (.iload_n 1, 1) := by decide +kernel
theorem d_Mod_step_574 : decode b_Mod_step 574 = .ok (.iload_n 3, 1) := by decide +kernel
theorem d_Mod_step_575 : decode b_Mod_step 575 = .ok (.iload 4, 2) := by decide +kernel
theorem d_Mod_step_577 : decode b_Mod_step 577 = .ok (.lload 7, 2) := by decide +kernel
theorem d_Mod_step_579 : decode b_Mod_step 579 = .ok (.lload 9, 2) := by decide +kernel
theorem d_Mod_step_581 : decode b_Mod_step 581 = .ok (.invokevirtual 184, 3) := by decide +kernel
theorem d_Mod_step_584 : decode b_Mod_step 584 = .ok (.goto 70, 3) := by decide +kernel
theorem d_Mod_step_587 : decode b_Mod_step 587 = .ok (.iload_n 3, 1) := by decide +kernel
theorem d_Mod_step_588 : decode b_Mod_step 588 = .ok (.bipush 15, 2) := by decide +kernel
theorem d_Mod_step_590 : decode b_Mod_step 590 = .ok (.if_icmp .ne 14, 3) := by decide +kernel
theorem d_Mod_step_593 : decode b_Mod_step 593 = .ok (.aload_n 0, 1) := by decide +kernel
theorem d_Mod_step_594 : decode b_Mod_step 594 = .ok (.lload 5, 2) := by decide +kernel
theorem d_Mod_step_596 : decode b_Mod_step 596 = .ok (.lload 7, 2) := by decide +kernel
theorem d_Mod_step_598 : decode b_Mod_step 598 = .ok (.invokevirtual 155, 3) := by decide +kernel
theorem d_Mod_step_601 : decode b_Mod_step 601 = .ok (.goto 53, 3) := by decide +kernel
theorem d_Mod_step_604 : decode b_Mod_step 604 = .ok (.iload_n 3, 1) := by decide +kernel
theorem d_Mod_step_605 : decode b_Mod_step 605 = .ok (.bipush 20, 2) := by decide +kernel
theorem d_Mod_step_607 : decode b_Mod_step 607 = .ok (.if_icmp .ne 32, 3) := by decide +kernel
theorem d_Mod_step_610 : decode b_Mod_step 610 = .ok (.aload_n 0, 1) := by decide +kernel
theorem d_Mod_step_611 : decode b_Mod_step 611 = .ok (.iload 12, 2) := by decide +kernel
theorem d_Mod_step_613 : decode b_Mod_step 613 = .ok (.lload 9, 2) := by decide +kernel
theorem d_Mod_step_615 : decode b_Mod_step 615 = .ok (.invokevirtual 188, 3) := by decide +kernel
theorem d_Mod_step_618 : decode b_Mod_step 618 = .ok (.lstore 13, 2) := by decide +kernel
theorem d_Mod_step_620 : decode b_Mod_step 620 = .ok (.aload_n 0, 1) := by decide +kernel
theorem d_Mod_step_621 : decode b_Mod_step 621 = .ok (.getfield 141, 3) := by decide +kernel
theorem d_Mod_step_624 : decode b_Mod_step 624 = .ok (.ifCond .ne 12, 3) := by decide +kernel
theorem d_Mod_step_627 : decode b_Mod_step 627 = .ok (.aload_n 0, 1) := by decide +kernel
theorem d_Mod_step_628 : decode b_Mod_step 628 = .ok (.getfield 44, 3) := by decide +kernel
theorem d_Mod_step_631 : decode b_Mod_step 631 = .ok (.iload 4, 2) := by decide +kernel
theorem d_Mod_step_633 : decode b_Mod_step 633 = .ok (.lload 13, 2) := by decide +kernel
theorem d_Mod_step_635 : decode b_Mod_step 635 = .ok (.lastore, 1) := by decide +kernel
theorem d_Mod_step_636 : decode b_Mod_step 636 = .ok (.goto 18, 3) := by decide +kernel
theorem d_Mod_step_639 : decode b_Mod_step 639 = .ok (.aload_n 0, 1) := by decide +kernel
theorem d_Mod_step_640 : decode b_Mod_step 640 = .ok (.getfield 44, 3) := by decide +kernel
theorem d_Mod_step_643 : decode b_Mod_step 643 = .ok (.iload 4, 2) := by decide +kernel
theorem d_Mod_step_645 : decode b_Mod_step 645 = .ok (.aload_n 0, 1) := by decide +kernel
theorem d_Mod_step_646 : decode b_Mod_step 646 = .ok (.getfield 32, 3) := by decide +kernel
theorem d_Mod_step_649 : decode b_Mod_step 649 = .ok (.iload 12, 2) := by decide +kernel
theorem d_Mod_step_651 : decode b_Mod_step 651 = .ok (.iaload, 1) := by decide +kernel
theorem d_Mod_step_652 : decode b_Mod_step 652 = .ok (.i2l, 1) := by decide +kernel
theorem d_Mod_step_653 : decode b_Mod_step 653 = .ok (.lastore, 1) := by decide +kernel
theorem d_Mod_step_654 : decode b_Mod_step 654 = .ok (.aload_n 0, 1) := by decide +kernel
theorem d_Mod_step_655 : decode b_Mod_step 655 = .ok (.getfield 141, 3) := by decide +kernel
theorem d_Mod_step_658 : decode b_Mod_step 658 = .ok (.ifCond .ne 13, 3) := by decide +kernel
theorem d_Mod_step_661 : decode b_Mod_step 661 = .ok (.aload_n 0, 1) := by decide +kernel
theorem d_Mod_step_662 : decode b_Mod_step 662 = .ok (.getfield 50, 3) := by decide +kernel
theorem d_Mod_step_665 : decode b_Mod_step 665 = .ok (.iload_n 1, 1) := by decide +kernel
theorem d_Mod_step_666 : decode b_Mod_step 666 = .ok (.dup2, 1) := by decide +kernel
theorem d_Mod_step_667 : decode b_Mod_step 667 = .ok (.iaload, 1) := by decide +kernel
theorem d_Mod_step_668 : decode b_Mod_step 668 = .ok (.iconst 1, 1) := by decide +kernel
theorem d_Mod_step_669 : decode b_Mod_step 669 = .ok (.iadd, 1) := by decide +kernel
theorem d_Mod_step_670 : decode b_Mod_step 670 = .ok (.iastore, 1) := by decide +kernel
theorem d_Mod_step_671 : decode b_Mod_step 671 = .ok (.return_, 1) := by decide +kernel
end
section
/-! THE REFERENCE'S WORLD: 18 cells; ints of arrays by (array, place), of fields by (field, 0); longs by (array, 0, place) -/
def mob (ad : Nat → Nat) (u : Nat → ClassId) (M : CS) (k : Nat) : va_E := match k with
  | 0 => .inr (7, [.ref (ad 1), .ref (ad 2), .ref (ad 3), .ref (ad 4), .ref (ad 5), .ref (ad 6), .ref (ad 7), .ref (ad 8), .ref (ad 9), .ref (ad 10), .ref (ad 11), .ref (ad 12), .ref (ad 13), .ref (ad 14), .ref (ad 15), .ref (ad 16), .ref (ad 17), .int (M.1 13 0), .int (M.1 14 0), .int (M.1 15 0), .int (M.1 16 0), .int (M.1 17 0), .int (M.1 18 0), .int (M.1 19 0), .int (M.1 20 0), .int (M.1 21 0), .int (M.1 22 0), .long (M.2.1 4 0 0)])
  | 1 => .inl (u 0, 64, .inl (M.1 0))
  | 2 => .inl (u 0, 64, .inl (M.1 1))
  | 3 => .inl (u 0, 64, .inl (M.1 2))
  | 4 => .inl (u 0, 64, .inl (M.1 3))
  | 5 => .inl (u 1, 6, .inr (.inl (M.2.1 0 0)))
  | 6 => .inl (u 0, 16, .inl (M.1 4))
  | 7 => .inl (u 0, 16, .inl (M.1 5))
  | 8 => .inl (u 0, 16, .inl (M.1 6))
  | 9 => .inl (u 0, 16, .inl (M.1 7))
  | 10 => .inl (u 1, 96, .inr (.inl (M.2.1 1 0)))
  | 11 => .inl (u 1, 96, .inr (.inl (M.2.1 2 0)))
  | 12 => .inl (u 1, 64, .inr (.inl (M.2.1 3 0)))
  | 13 => .inl (u 0, 16, .inl (M.1 8))
  | 14 => .inl (u 0, 16, .inl (M.1 9))
  | 15 => .inl (u 0, 16, .inl (M.1 10))
  | 16 => .inl (u 0, 16, .inl (M.1 11))
  | 17 => .inl (u 0, 6, .inl (M.1 12))
  | _ => .inr (7, [])
abbrev tym (u : Nat → ClassId) : List (ClassId × FieldType) := [(u 0, .int), (u 1, .long)]
/-- which cell holds an int field or array, a row of longs -/
def mI (f : Nat) : Nat := if f < 4 then f + 1 else if f < 8 then f + 2 else if f < 13 then f + 5 else 0
def mJ (f : Nat) : Nat := if f = 0 then 5 else if f < 4 then f + 9 else 0
section StateM
variable {ad : Nat → Nat} {u : Nat → ClassId} {M : CS} {f i k : Nat}
theorem mob_same {M' : CS} (k : Nat) (h1 : ∀ g, mI g = k → M'.1 g = M.1 g) (h2 : ∀ g, mJ g = k → M'.2.1 g 0 = M.2.1 g 0) : mob ad u M' k = mob ad u M k := by
  unfold mob
  split
  · rw [h1 13 rfl, h1 14 rfl, h1 15 rfl, h1 16 rfl, h1 17 rfl, h1 18 rfl, h1 19 rfl, h1 20 rfl, h1 21 rfl, h1 22 rfl, h2 4 rfl]
  · rw [h1 0 rfl]
  · rw [h1 1 rfl]
  · rw [h1 2 rfl]
  · rw [h1 3 rfl]
  · rw [h2 0 rfl]
  · rw [h1 4 rfl]
  · rw [h1 5 rfl]
  · rw [h1 6 rfl]
  · rw [h1 7 rfl]
  · rw [h2 1 rfl]
  · rw [h2 2 rfl]
  · rw [h2 3 rfl]
  · rw [h1 8 rfl]
  · rw [h1 9 rfl]
  · rw [h1 10 rfl]
  · rw [h1 11 rfl]
  · rw [h1 12 rfl]
  · rfl
theorem wm_up {M' : CS} {e : va_E} {q : Nat} (he : mob ad u M' q = e) (hne : ∀ k, k ≠ q → mob ad u M' k = mob ad u M k) : ∀ k, k < 18 → va_up (mob ad u M) q e k = mob ad u M' k := by
  intro k _
  by_cases hq : k = q
  · subst hq; rw [he]; simp [va_up]
  · simp only [va_up, if_neg hq]; exact (hne k hq).symm
theorem wm_sI {v : Int32} {e : va_E} {q : Nat} (hf : mI f = q) (he : mob ad u (sI M f i v) q = e) : ∀ k, k < 18 → va_up (mob ad u M) q e k = mob ad u (sI M f i v) k := by
  refine wm_up he (fun k hk => mob_same k (fun g hg => ?_) (fun g hg => rfl))
  funext b
  rw [sI_1, if_neg]
  rintro ⟨rfl, -⟩
  exact hk (hg.symm.trans hf)
theorem wm_sJ {v : Int64} {e : va_E} {q : Nat} (hf : mJ f = q) (he : mob ad u (sJ M f 0 i v) q = e) : ∀ k, k < 18 → va_up (mob ad u M) q e k = mob ad u (sJ M f 0 i v) k := by
  refine wm_up he (fun k hk => mob_same k (fun g hg => rfl) (fun g hg => ?_))
  funext c
  rw [sJ_2, if_neg]
  rintro ⟨rfl, -⟩
  exact hk (hg.symm.trans hf)
end StateM
section RowsM
variable {Γ : GT} {cc : ByteArray} {own : String} {rm : Room} {nl : List (String × Nat × MethodName × String)} {kc ks pc index : Nat} {ad : Nat → Nat} {u : Nat → ClassId} {M : CS} {L : List (Option Value)} {st : List Value}
theorem gf_Mod_ops (h : Cx Γ cc own rm TB CL (tym u) nl) (hlink : Cond.fieldLink own index "TriColourMachineModel" "ops" "[I" ∈ TB) (hd : decode cc pc = .ok (.getfield index, 3)) (k : G Γ kc ks 18 ad (mob ad u M) (pc + 3) L (.ref (ad 1) :: st)) : G Γ kc ks 18 ad (mob ad u M) pc L (.ref (ad 0) :: st) := g_get h i_Mod 0 (by decide) rfl rfl 0 (by decide) hlink rfl hd k
theorem gf_Mod_as (h : Cx Γ cc own rm TB CL (tym u) nl) (hlink : Cond.fieldLink own index "TriColourMachineModel" "as" "[I" ∈ TB) (hd : decode cc pc = .ok (.getfield index, 3)) (k : G Γ kc ks 18 ad (mob ad u M) (pc + 3) L (.ref (ad 2) :: st)) : G Γ kc ks 18 ad (mob ad u M) pc L (.ref (ad 0) :: st) := g_get h i_Mod 0 (by decide) rfl rfl 1 (by decide) hlink rfl hd k
theorem gf_Mod_bs (h : Cx Γ cc own rm TB CL (tym u) nl) (hlink : Cond.fieldLink own index "TriColourMachineModel" "bs" "[I" ∈ TB) (hd : decode cc pc = .ok (.getfield index, 3)) (k : G Γ kc ks 18 ad (mob ad u M) (pc + 3) L (.ref (ad 3) :: st)) : G Γ kc ks 18 ad (mob ad u M) pc L (.ref (ad 0) :: st) := g_get h i_Mod 0 (by decide) rfl rfl 2 (by decide) hlink rfl hd k
theorem gf_Mod_cs (h : Cx Γ cc own rm TB CL (tym u) nl) (hlink : Cond.fieldLink own index "TriColourMachineModel" "cs" "[I" ∈ TB) (hd : decode cc pc = .ok (.getfield index, 3)) (k : G Γ kc ks 18 ad (mob ad u M) (pc + 3) L (.ref (ad 4) :: st)) : G Γ kc ks 18 ad (mob ad u M) pc L (.ref (ad 0) :: st) := g_get h i_Mod 0 (by decide) rfl rfl 3 (by decide) hlink rfl hd k
theorem gf_Mod_globals (h : Cx Γ cc own rm TB CL (tym u) nl) (hlink : Cond.fieldLink own index "TriColourMachineModel" "globals" "[J" ∈ TB) (hd : decode cc pc = .ok (.getfield index, 3)) (k : G Γ kc ks 18 ad (mob ad u M) (pc + 3) L (.ref (ad 5) :: st)) : G Γ kc ks 18 ad (mob ad u M) pc L (.ref (ad 0) :: st) := g_get h i_Mod 0 (by decide) rfl rfl 4 (by decide) hlink rfl hd k
theorem gf_Mod_kind (h : Cx Γ cc own rm TB CL (tym u) nl) (hlink : Cond.fieldLink own index "TriColourMachineModel" "kind" "[I" ∈ TB) (hd : decode cc pc = .ok (.getfield index, 3)) (k : G Γ kc ks 18 ad (mob ad u M) (pc + 3) L (.ref (ad 6) :: st)) : G Γ kc ks 18 ad (mob ad u M) pc L (.ref (ad 0) :: st) := g_get h i_Mod 0 (by decide) rfl rfl 5 (by decide) hlink rfl hd k
theorem gf_Mod_colour (h : Cx Γ cc own rm TB CL (tym u) nl) (hlink : Cond.fieldLink own index "TriColourMachineModel" "colour" "[I" ∈ TB) (hd : decode cc pc = .ok (.getfield index, 3)) (k : G Γ kc ks 18 ad (mob ad u M) (pc + 3) L (.ref (ad 7) :: st)) : G Γ kc ks 18 ad (mob ad u M) pc L (.ref (ad 0) :: st) := g_get h i_Mod 0 (by decide) rfl rfl 6 (by decide) hlink rfl hd k
theorem gf_Mod_size (h : Cx Γ cc own rm TB CL (tym u) nl) (hlink : Cond.fieldLink own index "TriColourMachineModel" "size" "[I" ∈ TB) (hd : decode cc pc = .ok (.getfield index, 3)) (k : G Γ kc ks 18 ad (mob ad u M) (pc + 3) L (.ref (ad 8) :: st)) : G Γ kc ks 18 ad (mob ad u M) pc L (.ref (ad 0) :: st) := g_get h i_Mod 0 (by decide) rfl rfl 7 (by decide) hlink rfl hd k
theorem gf_Mod_metaOf (h : Cx Γ cc own rm TB CL (tym u) nl) (hlink : Cond.fieldLink own index "TriColourMachineModel" "metaOf" "[I" ∈ TB) (hd : decode cc pc = .ok (.getfield index, 3)) (k : G Γ kc ks 18 ad (mob ad u M) (pc + 3) L (.ref (ad 9) :: st)) : G Γ kc ks 18 ad (mob ad u M) pc L (.ref (ad 0) :: st) := g_get h i_Mod 0 (by decide) rfl rfl 8 (by decide) hlink rfl hd k
theorem gf_Mod_keys (h : Cx Γ cc own rm TB CL (tym u) nl) (hlink : Cond.fieldLink own index "TriColourMachineModel" "keys" "[J" ∈ TB) (hd : decode cc pc = .ok (.getfield index, 3)) (k : G Γ kc ks 18 ad (mob ad u M) (pc + 3) L (.ref (ad 10) :: st)) : G Γ kc ks 18 ad (mob ad u M) pc L (.ref (ad 0) :: st) := g_get h i_Mod 0 (by decide) rfl rfl 9 (by decide) hlink rfl hd k
theorem gf_Mod_values (h : Cx Γ cc own rm TB CL (tym u) nl) (hlink : Cond.fieldLink own index "TriColourMachineModel" "values" "[J" ∈ TB) (hd : decode cc pc = .ok (.getfield index, 3)) (k : G Γ kc ks 18 ad (mob ad u M) (pc + 3) L (.ref (ad 11) :: st)) : G Γ kc ks 18 ad (mob ad u M) pc L (.ref (ad 0) :: st) := g_get h i_Mod 0 (by decide) rfl rfl 10 (by decide) hlink rfl hd k
theorem gf_Mod_registers (h : Cx Γ cc own rm TB CL (tym u) nl) (hlink : Cond.fieldLink own index "TriColourMachineModel" "registers" "[J" ∈ TB) (hd : decode cc pc = .ok (.getfield index, 3)) (k : G Γ kc ks 18 ad (mob ad u M) (pc + 3) L (.ref (ad 12) :: st)) : G Γ kc ks 18 ad (mob ad u M) pc L (.ref (ad 0) :: st) := g_get h i_Mod 0 (by decide) rfl rfl 11 (by decide) hlink rfl hd k
theorem gf_Mod_function (h : Cx Γ cc own rm TB CL (tym u) nl) (hlink : Cond.fieldLink own index "TriColourMachineModel" "function" "[I" ∈ TB) (hd : decode cc pc = .ok (.getfield index, 3)) (k : G Γ kc ks 18 ad (mob ad u M) (pc + 3) L (.ref (ad 13) :: st)) : G Γ kc ks 18 ad (mob ad u M) pc L (.ref (ad 0) :: st) := g_get h i_Mod 0 (by decide) rfl rfl 12 (by decide) hlink rfl hd k
theorem gf_Mod_place (h : Cx Γ cc own rm TB CL (tym u) nl) (hlink : Cond.fieldLink own index "TriColourMachineModel" "place" "[I" ∈ TB) (hd : decode cc pc = .ok (.getfield index, 3)) (k : G Γ kc ks 18 ad (mob ad u M) (pc + 3) L (.ref (ad 14) :: st)) : G Γ kc ks 18 ad (mob ad u M) pc L (.ref (ad 0) :: st) := g_get h i_Mod 0 (by decide) rfl rfl 13 (by decide) hlink rfl hd k
theorem gf_Mod_state (h : Cx Γ cc own rm TB CL (tym u) nl) (hlink : Cond.fieldLink own index "TriColourMachineModel" "state" "[I" ∈ TB) (hd : decode cc pc = .ok (.getfield index, 3)) (k : G Γ kc ks 18 ad (mob ad u M) (pc + 3) L (.ref (ad 15) :: st)) : G Γ kc ks 18 ad (mob ad u M) pc L (.ref (ad 0) :: st) := g_get h i_Mod 0 (by decide) rfl rfl 14 (by decide) hlink rfl hd k
theorem gf_Mod_waits (h : Cx Γ cc own rm TB CL (tym u) nl) (hlink : Cond.fieldLink own index "TriColourMachineModel" "waits" "[I" ∈ TB) (hd : decode cc pc = .ok (.getfield index, 3)) (k : G Γ kc ks 18 ad (mob ad u M) (pc + 3) L (.ref (ad 16) :: st)) : G Γ kc ks 18 ad (mob ad u M) pc L (.ref (ad 0) :: st) := g_get h i_Mod 0 (by decide) rfl rfl 15 (by decide) hlink rfl hd k
theorem gf_Mod_active (h : Cx Γ cc own rm TB CL (tym u) nl) (hlink : Cond.fieldLink own index "TriColourMachineModel" "active" "[I" ∈ TB) (hd : decode cc pc = .ok (.getfield index, 3)) (k : G Γ kc ks 18 ad (mob ad u M) (pc + 3) L (.ref (ad 17) :: st)) : G Γ kc ks 18 ad (mob ad u M) pc L (.ref (ad 0) :: st) := g_get h i_Mod 0 (by decide) rfl rfl 16 (by decide) hlink rfl hd k
theorem gf_Mod_depth (h : Cx Γ cc own rm TB CL (tym u) nl) (hlink : Cond.fieldLink own index "TriColourMachineModel" "depth" "I" ∈ TB) (hd : decode cc pc = .ok (.getfield index, 3)) (k : G Γ kc ks 18 ad (mob ad u M) (pc + 3) L (.int (M.1 13 0) :: st)) : G Γ kc ks 18 ad (mob ad u M) pc L (.ref (ad 0) :: st) := g_get h i_Mod 0 (by decide) rfl rfl 17 (by decide) hlink rfl hd k
theorem pf_Mod_depth (h : Cx Γ cc own rm TB CL (tym u) nl) {v : Int32} (hlink : Cond.fieldLink own index "TriColourMachineModel" "depth" "I" ∈ TB) (hd : decode cc pc = .ok (.putfield index, 3)) (k : G Γ kc ks 18 ad (mob ad u (sI M 13 0 v)) (pc + 3) L st) : G Γ kc ks 18 ad (mob ad u M) pc L (.int v :: .ref (ad 0) :: st) := g_put h i_Mod 0 (by decide) rfl rfl 17 (by decide) t_Mod t_Mod_ok n_Mod hlink rfl rfl rfl (Nat.le_of_ble_eq_true rfl) hd (g_world (wm_sI rfl (by simp [mob, sI_1, sI_2])) k)
theorem gf_Mod_phase (h : Cx Γ cc own rm TB CL (tym u) nl) (hlink : Cond.fieldLink own index "TriColourMachineModel" "phase" "I" ∈ TB) (hd : decode cc pc = .ok (.getfield index, 3)) (k : G Γ kc ks 18 ad (mob ad u M) (pc + 3) L (.int (M.1 14 0) :: st)) : G Γ kc ks 18 ad (mob ad u M) pc L (.ref (ad 0) :: st) := g_get h i_Mod 0 (by decide) rfl rfl 18 (by decide) hlink rfl hd k
theorem pf_Mod_phase (h : Cx Γ cc own rm TB CL (tym u) nl) {v : Int32} (hlink : Cond.fieldLink own index "TriColourMachineModel" "phase" "I" ∈ TB) (hd : decode cc pc = .ok (.putfield index, 3)) (k : G Γ kc ks 18 ad (mob ad u (sI M 14 0 v)) (pc + 3) L st) : G Γ kc ks 18 ad (mob ad u M) pc L (.int v :: .ref (ad 0) :: st) := g_put h i_Mod 0 (by decide) rfl rfl 18 (by decide) t_Mod t_Mod_ok n_Mod hlink rfl rfl rfl (Nat.le_of_ble_eq_true rfl) hd (g_world (wm_sI rfl (by simp [mob, sI_1, sI_2])) k)
theorem gf_Mod_sweep (h : Cx Γ cc own rm TB CL (tym u) nl) (hlink : Cond.fieldLink own index "TriColourMachineModel" "sweep" "I" ∈ TB) (hd : decode cc pc = .ok (.getfield index, 3)) (k : G Γ kc ks 18 ad (mob ad u M) (pc + 3) L (.int (M.1 15 0) :: st)) : G Γ kc ks 18 ad (mob ad u M) pc L (.ref (ad 0) :: st) := g_get h i_Mod 0 (by decide) rfl rfl 19 (by decide) hlink rfl hd k
theorem pf_Mod_sweep (h : Cx Γ cc own rm TB CL (tym u) nl) {v : Int32} (hlink : Cond.fieldLink own index "TriColourMachineModel" "sweep" "I" ∈ TB) (hd : decode cc pc = .ok (.putfield index, 3)) (k : G Γ kc ks 18 ad (mob ad u (sI M 15 0 v)) (pc + 3) L st) : G Γ kc ks 18 ad (mob ad u M) pc L (.int v :: .ref (ad 0) :: st) := g_put h i_Mod 0 (by decide) rfl rfl 19 (by decide) t_Mod t_Mod_ok n_Mod hlink rfl rfl rfl (Nat.le_of_ble_eq_true rfl) hd (g_world (wm_sI rfl (by simp [mob, sI_1, sI_2])) k)
theorem gf_Mod_made (h : Cx Γ cc own rm TB CL (tym u) nl) (hlink : Cond.fieldLink own index "TriColourMachineModel" "made" "I" ∈ TB) (hd : decode cc pc = .ok (.getfield index, 3)) (k : G Γ kc ks 18 ad (mob ad u M) (pc + 3) L (.int (M.1 16 0) :: st)) : G Γ kc ks 18 ad (mob ad u M) pc L (.ref (ad 0) :: st) := g_get h i_Mod 0 (by decide) rfl rfl 20 (by decide) hlink rfl hd k
theorem pf_Mod_made (h : Cx Γ cc own rm TB CL (tym u) nl) {v : Int32} (hlink : Cond.fieldLink own index "TriColourMachineModel" "made" "I" ∈ TB) (hd : decode cc pc = .ok (.putfield index, 3)) (k : G Γ kc ks 18 ad (mob ad u (sI M 16 0 v)) (pc + 3) L st) : G Γ kc ks 18 ad (mob ad u M) pc L (.int v :: .ref (ad 0) :: st) := g_put h i_Mod 0 (by decide) rfl rfl 20 (by decide) t_Mod t_Mod_ok n_Mod hlink rfl rfl rfl (Nat.le_of_ble_eq_true rfl) hd (g_world (wm_sI rfl (by simp [mob, sI_1, sI_2])) k)
theorem gf_Mod_gone (h : Cx Γ cc own rm TB CL (tym u) nl) (hlink : Cond.fieldLink own index "TriColourMachineModel" "gone" "I" ∈ TB) (hd : decode cc pc = .ok (.getfield index, 3)) (k : G Γ kc ks 18 ad (mob ad u M) (pc + 3) L (.int (M.1 17 0) :: st)) : G Γ kc ks 18 ad (mob ad u M) pc L (.ref (ad 0) :: st) := g_get h i_Mod 0 (by decide) rfl rfl 21 (by decide) hlink rfl hd k
theorem pf_Mod_gone (h : Cx Γ cc own rm TB CL (tym u) nl) {v : Int32} (hlink : Cond.fieldLink own index "TriColourMachineModel" "gone" "I" ∈ TB) (hd : decode cc pc = .ok (.putfield index, 3)) (k : G Γ kc ks 18 ad (mob ad u (sI M 17 0 v)) (pc + 3) L st) : G Γ kc ks 18 ad (mob ad u M) pc L (.int v :: .ref (ad 0) :: st) := g_put h i_Mod 0 (by decide) rfl rfl 21 (by decide) t_Mod t_Mod_ok n_Mod hlink rfl rfl rfl (Nat.le_of_ble_eq_true rfl) hd (g_world (wm_sI rfl (by simp [mob, sI_1, sI_2])) k)
theorem gf_Mod_done (h : Cx Γ cc own rm TB CL (tym u) nl) (hlink : Cond.fieldLink own index "TriColourMachineModel" "done" "I" ∈ TB) (hd : decode cc pc = .ok (.getfield index, 3)) (k : G Γ kc ks 18 ad (mob ad u M) (pc + 3) L (.int (M.1 18 0) :: st)) : G Γ kc ks 18 ad (mob ad u M) pc L (.ref (ad 0) :: st) := g_get h i_Mod 0 (by decide) rfl rfl 22 (by decide) hlink rfl hd k
theorem pf_Mod_done (h : Cx Γ cc own rm TB CL (tym u) nl) {v : Int32} (hlink : Cond.fieldLink own index "TriColourMachineModel" "done" "I" ∈ TB) (hd : decode cc pc = .ok (.putfield index, 3)) (k : G Γ kc ks 18 ad (mob ad u (sI M 18 0 v)) (pc + 3) L st) : G Γ kc ks 18 ad (mob ad u M) pc L (.int v :: .ref (ad 0) :: st) := g_put h i_Mod 0 (by decide) rfl rfl 22 (by decide) t_Mod t_Mod_ok n_Mod hlink rfl rfl rfl (Nat.le_of_ble_eq_true rfl) hd (g_world (wm_sI rfl (by simp [mob, sI_1, sI_2])) k)
theorem gf_Mod_units (h : Cx Γ cc own rm TB CL (tym u) nl) (hlink : Cond.fieldLink own index "TriColourMachineModel" "units" "I" ∈ TB) (hd : decode cc pc = .ok (.getfield index, 3)) (k : G Γ kc ks 18 ad (mob ad u M) (pc + 3) L (.int (M.1 19 0) :: st)) : G Γ kc ks 18 ad (mob ad u M) pc L (.ref (ad 0) :: st) := g_get h i_Mod 0 (by decide) rfl rfl 23 (by decide) hlink rfl hd k
theorem pf_Mod_units (h : Cx Γ cc own rm TB CL (tym u) nl) {v : Int32} (hlink : Cond.fieldLink own index "TriColourMachineModel" "units" "I" ∈ TB) (hd : decode cc pc = .ok (.putfield index, 3)) (k : G Γ kc ks 18 ad (mob ad u (sI M 19 0 v)) (pc + 3) L st) : G Γ kc ks 18 ad (mob ad u M) pc L (.int v :: .ref (ad 0) :: st) := g_put h i_Mod 0 (by decide) rfl rfl 23 (by decide) t_Mod t_Mod_ok n_Mod hlink rfl rfl rfl (Nat.le_of_ble_eq_true rfl) hd (g_world (wm_sI rfl (by simp [mob, sI_1, sI_2])) k)
theorem gf_Mod_fulls (h : Cx Γ cc own rm TB CL (tym u) nl) (hlink : Cond.fieldLink own index "TriColourMachineModel" "fulls" "I" ∈ TB) (hd : decode cc pc = .ok (.getfield index, 3)) (k : G Γ kc ks 18 ad (mob ad u M) (pc + 3) L (.int (M.1 20 0) :: st)) : G Γ kc ks 18 ad (mob ad u M) pc L (.ref (ad 0) :: st) := g_get h i_Mod 0 (by decide) rfl rfl 24 (by decide) hlink rfl hd k
theorem pf_Mod_fulls (h : Cx Γ cc own rm TB CL (tym u) nl) {v : Int32} (hlink : Cond.fieldLink own index "TriColourMachineModel" "fulls" "I" ∈ TB) (hd : decode cc pc = .ok (.putfield index, 3)) (k : G Γ kc ks 18 ad (mob ad u (sI M 20 0 v)) (pc + 3) L st) : G Γ kc ks 18 ad (mob ad u M) pc L (.int v :: .ref (ad 0) :: st) := g_put h i_Mod 0 (by decide) rfl rfl 24 (by decide) t_Mod t_Mod_ok n_Mod hlink rfl rfl rfl (Nat.le_of_ble_eq_true rfl) hd (g_world (wm_sI rfl (by simp [mob, sI_1, sI_2])) k)
theorem gf_Mod_thrown (h : Cx Γ cc own rm TB CL (tym u) nl) (hlink : Cond.fieldLink own index "TriColourMachineModel" "thrown" "I" ∈ TB) (hd : decode cc pc = .ok (.getfield index, 3)) (k : G Γ kc ks 18 ad (mob ad u M) (pc + 3) L (.int (M.1 21 0) :: st)) : G Γ kc ks 18 ad (mob ad u M) pc L (.ref (ad 0) :: st) := g_get h i_Mod 0 (by decide) rfl rfl 25 (by decide) hlink rfl hd k
theorem pf_Mod_thrown (h : Cx Γ cc own rm TB CL (tym u) nl) {v : Int32} (hlink : Cond.fieldLink own index "TriColourMachineModel" "thrown" "I" ∈ TB) (hd : decode cc pc = .ok (.putfield index, 3)) (k : G Γ kc ks 18 ad (mob ad u (sI M 21 0 v)) (pc + 3) L st) : G Γ kc ks 18 ad (mob ad u M) pc L (.int v :: .ref (ad 0) :: st) := g_put h i_Mod 0 (by decide) rfl rfl 25 (by decide) t_Mod t_Mod_ok n_Mod hlink rfl rfl rfl (Nat.le_of_ble_eq_true rfl) hd (g_world (wm_sI rfl (by simp [mob, sI_1, sI_2])) k)
theorem gf_Mod_trouble (h : Cx Γ cc own rm TB CL (tym u) nl) (hlink : Cond.fieldLink own index "TriColourMachineModel" "trouble" "I" ∈ TB) (hd : decode cc pc = .ok (.getfield index, 3)) (k : G Γ kc ks 18 ad (mob ad u M) (pc + 3) L (.int (M.1 22 0) :: st)) : G Γ kc ks 18 ad (mob ad u M) pc L (.ref (ad 0) :: st) := g_get h i_Mod 0 (by decide) rfl rfl 26 (by decide) hlink rfl hd k
theorem pf_Mod_trouble (h : Cx Γ cc own rm TB CL (tym u) nl) {v : Int32} (hlink : Cond.fieldLink own index "TriColourMachineModel" "trouble" "I" ∈ TB) (hd : decode cc pc = .ok (.putfield index, 3)) (k : G Γ kc ks 18 ad (mob ad u (sI M 22 0 v)) (pc + 3) L st) : G Γ kc ks 18 ad (mob ad u M) pc L (.int v :: .ref (ad 0) :: st) := g_put h i_Mod 0 (by decide) rfl rfl 26 (by decide) t_Mod t_Mod_ok n_Mod hlink rfl rfl rfl (Nat.le_of_ble_eq_true rfl) hd (g_world (wm_sI rfl (by simp [mob, sI_1, sI_2])) k)
theorem gf_Mod_outcome (h : Cx Γ cc own rm TB CL (tym u) nl) (hlink : Cond.fieldLink own index "TriColourMachineModel" "outcome" "J" ∈ TB) (hd : decode cc pc = .ok (.getfield index, 3)) (k : G Γ kc ks 18 ad (mob ad u M) (pc + 3) L (.long (M.2.1 4 0 0) :: st)) : G Γ kc ks 18 ad (mob ad u M) pc L (.ref (ad 0) :: st) := g_get h i_Mod 0 (by decide) rfl rfl 27 (by decide) hlink rfl hd k
theorem pf_Mod_outcome (h : Cx Γ cc own rm TB CL (tym u) nl) {v : Int64} (hlink : Cond.fieldLink own index "TriColourMachineModel" "outcome" "J" ∈ TB) (hd : decode cc pc = .ok (.putfield index, 3)) (k : G Γ kc ks 18 ad (mob ad u (sJ M 4 0 0 v)) (pc + 3) L st) : G Γ kc ks 18 ad (mob ad u M) pc L (.long v :: .ref (ad 0) :: st) := g_put h i_Mod 0 (by decide) rfl rfl 27 (by decide) t_Mod t_Mod_ok n_Mod hlink rfl rfl rfl (Nat.le_of_ble_eq_true rfl) hd (g_world (wm_sJ rfl (by simp [mob, sJ_1, sJ_2])) k)
theorem gi_ops (h : Cx Γ cc own rm TB CL (tym u) nl) {j : Nat} {i : Int32} (hi : i = nI j) (hj : j < 64) (hd : decode cc pc = .ok (.iaload, 1)) (k : G Γ kc ks 18 ad (mob ad u M) (pc + 1) L (.int (M.1 0 j) :: st)) : G Γ kc ks 18 ad (mob ad u M) pc L (.int i :: .ref (ad 1) :: st) := by
  subst hi
  have hc : (nI j).toNatClampNeg = j := nI_clamp (by omega)
  refine g_iaload h 1 0 (by decide) rfl rfl (vp_in_nI hj (by decide)) hd ?_
  rw [hc]; exact k
theorem pi_ops (h : Cx Γ cc own rm TB CL (tym u) nl) {j : Nat} {i v : Int32} (hi : i = nI j) (hj : j < 64) (hd : decode cc pc = .ok (.iastore, 1)) (k : G Γ kc ks 18 ad (mob ad u (sI M 0 j v)) (pc + 1) L st) : G Γ kc ks 18 ad (mob ad u M) pc L (.int v :: .int i :: .ref (ad 1) :: st) := by
  subst hi
  have hc : (nI j).toNatClampNeg = j := nI_clamp (by omega)
  refine g_iastore h 1 0 (by decide) rfl rfl (vp_in_nI hj (by decide)) hd ?_
  rw [hc]
  have e : (sI M 0 j v).1 0 = upd (M.1 0) j v := by
    funext b
    simp [sI_1, upd]
  refine g_world (wm_sI (f := 0) rfl ?_) k
  show Sum.inl (u 0, 64, Sum.inl ((sI M 0 j v).1 0)) = _
  rw [e]
theorem gi_as (h : Cx Γ cc own rm TB CL (tym u) nl) {j : Nat} {i : Int32} (hi : i = nI j) (hj : j < 64) (hd : decode cc pc = .ok (.iaload, 1)) (k : G Γ kc ks 18 ad (mob ad u M) (pc + 1) L (.int (M.1 1 j) :: st)) : G Γ kc ks 18 ad (mob ad u M) pc L (.int i :: .ref (ad 2) :: st) := by
  subst hi
  have hc : (nI j).toNatClampNeg = j := nI_clamp (by omega)
  refine g_iaload h 2 0 (by decide) rfl rfl (vp_in_nI hj (by decide)) hd ?_
  rw [hc]; exact k
theorem pi_as (h : Cx Γ cc own rm TB CL (tym u) nl) {j : Nat} {i v : Int32} (hi : i = nI j) (hj : j < 64) (hd : decode cc pc = .ok (.iastore, 1)) (k : G Γ kc ks 18 ad (mob ad u (sI M 1 j v)) (pc + 1) L st) : G Γ kc ks 18 ad (mob ad u M) pc L (.int v :: .int i :: .ref (ad 2) :: st) := by
  subst hi
  have hc : (nI j).toNatClampNeg = j := nI_clamp (by omega)
  refine g_iastore h 2 0 (by decide) rfl rfl (vp_in_nI hj (by decide)) hd ?_
  rw [hc]
  have e : (sI M 1 j v).1 1 = upd (M.1 1) j v := by
    funext b
    simp [sI_1, upd]
  refine g_world (wm_sI (f := 1) rfl ?_) k
  show Sum.inl (u 0, 64, Sum.inl ((sI M 1 j v).1 1)) = _
  rw [e]
theorem gi_bs (h : Cx Γ cc own rm TB CL (tym u) nl) {j : Nat} {i : Int32} (hi : i = nI j) (hj : j < 64) (hd : decode cc pc = .ok (.iaload, 1)) (k : G Γ kc ks 18 ad (mob ad u M) (pc + 1) L (.int (M.1 2 j) :: st)) : G Γ kc ks 18 ad (mob ad u M) pc L (.int i :: .ref (ad 3) :: st) := by
  subst hi
  have hc : (nI j).toNatClampNeg = j := nI_clamp (by omega)
  refine g_iaload h 3 0 (by decide) rfl rfl (vp_in_nI hj (by decide)) hd ?_
  rw [hc]; exact k
theorem pi_bs (h : Cx Γ cc own rm TB CL (tym u) nl) {j : Nat} {i v : Int32} (hi : i = nI j) (hj : j < 64) (hd : decode cc pc = .ok (.iastore, 1)) (k : G Γ kc ks 18 ad (mob ad u (sI M 2 j v)) (pc + 1) L st) : G Γ kc ks 18 ad (mob ad u M) pc L (.int v :: .int i :: .ref (ad 3) :: st) := by
  subst hi
  have hc : (nI j).toNatClampNeg = j := nI_clamp (by omega)
  refine g_iastore h 3 0 (by decide) rfl rfl (vp_in_nI hj (by decide)) hd ?_
  rw [hc]
  have e : (sI M 2 j v).1 2 = upd (M.1 2) j v := by
    funext b
    simp [sI_1, upd]
  refine g_world (wm_sI (f := 2) rfl ?_) k
  show Sum.inl (u 0, 64, Sum.inl ((sI M 2 j v).1 2)) = _
  rw [e]
theorem gi_cs (h : Cx Γ cc own rm TB CL (tym u) nl) {j : Nat} {i : Int32} (hi : i = nI j) (hj : j < 64) (hd : decode cc pc = .ok (.iaload, 1)) (k : G Γ kc ks 18 ad (mob ad u M) (pc + 1) L (.int (M.1 3 j) :: st)) : G Γ kc ks 18 ad (mob ad u M) pc L (.int i :: .ref (ad 4) :: st) := by
  subst hi
  have hc : (nI j).toNatClampNeg = j := nI_clamp (by omega)
  refine g_iaload h 4 0 (by decide) rfl rfl (vp_in_nI hj (by decide)) hd ?_
  rw [hc]; exact k
theorem pi_cs (h : Cx Γ cc own rm TB CL (tym u) nl) {j : Nat} {i v : Int32} (hi : i = nI j) (hj : j < 64) (hd : decode cc pc = .ok (.iastore, 1)) (k : G Γ kc ks 18 ad (mob ad u (sI M 3 j v)) (pc + 1) L st) : G Γ kc ks 18 ad (mob ad u M) pc L (.int v :: .int i :: .ref (ad 4) :: st) := by
  subst hi
  have hc : (nI j).toNatClampNeg = j := nI_clamp (by omega)
  refine g_iastore h 4 0 (by decide) rfl rfl (vp_in_nI hj (by decide)) hd ?_
  rw [hc]
  have e : (sI M 3 j v).1 3 = upd (M.1 3) j v := by
    funext b
    simp [sI_1, upd]
  refine g_world (wm_sI (f := 3) rfl ?_) k
  show Sum.inl (u 0, 64, Sum.inl ((sI M 3 j v).1 3)) = _
  rw [e]
theorem gi_kind (h : Cx Γ cc own rm TB CL (tym u) nl) {j : Nat} {i : Int32} (hi : i = nI j) (hj : j < 16) (hd : decode cc pc = .ok (.iaload, 1)) (k : G Γ kc ks 18 ad (mob ad u M) (pc + 1) L (.int (M.1 4 j) :: st)) : G Γ kc ks 18 ad (mob ad u M) pc L (.int i :: .ref (ad 6) :: st) := by
  subst hi
  have hc : (nI j).toNatClampNeg = j := nI_clamp (by omega)
  refine g_iaload h 6 0 (by decide) rfl rfl (vp_in_nI hj (by decide)) hd ?_
  rw [hc]; exact k
theorem pi_kind (h : Cx Γ cc own rm TB CL (tym u) nl) {j : Nat} {i v : Int32} (hi : i = nI j) (hj : j < 16) (hd : decode cc pc = .ok (.iastore, 1)) (k : G Γ kc ks 18 ad (mob ad u (sI M 4 j v)) (pc + 1) L st) : G Γ kc ks 18 ad (mob ad u M) pc L (.int v :: .int i :: .ref (ad 6) :: st) := by
  subst hi
  have hc : (nI j).toNatClampNeg = j := nI_clamp (by omega)
  refine g_iastore h 6 0 (by decide) rfl rfl (vp_in_nI hj (by decide)) hd ?_
  rw [hc]
  have e : (sI M 4 j v).1 4 = upd (M.1 4) j v := by
    funext b
    simp [sI_1, upd]
  refine g_world (wm_sI (f := 4) rfl ?_) k
  show Sum.inl (u 0, 16, Sum.inl ((sI M 4 j v).1 4)) = _
  rw [e]
theorem gi_colour (h : Cx Γ cc own rm TB CL (tym u) nl) {j : Nat} {i : Int32} (hi : i = nI j) (hj : j < 16) (hd : decode cc pc = .ok (.iaload, 1)) (k : G Γ kc ks 18 ad (mob ad u M) (pc + 1) L (.int (M.1 5 j) :: st)) : G Γ kc ks 18 ad (mob ad u M) pc L (.int i :: .ref (ad 7) :: st) := by
  subst hi
  have hc : (nI j).toNatClampNeg = j := nI_clamp (by omega)
  refine g_iaload h 7 0 (by decide) rfl rfl (vp_in_nI hj (by decide)) hd ?_
  rw [hc]; exact k
theorem pi_colour (h : Cx Γ cc own rm TB CL (tym u) nl) {j : Nat} {i v : Int32} (hi : i = nI j) (hj : j < 16) (hd : decode cc pc = .ok (.iastore, 1)) (k : G Γ kc ks 18 ad (mob ad u (sI M 5 j v)) (pc + 1) L st) : G Γ kc ks 18 ad (mob ad u M) pc L (.int v :: .int i :: .ref (ad 7) :: st) := by
  subst hi
  have hc : (nI j).toNatClampNeg = j := nI_clamp (by omega)
  refine g_iastore h 7 0 (by decide) rfl rfl (vp_in_nI hj (by decide)) hd ?_
  rw [hc]
  have e : (sI M 5 j v).1 5 = upd (M.1 5) j v := by
    funext b
    simp [sI_1, upd]
  refine g_world (wm_sI (f := 5) rfl ?_) k
  show Sum.inl (u 0, 16, Sum.inl ((sI M 5 j v).1 5)) = _
  rw [e]
theorem gi_size (h : Cx Γ cc own rm TB CL (tym u) nl) {j : Nat} {i : Int32} (hi : i = nI j) (hj : j < 16) (hd : decode cc pc = .ok (.iaload, 1)) (k : G Γ kc ks 18 ad (mob ad u M) (pc + 1) L (.int (M.1 6 j) :: st)) : G Γ kc ks 18 ad (mob ad u M) pc L (.int i :: .ref (ad 8) :: st) := by
  subst hi
  have hc : (nI j).toNatClampNeg = j := nI_clamp (by omega)
  refine g_iaload h 8 0 (by decide) rfl rfl (vp_in_nI hj (by decide)) hd ?_
  rw [hc]; exact k
theorem pi_size (h : Cx Γ cc own rm TB CL (tym u) nl) {j : Nat} {i v : Int32} (hi : i = nI j) (hj : j < 16) (hd : decode cc pc = .ok (.iastore, 1)) (k : G Γ kc ks 18 ad (mob ad u (sI M 6 j v)) (pc + 1) L st) : G Γ kc ks 18 ad (mob ad u M) pc L (.int v :: .int i :: .ref (ad 8) :: st) := by
  subst hi
  have hc : (nI j).toNatClampNeg = j := nI_clamp (by omega)
  refine g_iastore h 8 0 (by decide) rfl rfl (vp_in_nI hj (by decide)) hd ?_
  rw [hc]
  have e : (sI M 6 j v).1 6 = upd (M.1 6) j v := by
    funext b
    simp [sI_1, upd]
  refine g_world (wm_sI (f := 6) rfl ?_) k
  show Sum.inl (u 0, 16, Sum.inl ((sI M 6 j v).1 6)) = _
  rw [e]
theorem gi_metaOf (h : Cx Γ cc own rm TB CL (tym u) nl) {j : Nat} {i : Int32} (hi : i = nI j) (hj : j < 16) (hd : decode cc pc = .ok (.iaload, 1)) (k : G Γ kc ks 18 ad (mob ad u M) (pc + 1) L (.int (M.1 7 j) :: st)) : G Γ kc ks 18 ad (mob ad u M) pc L (.int i :: .ref (ad 9) :: st) := by
  subst hi
  have hc : (nI j).toNatClampNeg = j := nI_clamp (by omega)
  refine g_iaload h 9 0 (by decide) rfl rfl (vp_in_nI hj (by decide)) hd ?_
  rw [hc]; exact k
theorem pi_metaOf (h : Cx Γ cc own rm TB CL (tym u) nl) {j : Nat} {i v : Int32} (hi : i = nI j) (hj : j < 16) (hd : decode cc pc = .ok (.iastore, 1)) (k : G Γ kc ks 18 ad (mob ad u (sI M 7 j v)) (pc + 1) L st) : G Γ kc ks 18 ad (mob ad u M) pc L (.int v :: .int i :: .ref (ad 9) :: st) := by
  subst hi
  have hc : (nI j).toNatClampNeg = j := nI_clamp (by omega)
  refine g_iastore h 9 0 (by decide) rfl rfl (vp_in_nI hj (by decide)) hd ?_
  rw [hc]
  have e : (sI M 7 j v).1 7 = upd (M.1 7) j v := by
    funext b
    simp [sI_1, upd]
  refine g_world (wm_sI (f := 7) rfl ?_) k
  show Sum.inl (u 0, 16, Sum.inl ((sI M 7 j v).1 7)) = _
  rw [e]
theorem gi_function (h : Cx Γ cc own rm TB CL (tym u) nl) {j : Nat} {i : Int32} (hi : i = nI j) (hj : j < 16) (hd : decode cc pc = .ok (.iaload, 1)) (k : G Γ kc ks 18 ad (mob ad u M) (pc + 1) L (.int (M.1 8 j) :: st)) : G Γ kc ks 18 ad (mob ad u M) pc L (.int i :: .ref (ad 13) :: st) := by
  subst hi
  have hc : (nI j).toNatClampNeg = j := nI_clamp (by omega)
  refine g_iaload h 13 0 (by decide) rfl rfl (vp_in_nI hj (by decide)) hd ?_
  rw [hc]; exact k
theorem pi_function (h : Cx Γ cc own rm TB CL (tym u) nl) {j : Nat} {i v : Int32} (hi : i = nI j) (hj : j < 16) (hd : decode cc pc = .ok (.iastore, 1)) (k : G Γ kc ks 18 ad (mob ad u (sI M 8 j v)) (pc + 1) L st) : G Γ kc ks 18 ad (mob ad u M) pc L (.int v :: .int i :: .ref (ad 13) :: st) := by
  subst hi
  have hc : (nI j).toNatClampNeg = j := nI_clamp (by omega)
  refine g_iastore h 13 0 (by decide) rfl rfl (vp_in_nI hj (by decide)) hd ?_
  rw [hc]
  have e : (sI M 8 j v).1 8 = upd (M.1 8) j v := by
    funext b
    simp [sI_1, upd]
  refine g_world (wm_sI (f := 8) rfl ?_) k
  show Sum.inl (u 0, 16, Sum.inl ((sI M 8 j v).1 8)) = _
  rw [e]
theorem gi_place (h : Cx Γ cc own rm TB CL (tym u) nl) {j : Nat} {i : Int32} (hi : i = nI j) (hj : j < 16) (hd : decode cc pc = .ok (.iaload, 1)) (k : G Γ kc ks 18 ad (mob ad u M) (pc + 1) L (.int (M.1 9 j) :: st)) : G Γ kc ks 18 ad (mob ad u M) pc L (.int i :: .ref (ad 14) :: st) := by
  subst hi
  have hc : (nI j).toNatClampNeg = j := nI_clamp (by omega)
  refine g_iaload h 14 0 (by decide) rfl rfl (vp_in_nI hj (by decide)) hd ?_
  rw [hc]; exact k
theorem pi_place (h : Cx Γ cc own rm TB CL (tym u) nl) {j : Nat} {i v : Int32} (hi : i = nI j) (hj : j < 16) (hd : decode cc pc = .ok (.iastore, 1)) (k : G Γ kc ks 18 ad (mob ad u (sI M 9 j v)) (pc + 1) L st) : G Γ kc ks 18 ad (mob ad u M) pc L (.int v :: .int i :: .ref (ad 14) :: st) := by
  subst hi
  have hc : (nI j).toNatClampNeg = j := nI_clamp (by omega)
  refine g_iastore h 14 0 (by decide) rfl rfl (vp_in_nI hj (by decide)) hd ?_
  rw [hc]
  have e : (sI M 9 j v).1 9 = upd (M.1 9) j v := by
    funext b
    simp [sI_1, upd]
  refine g_world (wm_sI (f := 9) rfl ?_) k
  show Sum.inl (u 0, 16, Sum.inl ((sI M 9 j v).1 9)) = _
  rw [e]
theorem gi_state (h : Cx Γ cc own rm TB CL (tym u) nl) {j : Nat} {i : Int32} (hi : i = nI j) (hj : j < 16) (hd : decode cc pc = .ok (.iaload, 1)) (k : G Γ kc ks 18 ad (mob ad u M) (pc + 1) L (.int (M.1 10 j) :: st)) : G Γ kc ks 18 ad (mob ad u M) pc L (.int i :: .ref (ad 15) :: st) := by
  subst hi
  have hc : (nI j).toNatClampNeg = j := nI_clamp (by omega)
  refine g_iaload h 15 0 (by decide) rfl rfl (vp_in_nI hj (by decide)) hd ?_
  rw [hc]; exact k
theorem pi_state (h : Cx Γ cc own rm TB CL (tym u) nl) {j : Nat} {i v : Int32} (hi : i = nI j) (hj : j < 16) (hd : decode cc pc = .ok (.iastore, 1)) (k : G Γ kc ks 18 ad (mob ad u (sI M 10 j v)) (pc + 1) L st) : G Γ kc ks 18 ad (mob ad u M) pc L (.int v :: .int i :: .ref (ad 15) :: st) := by
  subst hi
  have hc : (nI j).toNatClampNeg = j := nI_clamp (by omega)
  refine g_iastore h 15 0 (by decide) rfl rfl (vp_in_nI hj (by decide)) hd ?_
  rw [hc]
  have e : (sI M 10 j v).1 10 = upd (M.1 10) j v := by
    funext b
    simp [sI_1, upd]
  refine g_world (wm_sI (f := 10) rfl ?_) k
  show Sum.inl (u 0, 16, Sum.inl ((sI M 10 j v).1 10)) = _
  rw [e]
theorem gi_waits (h : Cx Γ cc own rm TB CL (tym u) nl) {j : Nat} {i : Int32} (hi : i = nI j) (hj : j < 16) (hd : decode cc pc = .ok (.iaload, 1)) (k : G Γ kc ks 18 ad (mob ad u M) (pc + 1) L (.int (M.1 11 j) :: st)) : G Γ kc ks 18 ad (mob ad u M) pc L (.int i :: .ref (ad 16) :: st) := by
  subst hi
  have hc : (nI j).toNatClampNeg = j := nI_clamp (by omega)
  refine g_iaload h 16 0 (by decide) rfl rfl (vp_in_nI hj (by decide)) hd ?_
  rw [hc]; exact k
theorem pi_waits (h : Cx Γ cc own rm TB CL (tym u) nl) {j : Nat} {i v : Int32} (hi : i = nI j) (hj : j < 16) (hd : decode cc pc = .ok (.iastore, 1)) (k : G Γ kc ks 18 ad (mob ad u (sI M 11 j v)) (pc + 1) L st) : G Γ kc ks 18 ad (mob ad u M) pc L (.int v :: .int i :: .ref (ad 16) :: st) := by
  subst hi
  have hc : (nI j).toNatClampNeg = j := nI_clamp (by omega)
  refine g_iastore h 16 0 (by decide) rfl rfl (vp_in_nI hj (by decide)) hd ?_
  rw [hc]
  have e : (sI M 11 j v).1 11 = upd (M.1 11) j v := by
    funext b
    simp [sI_1, upd]
  refine g_world (wm_sI (f := 11) rfl ?_) k
  show Sum.inl (u 0, 16, Sum.inl ((sI M 11 j v).1 11)) = _
  rw [e]
theorem gi_active (h : Cx Γ cc own rm TB CL (tym u) nl) {j : Nat} {i : Int32} (hi : i = nI j) (hj : j < 6) (hd : decode cc pc = .ok (.iaload, 1)) (k : G Γ kc ks 18 ad (mob ad u M) (pc + 1) L (.int (M.1 12 j) :: st)) : G Γ kc ks 18 ad (mob ad u M) pc L (.int i :: .ref (ad 17) :: st) := by
  subst hi
  have hc : (nI j).toNatClampNeg = j := nI_clamp (by omega)
  refine g_iaload h 17 0 (by decide) rfl rfl (vp_in_nI hj (by decide)) hd ?_
  rw [hc]; exact k
theorem pi_active (h : Cx Γ cc own rm TB CL (tym u) nl) {j : Nat} {i v : Int32} (hi : i = nI j) (hj : j < 6) (hd : decode cc pc = .ok (.iastore, 1)) (k : G Γ kc ks 18 ad (mob ad u (sI M 12 j v)) (pc + 1) L st) : G Γ kc ks 18 ad (mob ad u M) pc L (.int v :: .int i :: .ref (ad 17) :: st) := by
  subst hi
  have hc : (nI j).toNatClampNeg = j := nI_clamp (by omega)
  refine g_iastore h 17 0 (by decide) rfl rfl (vp_in_nI hj (by decide)) hd ?_
  rw [hc]
  have e : (sI M 12 j v).1 12 = upd (M.1 12) j v := by
    funext b
    simp [sI_1, upd]
  refine g_world (wm_sI (f := 12) rfl ?_) k
  show Sum.inl (u 0, 6, Sum.inl ((sI M 12 j v).1 12)) = _
  rw [e]
theorem gj_globals (h : Cx Γ cc own rm TB CL (tym u) nl) {j : Nat} {i : Int32} (hi : i = nI j) (hj : j < 6) (hd : decode cc pc = .ok (.laload, 1)) (k : G Γ kc ks 18 ad (mob ad u M) (pc + 1) L (.long (M.2.1 0 0 j) :: st)) : G Γ kc ks 18 ad (mob ad u M) pc L (.int i :: .ref (ad 5) :: st) := by
  subst hi
  have hc : (nI j).toNatClampNeg = j := nI_clamp (by omega)
  refine g_laload h 5 1 (by decide) rfl rfl (vp_in_nI hj (by decide)) hd ?_
  rw [hc]; exact k
theorem pj_globals (h : Cx Γ cc own rm TB CL (tym u) nl) {j : Nat} {i : Int32} {v : Int64} (hi : i = nI j) (hj : j < 6) (hd : decode cc pc = .ok (.lastore, 1)) (k : G Γ kc ks 18 ad (mob ad u (sJ M 0 0 j v)) (pc + 1) L st) : G Γ kc ks 18 ad (mob ad u M) pc L (.long v :: .int i :: .ref (ad 5) :: st) := by
  subst hi
  have hc : (nI j).toNatClampNeg = j := nI_clamp (by omega)
  refine g_lastore h 5 1 (by decide) rfl rfl (vp_in_nI hj (by decide)) hd ?_
  rw [hc]
  have e : (sJ M 0 0 j v).2.1 0 0 = vp_updL (M.2.1 0 0) j v := by
    funext b
    simp [sJ_2, vp_updL]
  refine g_world (wm_sJ (f := 0) rfl ?_) k
  show Sum.inl (u 1, 6, Sum.inr (Sum.inl ((sJ M 0 0 j v).2.1 0 0))) = _
  rw [e]
theorem gj_keys (h : Cx Γ cc own rm TB CL (tym u) nl) {j : Nat} {i : Int32} (hi : i = nI j) (hj : j < 96) (hd : decode cc pc = .ok (.laload, 1)) (k : G Γ kc ks 18 ad (mob ad u M) (pc + 1) L (.long (M.2.1 1 0 j) :: st)) : G Γ kc ks 18 ad (mob ad u M) pc L (.int i :: .ref (ad 10) :: st) := by
  subst hi
  have hc : (nI j).toNatClampNeg = j := nI_clamp (by omega)
  refine g_laload h 10 1 (by decide) rfl rfl (vp_in_nI hj (by decide)) hd ?_
  rw [hc]; exact k
theorem pj_keys (h : Cx Γ cc own rm TB CL (tym u) nl) {j : Nat} {i : Int32} {v : Int64} (hi : i = nI j) (hj : j < 96) (hd : decode cc pc = .ok (.lastore, 1)) (k : G Γ kc ks 18 ad (mob ad u (sJ M 1 0 j v)) (pc + 1) L st) : G Γ kc ks 18 ad (mob ad u M) pc L (.long v :: .int i :: .ref (ad 10) :: st) := by
  subst hi
  have hc : (nI j).toNatClampNeg = j := nI_clamp (by omega)
  refine g_lastore h 10 1 (by decide) rfl rfl (vp_in_nI hj (by decide)) hd ?_
  rw [hc]
  have e : (sJ M 1 0 j v).2.1 1 0 = vp_updL (M.2.1 1 0) j v := by
    funext b
    simp [sJ_2, vp_updL]
  refine g_world (wm_sJ (f := 1) rfl ?_) k
  show Sum.inl (u 1, 96, Sum.inr (Sum.inl ((sJ M 1 0 j v).2.1 1 0))) = _
  rw [e]
theorem gj_values (h : Cx Γ cc own rm TB CL (tym u) nl) {j : Nat} {i : Int32} (hi : i = nI j) (hj : j < 96) (hd : decode cc pc = .ok (.laload, 1)) (k : G Γ kc ks 18 ad (mob ad u M) (pc + 1) L (.long (M.2.1 2 0 j) :: st)) : G Γ kc ks 18 ad (mob ad u M) pc L (.int i :: .ref (ad 11) :: st) := by
  subst hi
  have hc : (nI j).toNatClampNeg = j := nI_clamp (by omega)
  refine g_laload h 11 1 (by decide) rfl rfl (vp_in_nI hj (by decide)) hd ?_
  rw [hc]; exact k
theorem pj_values (h : Cx Γ cc own rm TB CL (tym u) nl) {j : Nat} {i : Int32} {v : Int64} (hi : i = nI j) (hj : j < 96) (hd : decode cc pc = .ok (.lastore, 1)) (k : G Γ kc ks 18 ad (mob ad u (sJ M 2 0 j v)) (pc + 1) L st) : G Γ kc ks 18 ad (mob ad u M) pc L (.long v :: .int i :: .ref (ad 11) :: st) := by
  subst hi
  have hc : (nI j).toNatClampNeg = j := nI_clamp (by omega)
  refine g_lastore h 11 1 (by decide) rfl rfl (vp_in_nI hj (by decide)) hd ?_
  rw [hc]
  have e : (sJ M 2 0 j v).2.1 2 0 = vp_updL (M.2.1 2 0) j v := by
    funext b
    simp [sJ_2, vp_updL]
  refine g_world (wm_sJ (f := 2) rfl ?_) k
  show Sum.inl (u 1, 96, Sum.inr (Sum.inl ((sJ M 2 0 j v).2.1 2 0))) = _
  rw [e]
theorem gj_registers (h : Cx Γ cc own rm TB CL (tym u) nl) {j : Nat} {i : Int32} (hi : i = nI j) (hj : j < 64) (hd : decode cc pc = .ok (.laload, 1)) (k : G Γ kc ks 18 ad (mob ad u M) (pc + 1) L (.long (M.2.1 3 0 j) :: st)) : G Γ kc ks 18 ad (mob ad u M) pc L (.int i :: .ref (ad 12) :: st) := by
  subst hi
  have hc : (nI j).toNatClampNeg = j := nI_clamp (by omega)
  refine g_laload h 12 1 (by decide) rfl rfl (vp_in_nI hj (by decide)) hd ?_
  rw [hc]; exact k
theorem pj_registers (h : Cx Γ cc own rm TB CL (tym u) nl) {j : Nat} {i : Int32} {v : Int64} (hi : i = nI j) (hj : j < 64) (hd : decode cc pc = .ok (.lastore, 1)) (k : G Γ kc ks 18 ad (mob ad u (sJ M 3 0 j v)) (pc + 1) L st) : G Γ kc ks 18 ad (mob ad u M) pc L (.long v :: .int i :: .ref (ad 12) :: st) := by
  subst hi
  have hc : (nI j).toNatClampNeg = j := nI_clamp (by omega)
  refine g_lastore h 12 1 (by decide) rfl rfl (vp_in_nI hj (by decide)) hd ?_
  rw [hc]
  have e : (sJ M 3 0 j v).2.1 3 0 = vp_updL (M.2.1 3 0) j v := by
    funext b
    simp [sJ_2, vp_updL]
  refine g_world (wm_sJ (f := 3) rfl ?_) k
  show Sum.inl (u 1, 64, Sum.inr (Sum.inl ((sJ M 3 0 j v).2.1 3 0))) = _
  rw [e]
end RowsM
/-- the contract of a method of the reference -/
abbrev Cm (l : Launch) (D : va_G) (u : Nat → ClassId) (ad : Nat → Nat) (y : MethodName) (b : ByteArray) (n : Nat) (ret : Option FieldType) (rm : Room) (As : List Value) (M : CS) (v0 : Option Value) (M2 : CS) : Prop := Ct l D CL (tym u) NL 18 ad y (.code y b n ret :: TB) rm As (mob ad u M) (fun v σ2 => v = v0 ∧ σ2 = mob ad u M2)
end
section
/-! THE REFERENCE AS FUNCTIONS on its own state: ints by (array, place) and (field, 0), longs by (array, 0, place) -/
theorem nI_at6 (a b : Nat) : nI a * 6 + nI b = nI (a * 6 + b) := by
  rw [← nI_add]
  congr 1
  exact (Int32.ofNat_mul a 6).symm
theorem nI_at4 (a b : Nat) : nI a * 4 + nI b = nI (a * 4 + b) := by
  rw [← nI_add]
  congr 1
  exact (Int32.ofNat_mul a 4).symm
theorem nI_at16 (a b : Nat) : nI a * 16 + nI b = nI (a * 16 + b) := by
  rw [← nI_add]
  congr 1
  exact (Int32.ofNat_mul a 16).symm
def mObj (v : Int64) : Option Nat := if v < 10000000000 then none else some (on v)
def mOf (M : CS) (k : Int32) (v : Int64) : Option Nat := if ¬ v < 10000000000 ∧ M.1 4 (on v) = k then some (on v) else none
def mshade (M : CS) (v : Int64) : CS := if ¬ v < 10000000000 ∧ M.1 5 (on v) = 0 then sI M 5 (on v) 1 else M
def mtouch (M : CS) (n : Nat) : CS := if M.1 14 0 = 1 ∧ M.1 5 n = 2 then sI M 5 n 1 else M
def mfree (M : CS) : Option Nat := lst (fun n => M.1 4 n == 0) 16 0
def mgray (M : CS) : Option Nat := lst (fun n => !(M.1 4 n == 0) && M.1 5 n == 1) 16 0
def mSize (M : CS) (n : Nat) : Nat := (M.1 6 n).toNatClampNeg
def mpair (M : CS) (t : Nat) (key : Int64) : Option Nat := lst (fun i => M.2.1 1 0 (t * 6 + i) == key) (mSize M t) 0
def mnext (M : CS) (t : Nat) (key : Int64) : Option Nat :=
  if M.1 7 t < 0 then none else match mpair M (M.1 7 t).toNatClampNeg key with
    | none => none
    | some p => mOf M 1 (M.2.1 2 0 ((M.1 7 t).toNatClampNeg * 6 + p))
/-- what the reference keeps true of its numbers -/
def okM (M : CS) : Prop := (∀ n, n < 16 → (∃ P, P ≤ 6 ∧ M.1 6 n = nI P) ∧ (M.1 7 n = -1 ∨ ∃ j, j < 16 ∧ M.1 7 n = nI j) ∧ (∃ p, p ≤ 16 ∧ M.1 9 n = nI p) ∧ (∃ a, a < 4 ∧ M.1 11 n = nI a)) ∧ (∀ f j, okV (M.2.1 f 0 j)) ∧ (∃ i, i < 16 ∧ M.1 15 0 = nI i) ∧ (∃ d, d ≤ 5 ∧ M.1 13 0 = nI d) ∧ (∀ k, k < 6 → ∃ n, n < 16 ∧ M.1 12 k = nI n)
theorem mSize_eq {M : CS} {n P : Nat} (hp : M.1 6 n = nI P) (hP : P ≤ 6) : mSize M n = P := by unfold mSize; rw [hp]; exact nI_clamp (by omega)
theorem mpair_lt {M : CS} {t P p : Nat} {key : Int64} (hp : M.1 6 t = nI P) (hP : P ≤ 6) (h : mpair M t key = some p) : p < P := by
  unfold mpair at h
  rw [mSize_eq hp hP] at h
  have := (lst_lt _ _ _ h).2.1
  omega
theorem mOf_lt {M : CS} {k : Int32} {v : Int64} {n : Nat} (hv : okV v) (h : mOf M k v = some n) : n < 16 := by
  unfold mOf at h
  split at h
  · rename_i hc
    cases h
    exact (okV_on hv hc.1).1
  · cases h
theorem okV_o {n : Nat} (h : n < 16) : okV (10000000000 + (nI n).toInt64) := .inr ⟨n, h, by rw [nI_l (by omega)]; rfl⟩
/-- all but the colours is as it was -/
def eq5 (M2 M : CS) : Prop := M2.2 = M.2 ∧ ∀ f, f ≠ 5 → ∀ b, M2.1 f b = M.1 f b
theorem eq5_refl (M : CS) : eq5 M M := ⟨rfl, fun _ _ _ => rfl⟩
theorem eq5_sI {M2 M : CS} {n : Nat} {v : Int32} (h : eq5 M2 M) : eq5 (sI M2 5 n v) M := ⟨h.1, fun f hf b => by rw [sI_1, if_neg (fun z => hf z.1)]; exact h.2 f hf b⟩
theorem eq5_shade {M2 M : CS} {v : Int64} (h : eq5 M2 M) : eq5 (mshade M2 v) M := by
  unfold mshade
  split
  · exact eq5_sI h
  · exact h
theorem eq5_trans {A B D : CS} (h : eq5 A B) (g : eq5 B D) : eq5 A D := ⟨h.1.trans g.1, fun f hf b => (h.2 f hf b).trans (g.2 f hf b)⟩
def mshades (row : Nat → Int64) : Nat → Nat → CS → CS
  | 0, _, M => M
  | c + 1, i, M => mshades row c (i + 1) (mshade M (row i))
theorem eq5_shades {row : Nat → Int64} : ∀ (c i : Nat) {M2 M : CS}, eq5 M2 M → eq5 (mshades row c i M2) M
  | 0, _, _, _, h => h
  | c + 1, i, _, _, h => eq5_shades c (i + 1) (eq5_shade h)
def mDepth (M : CS) : Nat := (M.1 13 0).toNatClampNeg
def mAct (M : CS) (k : Nat) : Nat := (M.1 12 k).toNatClampNeg
def mroots : Nat → Nat → CS → CS
  | 0, _, M => M
  | c + 1, k, M => mroots c (k + 1) (mshades (fun r => M.2.1 3 0 (mAct M k * 4 + r)) 4 0 (mshade M (10000000000 + (M.1 12 k).toInt64)))
def mshadeRoots (M : CS) : CS := mroots (mDepth M) 0 (mshades (M.2.1 0 0) 6 0 M)
theorem eq5_roots : ∀ (c k : Nat) {M2 M : CS}, eq5 M2 M → eq5 (mroots c k M2) M
  | 0, _, _, _, h => h
  | c + 1, k, _, _, h => eq5_roots c (k + 1) (eq5_shades 4 0 (eq5_shade h))
theorem eq5_shadeRoots {M2 M : CS} (h : eq5 M2 M) : eq5 (mshadeRoots M2) M := eq5_roots _ _ (eq5_shades 6 0 h)
def mshadeKV (ks vs : Nat → Int64) : Nat → Nat → CS → CS
  | 0, _, M => M
  | c + 1, i, M => mshadeKV ks vs c (i + 1) (mshade (mshade M (ks i)) (vs i))
theorem eq5_shadeKV {ks vs : Nat → Int64} : ∀ (c i : Nat) {M2 M : CS}, eq5 M2 M → eq5 (mshadeKV ks vs c i M2) M
  | 0, _, _, _, h => h
  | c + 1, i, _, _, h => eq5_shadeKV c (i + 1) (eq5_shade (eq5_shade h))
def mblacken (M : CS) (n : Nat) : CS :=
  if M.1 4 n = 2 then mshades (fun r => M.2.1 3 0 (n * 4 + r)) 4 0 (sI M 5 n 2)
  else mshadeKV (fun p => M.2.1 1 0 (n * 6 + p)) (fun p => M.2.1 2 0 (n * 6 + p)) (mSize M n) 0 (if M.1 7 n < 0 then sI M 5 n 2 else mshade (sI M 5 n 2) (10000000000 + (M.1 7 n).toInt64))
theorem eq5_blacken {M2 M : CS} {n : Nat} (h : eq5 M2 M) : eq5 (mblacken M2 n) M := by
  unfold mblacken
  split
  · exact eq5_shades _ _ (eq5_sI h)
  · refine eq5_shadeKV _ _ ?_
    split
    · exact eq5_sI h
    · exact eq5_shade (eq5_sI h)
theorem okM_eq5 {M2 M : CS} (e : eq5 M2 M) (h : okM M) : okM M2 := by
  obtain ⟨h1, h2, h3, h4, h5⟩ := h
  refine ⟨fun n hn => ?_, fun f j => ?_, ?_, ?_, fun k hk => ?_⟩
  · rw [e.2 6 (by decide), e.2 7 (by decide), e.2 9 (by decide), e.2 11 (by decide)]; exact h1 n hn
  · rw [e.1]; exact h2 f j
  · rw [e.2 15 (by decide)]; exact h3
  · rw [e.2 13 (by decide)]; exact h4
  · rw [e.2 12 (by decide)]; exact h5 k hk
theorem okM_keep {M : CS} {f n : Nat} {v : Int32} (hf : f ≠ 6 ∧ f ≠ 7 ∧ f ≠ 9 ∧ f ≠ 11 ∧ f ≠ 12 ∧ f ≠ 13 ∧ f ≠ 15) (h : okM M) : okM (sI M f n v) := by
  obtain ⟨h1, h2, h3, h4, h5⟩ := h
  have e : ∀ g b, g ≠ f → (sI M f n v).1 g b = M.1 g b := fun g b hg => by rw [sI_1, if_neg (fun z => hg z.1)]
  obtain ⟨f6, f7, f9, f11, f12, f13, f15⟩ := hf
  refine ⟨fun n hn => ?_, fun f j => h2 f j, ?_, ?_, fun k hk => ?_⟩
  · rw [e 6 _ f6.symm, e 7 _ f7.symm, e 9 _ f9.symm, e 11 _ f11.symm]; exact h1 n hn
  · rw [e 15 _ f15.symm]; exact h3
  · rw [e 13 _ f13.symm]; exact h4
  · rw [e 12 _ f12.symm]; exact h5 k hk
def munit (M : CS) : Int32 × CS :=
  let M1 := sI M 19 0 (M.1 19 0 + 1)
  if M.1 14 0 = 0 then (0, sI (mshadeRoots M1) 14 0 1)
  else if M.1 14 0 = 1 then match mgray M1 with
    | some n => (0, mblacken M1 n)
    | none => match mgray (mshadeRoots M1) with
      | some _ => (0, mshadeRoots M1)
      | none => (0, sI (sI (mshadeRoots M1) 14 0 2) 15 0 0)
  else
    let i := (M.1 15 0).toNatClampNeg
    let M2 := if ¬ M.1 4 i = 0 ∧ M.1 5 i = 0 then sI (sI M1 4 i 0) 17 0 (M.1 17 0 + 1) else M1
    let M3 := sI (sI M2 5 i 0) 15 0 (M.1 15 0 + 1)
    (if ¬ M.1 4 i = 0 ∧ M.1 5 i = 0 then 1 else 0, if M.1 15 0 + 1 = 16 then sI (sI M3 15 0 0) 14 0 0 else M3)
theorem mgray_lt {M : CS} {n : Nat} (h : mgray M = some n) : n < 16 := by have := (lst_lt _ _ _ h).2.1; omega
theorem mfree_lt {M : CS} {n : Nat} (h : mfree M = some n) : n < 16 := by have := (lst_lt _ _ _ h).2.1; omega
/-- GETTING: its trouble and its value -/
def mgetting (M : CS) (key : Int64) : Nat → Nat → Int64 × CS
  | 0, _ => (-1000000000000, sI M 22 0 2)
  | c + 1, n => if key = -1000000000000 then (-1000000000000, M) else match mpair M n key with
    | some p => (M.2.1 2 0 (n * 6 + p), M)
    | none => match mnext M n 0 with
      | none => (-1000000000000, M)
      | some m => mgetting M key c m
theorem mnext_lt {M : CS} {n m : Nat} {key : Int64} (hok : okM M) (h : mnext M n key = some m) : m < 16 := by
  unfold mnext at h
  split at h
  · cases h
  · split at h
    · cases h
    · exact mOf_lt (hok.2.1 _ _) h
end
section
set_option maxHeartbeats 4000000 in
set_option maxRecDepth 100000 in
theorem c_Mod_badGlobal {l : Launch} {D : va_G} {u : Nat → ClassId} {ad : Nat → Nat} {M : CS} {g : Int32} : Cm l D u ad y_Mod_badGlobal b_Mod_badGlobal 2 (some .boolean) { frames := 0, cells := 0, slots := 0, locals := 0 } [.ref (ad 0), .int g] (M) (some (.int (if g < 0 ∨ 5 < g then 1 else 0))) (M) := by
  refine ct_of (by decide) (Nat.le_of_ble_eq_true rfl) ?_
  intro Γ _ _ hN h r
  refine g_at (L' := [some (.ref (ad 0)), some (.int g)]) rfl rfl rfl ?_
  refine g_iload_n h d_Mod_badGlobal_0 rfl rfl ?_
  refine g_if_lt (tgt := 9) h d_Mod_badGlobal_1 (by decide) (fun c_1 => ?_) (fun c_1 => ?_)
  · refine g_iconst (v := 1) h d_Mod_badGlobal_9 (by decide) ?_
    refine g_goto (tgt := 14) h d_Mod_badGlobal_10 (by decide) ?_
    exact g_zret h r rfl d_Mod_badGlobal_14 (⟨by first | (simp [c_1]; done) | (rw [if_neg (fun z => z.elim c_1 (fun z => Int32.not_lt.mpr c_6 z))]; done) | (rw [if_pos (Or.inr (Int32.not_le.mp c_6))]; done), rfl⟩)
  · refine g_iload_n h d_Mod_badGlobal_4 rfl rfl ?_
    refine g_iconst (v := 5) h d_Mod_badGlobal_5 (by decide) ?_
    refine g_icmp_le (tgt := 13) h d_Mod_badGlobal_6 (by decide) (fun c_6 => ?_) (fun c_6 => ?_)
    · refine g_iconst (v := 0) h d_Mod_badGlobal_13 (by decide) ?_
      exact g_zret h r rfl d_Mod_badGlobal_14 (⟨by first | (simp [c_1]; done) | (rw [if_neg (fun z => z.elim c_1 (fun z => Int32.not_lt.mpr c_6 z))]; done) | (rw [if_pos (Or.inr (Int32.not_le.mp c_6))]; done), rfl⟩)
    · refine g_iconst (v := 1) h d_Mod_badGlobal_9 (by decide) ?_
      refine g_goto (tgt := 14) h d_Mod_badGlobal_10 (by decide) ?_
      exact g_zret h r rfl d_Mod_badGlobal_14 (⟨by first | (simp [c_1]; done) | (rw [if_neg (fun z => z.elim c_1 (fun z => Int32.not_lt.mpr c_6 z))]; done) | (rw [if_pos (Or.inr (Int32.not_le.mp c_6))]; done), rfl⟩)
set_option maxHeartbeats 4000000 in
set_option maxRecDepth 100000 in
theorem c_Mod_isNumber {l : Launch} {D : va_G} {u : Nat → ClassId} {ad : Nat → Nat} {M : CS} {v : Int64} : Cm l D u ad y_Mod_isNumber b_Mod_isNumber 3 (some .boolean) { frames := 0, cells := 0, slots := 0, locals := 0 } [.ref (ad 0), .long v] (M) (some (.int (if -2147483648 ≤ v ∧ v ≤ 2147483647 then 1 else 0))) (M) := by
  refine ct_of (by decide) (Nat.le_of_ble_eq_true rfl) ?_
  intro Γ _ _ hN h r
  refine g_at (L' := [some (.ref (ad 0)), some (.long v), none]) rfl rfl rfl ?_
  refine g_lload_n h d_Mod_isNumber_0 rfl rfl ?_
  refine g_ldc2 (v := -2147483648) h d_Mod_isNumber_1 k_Mod_68 ?_
  refine g_lc_lt (tgt := 20) h d_Mod_isNumber_4 d_Mod_isNumber_5 (by decide) (fun c_5 => ?_) (fun c_5 => ?_)
  · refine g_iconst (v := 0) h d_Mod_isNumber_20 (by decide) ?_
    exact g_zret h r rfl d_Mod_isNumber_21 (⟨by first | (simp [c_5]; done) | (rw [if_neg (fun z => Int64.not_le.mpr c_5 z.1)]; done) | (rw [if_neg (fun z => Int64.not_le.mpr c_13 z.2)]; done) | (rw [if_pos ⟨Int64.not_lt.mp c_5, Int64.not_lt.mp c_13⟩]; done), rfl⟩)
  · refine g_lload_n h d_Mod_isNumber_8 rfl rfl ?_
    refine g_ldc2 (v := 2147483647) h d_Mod_isNumber_9 k_Mod_70 ?_
    refine g_lc_gt (tgt := 20) h d_Mod_isNumber_12 d_Mod_isNumber_13 (by decide) (fun c_13 => ?_) (fun c_13 => ?_)
    · refine g_iconst (v := 0) h d_Mod_isNumber_20 (by decide) ?_
      exact g_zret h r rfl d_Mod_isNumber_21 (⟨by first | (simp [c_5]; done) | (rw [if_neg (fun z => Int64.not_le.mpr c_5 z.1)]; done) | (rw [if_neg (fun z => Int64.not_le.mpr c_13 z.2)]; done) | (rw [if_pos ⟨Int64.not_lt.mp c_5, Int64.not_lt.mp c_13⟩]; done), rfl⟩)
    · refine g_iconst (v := 1) h d_Mod_isNumber_16 (by decide) ?_
      refine g_goto (tgt := 21) h d_Mod_isNumber_17 (by decide) ?_
      exact g_zret h r rfl d_Mod_isNumber_21 (⟨by first | (simp [c_5]; done) | (rw [if_neg (fun z => Int64.not_le.mpr c_5 z.1)]; done) | (rw [if_neg (fun z => Int64.not_le.mpr c_13 z.2)]; done) | (rw [if_pos ⟨Int64.not_lt.mp c_5, Int64.not_lt.mp c_13⟩]; done), rfl⟩)
set_option maxHeartbeats 4000000 in
set_option maxRecDepth 100000 in
theorem c_Mod_objectOf {l : Launch} {D : va_G} {u : Nat → ClassId} {ad : Nat → Nat} {M : CS} {v : Int64} (hv : okV v) : Cm l D u ad y_Mod_objectOf b_Mod_objectOf 3 (some .int) { frames := 0, cells := 0, slots := 0, locals := 0 } [.ref (ad 0), .long v] (M) (some (.int (enc (mObj v)))) (M) := by
  refine ct_of (by decide) (Nat.le_of_ble_eq_true rfl) ?_
  intro Γ _ _ hN h r
  refine g_at (L' := [some (.ref (ad 0)), some (.long v), none]) rfl rfl rfl ?_
  refine g_lload_n h d_Mod_objectOf_0 rfl rfl ?_
  refine g_ldc2 (v := 10000000000) h d_Mod_objectOf_1 k_Mod_72 ?_
  refine g_lc_lt (tgt := 17) h d_Mod_objectOf_4 d_Mod_objectOf_5 (by decide) (fun c_5 => ?_) (fun c_5 => ?_)
  · refine g_iconst (v := -1) h d_Mod_objectOf_17 (by decide) ?_
    exact g_iret h r d_Mod_objectOf_18 (⟨by first | (simp [mObj, c_5, enc]; done) | (simp [mObj, c_5, enc, (okV_on hv c_5).2.2]; done), rfl⟩)
  · refine g_lload_n h d_Mod_objectOf_8 rfl rfl ?_
    refine g_ldc2 (v := 10000000000) h d_Mod_objectOf_9 k_Mod_72 ?_
    refine g_lsub h d_Mod_objectOf_12 ?_
    refine g_l2i h d_Mod_objectOf_13 ?_
    refine g_goto (tgt := 18) h d_Mod_objectOf_14 (by decide) ?_
    exact g_iret h r d_Mod_objectOf_18 (⟨by first | (simp [mObj, c_5, enc]; done) | (simp [mObj, c_5, enc, (okV_on hv c_5).2.2]; done), rfl⟩)
set_option maxHeartbeats 4000000 in
set_option maxRecDepth 100000 in
theorem c_Mod_tableOf {l : Launch} {D : va_G} {u : Nat → ClassId} {ad : Nat → Nat} {M : CS} {v : Int64} (hv : okV v) : Cm l D u ad y_Mod_tableOf b_Mod_tableOf 4 (some .int) { frames := 1, cells := 0, slots := 0, locals := 22 } [.ref (ad 0), .long v] (M) (some (.int (enc (mOf M 1 v)))) (M) := by
  refine ct_of (by decide) (Nat.le_of_ble_eq_true rfl) ?_
  intro Γ _ _ hN h r
  refine g_at (L' := [some (.ref (ad 0)), some (.long v), none, none]) rfl rfl rfl ?_
  refine g_aload_n h d_Mod_tableOf_0 rfl rfl ?_
  refine g_lload_n h d_Mod_tableOf_1 rfl rfl ?_
  refine g_dVi h tb_good (c_Mod_objectOf hv) (q := 0) (by decide) rfl rfl v_Mod_74 nm_Mod_objectOf rfl ⟨rfl, rfl, Nat.le_of_ble_eq_true rfl, Nat.le_of_ble_eq_true rfl, Nat.zero_le _, Nat.zero_le _⟩ rfl (Nat.le_of_ble_eq_true rfl) d_Mod_tableOf_2 ?_
  by_cases hF : v < 10000000000
  · rw [show mObj v = none from if_pos hF]
    simp only [enc]
    refine g_istore_n h d_Mod_tableOf_5 rfl rfl (by rw [hN]; decide) ?_
    refine g_iload_n h d_Mod_tableOf_6 rfl rfl ?_
    refine g_if_lt (tgt := 24) h d_Mod_tableOf_7 (by decide) (fun c_7 => ?_) (fun c_7 => ?_)
    · refine g_iconst (v := -1) h d_Mod_tableOf_24 (by decide) ?_
      exact g_iret h r d_Mod_tableOf_25 (⟨by first | (simp [mOf, hF, enc]; done) | (simp [mOf, hF, c_17, enc]; done), rfl⟩)
    · exact absurd (by decide) c_7
  · rw [show mObj v = some (on v) from if_neg hF]
    simp only [enc]
    obtain ⟨ho, -, -⟩ := okV_on hv hF
    refine g_istore_n h d_Mod_tableOf_5 rfl rfl (by rw [hN]; decide) ?_
    refine g_iload_n h d_Mod_tableOf_6 rfl rfl ?_
    refine g_if_lt (tgt := 24) h d_Mod_tableOf_7 (by decide) (fun c_7 => ?_) (fun c_7 => ?_)
    · exact absurd c_7 (nI_pos (by omega))
    · refine g_aload_n h d_Mod_tableOf_10 rfl rfl ?_
      refine gf_Mod_kind h f_Mod_26 d_Mod_tableOf_11 ?_
      refine g_iload_n h d_Mod_tableOf_14 rfl rfl ?_
      refine gi_kind h rfl ho d_Mod_tableOf_15 ?_
      refine g_iconst (v := 1) h d_Mod_tableOf_16 (by decide) ?_
      refine g_icmp_ne (tgt := 24) h d_Mod_tableOf_17 (by decide) (fun c_17 => ?_) (fun c_17 => ?_)
      · refine g_iconst (v := -1) h d_Mod_tableOf_24 (by decide) ?_
        exact g_iret h r d_Mod_tableOf_25 (⟨by first | (simp [mOf, hF, enc]; done) | (simp [mOf, hF, c_17, enc]; done), rfl⟩)
      · refine g_iload_n h d_Mod_tableOf_20 rfl rfl ?_
        refine g_goto (tgt := 25) h d_Mod_tableOf_21 (by decide) ?_
        exact g_iret h r d_Mod_tableOf_25 (⟨by first | (simp [mOf, hF, enc]; done) | (simp [mOf, hF, c_17, enc]; done), rfl⟩)
set_option maxHeartbeats 4000000 in
set_option maxRecDepth 100000 in
theorem c_Mod_coroutineOf {l : Launch} {D : va_G} {u : Nat → ClassId} {ad : Nat → Nat} {M : CS} {v : Int64} (hv : okV v) : Cm l D u ad y_Mod_coroutineOf b_Mod_coroutineOf 4 (some .int) { frames := 1, cells := 0, slots := 0, locals := 22 } [.ref (ad 0), .long v] (M) (some (.int (enc (mOf M 2 v)))) (M) := by
  refine ct_of (by decide) (Nat.le_of_ble_eq_true rfl) ?_
  intro Γ _ _ hN h r
  refine g_at (L' := [some (.ref (ad 0)), some (.long v), none, none]) rfl rfl rfl ?_
  refine g_aload_n h d_Mod_coroutineOf_0 rfl rfl ?_
  refine g_lload_n h d_Mod_coroutineOf_1 rfl rfl ?_
  refine g_dVi h tb_good (c_Mod_objectOf hv) (q := 0) (by decide) rfl rfl v_Mod_74 nm_Mod_objectOf rfl ⟨rfl, rfl, Nat.le_of_ble_eq_true rfl, Nat.le_of_ble_eq_true rfl, Nat.zero_le _, Nat.zero_le _⟩ rfl (Nat.le_of_ble_eq_true rfl) d_Mod_coroutineOf_2 ?_
  by_cases hF : v < 10000000000
  · rw [show mObj v = none from if_pos hF]
    simp only [enc]
    refine g_istore_n h d_Mod_coroutineOf_5 rfl rfl (by rw [hN]; decide) ?_
    refine g_iload_n h d_Mod_coroutineOf_6 rfl rfl ?_
    refine g_if_lt (tgt := 24) h d_Mod_coroutineOf_7 (by decide) (fun c_7 => ?_) (fun c_7 => ?_)
    · refine g_iconst (v := -1) h d_Mod_coroutineOf_24 (by decide) ?_
      exact g_iret h r d_Mod_coroutineOf_25 (⟨by first | (simp [mOf, hF, enc]; done) | (simp [mOf, hF, c_17, enc]; done), rfl⟩)
    · exact absurd (by decide) c_7
  · rw [show mObj v = some (on v) from if_neg hF]
    simp only [enc]
    obtain ⟨ho, -, -⟩ := okV_on hv hF
    refine g_istore_n h d_Mod_coroutineOf_5 rfl rfl (by rw [hN]; decide) ?_
    refine g_iload_n h d_Mod_coroutineOf_6 rfl rfl ?_
    refine g_if_lt (tgt := 24) h d_Mod_coroutineOf_7 (by decide) (fun c_7 => ?_) (fun c_7 => ?_)
    · exact absurd c_7 (nI_pos (by omega))
    · refine g_aload_n h d_Mod_coroutineOf_10 rfl rfl ?_
      refine gf_Mod_kind h f_Mod_26 d_Mod_coroutineOf_11 ?_
      refine g_iload_n h d_Mod_coroutineOf_14 rfl rfl ?_
      refine gi_kind h rfl ho d_Mod_coroutineOf_15 ?_
      refine g_iconst (v := 2) h d_Mod_coroutineOf_16 (by decide) ?_
      refine g_icmp_ne (tgt := 24) h d_Mod_coroutineOf_17 (by decide) (fun c_17 => ?_) (fun c_17 => ?_)
      · refine g_iconst (v := -1) h d_Mod_coroutineOf_24 (by decide) ?_
        exact g_iret h r d_Mod_coroutineOf_25 (⟨by first | (simp [mOf, hF, enc]; done) | (simp [mOf, hF, c_17, enc]; done), rfl⟩)
      · refine g_iload_n h d_Mod_coroutineOf_20 rfl rfl ?_
        refine g_goto (tgt := 25) h d_Mod_coroutineOf_21 (by decide) ?_
        exact g_iret h r d_Mod_coroutineOf_25 (⟨by first | (simp [mOf, hF, enc]; done) | (simp [mOf, hF, c_17, enc]; done), rfl⟩)
set_option maxHeartbeats 4000000 in
set_option maxRecDepth 100000 in
theorem c_Mod_shade {l : Launch} {D : va_G} {u : Nat → ClassId} {ad : Nat → Nat} {M : CS} {v : Int64} (hv : okV v) : Cm l D u ad y_Mod_shade b_Mod_shade 4 none { frames := 1, cells := 0, slots := 0, locals := 22 } [.ref (ad 0), .long v] (M) (none) (mshade M v) := by
  refine ct_of (by decide) (Nat.le_of_ble_eq_true rfl) ?_
  intro Γ _ _ hN h r
  refine g_at (L' := [some (.ref (ad 0)), some (.long v), none, none]) rfl rfl rfl ?_
  refine g_aload_n h d_Mod_shade_0 rfl rfl ?_
  refine g_lload_n h d_Mod_shade_1 rfl rfl ?_
  refine g_dVi h tb_good (c_Mod_objectOf hv) (q := 0) (by decide) rfl rfl v_Mod_74 nm_Mod_objectOf rfl ⟨rfl, rfl, Nat.le_of_ble_eq_true rfl, Nat.le_of_ble_eq_true rfl, Nat.zero_le _, Nat.zero_le _⟩ rfl (Nat.le_of_ble_eq_true rfl) d_Mod_shade_2 ?_
  by_cases hF : v < 10000000000
  · rw [show mObj v = none from if_pos hF]
    simp only [enc]
    refine g_istore_n h d_Mod_shade_5 rfl rfl (by rw [hN]; decide) ?_
    refine g_iload_n h d_Mod_shade_6 rfl rfl ?_
    refine g_if_lt (tgt := 26) h d_Mod_shade_7 (by decide) (fun c_7 => ?_) (fun c_7 => ?_)
    · exact g_vret h r d_Mod_shade_26 (⟨rfl, by first | (simp [mshade, hF]; done) | (simp [mshade, hF, c_16]; done)⟩)
    · exact absurd (by decide) c_7
  · rw [show mObj v = some (on v) from if_neg hF]
    simp only [enc]
    obtain ⟨ho, -, -⟩ := okV_on hv hF
    refine g_istore_n h d_Mod_shade_5 rfl rfl (by rw [hN]; decide) ?_
    refine g_iload_n h d_Mod_shade_6 rfl rfl ?_
    refine g_if_lt (tgt := 26) h d_Mod_shade_7 (by decide) (fun c_7 => ?_) (fun c_7 => ?_)
    · exact absurd c_7 (nI_pos (by omega))
    · refine g_aload_n h d_Mod_shade_10 rfl rfl ?_
      refine gf_Mod_colour h f_Mod_29 d_Mod_shade_11 ?_
      refine g_iload_n h d_Mod_shade_14 rfl rfl ?_
      refine gi_colour h rfl ho d_Mod_shade_15 ?_
      refine g_if_ne (tgt := 26) h d_Mod_shade_16 (by decide) (fun c_16 => ?_) (fun c_16 => ?_)
      · exact g_vret h r d_Mod_shade_26 (⟨rfl, by first | (simp [mshade, hF]; done) | (simp [mshade, hF, c_16]; done)⟩)
      · refine g_aload_n h d_Mod_shade_19 rfl rfl ?_
        refine gf_Mod_colour h f_Mod_29 d_Mod_shade_20 ?_
        refine g_iload_n h d_Mod_shade_23 rfl rfl ?_
        refine g_iconst (v := 1) h d_Mod_shade_24 (by decide) ?_
        refine pi_colour h rfl ho d_Mod_shade_25 ?_
        exact g_vret h r d_Mod_shade_26 (⟨rfl, by first | (simp [mshade, hF]; done) | (simp [mshade, hF, c_16]; done)⟩)
set_option maxHeartbeats 4000000 in
set_option maxRecDepth 100000 in
theorem c_Mod_touch {l : Launch} {D : va_G} {u : Nat → ClassId} {ad : Nat → Nat} {M : CS} {n : Nat} (hn : n < 16) : Cm l D u ad y_Mod_touch b_Mod_touch 2 none { frames := 0, cells := 0, slots := 0, locals := 0 } [.ref (ad 0), .int (nI n)] (M) (none) (mtouch M n) := by
  refine ct_of (by decide) (Nat.le_of_ble_eq_true rfl) ?_
  intro Γ _ _ hN h r
  refine g_at (L' := [some (.ref (ad 0)), some (.int (nI n))]) rfl rfl rfl ?_
  refine g_aload_n h d_Mod_touch_0 rfl rfl ?_
  refine gf_Mod_phase h f_Mod_92 d_Mod_touch_1 ?_
  refine g_iconst (v := 1) h d_Mod_touch_4 (by decide) ?_
  refine g_icmp_ne (tgt := 25) h d_Mod_touch_5 (by decide) (fun c_5 => ?_) (fun c_5 => ?_)
  · exact g_vret h r d_Mod_touch_25 (⟨rfl, by first | (simp [mtouch, c_5]; done) | (simp [mtouch, c_5, c_15]; done)⟩)
  · refine g_aload_n h d_Mod_touch_8 rfl rfl ?_
    refine gf_Mod_colour h f_Mod_29 d_Mod_touch_9 ?_
    refine g_iload_n h d_Mod_touch_12 rfl rfl ?_
    refine gi_colour h rfl hn d_Mod_touch_13 ?_
    refine g_iconst (v := 2) h d_Mod_touch_14 (by decide) ?_
    refine g_icmp_ne (tgt := 25) h d_Mod_touch_15 (by decide) (fun c_15 => ?_) (fun c_15 => ?_)
    · exact g_vret h r d_Mod_touch_25 (⟨rfl, by first | (simp [mtouch, c_5]; done) | (simp [mtouch, c_5, c_15]; done)⟩)
    · refine g_aload_n h d_Mod_touch_18 rfl rfl ?_
      refine gf_Mod_colour h f_Mod_29 d_Mod_touch_19 ?_
      refine g_iload_n h d_Mod_touch_22 rfl rfl ?_
      refine g_iconst (v := 1) h d_Mod_touch_23 (by decide) ?_
      refine pi_colour h rfl hn d_Mod_touch_24 ?_
      exact g_vret h r d_Mod_touch_25 (⟨rfl, by first | (simp [mtouch, c_5]; done) | (simp [mtouch, c_5, c_15]; done)⟩)
set_option maxHeartbeats 4000000 in
set_option maxRecDepth 100000 in
theorem c_Mod_free {l : Launch} {D : va_G} {u : Nat → ClassId} {ad : Nat → Nat} {M : CS}  : Cm l D u ad y_Mod_free b_Mod_free 2 (some .int) { frames := 0, cells := 0, slots := 0, locals := 0 } [.ref (ad 0)] (M) (some (.int (enc (mfree M)))) (M) := by
  refine ct_of (by decide) (Nat.le_of_ble_eq_true rfl) ?_
  intro Γ _ _ hN h r
  have loop : ∀ (c i : Nat), i + c = 16 → lst (fun n => M.1 4 n == 0) c i = mfree M → G Γ 0 0 18 ad (mob ad u M) 2 [some (.ref (ad 0)), some (.int (nI i))] [] := by
    intro c
    induction c with
    | zero =>
      intro i hi he
      refine g_iload_n h d_Mod_free_2 rfl rfl ?_
      refine g_bipush (v := 16) h d_Mod_free_3 (by decide) ?_
      refine g_icmp_ge (tgt := 25) h d_Mod_free_5 (by decide) (fun c_5 => ?_) (fun c_5 => ?_)
      · refine g_iconst (v := -1) h d_Mod_free_25 (by decide) ?_
        exact g_iret h r d_Mod_free_26 (⟨by rw [← he]; rfl, rfl⟩)
      · exact absurd (nI_le (a := 16) (b := i) (by omega) (by omega)) c_5
    | succ c ih =>
      intro i hi he
      refine g_iload_n h d_Mod_free_2 rfl rfl ?_
      refine g_bipush (v := 16) h d_Mod_free_3 (by decide) ?_
      refine g_icmp_ge (tgt := 25) h d_Mod_free_5 (by decide) (fun c_5 => ?_) (fun c_5 => ?_)
      · exact absurd c_5 (nI_ge (b := 16) (by omega) (by decide))
      · refine g_aload_n h d_Mod_free_8 rfl rfl ?_
        refine gf_Mod_kind h f_Mod_26 d_Mod_free_9 ?_
        refine g_iload_n h d_Mod_free_12 rfl rfl ?_
        refine gi_kind h rfl (by omega) d_Mod_free_13 ?_
        refine g_if_ne (tgt := 19) h d_Mod_free_14 (by decide) (fun c_14 => ?_) (fun c_14 => ?_)
        · refine g_iinc (v := nI (i + 1)) h d_Mod_free_19 rfl (by rw [nI_succ]; rfl) rfl (by rw [hN]; decide) ?_
          refine g_goto (tgt := 2) h d_Mod_free_22 (by decide) ?_
          exact ih (i + 1) (by omega) (by rw [← he]; simp [lst, c_14])
        · refine g_iload_n h d_Mod_free_17 rfl rfl ?_
          exact g_iret h r d_Mod_free_18 (⟨by rw [← he]; simp [lst, c_14, enc], rfl⟩)
  refine g_at (L' := [some (.ref (ad 0)), none]) rfl rfl rfl ?_
  refine g_iconst (v := 0) h d_Mod_free_0 (by decide) ?_
  refine g_istore_n h d_Mod_free_1 rfl rfl (by rw [hN]; decide) ?_
  exact loop 16 0 (by omega) rfl
set_option maxHeartbeats 4000000 in
set_option maxRecDepth 100000 in
theorem c_Mod_leastGray {l : Launch} {D : va_G} {u : Nat → ClassId} {ad : Nat → Nat} {M : CS}  : Cm l D u ad y_Mod_leastGray b_Mod_leastGray 2 (some .int) { frames := 0, cells := 0, slots := 0, locals := 0 } [.ref (ad 0)] (M) (some (.int (enc (mgray M)))) (M) := by
  refine ct_of (by decide) (Nat.le_of_ble_eq_true rfl) ?_
  intro Γ _ _ hN h r
  have loop : ∀ (c i : Nat), i + c = 16 → lst (fun n => !(M.1 4 n == 0) && M.1 5 n == 1) c i = mgray M → G Γ 0 0 18 ad (mob ad u M) 2 [some (.ref (ad 0)), some (.int (nI i))] [] := by
    intro c
    induction c with
    | zero =>
      intro i hi he
      refine g_iload_n h d_Mod_leastGray_2 rfl rfl ?_
      refine g_bipush (v := 16) h d_Mod_leastGray_3 (by decide) ?_
      refine g_icmp_ge (tgt := 35) h d_Mod_leastGray_5 (by decide) (fun c_5 => ?_) (fun c_5 => ?_)
      · refine g_iconst (v := -1) h d_Mod_leastGray_35 (by decide) ?_
        exact g_iret h r d_Mod_leastGray_36 (⟨by rw [← he]; rfl, rfl⟩)
      · exact absurd (nI_le (a := 16) (b := i) (by omega) (by omega)) c_5
    | succ c ih =>
      intro i hi he
      refine g_iload_n h d_Mod_leastGray_2 rfl rfl ?_
      refine g_bipush (v := 16) h d_Mod_leastGray_3 (by decide) ?_
      refine g_icmp_ge (tgt := 35) h d_Mod_leastGray_5 (by decide) (fun c_5 => ?_) (fun c_5 => ?_)
      · exact absurd c_5 (nI_ge (b := 16) (by omega) (by decide))
      · refine g_aload_n h d_Mod_leastGray_8 rfl rfl ?_
        refine gf_Mod_kind h f_Mod_26 d_Mod_leastGray_9 ?_
        refine g_iload_n h d_Mod_leastGray_12 rfl rfl ?_
        refine gi_kind h rfl (by omega) d_Mod_leastGray_13 ?_
        refine g_if_eq (tgt := 29) h d_Mod_leastGray_14 (by decide) (fun c_14 => ?_) (fun c_14 => ?_)
        · refine g_iinc (v := nI (i + 1)) h d_Mod_leastGray_29 rfl (by rw [nI_succ]; rfl) rfl (by rw [hN]; decide) ?_
          refine g_goto (tgt := 2) h d_Mod_leastGray_32 (by decide) ?_
          exact ih (i + 1) (by omega) (by rw [← he]; first | (simp [lst, c_14]; done) | (simp [lst, c_14, c_24]; done))
        · refine g_aload_n h d_Mod_leastGray_17 rfl rfl ?_
          refine gf_Mod_colour h f_Mod_29 d_Mod_leastGray_18 ?_
          refine g_iload_n h d_Mod_leastGray_21 rfl rfl ?_
          refine gi_colour h rfl (by omega) d_Mod_leastGray_22 ?_
          refine g_iconst (v := 1) h d_Mod_leastGray_23 (by decide) ?_
          refine g_icmp_ne (tgt := 29) h d_Mod_leastGray_24 (by decide) (fun c_24 => ?_) (fun c_24 => ?_)
          · refine g_iinc (v := nI (i + 1)) h d_Mod_leastGray_29 rfl (by rw [nI_succ]; rfl) rfl (by rw [hN]; decide) ?_
            refine g_goto (tgt := 2) h d_Mod_leastGray_32 (by decide) ?_
            exact ih (i + 1) (by omega) (by rw [← he]; first | (simp [lst, c_14]; done) | (simp [lst, c_14, c_24]; done))
          · refine g_iload_n h d_Mod_leastGray_27 rfl rfl ?_
            exact g_iret h r d_Mod_leastGray_28 (⟨by rw [← he]; simp [lst, c_14, c_24, enc], rfl⟩)
  refine g_at (L' := [some (.ref (ad 0)), none]) rfl rfl rfl ?_
  refine g_iconst (v := 0) h d_Mod_leastGray_0 (by decide) ?_
  refine g_istore_n h d_Mod_leastGray_1 rfl rfl (by rw [hN]; decide) ?_
  exact loop 16 0 (by omega) rfl
set_option maxHeartbeats 4000000 in
set_option maxRecDepth 100000 in
theorem c_Mod_pairOf {l : Launch} {D : va_G} {u : Nat → ClassId} {ad : Nat → Nat} {M : CS} {n P : Nat} {key : Int64} (hn : n < 16) (hp : M.1 6 n = nI P) (hP : P ≤ 6) : Cm l D u ad y_Mod_pairOf b_Mod_pairOf 5 (some .int) { frames := 0, cells := 0, slots := 0, locals := 0 } [.ref (ad 0), .int (nI n), .long key] (M) (some (.int (enc (mpair M n key)))) (M) := by
  refine ct_of (by decide) (Nat.le_of_ble_eq_true rfl) ?_
  intro Γ _ _ hN h r
  have hc : mSize M n = P := mSize_eq hp hP
  have loop : ∀ (c i : Nat), i + c = P → lst (fun j => M.2.1 1 0 (n * 6 + j) == key) c i = mpair M n key → G Γ 0 0 18 ad (mob ad u M) 3 [some (.ref (ad 0)), some (.int (nI n)), some (.long key), none, some (.int (nI i))] [] := by
    intro c
    induction c with
    | zero =>
      intro i hi he
      refine g_iload h d_Mod_pairOf_3 rfl ?_
      refine g_aload_n h d_Mod_pairOf_5 rfl rfl ?_
      refine gf_Mod_size h f_Mod_32 d_Mod_pairOf_6 ?_
      refine g_iload_n h d_Mod_pairOf_9 rfl rfl ?_
      refine gi_size h rfl hn d_Mod_pairOf_10 ?_
      rw [hp]
      refine g_icmp_ge (tgt := 40) h d_Mod_pairOf_11 (by decide) (fun c_11 => ?_) (fun c_11 => ?_)
      · refine g_iconst (v := -1) h d_Mod_pairOf_40 (by decide) ?_
        exact g_iret h r d_Mod_pairOf_41 (⟨by rw [← he]; rfl, rfl⟩)
      · exact absurd (nI_le (by omega) (by omega)) c_11
    | succ c ih =>
      intro i hi he
      refine g_iload h d_Mod_pairOf_3 rfl ?_
      refine g_aload_n h d_Mod_pairOf_5 rfl rfl ?_
      refine gf_Mod_size h f_Mod_32 d_Mod_pairOf_6 ?_
      refine g_iload_n h d_Mod_pairOf_9 rfl rfl ?_
      refine gi_size h rfl hn d_Mod_pairOf_10 ?_
      rw [hp]
      refine g_icmp_ge (tgt := 40) h d_Mod_pairOf_11 (by decide) (fun c_11 => ?_) (fun c_11 => ?_)
      · exact absurd c_11 (nI_ge (by omega) (by omega))
      · refine g_aload_n h d_Mod_pairOf_14 rfl rfl ?_
        refine gf_Mod_keys h f_Mod_38 d_Mod_pairOf_15 ?_
        refine g_iload_n h d_Mod_pairOf_18 rfl rfl ?_
        refine g_bipush (v := 6) h d_Mod_pairOf_19 (by decide) ?_
        refine g_imul h d_Mod_pairOf_21 ?_
        refine g_iload h d_Mod_pairOf_22 rfl ?_
        refine g_iadd h d_Mod_pairOf_24 ?_
        refine gj_keys h (nI_at6 n i) (by omega) d_Mod_pairOf_25 ?_
        refine g_lload_n h d_Mod_pairOf_26 rfl rfl ?_
        refine g_lc_ne (tgt := 34) h d_Mod_pairOf_27 d_Mod_pairOf_28 (by decide) (fun c_28 => ?_) (fun c_28 => ?_)
        · refine g_iinc (v := nI (i + 1)) h d_Mod_pairOf_34 rfl (by rw [nI_succ]; rfl) rfl (by rw [hN]; decide) ?_
          refine g_goto (tgt := 3) h d_Mod_pairOf_37 (by decide) ?_
          exact ih (i + 1) (by omega) (by rw [← he]; simp [lst, c_28])
        · refine g_iload h d_Mod_pairOf_31 rfl ?_
          exact g_iret h r d_Mod_pairOf_33 (⟨by rw [← he]; simp [lst, c_28, enc], rfl⟩)
  refine g_at (L' := [some (.ref (ad 0)), some (.int (nI n)), some (.long key), none, none]) rfl rfl rfl ?_
  refine g_iconst (v := 0) h d_Mod_pairOf_0 (by decide) ?_
  refine g_istore h d_Mod_pairOf_1 rfl (by rw [hN]; decide) ?_
  exact loop P 0 (by omega) (by unfold mpair; rw [hc])
set_option maxHeartbeats 4000000 in
set_option maxRecDepth 100000 in
theorem c_Mod_next {l : Launch} {D : va_G} {u : Nat → ClassId} {ad : Nat → Nat} {M : CS} {n : Nat} {key : Int64} (hok : okM M) (hn : n < 16) : Cm l D u ad y_Mod_next b_Mod_next 6 (some .int) { frames := 2, cells := 0, slots := 0, locals := 45 } [.ref (ad 0), .int (nI n), .long key] (M) (some (.int (enc (mnext M n key)))) (M) := by
  refine ct_of (by decide) (Nat.le_of_ble_eq_true rfl) ?_
  intro Γ _ _ hN h r
  rcases (hok.1 n hn).2.1 with hm | ⟨j, hj, hm⟩
  · refine g_at (L' := [some (.ref (ad 0)), some (.int (nI n)), some (.long key), none, none, none]) rfl rfl rfl ?_
    refine g_aload_n h d_Mod_next_0 rfl rfl ?_
    refine gf_Mod_metaOf h f_Mod_35 d_Mod_next_1 ?_
    refine g_iload_n h d_Mod_next_4 rfl rfl ?_
    refine gi_metaOf h rfl hn d_Mod_next_5 ?_
    rw [hm]
    refine g_istore h d_Mod_next_6 rfl (by rw [hN]; decide) ?_
    refine g_iload h d_Mod_next_8 rfl ?_
    refine g_if_ge (tgt := 15) h d_Mod_next_10 (by decide) (fun c_10 => ?_) (fun c_10 => ?_)
    · exact absurd c_10 (by decide)
    · refine g_iconst (v := -1) h d_Mod_next_13 (by decide) ?_
      exact g_iret h r d_Mod_next_14 (⟨by simp [mnext, hm, enc], rfl⟩)
  · obtain ⟨⟨P, hP, hp⟩, -⟩ := hok.1 j hj
    refine g_at (L' := [some (.ref (ad 0)), some (.int (nI n)), some (.long key), none, none, none]) rfl rfl rfl ?_
    refine g_aload_n h d_Mod_next_0 rfl rfl ?_
    refine gf_Mod_metaOf h f_Mod_35 d_Mod_next_1 ?_
    refine g_iload_n h d_Mod_next_4 rfl rfl ?_
    refine gi_metaOf h rfl hn d_Mod_next_5 ?_
    rw [hm]
    refine g_istore h d_Mod_next_6 rfl (by rw [hN]; decide) ?_
    refine g_iload h d_Mod_next_8 rfl ?_
    refine g_if_ge (tgt := 15) h d_Mod_next_10 (by decide) (fun c_10 => ?_) (fun c_10 => ?_)
    · refine g_aload_n h d_Mod_next_15 rfl rfl ?_
      refine g_iload h d_Mod_next_16 rfl ?_
      refine g_lload_n h d_Mod_next_18 rfl rfl ?_
      refine g_dVi h tb_good (c_Mod_pairOf hj hp hP) (q := 0) (by decide) rfl rfl v_Mod_131 nm_Mod_pairOf rfl ⟨rfl, rfl, Nat.le_of_ble_eq_true rfl, Nat.le_of_ble_eq_true rfl, Nat.zero_le _, Nat.zero_le _⟩ rfl (Nat.le_of_ble_eq_true rfl) d_Mod_next_19 ?_
      rcases hf : mpair M j key with _ | q <;> simp only [enc]
      · refine g_istore h d_Mod_next_22 rfl (by rw [hN]; decide) ?_
        refine g_iload h d_Mod_next_24 rfl ?_
        refine g_if_ge (tgt := 33) h d_Mod_next_26 (by decide) (fun c_26 => ?_) (fun c_26 => ?_)
        · exact absurd c_26 (by decide)
        · refine g_iconst (v := -1) h d_Mod_next_29 (by decide) ?_
          refine g_goto (tgt := 50) h d_Mod_next_30 (by decide) ?_
          exact g_iret h r d_Mod_next_50 (⟨by simp [mnext, hm, nI_pos (show j < 2 ^ 31 by omega), nI_clamp (show j < 2 ^ 31 by omega), hf, enc], rfl⟩)
      · have hq := mpair_lt hp hP hf
        refine g_istore h d_Mod_next_22 rfl (by rw [hN]; decide) ?_
        refine g_iload h d_Mod_next_24 rfl ?_
        refine g_if_ge (tgt := 33) h d_Mod_next_26 (by decide) (fun c_26 => ?_) (fun c_26 => ?_)
        · refine g_aload_n h d_Mod_next_33 rfl rfl ?_
          refine g_aload_n h d_Mod_next_34 rfl rfl ?_
          refine gf_Mod_values h f_Mod_41 d_Mod_next_35 ?_
          refine g_iload h d_Mod_next_38 rfl ?_
          refine g_bipush (v := 6) h d_Mod_next_40 (by decide) ?_
          refine g_imul h d_Mod_next_42 ?_
          refine g_iload h d_Mod_next_43 rfl ?_
          refine g_iadd h d_Mod_next_45 ?_
          refine gj_values h (nI_at6 j q) (by omega) d_Mod_next_46 ?_
          refine g_dVi h tb_good (c_Mod_tableOf (hok.2.1 2 _)) (q := 0) (by decide) rfl rfl v_Mod_135 nm_Mod_tableOf rfl ⟨rfl, rfl, Nat.le_of_ble_eq_true rfl, Nat.le_of_ble_eq_true rfl, Nat.zero_le _, Nat.zero_le _⟩ rfl (Nat.le_of_ble_eq_true rfl) d_Mod_next_47 ?_
          exact g_iret h r d_Mod_next_50 (⟨by simp [mnext, hm, nI_pos (show j < 2 ^ 31 by omega), nI_clamp (show j < 2 ^ 31 by omega), hf, enc], rfl⟩)
        · exact absurd (nI_pos' (by omega)) c_26
    · exact absurd (nI_pos' (by omega)) c_10
end
section
set_option maxHeartbeats 4000000 in
set_option maxRecDepth 100000 in
theorem c_Mod_shadeRoots {l : Launch} {D : va_G} {u : Nat → ClassId} {ad : Nat → Nat} {M : CS} (hok : okM M) : Cm l D u ad y_Mod_shadeRoots b_Mod_shadeRoots 3 none { frames := 2, cells := 0, slots := 0, locals := 45 } [.ref (ad 0)] (M) (none) (mshadeRoots M) := by
  refine ct_of (by decide) (Nat.le_of_ble_eq_true rfl) ?_
  intro Γ _ _ hN h r
  obtain ⟨d, hd5, hd⟩ := hok.2.2.2.1
  have hdd : mDepth M = d := by unfold mDepth; rw [hd]; exact nI_clamp (by omega)
  have loopB : ∀ (c k : Nat) (M2 : CS), k + c = d → eq5 M2 M → mroots c k M2 = mshadeRoots M → G Γ 0 0 18 ad (mob ad u M2) 26 [some (.ref (ad 0)), some (.int (nI k)), none] [] := by
    intro c
    induction c with
    | zero =>
      intro k M2 hk hE he
      refine g_iload_n h d_Mod_shadeRoots_26 rfl rfl ?_
      refine g_aload_n h d_Mod_shadeRoots_27 rfl rfl ?_
      refine gf_Mod_depth h f_Mod_86 d_Mod_shadeRoots_28 ?_
      rw [hE.2 13 (by decide) 0, hd]
      refine g_icmp_ge (tgt := 87) h d_Mod_shadeRoots_31 (by decide) (fun c_31 => ?_) (fun c_31 => ?_)
      · exact g_vret h r d_Mod_shadeRoots_87 (⟨rfl, by rw [← he]; rfl⟩)
      · exact absurd (nI_le (by omega) (by omega)) c_31
    | succ c ih =>
      intro k M2 hk hE he
      refine g_iload_n h d_Mod_shadeRoots_26 rfl rfl ?_
      refine g_aload_n h d_Mod_shadeRoots_27 rfl rfl ?_
      refine gf_Mod_depth h f_Mod_86 d_Mod_shadeRoots_28 ?_
      rw [hE.2 13 (by decide) 0, hd]
      refine g_icmp_ge (tgt := 87) h d_Mod_shadeRoots_31 (by decide) (fun c_31 => ?_) (fun c_31 => ?_)
      · exact absurd c_31 (nI_ge (by omega) (by omega))
      · refine g_aload_n h d_Mod_shadeRoots_34 rfl rfl ?_
        refine g_ldc2 (v := 10000000000) h d_Mod_shadeRoots_35 k_Mod_72 ?_
        refine g_aload_n h d_Mod_shadeRoots_38 rfl rfl ?_
        refine gf_Mod_active h f_Mod_59 d_Mod_shadeRoots_39 ?_
        refine g_iload_n h d_Mod_shadeRoots_42 rfl rfl ?_
        refine gi_active h rfl (show k < 6 by omega) d_Mod_shadeRoots_43 ?_
        obtain ⟨n, hn, hA⟩ := hok.2.2.2.2 k (by omega)
        have hA2 : M2.1 12 k = nI n := (hE.2 12 (by decide) k).trans hA
        rw [hA2]
        refine g_i2l h d_Mod_shadeRoots_44 ?_
        refine g_ladd h d_Mod_shadeRoots_45 ?_
        refine g_dVv h tb_good (c_Mod_shade (okV_o hn)) (q := 0) (by decide) rfl rfl v_Mod_82 nm_Mod_shade rfl ⟨rfl, rfl, Nat.le_of_ble_eq_true rfl, Nat.le_of_ble_eq_true rfl, Nat.zero_le _, Nat.zero_le _⟩ rfl (Nat.le_of_ble_eq_true rfl) d_Mod_shadeRoots_46 ?_
        refine g_iconst (v := 0) h d_Mod_shadeRoots_49 (by decide) ?_
        refine g_istore_n h d_Mod_shadeRoots_50 rfl rfl (by rw [hN]; decide) ?_
        have loopC : ∀ (c3 r : Nat) (M3 : CS), r + c3 = 4 → eq5 M3 M → mshades (fun r => M.2.1 3 0 (n * 4 + r)) c3 r M3 = mshades (fun r => M.2.1 3 0 (n * 4 + r)) 4 0 (mshade M2 (10000000000 + (nI n).toInt64)) → G Γ 0 0 18 ad (mob ad u M3) 51 [some (.ref (ad 0)), some (.int (nI k)), some (.int (nI r))] [] := by
          intro c3
          induction c3 with
          | zero =>
            intro r M3 hr hE3 he3
            refine g_iload_n h d_Mod_shadeRoots_51 rfl rfl ?_
            refine g_iconst (v := 4) h d_Mod_shadeRoots_52 (by decide) ?_
            refine g_icmp_ge (tgt := 81) h d_Mod_shadeRoots_53 (by decide) (fun c_53 => ?_) (fun c_53 => ?_)
            · refine g_iinc (v := nI (k + 1)) h d_Mod_shadeRoots_81 rfl (by rw [nI_succ]; rfl) rfl (by rw [hN]; decide) ?_
              refine g_goto (tgt := 26) h d_Mod_shadeRoots_84 (by decide) ?_
              refine g_lessL (L' := [some (.ref (ad 0)), some (.int (nI (k + 1))), none]) (by simp [leL]) ?_
              refine ih (k + 1) M3 (by omega) hE3 ?_
              rw [show M3 = _ from he3, ← he]
              show _ = mroots c (k + 1) (mshades (fun r => M2.2.1 3 0 (mAct M2 k * 4 + r)) 4 0 (mshade M2 (10000000000 + (M2.1 12 k).toInt64)))
              unfold mAct
              rw [hA2, nI_clamp (show n < 2 ^ 31 by omega), hE.1]
            · exact absurd (nI_le (a := 4) (b := r) (by omega) (by omega)) c_53
          | succ c3 ih3 =>
            intro r M3 hr hE3 he3
            refine g_iload_n h d_Mod_shadeRoots_51 rfl rfl ?_
            refine g_iconst (v := 4) h d_Mod_shadeRoots_52 (by decide) ?_
            refine g_icmp_ge (tgt := 81) h d_Mod_shadeRoots_53 (by decide) (fun c_53 => ?_) (fun c_53 => ?_)
            · exact absurd c_53 (nI_ge (b := 4) (by omega) (by decide))
            · refine g_aload_n h d_Mod_shadeRoots_56 rfl rfl ?_
              refine g_aload_n h d_Mod_shadeRoots_57 rfl rfl ?_
              refine gf_Mod_registers h f_Mod_44 d_Mod_shadeRoots_58 ?_
              refine g_aload_n h d_Mod_shadeRoots_61 rfl rfl ?_
              refine gf_Mod_active h f_Mod_59 d_Mod_shadeRoots_62 ?_
              refine g_iload_n h d_Mod_shadeRoots_65 rfl rfl ?_
              refine gi_active h rfl (show k < 6 by omega) d_Mod_shadeRoots_66 ?_
              rw [hE3.2 12 (by decide) k, hA]
              refine g_iconst (v := 4) h d_Mod_shadeRoots_67 (by decide) ?_
              refine g_imul h d_Mod_shadeRoots_68 ?_
              refine g_iload_n h d_Mod_shadeRoots_69 rfl rfl ?_
              refine g_iadd h d_Mod_shadeRoots_70 ?_
              refine gj_registers h (nI_at4 n r) (by omega) d_Mod_shadeRoots_71 ?_
              rw [hE3.1]
              refine g_dVv h tb_good (c_Mod_shade (hok.2.1 3 _)) (q := 0) (by decide) rfl rfl v_Mod_82 nm_Mod_shade rfl ⟨rfl, rfl, Nat.le_of_ble_eq_true rfl, Nat.le_of_ble_eq_true rfl, Nat.zero_le _, Nat.zero_le _⟩ rfl (Nat.le_of_ble_eq_true rfl) d_Mod_shadeRoots_72 ?_
              refine g_iinc (v := nI (r + 1)) h d_Mod_shadeRoots_75 rfl (by rw [nI_succ]; rfl) rfl (by rw [hN]; decide) ?_
              refine g_goto (tgt := 51) h d_Mod_shadeRoots_78 (by decide) ?_
              exact ih3 (r + 1) _ (by omega) (eq5_shade hE3) he3
        exact loopC 4 0 _ (by omega) (eq5_shade hE) rfl
  have loopA : ∀ (c i : Nat) (M2 : CS), i + c = 6 → eq5 M2 M → mshades (M.2.1 0 0) c i M2 = mshades (M.2.1 0 0) 6 0 M → G Γ 0 0 18 ad (mob ad u M2) 2 [some (.ref (ad 0)), some (.int (nI i)), none] [] := by
    intro c
    induction c with
    | zero =>
      intro i M2 hi hE he
      refine g_iload_n h d_Mod_shadeRoots_2 rfl rfl ?_
      refine g_bipush (v := 6) h d_Mod_shadeRoots_3 (by decide) ?_
      refine g_icmp_ge (tgt := 24) h d_Mod_shadeRoots_5 (by decide) (fun c_5 => ?_) (fun c_5 => ?_)
      · refine g_iconst (v := 0) h d_Mod_shadeRoots_24 (by decide) ?_
        refine g_istore_n h d_Mod_shadeRoots_25 rfl rfl (by rw [hN]; decide) ?_
        exact loopB d 0 M2 (by omega) hE (by unfold mshadeRoots; rw [hdd, ← he]; rfl)
      · exact absurd (nI_le (a := 6) (b := i) (by omega) (by omega)) c_5
    | succ c ih =>
      intro i M2 hi hE he
      refine g_iload_n h d_Mod_shadeRoots_2 rfl rfl ?_
      refine g_bipush (v := 6) h d_Mod_shadeRoots_3 (by decide) ?_
      refine g_icmp_ge (tgt := 24) h d_Mod_shadeRoots_5 (by decide) (fun c_5 => ?_) (fun c_5 => ?_)
      · exact absurd c_5 (nI_ge (b := 6) (by omega) (by decide))
      · refine g_aload_n h d_Mod_shadeRoots_8 rfl rfl ?_
        refine g_aload_n h d_Mod_shadeRoots_9 rfl rfl ?_
        refine gf_Mod_globals h f_Mod_22 d_Mod_shadeRoots_10 ?_
        refine g_iload_n h d_Mod_shadeRoots_13 rfl rfl ?_
        refine gj_globals h rfl (by omega) d_Mod_shadeRoots_14 ?_
        rw [hE.1]
        refine g_dVv h tb_good (c_Mod_shade (hok.2.1 0 _)) (q := 0) (by decide) rfl rfl v_Mod_82 nm_Mod_shade rfl ⟨rfl, rfl, Nat.le_of_ble_eq_true rfl, Nat.le_of_ble_eq_true rfl, Nat.zero_le _, Nat.zero_le _⟩ rfl (Nat.le_of_ble_eq_true rfl) d_Mod_shadeRoots_15 ?_
        refine g_iinc (v := nI (i + 1)) h d_Mod_shadeRoots_18 rfl (by rw [nI_succ]; rfl) rfl (by rw [hN]; decide) ?_
        refine g_goto (tgt := 2) h d_Mod_shadeRoots_21 (by decide) ?_
        exact ih (i + 1) _ (by omega) (eq5_shade hE) he
  refine g_at (L' := [some (.ref (ad 0)), none, none]) rfl rfl rfl ?_
  refine g_iconst (v := 0) h d_Mod_shadeRoots_0 (by decide) ?_
  refine g_istore_n h d_Mod_shadeRoots_1 rfl rfl (by rw [hN]; decide) ?_
  exact loopA 6 0 M (by omega) (eq5_refl M) rfl
end
section
set_option maxHeartbeats 4000000 in
set_option maxRecDepth 100000 in
theorem c_Mod_blacken {l : Launch} {D : va_G} {u : Nat → ClassId} {ad : Nat → Nat} {M : CS} {n : Nat} (hok : okM M) (hn : n < 16) : Cm l D u ad y_Mod_blacken b_Mod_blacken 3 none { frames := 2, cells := 0, slots := 0, locals := 45 } [.ref (ad 0), .int (nI n)] (M) (none) (mblacken M n) := by
  refine ct_of (by decide) (Nat.le_of_ble_eq_true rfl) ?_
  intro Γ _ _ hN h r
  obtain ⟨⟨P, hP, hp⟩, hmm, -⟩ := hok.1 n hn
  have hc := mSize_eq hp hP
  have loopA : ∀ (c i : Nat) (M2 : CS), i + c = 4 → eq5 M2 M → mob ad u (mshades (fun r => M.2.1 3 0 (n * 4 + r)) c i M2) = mob ad u (mblacken M n) → G Γ 0 0 18 ad (mob ad u M2) 19 [some (.ref (ad 0)), some (.int (nI n)), some (.int (nI i))] [] := by
    intro c
    induction c with
    | zero =>
      intro i M2 hi hE he
      refine g_iload_n h d_Mod_blacken_19 rfl rfl ?_
      refine g_iconst (v := 4) h d_Mod_blacken_20 (by decide) ?_
      refine g_icmp_ge (tgt := 44) h d_Mod_blacken_21 (by decide) (fun c_21 => ?_) (fun c_21 => ?_)
      · exact g_vret h r d_Mod_blacken_44 (⟨rfl, he⟩)
      · exact absurd (nI_le (a := 4) (b := i) (by omega) (by omega)) c_21
    | succ c ih =>
      intro i M2 hi hE he
      refine g_iload_n h d_Mod_blacken_19 rfl rfl ?_
      refine g_iconst (v := 4) h d_Mod_blacken_20 (by decide) ?_
      refine g_icmp_ge (tgt := 44) h d_Mod_blacken_21 (by decide) (fun c_21 => ?_) (fun c_21 => ?_)
      · exact absurd c_21 (nI_ge (b := 4) (by omega) (by decide))
      · refine g_aload_n h d_Mod_blacken_24 rfl rfl ?_
        refine g_aload_n h d_Mod_blacken_25 rfl rfl ?_
        refine gf_Mod_registers h f_Mod_44 d_Mod_blacken_26 ?_
        refine g_iload_n h d_Mod_blacken_29 rfl rfl ?_
        refine g_iconst (v := 4) h d_Mod_blacken_30 (by decide) ?_
        refine g_imul h d_Mod_blacken_31 ?_
        refine g_iload_n h d_Mod_blacken_32 rfl rfl ?_
        refine g_iadd h d_Mod_blacken_33 ?_
        refine gj_registers h (nI_at4 n i) (by omega) d_Mod_blacken_34 ?_
        rw [hE.1]
        refine g_dVv h tb_good (c_Mod_shade (hok.2.1 3 _)) (q := 0) (by decide) rfl rfl v_Mod_82 nm_Mod_shade rfl ⟨rfl, rfl, Nat.le_of_ble_eq_true rfl, Nat.le_of_ble_eq_true rfl, Nat.zero_le _, Nat.zero_le _⟩ rfl (Nat.le_of_ble_eq_true rfl) d_Mod_blacken_35 ?_
        refine g_iinc (v := nI (i + 1)) h d_Mod_blacken_38 rfl (by rw [nI_succ]; rfl) rfl (by rw [hN]; decide) ?_
        refine g_goto (tgt := 19) h d_Mod_blacken_41 (by decide) ?_
        exact ih (i + 1) _ (by omega) (eq5_shade hE) he
  have loopB : ∀ (c i : Nat) (M2 : CS), i + c = P → eq5 M2 M → mob ad u (mshadeKV (fun p => M.2.1 1 0 (n * 6 + p)) (fun p => M.2.1 2 0 (n * 6 + p)) c i M2) = mob ad u (mblacken M n) → G Γ 0 0 18 ad (mob ad u M2) 71 [some (.ref (ad 0)), some (.int (nI n)), some (.int (nI i))] [] := by
    intro c
    induction c with
    | zero =>
      intro i M2 hi hE he
      refine g_iload_n h d_Mod_blacken_71 rfl rfl ?_
      refine g_aload_n h d_Mod_blacken_72 rfl rfl ?_
      refine gf_Mod_size h f_Mod_32 d_Mod_blacken_73 ?_
      refine g_iload_n h d_Mod_blacken_76 rfl rfl ?_
      refine gi_size h rfl hn d_Mod_blacken_77 ?_
      rw [hE.2 6 (by decide) n, hp]
      refine g_icmp_ge (tgt := 117) h d_Mod_blacken_78 (by decide) (fun c_78 => ?_) (fun c_78 => ?_)
      · exact g_vret h r d_Mod_blacken_117 (⟨rfl, he⟩)
      · exact absurd (nI_le (by omega) (by omega)) c_78
    | succ c ih =>
      intro i M2 hi hE he
      refine g_iload_n h d_Mod_blacken_71 rfl rfl ?_
      refine g_aload_n h d_Mod_blacken_72 rfl rfl ?_
      refine gf_Mod_size h f_Mod_32 d_Mod_blacken_73 ?_
      refine g_iload_n h d_Mod_blacken_76 rfl rfl ?_
      refine gi_size h rfl hn d_Mod_blacken_77 ?_
      rw [hE.2 6 (by decide) n, hp]
      refine g_icmp_ge (tgt := 117) h d_Mod_blacken_78 (by decide) (fun c_78 => ?_) (fun c_78 => ?_)
      · exact absurd c_78 (nI_ge (by omega) (by omega))
      · refine g_aload_n h d_Mod_blacken_81 rfl rfl ?_
        refine g_aload_n h d_Mod_blacken_82 rfl rfl ?_
        refine gf_Mod_keys h f_Mod_38 d_Mod_blacken_83 ?_
        refine g_iload_n h d_Mod_blacken_86 rfl rfl ?_
        refine g_bipush (v := 6) h d_Mod_blacken_87 (by decide) ?_
        refine g_imul h d_Mod_blacken_89 ?_
        refine g_iload_n h d_Mod_blacken_90 rfl rfl ?_
        refine g_iadd h d_Mod_blacken_91 ?_
        refine gj_keys h (nI_at6 n i) (by omega) d_Mod_blacken_92 ?_
        rw [hE.1]
        refine g_dVv h tb_good (c_Mod_shade (hok.2.1 1 _)) (q := 0) (by decide) rfl rfl v_Mod_82 nm_Mod_shade rfl ⟨rfl, rfl, Nat.le_of_ble_eq_true rfl, Nat.le_of_ble_eq_true rfl, Nat.zero_le _, Nat.zero_le _⟩ rfl (Nat.le_of_ble_eq_true rfl) d_Mod_blacken_93 ?_
        refine g_aload_n h d_Mod_blacken_96 rfl rfl ?_
        refine g_aload_n h d_Mod_blacken_97 rfl rfl ?_
        refine gf_Mod_values h f_Mod_41 d_Mod_blacken_98 ?_
        refine g_iload_n h d_Mod_blacken_101 rfl rfl ?_
        refine g_bipush (v := 6) h d_Mod_blacken_102 (by decide) ?_
        refine g_imul h d_Mod_blacken_104 ?_
        refine g_iload_n h d_Mod_blacken_105 rfl rfl ?_
        refine g_iadd h d_Mod_blacken_106 ?_
        refine gj_values h (nI_at6 n i) (by omega) d_Mod_blacken_107 ?_
        rw [(eq5_shade hE).1]
        refine g_dVv h tb_good (c_Mod_shade (hok.2.1 2 _)) (q := 0) (by decide) rfl rfl v_Mod_82 nm_Mod_shade rfl ⟨rfl, rfl, Nat.le_of_ble_eq_true rfl, Nat.le_of_ble_eq_true rfl, Nat.zero_le _, Nat.zero_le _⟩ rfl (Nat.le_of_ble_eq_true rfl) d_Mod_blacken_108 ?_
        refine g_iinc (v := nI (i + 1)) h d_Mod_blacken_111 rfl (by rw [nI_succ]; rfl) rfl (by rw [hN]; decide) ?_
        refine g_goto (tgt := 71) h d_Mod_blacken_114 (by decide) ?_
        exact ih (i + 1) _ (by omega) (eq5_shade (eq5_shade hE)) he
  refine g_at (L' := [some (.ref (ad 0)), some (.int (nI n)), none]) rfl rfl rfl ?_
  refine g_aload_n h d_Mod_blacken_0 rfl rfl ?_
  refine gf_Mod_colour h f_Mod_29 d_Mod_blacken_1 ?_
  refine g_iload_n h d_Mod_blacken_4 rfl rfl ?_
  refine g_iconst (v := 2) h d_Mod_blacken_5 (by decide) ?_
  refine pi_colour h rfl hn d_Mod_blacken_6 ?_
  refine g_aload_n h d_Mod_blacken_7 rfl rfl ?_
  refine gf_Mod_kind h f_Mod_26 d_Mod_blacken_8 ?_
  refine g_iload_n h d_Mod_blacken_11 rfl rfl ?_
  refine gi_kind h rfl hn d_Mod_blacken_12 ?_
  rw [show (sI M 5 n 2).1 4 n = M.1 4 n from rfl]
  refine g_iconst (v := 2) h d_Mod_blacken_13 (by decide) ?_
  refine g_icmp_ne (tgt := 45) h d_Mod_blacken_14 (by decide) (fun c_14 => ?_) (fun c_14 => ?_)
  · refine g_aload_n h d_Mod_blacken_45 rfl rfl ?_
    refine gf_Mod_metaOf h f_Mod_35 d_Mod_blacken_46 ?_
    refine g_iload_n h d_Mod_blacken_49 rfl rfl ?_
    refine gi_metaOf h rfl hn d_Mod_blacken_50 ?_
    rw [show (sI M 5 n 2).1 7 n = M.1 7 n from rfl]
    refine g_if_lt (tgt := 69) h d_Mod_blacken_51 (by decide) (fun c_51 => ?_) (fun c_51 => ?_)
    · refine g_iconst (v := 0) h d_Mod_blacken_69 (by decide) ?_
      refine g_istore_n h d_Mod_blacken_70 rfl rfl (by rw [hN]; decide) ?_
      exact loopB P 0 _ (by omega) (eq5_sI (eq5_refl M)) (by simp [mblacken, c_14, c_51, hc])
    · rcases hmm with hm | ⟨m, hm, hm2⟩
      · exact absurd (by rw [hm]; decide) c_51
      · refine g_aload_n h d_Mod_blacken_54 rfl rfl ?_
        refine g_ldc2 (v := 10000000000) h d_Mod_blacken_55 k_Mod_72 ?_
        refine g_aload_n h d_Mod_blacken_58 rfl rfl ?_
        refine gf_Mod_metaOf h f_Mod_35 d_Mod_blacken_59 ?_
        refine g_iload_n h d_Mod_blacken_62 rfl rfl ?_
        refine gi_metaOf h rfl hn d_Mod_blacken_63 ?_
        rw [show (sI M 5 n 2).1 7 n = M.1 7 n from rfl]
        refine g_i2l h d_Mod_blacken_64 ?_
        refine g_ladd h d_Mod_blacken_65 ?_
        refine g_dVv h tb_good (c_Mod_shade (by rw [hm2]; exact okV_o hm)) (q := 0) (by decide) rfl rfl v_Mod_82 nm_Mod_shade rfl ⟨rfl, rfl, Nat.le_of_ble_eq_true rfl, Nat.le_of_ble_eq_true rfl, Nat.zero_le _, Nat.zero_le _⟩ rfl (Nat.le_of_ble_eq_true rfl) d_Mod_blacken_66 ?_
        refine g_iconst (v := 0) h d_Mod_blacken_69 (by decide) ?_
        refine g_istore_n h d_Mod_blacken_70 rfl rfl (by rw [hN]; decide) ?_
        exact loopB P 0 _ (by omega) (eq5_shade (eq5_sI (eq5_refl M))) (by simp [mblacken, c_14, c_51, hc])
  · refine g_iconst (v := 0) h d_Mod_blacken_17 (by decide) ?_
    refine g_istore_n h d_Mod_blacken_18 rfl rfl (by rw [hN]; decide) ?_
    exact loopA 4 0 _ (by omega) (eq5_sI (eq5_refl M)) (by simp [mblacken, c_14])
end
section
set_option maxHeartbeats 4000000 in
set_option maxRecDepth 100000 in
theorem c_Mod_unit {l : Launch} {D : va_G} {u : Nat → ClassId} {ad : Nat → Nat} {M : CS} (hok : okM M) : Cm l D u ad y_Mod_unit b_Mod_unit 3 (some .int) { frames := 3, cells := 0, slots := 0, locals := 67 } [.ref (ad 0)] (M) (some (.int (munit M).1)) ((munit M).2) := by
  refine ct_of (by decide) (Nat.le_of_ble_eq_true rfl) ?_
  intro Γ _ _ hN h r
  have hok1 : okM (sI M 19 0 (M.1 19 0 + 1)) := okM_keep (by decide) hok
  obtain ⟨i, hi, hk⟩ := hok.2.2.1
  have hcl : (nI i).toNatClampNeg = i := nI_clamp (by omega)
  refine g_at (L' := [some (.ref (ad 0)), none, none]) rfl rfl rfl ?_
  refine g_aload_n h d_Mod_unit_0 rfl rfl ?_
  refine g_dup h d_Mod_unit_1 rfl ?_
  refine gf_Mod_units h f_Mod_89 d_Mod_unit_2 ?_
  refine g_iconst (v := 1) h d_Mod_unit_5 (by decide) ?_
  refine g_iadd h d_Mod_unit_6 ?_
  refine pf_Mod_units h f_Mod_89 d_Mod_unit_7 ?_
  refine g_iconst (v := 0) h d_Mod_unit_10 (by decide) ?_
  refine g_istore_n h d_Mod_unit_11 rfl rfl (by rw [hN]; decide) ?_
  refine g_aload_n h d_Mod_unit_12 rfl rfl ?_
  refine gf_Mod_phase h f_Mod_92 d_Mod_unit_13 ?_
  simp only [sI_1, sI_2, sJ_1, sJ_2, sJ_3, sR_1, sR_2, sR_3, Nat.reduceEqDiff, Nat.zero_ne_one, Nat.one_ne_zero, Nat.succ_ne_zero, reduceCtorEq, false_and, if_false, true_and, and_self, if_true, and_true, and_false, reduceIte]
  refine g_if_ne (tgt := 31) h d_Mod_unit_16 (by decide) (fun c_16 => ?_) (fun c_16 => ?_)
  · refine g_aload_n h d_Mod_unit_31 rfl rfl ?_
    refine gf_Mod_phase h f_Mod_92 d_Mod_unit_32 ?_
    refine g_iconst (v := 1) h d_Mod_unit_35 (by decide) ?_
    simp only [sI_1, sI_2, sJ_1, sJ_2, sJ_3, sR_1, sR_2, sR_3, Nat.reduceEqDiff, Nat.zero_ne_one, Nat.one_ne_zero, Nat.succ_ne_zero, reduceCtorEq, false_and, if_false, true_and, and_self, if_true, and_true, and_false, reduceIte]
    refine g_icmp_ne (tgt := 84) h d_Mod_unit_36 (by decide) (fun c_36 => ?_) (fun c_36 => ?_)
    · refine g_aload_n h d_Mod_unit_84 rfl rfl ?_
      refine gf_Mod_kind h f_Mod_26 d_Mod_unit_85 ?_
      refine g_aload_n h d_Mod_unit_88 rfl rfl ?_
      refine gf_Mod_sweep h f_Mod_106 d_Mod_unit_89 ?_
      simp only [sI_1, sI_2, sJ_1, sJ_2, sJ_3, sR_1, sR_2, sR_3, Nat.reduceEqDiff, Nat.zero_ne_one, Nat.one_ne_zero, Nat.succ_ne_zero, reduceCtorEq, false_and, if_false, true_and, and_self, if_true, and_true, and_false, reduceIte, hk]
      refine gi_kind h rfl hi d_Mod_unit_92 ?_
      simp only [sI_1, sI_2, sJ_1, sJ_2, sJ_3, sR_1, sR_2, sR_3, Nat.reduceEqDiff, Nat.zero_ne_one, Nat.one_ne_zero, Nat.succ_ne_zero, reduceCtorEq, false_and, if_false, true_and, and_self, if_true, and_true, and_false, reduceIte]
      refine g_if_eq (tgt := 130) h d_Mod_unit_93 (by decide) (fun c_93 => ?_) (fun c_93 => ?_)
      · refine g_aload_n h d_Mod_unit_130 rfl rfl ?_
        refine gf_Mod_colour h f_Mod_29 d_Mod_unit_131 ?_
        refine g_aload_n h d_Mod_unit_134 rfl rfl ?_
        refine gf_Mod_sweep h f_Mod_106 d_Mod_unit_135 ?_
        simp only [sI_1, sI_2, sJ_1, sJ_2, sJ_3, sR_1, sR_2, sR_3, Nat.reduceEqDiff, Nat.zero_ne_one, Nat.one_ne_zero, Nat.succ_ne_zero, reduceCtorEq, false_and, if_false, true_and, and_self, if_true, and_true, and_false, reduceIte, hk]
        refine g_iconst (v := 0) h d_Mod_unit_138 (by decide) ?_
        refine pi_colour h rfl hi d_Mod_unit_139 ?_
        refine g_aload_n h d_Mod_unit_140 rfl rfl ?_
        refine g_dup h d_Mod_unit_141 rfl ?_
        refine gf_Mod_sweep h f_Mod_106 d_Mod_unit_142 ?_
        simp only [sI_1, sI_2, sJ_1, sJ_2, sJ_3, sR_1, sR_2, sR_3, Nat.reduceEqDiff, Nat.zero_ne_one, Nat.one_ne_zero, Nat.succ_ne_zero, reduceCtorEq, false_and, if_false, true_and, and_self, if_true, and_true, and_false, reduceIte, hk]
        refine g_iconst (v := 1) h d_Mod_unit_145 (by decide) ?_
        refine g_iadd h d_Mod_unit_146 ?_
        refine pf_Mod_sweep h f_Mod_106 d_Mod_unit_147 ?_
        refine g_aload_n h d_Mod_unit_150 rfl rfl ?_
        refine gf_Mod_sweep h f_Mod_106 d_Mod_unit_151 ?_
        try simp only [sI_1, sI_2, sJ_1, sJ_2, sJ_3, sR_1, sR_2, sR_3, Nat.reduceEqDiff, Nat.zero_ne_one, Nat.one_ne_zero, Nat.succ_ne_zero, reduceCtorEq, false_and, if_false, true_and, and_self, if_true, and_true, and_false, reduceIte, hk]
        refine g_bipush (v := 16) h d_Mod_unit_154 (by decide) ?_
        refine g_icmp_ne (tgt := 169) h d_Mod_unit_156 (by decide) (fun c_156 => ?_) (fun c_156 => ?_)
        · refine g_iload_n h d_Mod_unit_169 rfl rfl ?_
          exact g_iret h r d_Mod_unit_170 (⟨by first | (simp [munit, c_16]; done) | (simp [munit, c_16, c_36, hg]; done) | (simp [munit, c_16, c_36, hg, hg2]; done) | (simp [munit, c_16, c_36, hk, hcl, c_93]; done) | (simp [munit, c_16, c_36, hk, hcl, c_93, c_105]; done), by first | (simp [munit, c_16]; done) | (simp [munit, c_16, c_36, hg]; done) | (simp [munit, c_16, c_36, hg, hg2]; done) | (simp [munit, c_16, c_36, hk, hcl, c_93, c_156]; done) | (simp [munit, c_16, c_36, hk, hcl, c_93, c_105, c_156]; done)⟩)
        · refine g_aload_n h d_Mod_unit_159 rfl rfl ?_
          refine g_iconst (v := 0) h d_Mod_unit_160 (by decide) ?_
          refine pf_Mod_sweep h f_Mod_106 d_Mod_unit_161 ?_
          refine g_aload_n h d_Mod_unit_164 rfl rfl ?_
          refine g_iconst (v := 0) h d_Mod_unit_165 (by decide) ?_
          refine pf_Mod_phase h f_Mod_92 d_Mod_unit_166 ?_
          refine g_iload_n h d_Mod_unit_169 rfl rfl ?_
          exact g_iret h r d_Mod_unit_170 (⟨by first | (simp [munit, c_16]; done) | (simp [munit, c_16, c_36, hg]; done) | (simp [munit, c_16, c_36, hg, hg2]; done) | (simp [munit, c_16, c_36, hk, hcl, c_93]; done) | (simp [munit, c_16, c_36, hk, hcl, c_93, c_105]; done), by first | (simp [munit, c_16]; done) | (simp [munit, c_16, c_36, hg]; done) | (simp [munit, c_16, c_36, hg, hg2]; done) | (simp [munit, c_16, c_36, hk, hcl, c_93, c_156]; done) | (simp [munit, c_16, c_36, hk, hcl, c_93, c_105, c_156]; done)⟩)
      · refine g_aload_n h d_Mod_unit_96 rfl rfl ?_
        refine gf_Mod_colour h f_Mod_29 d_Mod_unit_97 ?_
        refine g_aload_n h d_Mod_unit_100 rfl rfl ?_
        refine gf_Mod_sweep h f_Mod_106 d_Mod_unit_101 ?_
        simp only [sI_1, sI_2, sJ_1, sJ_2, sJ_3, sR_1, sR_2, sR_3, Nat.reduceEqDiff, Nat.zero_ne_one, Nat.one_ne_zero, Nat.succ_ne_zero, reduceCtorEq, false_and, if_false, true_and, and_self, if_true, and_true, and_false, reduceIte, hk]
        refine gi_colour h rfl hi d_Mod_unit_104 ?_
        simp only [sI_1, sI_2, sJ_1, sJ_2, sJ_3, sR_1, sR_2, sR_3, Nat.reduceEqDiff, Nat.zero_ne_one, Nat.one_ne_zero, Nat.succ_ne_zero, reduceCtorEq, false_and, if_false, true_and, and_self, if_true, and_true, and_false, reduceIte]
        refine g_if_ne (tgt := 130) h d_Mod_unit_105 (by decide) (fun c_105 => ?_) (fun c_105 => ?_)
        · refine g_aload_n h d_Mod_unit_130 rfl rfl ?_
          refine gf_Mod_colour h f_Mod_29 d_Mod_unit_131 ?_
          refine g_aload_n h d_Mod_unit_134 rfl rfl ?_
          refine gf_Mod_sweep h f_Mod_106 d_Mod_unit_135 ?_
          simp only [sI_1, sI_2, sJ_1, sJ_2, sJ_3, sR_1, sR_2, sR_3, Nat.reduceEqDiff, Nat.zero_ne_one, Nat.one_ne_zero, Nat.succ_ne_zero, reduceCtorEq, false_and, if_false, true_and, and_self, if_true, and_true, and_false, reduceIte, hk]
          refine g_iconst (v := 0) h d_Mod_unit_138 (by decide) ?_
          refine pi_colour h rfl hi d_Mod_unit_139 ?_
          refine g_aload_n h d_Mod_unit_140 rfl rfl ?_
          refine g_dup h d_Mod_unit_141 rfl ?_
          refine gf_Mod_sweep h f_Mod_106 d_Mod_unit_142 ?_
          simp only [sI_1, sI_2, sJ_1, sJ_2, sJ_3, sR_1, sR_2, sR_3, Nat.reduceEqDiff, Nat.zero_ne_one, Nat.one_ne_zero, Nat.succ_ne_zero, reduceCtorEq, false_and, if_false, true_and, and_self, if_true, and_true, and_false, reduceIte, hk]
          refine g_iconst (v := 1) h d_Mod_unit_145 (by decide) ?_
          refine g_iadd h d_Mod_unit_146 ?_
          refine pf_Mod_sweep h f_Mod_106 d_Mod_unit_147 ?_
          refine g_aload_n h d_Mod_unit_150 rfl rfl ?_
          refine gf_Mod_sweep h f_Mod_106 d_Mod_unit_151 ?_
          try simp only [sI_1, sI_2, sJ_1, sJ_2, sJ_3, sR_1, sR_2, sR_3, Nat.reduceEqDiff, Nat.zero_ne_one, Nat.one_ne_zero, Nat.succ_ne_zero, reduceCtorEq, false_and, if_false, true_and, and_self, if_true, and_true, and_false, reduceIte, hk]
          refine g_bipush (v := 16) h d_Mod_unit_154 (by decide) ?_
          refine g_icmp_ne (tgt := 169) h d_Mod_unit_156 (by decide) (fun c_156 => ?_) (fun c_156 => ?_)
          · refine g_iload_n h d_Mod_unit_169 rfl rfl ?_
            exact g_iret h r d_Mod_unit_170 (⟨by first | (simp [munit, c_16]; done) | (simp [munit, c_16, c_36, hg]; done) | (simp [munit, c_16, c_36, hg, hg2]; done) | (simp [munit, c_16, c_36, hk, hcl, c_93]; done) | (simp [munit, c_16, c_36, hk, hcl, c_93, c_105]; done), by first | (simp [munit, c_16]; done) | (simp [munit, c_16, c_36, hg]; done) | (simp [munit, c_16, c_36, hg, hg2]; done) | (simp [munit, c_16, c_36, hk, hcl, c_93, c_156]; done) | (simp [munit, c_16, c_36, hk, hcl, c_93, c_105, c_156]; done)⟩)
          · refine g_aload_n h d_Mod_unit_159 rfl rfl ?_
            refine g_iconst (v := 0) h d_Mod_unit_160 (by decide) ?_
            refine pf_Mod_sweep h f_Mod_106 d_Mod_unit_161 ?_
            refine g_aload_n h d_Mod_unit_164 rfl rfl ?_
            refine g_iconst (v := 0) h d_Mod_unit_165 (by decide) ?_
            refine pf_Mod_phase h f_Mod_92 d_Mod_unit_166 ?_
            refine g_iload_n h d_Mod_unit_169 rfl rfl ?_
            exact g_iret h r d_Mod_unit_170 (⟨by first | (simp [munit, c_16]; done) | (simp [munit, c_16, c_36, hg]; done) | (simp [munit, c_16, c_36, hg, hg2]; done) | (simp [munit, c_16, c_36, hk, hcl, c_93]; done) | (simp [munit, c_16, c_36, hk, hcl, c_93, c_105]; done), by first | (simp [munit, c_16]; done) | (simp [munit, c_16, c_36, hg]; done) | (simp [munit, c_16, c_36, hg, hg2]; done) | (simp [munit, c_16, c_36, hk, hcl, c_93, c_156]; done) | (simp [munit, c_16, c_36, hk, hcl, c_93, c_105, c_156]; done)⟩)
        · refine g_aload_n h d_Mod_unit_108 rfl rfl ?_
          refine gf_Mod_kind h f_Mod_26 d_Mod_unit_109 ?_
          refine g_aload_n h d_Mod_unit_112 rfl rfl ?_
          refine gf_Mod_sweep h f_Mod_106 d_Mod_unit_113 ?_
          simp only [sI_1, sI_2, sJ_1, sJ_2, sJ_3, sR_1, sR_2, sR_3, Nat.reduceEqDiff, Nat.zero_ne_one, Nat.one_ne_zero, Nat.succ_ne_zero, reduceCtorEq, false_and, if_false, true_and, and_self, if_true, and_true, and_false, reduceIte, hk]
          refine g_iconst (v := 0) h d_Mod_unit_116 (by decide) ?_
          refine pi_kind h rfl hi d_Mod_unit_117 ?_
          refine g_aload_n h d_Mod_unit_118 rfl rfl ?_
          refine g_dup h d_Mod_unit_119 rfl ?_
          refine gf_Mod_gone h f_Mod_109 d_Mod_unit_120 ?_
          simp only [sI_1, sI_2, sJ_1, sJ_2, sJ_3, sR_1, sR_2, sR_3, Nat.reduceEqDiff, Nat.zero_ne_one, Nat.one_ne_zero, Nat.succ_ne_zero, reduceCtorEq, false_and, if_false, true_and, and_self, if_true, and_true, and_false, reduceIte]
          refine g_iconst (v := 1) h d_Mod_unit_123 (by decide) ?_
          refine g_iadd h d_Mod_unit_124 ?_
          refine pf_Mod_gone h f_Mod_109 d_Mod_unit_125 ?_
          refine g_iconst (v := 1) h d_Mod_unit_128 (by decide) ?_
          refine g_istore_n h d_Mod_unit_129 rfl rfl (by rw [hN]; decide) ?_
          refine g_aload_n h d_Mod_unit_130 rfl rfl ?_
          refine gf_Mod_colour h f_Mod_29 d_Mod_unit_131 ?_
          refine g_aload_n h d_Mod_unit_134 rfl rfl ?_
          refine gf_Mod_sweep h f_Mod_106 d_Mod_unit_135 ?_
          simp only [sI_1, sI_2, sJ_1, sJ_2, sJ_3, sR_1, sR_2, sR_3, Nat.reduceEqDiff, Nat.zero_ne_one, Nat.one_ne_zero, Nat.succ_ne_zero, reduceCtorEq, false_and, if_false, true_and, and_self, if_true, and_true, and_false, reduceIte, hk]
          refine g_iconst (v := 0) h d_Mod_unit_138 (by decide) ?_
          refine pi_colour h rfl hi d_Mod_unit_139 ?_
          refine g_aload_n h d_Mod_unit_140 rfl rfl ?_
          refine g_dup h d_Mod_unit_141 rfl ?_
          refine gf_Mod_sweep h f_Mod_106 d_Mod_unit_142 ?_
          simp only [sI_1, sI_2, sJ_1, sJ_2, sJ_3, sR_1, sR_2, sR_3, Nat.reduceEqDiff, Nat.zero_ne_one, Nat.one_ne_zero, Nat.succ_ne_zero, reduceCtorEq, false_and, if_false, true_and, and_self, if_true, and_true, and_false, reduceIte, hk]
          refine g_iconst (v := 1) h d_Mod_unit_145 (by decide) ?_
          refine g_iadd h d_Mod_unit_146 ?_
          refine pf_Mod_sweep h f_Mod_106 d_Mod_unit_147 ?_
          refine g_aload_n h d_Mod_unit_150 rfl rfl ?_
          refine gf_Mod_sweep h f_Mod_106 d_Mod_unit_151 ?_
          try simp only [sI_1, sI_2, sJ_1, sJ_2, sJ_3, sR_1, sR_2, sR_3, Nat.reduceEqDiff, Nat.zero_ne_one, Nat.one_ne_zero, Nat.succ_ne_zero, reduceCtorEq, false_and, if_false, true_and, and_self, if_true, and_true, and_false, reduceIte, hk]
          refine g_bipush (v := 16) h d_Mod_unit_154 (by decide) ?_
          refine g_icmp_ne (tgt := 169) h d_Mod_unit_156 (by decide) (fun c_156 => ?_) (fun c_156 => ?_)
          · refine g_iload_n h d_Mod_unit_169 rfl rfl ?_
            exact g_iret h r d_Mod_unit_170 (⟨by first | (simp [munit, c_16]; done) | (simp [munit, c_16, c_36, hg]; done) | (simp [munit, c_16, c_36, hg, hg2]; done) | (simp [munit, c_16, c_36, hk, hcl, c_93]; done) | (simp [munit, c_16, c_36, hk, hcl, c_93, c_105]; done), by first | (simp [munit, c_16]; done) | (simp [munit, c_16, c_36, hg]; done) | (simp [munit, c_16, c_36, hg, hg2]; done) | (simp [munit, c_16, c_36, hk, hcl, c_93, c_156]; done) | (simp [munit, c_16, c_36, hk, hcl, c_93, c_105, c_156]; done)⟩)
          · refine g_aload_n h d_Mod_unit_159 rfl rfl ?_
            refine g_iconst (v := 0) h d_Mod_unit_160 (by decide) ?_
            refine pf_Mod_sweep h f_Mod_106 d_Mod_unit_161 ?_
            refine g_aload_n h d_Mod_unit_164 rfl rfl ?_
            refine g_iconst (v := 0) h d_Mod_unit_165 (by decide) ?_
            refine pf_Mod_phase h f_Mod_92 d_Mod_unit_166 ?_
            refine g_iload_n h d_Mod_unit_169 rfl rfl ?_
            exact g_iret h r d_Mod_unit_170 (⟨by first | (simp [munit, c_16]; done) | (simp [munit, c_16, c_36, hg]; done) | (simp [munit, c_16, c_36, hg, hg2]; done) | (simp [munit, c_16, c_36, hk, hcl, c_93]; done) | (simp [munit, c_16, c_36, hk, hcl, c_93, c_105]; done), by first | (simp [munit, c_16]; done) | (simp [munit, c_16, c_36, hg]; done) | (simp [munit, c_16, c_36, hg, hg2]; done) | (simp [munit, c_16, c_36, hk, hcl, c_93, c_156]; done) | (simp [munit, c_16, c_36, hk, hcl, c_93, c_105, c_156]; done)⟩)
    · refine g_aload_n h d_Mod_unit_39 rfl rfl ?_
      refine g_dVi h tb_good (c_Mod_leastGray) (q := 0) (by decide) rfl rfl v_Mod_98 nm_Mod_leastGray rfl ⟨rfl, rfl, Nat.le_of_ble_eq_true rfl, Nat.le_of_ble_eq_true rfl, Nat.zero_le _, Nat.zero_le _⟩ rfl (Nat.le_of_ble_eq_true rfl) d_Mod_unit_40 ?_
      rcases hg : mgray (sI M 19 0 (M.1 19 0 + 1)) with _ | q <;> simp only [enc]
      · refine g_istore_n h d_Mod_unit_43 rfl rfl (by rw [hN]; decide) ?_
        refine g_iload_n h d_Mod_unit_44 rfl rfl ?_
        refine g_if_lt (tgt := 56) h d_Mod_unit_45 (by decide) (fun c_45 => ?_) (fun c_45 => ?_)
        · refine g_aload_n h d_Mod_unit_56 rfl rfl ?_
          refine g_dVv h tb_good (c_Mod_shadeRoots hok1) (q := 0) (by decide) rfl rfl v_Mod_95 nm_Mod_shadeRoots rfl ⟨rfl, rfl, Nat.le_of_ble_eq_true rfl, Nat.le_of_ble_eq_true rfl, Nat.zero_le _, Nat.zero_le _⟩ rfl (Nat.le_of_ble_eq_true rfl) d_Mod_unit_57 ?_
          refine g_iload_n h d_Mod_unit_60 rfl rfl ?_
          refine g_if_ge (tgt := 81) h d_Mod_unit_61 (by decide) (fun c_61 => ?_) (fun c_61 => ?_)
          · exact absurd c_61 (by decide)
          · refine g_aload_n h d_Mod_unit_64 rfl rfl ?_
            refine g_dVi h tb_good (c_Mod_leastGray) (q := 0) (by decide) rfl rfl v_Mod_98 nm_Mod_leastGray rfl ⟨rfl, rfl, Nat.le_of_ble_eq_true rfl, Nat.le_of_ble_eq_true rfl, Nat.zero_le _, Nat.zero_le _⟩ rfl (Nat.le_of_ble_eq_true rfl) d_Mod_unit_65 ?_
            rcases hg2 : mgray (mshadeRoots (sI M 19 0 (M.1 19 0 + 1))) with _ | q2 <;> simp only [enc]
            · refine g_if_ge (tgt := 81) h d_Mod_unit_68 (by decide) (fun c_68 => ?_) (fun c_68 => ?_)
              · exact absurd c_68 (by decide)
              · refine g_aload_n h d_Mod_unit_71 rfl rfl ?_
                refine g_iconst (v := 2) h d_Mod_unit_72 (by decide) ?_
                refine pf_Mod_phase h f_Mod_92 d_Mod_unit_73 ?_
                refine g_aload_n h d_Mod_unit_76 rfl rfl ?_
                refine g_iconst (v := 0) h d_Mod_unit_77 (by decide) ?_
                refine pf_Mod_sweep h f_Mod_106 d_Mod_unit_78 ?_
                refine g_goto (tgt := 169) h d_Mod_unit_81 (by decide) ?_
                refine g_iload_n h d_Mod_unit_169 rfl rfl ?_
                exact g_iret h r d_Mod_unit_170 (⟨by first | (simp [munit, c_16]; done) | (simp [munit, c_16, c_36, hg]; done) | (simp [munit, c_16, c_36, hg, hg2]; done) | (simp [munit, c_16, c_36, hk, hcl, c_93]; done) | (simp [munit, c_16, c_36, hk, hcl, c_93, c_105]; done), by first | (simp [munit, c_16]; done) | (simp [munit, c_16, c_36, hg]; done) | (simp [munit, c_16, c_36, hg, hg2]; done) | (simp [munit, c_16, c_36, hk, hcl, c_93, c_156]; done) | (simp [munit, c_16, c_36, hk, hcl, c_93, c_105, c_156]; done)⟩)
            · have hq2 := mgray_lt hg2
              refine g_if_ge (tgt := 81) h d_Mod_unit_68 (by decide) (fun c_68 => ?_) (fun c_68 => ?_)
              · refine g_goto (tgt := 169) h d_Mod_unit_81 (by decide) ?_
                refine g_iload_n h d_Mod_unit_169 rfl rfl ?_
                exact g_iret h r d_Mod_unit_170 (⟨by first | (simp [munit, c_16]; done) | (simp [munit, c_16, c_36, hg]; done) | (simp [munit, c_16, c_36, hg, hg2]; done) | (simp [munit, c_16, c_36, hk, hcl, c_93]; done) | (simp [munit, c_16, c_36, hk, hcl, c_93, c_105]; done), by first | (simp [munit, c_16]; done) | (simp [munit, c_16, c_36, hg]; done) | (simp [munit, c_16, c_36, hg, hg2]; done) | (simp [munit, c_16, c_36, hk, hcl, c_93, c_156]; done) | (simp [munit, c_16, c_36, hk, hcl, c_93, c_105, c_156]; done)⟩)
              · exact absurd (nI_pos' (by omega)) c_68
        · exact absurd (by decide) c_45
      · have hq := mgray_lt hg
        refine g_istore_n h d_Mod_unit_43 rfl rfl (by rw [hN]; decide) ?_
        refine g_iload_n h d_Mod_unit_44 rfl rfl ?_
        refine g_if_lt (tgt := 56) h d_Mod_unit_45 (by decide) (fun c_45 => ?_) (fun c_45 => ?_)
        · exact absurd c_45 (nI_pos (by omega))
        · refine g_aload_n h d_Mod_unit_48 rfl rfl ?_
          refine g_iload_n h d_Mod_unit_49 rfl rfl ?_
          refine g_dVv h tb_good (c_Mod_blacken hok1 hq) (q := 0) (by decide) rfl rfl v_Mod_102 nm_Mod_blacken rfl ⟨rfl, rfl, Nat.le_of_ble_eq_true rfl, Nat.le_of_ble_eq_true rfl, Nat.zero_le _, Nat.zero_le _⟩ rfl (Nat.le_of_ble_eq_true rfl) d_Mod_unit_50 ?_
          refine g_goto (tgt := 60) h d_Mod_unit_53 (by decide) ?_
          refine g_iload_n h d_Mod_unit_60 rfl rfl ?_
          refine g_if_ge (tgt := 81) h d_Mod_unit_61 (by decide) (fun c_61 => ?_) (fun c_61 => ?_)
          · refine g_goto (tgt := 169) h d_Mod_unit_81 (by decide) ?_
            refine g_iload_n h d_Mod_unit_169 rfl rfl ?_
            exact g_iret h r d_Mod_unit_170 (⟨by first | (simp [munit, c_16]; done) | (simp [munit, c_16, c_36, hg]; done) | (simp [munit, c_16, c_36, hg, hg2]; done) | (simp [munit, c_16, c_36, hk, hcl, c_93]; done) | (simp [munit, c_16, c_36, hk, hcl, c_93, c_105]; done), by first | (simp [munit, c_16]; done) | (simp [munit, c_16, c_36, hg]; done) | (simp [munit, c_16, c_36, hg, hg2]; done) | (simp [munit, c_16, c_36, hk, hcl, c_93, c_156]; done) | (simp [munit, c_16, c_36, hk, hcl, c_93, c_105, c_156]; done)⟩)
          · exact absurd (nI_pos' (by omega)) c_61
  · refine g_aload_n h d_Mod_unit_19 rfl rfl ?_
    refine g_dVv h tb_good (c_Mod_shadeRoots hok1) (q := 0) (by decide) rfl rfl v_Mod_95 nm_Mod_shadeRoots rfl ⟨rfl, rfl, Nat.le_of_ble_eq_true rfl, Nat.le_of_ble_eq_true rfl, Nat.zero_le _, Nat.zero_le _⟩ rfl (Nat.le_of_ble_eq_true rfl) d_Mod_unit_20 ?_
    refine g_aload_n h d_Mod_unit_23 rfl rfl ?_
    refine g_iconst (v := 1) h d_Mod_unit_24 (by decide) ?_
    refine pf_Mod_phase h f_Mod_92 d_Mod_unit_25 ?_
    refine g_goto (tgt := 169) h d_Mod_unit_28 (by decide) ?_
    refine g_iload_n h d_Mod_unit_169 rfl rfl ?_
    exact g_iret h r d_Mod_unit_170 (⟨by first | (simp [munit, c_16]; done) | (simp [munit, c_16, c_36, hg]; done) | (simp [munit, c_16, c_36, hg, hg2]; done) | (simp [munit, c_16, c_36, hk, hcl, c_93]; done) | (simp [munit, c_16, c_36, hk, hcl, c_93, c_105]; done), by first | (simp [munit, c_16]; done) | (simp [munit, c_16, c_36, hg]; done) | (simp [munit, c_16, c_36, hg, hg2]; done) | (simp [munit, c_16, c_36, hk, hcl, c_93, c_156]; done) | (simp [munit, c_16, c_36, hk, hcl, c_93, c_105, c_156]; done)⟩)
end
section
set_option maxHeartbeats 4000000 in
set_option maxRecDepth 100000 in
theorem c_Mod_getting {l : Launch} {D : va_G} {u : Nat → ClassId} {ad : Nat → Nat} {M : CS} {n0 : Nat} {key : Int64} (hok : okM M) (hn0 : n0 < 16) : Cm l D u ad y_Mod_getting b_Mod_getting 7 (some .long) { frames := 3, cells := 0, slots := 0, locals := 70 } [.ref (ad 0), .int (nI n0), .long key] (M) (some (.long (mgetting M key 5 n0).1)) ((mgetting M key 5 n0).2) := by
  refine ct_of (by decide) (Nat.le_of_ble_eq_true rfl) ?_
  intro Γ _ _ hN h r
  have loop : ∀ (c k n : Nat), k + c = 5 → n < 16 → mgetting M key c n = mgetting M key 5 n0 → G Γ 0 0 18 ad (mob ad u M) 6 [some (.ref (ad 0)), none, some (.long key), none, some (.int (nI n)), some (.int (nI k)), none] [] := by
    intro c
    induction c with
    | zero =>
      intro k n hk hn he
      refine g_iload h d_Mod_getting_6 rfl ?_
      refine g_iconst (v := 5) h d_Mod_getting_8 (by decide) ?_
      refine g_icmp_ge (tgt := 76) h d_Mod_getting_9 (by decide) (fun c_9 => ?_) (fun c_9 => ?_)
      · refine g_aload_n h d_Mod_getting_76 rfl rfl ?_
        refine g_iconst (v := 2) h d_Mod_getting_77 (by decide) ?_
        refine pf_Mod_trouble h f_Mod_141 d_Mod_getting_78 ?_
        refine g_ldc2 (v := -1000000000000) h d_Mod_getting_81 k_Mod_62 ?_
        exact g_lret h r d_Mod_getting_84 (⟨by rw [← he]; rfl, by rw [← he]; rfl⟩)
      · exact absurd (nI_le (a := 5) (b := k) (by omega) (by omega)) c_9
    | succ c ih =>
      intro k n hk hn he
      refine g_iload h d_Mod_getting_6 rfl ?_
      refine g_iconst (v := 5) h d_Mod_getting_8 (by decide) ?_
      refine g_icmp_ge (tgt := 76) h d_Mod_getting_9 (by decide) (fun c_9 => ?_) (fun c_9 => ?_)
      · exact absurd c_9 (nI_ge (b := 5) (by omega) (by decide))
      · refine g_lload_n h d_Mod_getting_12 rfl rfl ?_
        refine g_ldc2 (v := -1000000000000) h d_Mod_getting_13 k_Mod_62 ?_
        refine g_lc_ne (tgt := 24) h d_Mod_getting_16 d_Mod_getting_17 (by decide) (fun c_17 => ?_) (fun c_17 => ?_)
        · refine g_aload_n h d_Mod_getting_24 rfl rfl ?_
          refine g_iload h d_Mod_getting_25 rfl ?_
          refine g_lload_n h d_Mod_getting_27 rfl rfl ?_
          obtain ⟨⟨P, hP, hp⟩, -⟩ := hok.1 n hn
          refine g_dVi h tb_good (c_Mod_pairOf hn hp hP) (q := 0) (by decide) rfl rfl v_Mod_131 nm_Mod_pairOf rfl ⟨rfl, rfl, Nat.le_of_ble_eq_true rfl, Nat.le_of_ble_eq_true rfl, Nat.zero_le _, Nat.zero_le _⟩ rfl (Nat.le_of_ble_eq_true rfl) d_Mod_getting_28 ?_
          rcases hf : mpair M n key with _ | q <;> simp only [enc]
          · refine g_istore h d_Mod_getting_31 rfl (by rw [hN]; decide) ?_
            refine g_iload h d_Mod_getting_33 rfl ?_
            refine g_if_lt (tgt := 52) h d_Mod_getting_35 (by decide) (fun c_35 => ?_) (fun c_35 => ?_)
            · refine g_aload_n h d_Mod_getting_52 rfl rfl ?_
              refine g_iload h d_Mod_getting_53 rfl ?_
              refine g_lconst (v := 0) h d_Mod_getting_55 (by decide) ?_
              refine g_dVi h tb_good (c_Mod_next hok hn) (q := 0) (by decide) rfl rfl v_Mod_138 nm_Mod_next rfl ⟨rfl, rfl, Nat.le_of_ble_eq_true rfl, Nat.le_of_ble_eq_true rfl, Nat.zero_le _, Nat.zero_le _⟩ rfl (Nat.le_of_ble_eq_true rfl) d_Mod_getting_56 ?_
              rcases hx : mnext M n 0 with _ | m <;> simp only [enc]
              · refine g_istore h d_Mod_getting_59 rfl (by rw [hN]; decide) ?_
                refine g_iload h d_Mod_getting_61 rfl ?_
                refine g_if_ge (tgt := 70) h d_Mod_getting_63 (by decide) (fun c_63 => ?_) (fun c_63 => ?_)
                · exact absurd c_63 (by decide)
                · refine g_ldc2 (v := -1000000000000) h d_Mod_getting_66 k_Mod_62 ?_
                  exact g_lret h r d_Mod_getting_69 (⟨by rw [← he]; first | (simp [mgetting, c_17]; done) | (simp [mgetting, c_17, hf]; done) | (simp [mgetting, c_17, hf, hx]; done), by rw [← he]; first | (simp [mgetting, c_17]; done) | (simp [mgetting, c_17, hf]; done) | (simp [mgetting, c_17, hf, hx]; done)⟩)
              · have hm := mnext_lt hok hx
                refine g_istore h d_Mod_getting_59 rfl (by rw [hN]; decide) ?_
                refine g_iload h d_Mod_getting_61 rfl ?_
                refine g_if_ge (tgt := 70) h d_Mod_getting_63 (by decide) (fun c_63 => ?_) (fun c_63 => ?_)
                · refine g_iinc (v := nI (k + 1)) h d_Mod_getting_70 rfl (by rw [nI_succ]; rfl) rfl (by rw [hN]; decide) ?_
                  refine g_goto (tgt := 6) h d_Mod_getting_73 (by decide) ?_
                  refine g_lessL (L' := [some (.ref (ad 0)), none, some (.long key), none, some (.int (nI m)), some (.int (nI (k + 1))), none]) (by simp [leL]) ?_
                  exact ih (k + 1) m (by omega) hm (by rw [← he]; simp [mgetting, c_17, hf, hx])
                · exact absurd (nI_pos' (by omega)) c_63
            · exact absurd (by decide) c_35
          · have hq := mpair_lt hp hP hf
            refine g_istore h d_Mod_getting_31 rfl (by rw [hN]; decide) ?_
            refine g_iload h d_Mod_getting_33 rfl ?_
            refine g_if_lt (tgt := 52) h d_Mod_getting_35 (by decide) (fun c_35 => ?_) (fun c_35 => ?_)
            · exact absurd c_35 (nI_pos (by omega))
            · refine g_aload_n h d_Mod_getting_38 rfl rfl ?_
              refine gf_Mod_values h f_Mod_41 d_Mod_getting_39 ?_
              refine g_iload h d_Mod_getting_42 rfl ?_
              refine g_bipush (v := 6) h d_Mod_getting_44 (by decide) ?_
              refine g_imul h d_Mod_getting_46 ?_
              refine g_iload h d_Mod_getting_47 rfl ?_
              refine g_iadd h d_Mod_getting_49 ?_
              refine gj_values h (nI_at6 n q) (by omega) d_Mod_getting_50 ?_
              exact g_lret h r d_Mod_getting_51 (⟨by rw [← he]; first | (simp [mgetting, c_17]; done) | (simp [mgetting, c_17, hf]; done) | (simp [mgetting, c_17, hf, hx]; done), by rw [← he]; first | (simp [mgetting, c_17]; done) | (simp [mgetting, c_17, hf]; done) | (simp [mgetting, c_17, hf, hx]; done)⟩)
        · refine g_ldc2 (v := -1000000000000) h d_Mod_getting_20 k_Mod_62 ?_
          exact g_lret h r d_Mod_getting_23 (⟨by rw [← he]; first | (simp [mgetting, c_17]; done) | (simp [mgetting, c_17, hf]; done) | (simp [mgetting, c_17, hf, hx]; done), by rw [← he]; first | (simp [mgetting, c_17]; done) | (simp [mgetting, c_17, hf]; done) | (simp [mgetting, c_17, hf, hx]; done)⟩)
  refine g_at (L' := [some (.ref (ad 0)), some (.int (nI n0)), some (.long key), none, none, none, none]) rfl rfl rfl ?_
  refine g_iload_n h d_Mod_getting_0 rfl rfl ?_
  refine g_istore h d_Mod_getting_1 rfl (by rw [hN]; decide) ?_
  refine g_iconst (v := 0) h d_Mod_getting_3 (by decide) ?_
  refine g_istore h d_Mod_getting_4 rfl (by rw [hN]; decide) ?_
  refine g_lessL (L' := [some (.ref (ad 0)), none, some (.long key), none, some (.int (nI n0)), some (.int (nI 0)), none]) (by simp [leL]; first | done | rfl) ?_
  exact loop 5 0 n0 (by omega) hn0 rfl
end
