set_option maxRecDepth 100000 in
theorem v_law_65 : Cond.methodLink "TriColourMachineLaw" 65 y_Law_code ∈ TB ∧ Cond.static y_Law_code ∈ TB ∧ Cond.initialized y_Law_code.cls ∈ TB ∧ Cond.codeWith y_Law_code b_Law_code 8 (some .int) [(0, 13, 16, 13)] ∈ TB := ⟨tb_mem 329 (by decide +kernel) (by decide +kernel), tb_mem 330 (by decide +kernel) (by decide +kernel), tb_mem 42 (by decide +kernel) (by decide +kernel), List.mem_filter.mpr ⟨List.mem_of_getElem? (i := 331) rfl, rfl⟩⟩
theorem nm_Law_code : cNm y_Law_code y_Law_code.cls 7 := ⟨rfl, by decide, by decide, by decide +kernel⟩
set_option maxRecDepth 100000 in
theorem v_law_70 : ∀ w ∈ cwsV "TriColourMachineLaw" 70 "TriColourMachineModel" y_Mod_code b_Mod_code 8 none, w ∈ TB := tb_last (tb_all [772, 773, 774, 51] (by decide +kernel) (by decide +kernel)) (List.mem_filter.mpr ⟨List.mem_of_getElem? (i := 775) rfl, rfl⟩)
set_option maxRecDepth 100000 in
theorem v_law_71 : Cond.methodLink "TriColourMachineLaw" 71 y_Law_number ∈ TB ∧ Cond.static y_Law_number ∈ TB ∧ Cond.initialized y_Law_number.cls ∈ TB ∧ Cond.codeWith y_Law_number b_Law_number 4 (some .int) [(0, 6, 9, 13)] ∈ TB := ⟨tb_mem 408 (by decide +kernel) (by decide +kernel), tb_mem 409 (by decide +kernel) (by decide +kernel), tb_mem 42 (by decide +kernel) (by decide +kernel), List.mem_filter.mpr ⟨List.mem_of_getElem? (i := 410) rfl, rfl⟩⟩
theorem nm_Law_number : cNm y_Law_number y_Law_number.cls 3 := ⟨rfl, by decide, by decide, by decide +kernel⟩
set_option maxRecDepth 100000 in
theorem v_law_74 : ∀ w ∈ cwsV "TriColourMachineLaw" 74 "TriColourMachineModel" y_Mod_number b_Mod_number 3 none, w ∈ TB := tb_last (tb_all [776, 777, 778, 51] (by decide +kernel) (by decide +kernel)) (List.mem_filter.mpr ⟨List.mem_of_getElem? (i := 779) rfl, rfl⟩)
set_option maxRecDepth 100000 in
theorem v_law_75 : ∀ w ∈ cwsV "TriColourMachineLaw" 75 "TriColourMachineModel" y_Mod_thrown b_Mod_thrown 1 (some .int), w ∈ TB := tb_last (tb_all [768, 769, 770, 51] (by decide +kernel) (by decide +kernel)) (List.mem_filter.mpr ⟨List.mem_of_getElem? (i := 771) rfl, rfl⟩)
set_option maxRecDepth 100000 in
theorem v_law_79 : Cond.methodLink "TriColourMachineLaw" 79 y_Law_move ∈ TB ∧ Cond.static y_Law_move ∈ TB ∧ Cond.initialized y_Law_move.cls ∈ TB ∧ Cond.codeWith y_Law_move b_Law_move 4 (some .int) [(0, 6, 9, 13)] ∈ TB := ⟨tb_mem 418 (by decide +kernel) (by decide +kernel), tb_mem 419 (by decide +kernel) (by decide +kernel), tb_mem 42 (by decide +kernel) (by decide +kernel), List.mem_filter.mpr ⟨List.mem_of_getElem? (i := 420) rfl, rfl⟩⟩
theorem nm_Law_move : cNm y_Law_move y_Law_move.cls 3 := ⟨rfl, by decide, by decide, by decide +kernel⟩
set_option maxRecDepth 100000 in
theorem v_law_81 : ∀ w ∈ cwsV "TriColourMachineLaw" 81 "TriColourMachineModel" y_Mod_move b_Mod_move 3 none, w ∈ TB := tb_last (tb_all [784, 785, 786, 51] (by decide +kernel) (by decide +kernel)) (List.mem_filter.mpr ⟨List.mem_of_getElem? (i := 787) rfl, rfl⟩)
set_option maxRecDepth 100000 in
theorem v_law_82 : Cond.methodLink "TriColourMachineLaw" 82 y_Law_make ∈ TB ∧ Cond.static y_Law_make ∈ TB ∧ Cond.initialized y_Law_make.cls ∈ TB ∧ Cond.codeWith y_Law_make b_Law_make 5 (some .int) [(0, 10, 13, 13), (0, 10, 17, 26)] ∈ TB := ⟨tb_mem 426 (by decide +kernel) (by decide +kernel), tb_mem 427 (by decide +kernel) (by decide +kernel), tb_mem 42 (by decide +kernel) (by decide +kernel), List.mem_filter.mpr ⟨List.mem_of_getElem? (i := 428) rfl, rfl⟩⟩
theorem nm_Law_make : cNm y_Law_make y_Law_make.cls 4 := ⟨rfl, by decide, by decide, by decide +kernel⟩
set_option maxRecDepth 100000 in
theorem v_law_85 : ∀ w ∈ cwsV "TriColourMachineLaw" 85 "TriColourMachineModel" y_Mod_make b_Mod_make 4 (some .int), w ∈ TB := tb_last (tb_all [788, 789, 790, 51] (by decide +kernel) (by decide +kernel)) (List.mem_filter.mpr ⟨List.mem_of_getElem? (i := 791) rfl, rfl⟩)
set_option maxRecDepth 100000 in
theorem v_law_86 : Cond.methodLink "TriColourMachineLaw" 86 y_Law_set ∈ TB ∧ Cond.static y_Law_set ∈ TB ∧ Cond.initialized y_Law_set.cls ∈ TB ∧ Cond.codeWith y_Law_set b_Law_set 5 (some .int) [(0, 7, 10, 13), (0, 7, 14, 26), (0, 7, 18, 32)] ∈ TB := ⟨tb_mem 494 (by decide +kernel) (by decide +kernel), tb_mem 495 (by decide +kernel) (by decide +kernel), tb_mem 42 (by decide +kernel) (by decide +kernel), List.mem_filter.mpr ⟨List.mem_of_getElem? (i := 496) rfl, rfl⟩⟩
theorem nm_Law_set : cNm y_Law_set y_Law_set.cls 4 := ⟨rfl, by decide, by decide, by decide +kernel⟩
set_option maxRecDepth 100000 in
theorem v_law_89 : ∀ w ∈ cwsV "TriColourMachineLaw" 89 "TriColourMachineModel" y_Mod_set b_Mod_set 4 none, w ∈ TB := tb_last (tb_all [829, 830, 831, 51] (by decide +kernel) (by decide +kernel)) (List.mem_filter.mpr ⟨List.mem_of_getElem? (i := 832) rfl, rfl⟩)
set_option maxRecDepth 100000 in
theorem v_law_90 : Cond.methodLink "TriColourMachineLaw" 90 y_Law_get ∈ TB ∧ Cond.static y_Law_get ∈ TB ∧ Cond.initialized y_Law_get.cls ∈ TB ∧ Cond.codeWith y_Law_get b_Law_get 6 (some .int) [(0, 11, 14, 13), (0, 11, 18, 26), (0, 11, 22, 32)] ∈ TB := ⟨tb_mem 538 (by decide +kernel) (by decide +kernel), tb_mem 539 (by decide +kernel) (by decide +kernel), tb_mem 42 (by decide +kernel) (by decide +kernel), List.mem_filter.mpr ⟨List.mem_of_getElem? (i := 540) rfl, rfl⟩⟩
theorem nm_Law_get : cNm y_Law_get y_Law_get.cls 5 := ⟨rfl, by decide, by decide, by decide +kernel⟩
set_option maxRecDepth 100000 in
theorem v_law_93 : ∀ w ∈ cwsV "TriColourMachineLaw" 93 "TriColourMachineModel" y_Mod_get b_Mod_get 6 (some .long), w ∈ TB := tb_last (tb_all [853, 854, 855, 51] (by decide +kernel) (by decide +kernel)) (List.mem_filter.mpr ⟨List.mem_of_getElem? (i := 856) rfl, rfl⟩)
set_option maxRecDepth 100000 in
theorem v_law_94 : Cond.methodLink "TriColourMachineLaw" 94 y_Law_meta ∈ TB ∧ Cond.static y_Law_meta ∈ TB ∧ Cond.initialized y_Law_meta.cls ∈ TB ∧ Cond.codeWith y_Law_meta b_Law_meta 4 (some .int) [(0, 6, 9, 13), (0, 6, 12, 32)] ∈ TB := ⟨tb_mem 549 (by decide +kernel) (by decide +kernel), tb_mem 550 (by decide +kernel) (by decide +kernel), tb_mem 42 (by decide +kernel) (by decide +kernel), List.mem_filter.mpr ⟨List.mem_of_getElem? (i := 551) rfl, rfl⟩⟩
theorem nm_Law_meta : cNm y_Law_meta y_Law_meta.cls 3 := ⟨rfl, by decide, by decide, by decide +kernel⟩
set_option maxRecDepth 100000 in
theorem v_law_96 : ∀ w ∈ cwsV "TriColourMachineLaw" 96 "TriColourMachineModel" y_Mod_meta b_Mod_meta 3 none, w ∈ TB := tb_last (tb_all [861, 862, 863, 51] (by decide +kernel) (by decide +kernel)) (List.mem_filter.mpr ⟨List.mem_of_getElem? (i := 864) rfl, rfl⟩)
set_option maxRecDepth 100000 in
theorem v_law_97 : Cond.methodLink "TriColourMachineLaw" 97 y_Law_resume ∈ TB ∧ Cond.static y_Law_resume ∈ TB ∧ Cond.initialized y_Law_resume.cls ∈ TB ∧ Cond.codeWith y_Law_resume b_Law_resume 6 (some .int) [(0, 11, 14, 13), (0, 11, 18, 26), (0, 11, 22, 32)] ∈ TB := ⟨tb_mem 560 (by decide +kernel) (by decide +kernel), tb_mem 561 (by decide +kernel) (by decide +kernel), tb_mem 42 (by decide +kernel) (by decide +kernel), List.mem_filter.mpr ⟨List.mem_of_getElem? (i := 562) rfl, rfl⟩⟩
theorem nm_Law_resume : cNm y_Law_resume y_Law_resume.cls 5 := ⟨rfl, by decide, by decide, by decide +kernel⟩
set_option maxRecDepth 100000 in
theorem v_law_99 : ∀ w ∈ cwsV "TriColourMachineLaw" 99 "TriColourMachineModel" y_Mod_resume b_Mod_resume 6 (some .long), w ∈ TB := tb_last (tb_all [869, 870, 871, 51] (by decide +kernel) (by decide +kernel)) (List.mem_filter.mpr ⟨List.mem_of_getElem? (i := 872) rfl, rfl⟩)
set_option maxRecDepth 100000 in
theorem v_law_100 : Cond.methodLink "TriColourMachineLaw" 100 y_Law_collect ∈ TB ∧ Cond.static y_Law_collect ∈ TB ∧ Cond.initialized y_Law_collect.cls ∈ TB ∧ Cond.codeWith y_Law_collect b_Law_collect 4 (some .int) [(0, 9, 12, 13)] ∈ TB := ⟨tb_mem 626 (by decide +kernel) (by decide +kernel), tb_mem 627 (by decide +kernel) (by decide +kernel), tb_mem 42 (by decide +kernel) (by decide +kernel), List.mem_filter.mpr ⟨List.mem_of_getElem? (i := 628) rfl, rfl⟩⟩
theorem nm_Law_collect : cNm y_Law_collect y_Law_collect.cls 3 := ⟨rfl, by decide, by decide, by decide +kernel⟩
set_option maxRecDepth 100000 in
theorem v_law_103 : ∀ w ∈ cwsV "TriColourMachineLaw" 103 "TriColourMachineModel" y_Mod_collect b_Mod_collect 4 (some .int), w ∈ TB := tb_last (tb_all [907, 908, 909, 51] (by decide +kernel) (by decide +kernel)) (List.mem_filter.mpr ⟨List.mem_of_getElem? (i := 910) rfl, rfl⟩)
set_option maxRecDepth 100000 in
theorem v_law_104 : ∀ w ∈ cwsV "TriColourMachineLaw" 104 "TriColourMachine" y_TCM_full b_TCM_full 2 (some .int), w ∈ TB := tb_last (tb_all [281, 282, 283, 43] (by decide +kernel) (by decide +kernel)) (List.mem_filter.mpr ⟨List.mem_of_getElem? (i := 284) rfl, rfl⟩)
set_option maxRecDepth 100000 in
theorem v_law_107 : ∀ w ∈ cwsV "TriColourMachineLaw" 107 "TriColourMachineModel" y_Mod_full b_Mod_full 1 (some .int), w ∈ TB := tb_last (tb_all [911, 912, 913, 51] (by decide +kernel) (by decide +kernel)) (List.mem_filter.mpr ⟨List.mem_of_getElem? (i := 914) rfl, rfl⟩)
set_option maxRecDepth 100000 in
theorem v_law_108 : Cond.methodLink "TriColourMachineLaw" 108 y_Law_global ∈ TB ∧ Cond.static y_Law_global ∈ TB ∧ Cond.initialized y_Law_global.cls ∈ TB ∧ Cond.codeWith y_Law_global b_Law_global 4 (some .int) [(0, 8, 11, 13)] ∈ TB := ⟨tb_mem 634 (by decide +kernel) (by decide +kernel), tb_mem 635 (by decide +kernel) (by decide +kernel), tb_mem 42 (by decide +kernel) (by decide +kernel), List.mem_filter.mpr ⟨List.mem_of_getElem? (i := 636) rfl, rfl⟩⟩
theorem nm_Law_global : cNm y_Law_global y_Law_global.cls 3 := ⟨rfl, by decide, by decide, by decide +kernel⟩
set_option maxRecDepth 100000 in
theorem v_law_110 : ∀ w ∈ cwsV "TriColourMachineLaw" 110 "TriColourMachineModel" y_Mod_global b_Mod_global 2 (some .long), w ∈ TB := tb_last (tb_all [915, 916, 917, 51] (by decide +kernel) (by decide +kernel)) (List.mem_filter.mpr ⟨List.mem_of_getElem? (i := 918) rfl, rfl⟩)
set_option maxRecDepth 100000 in
theorem v_law_111 : Cond.methodLink "TriColourMachineLaw" 111 y_Law_object ∈ TB ∧ Cond.static y_Law_object ∈ TB ∧ Cond.initialized y_Law_object.cls ∈ TB ∧ Cond.codeWith y_Law_object b_Law_object 5 (some .int) [(0, 10, 13, 13), (0, 10, 17, 55)] ∈ TB := ⟨tb_mem 641 (by decide +kernel) (by decide +kernel), tb_mem 642 (by decide +kernel) (by decide +kernel), tb_mem 42 (by decide +kernel) (by decide +kernel), List.mem_filter.mpr ⟨List.mem_of_getElem? (i := 643) rfl, rfl⟩⟩
theorem nm_Law_object : cNm y_Law_object y_Law_object.cls 4 := ⟨rfl, by decide, by decide, by decide +kernel⟩
set_option maxRecDepth 100000 in
theorem v_law_113 : ∀ w ∈ cwsV "TriColourMachineLaw" 113 "TriColourMachineModel" y_Mod_object b_Mod_object 3 (some .int), w ∈ TB := tb_last (tb_all [919, 920, 921, 51] (by decide +kernel) (by decide +kernel)) (List.mem_filter.mpr ⟨List.mem_of_getElem? (i := 922) rfl, rfl⟩)
set_option maxRecDepth 100000 in
theorem v_law_114 : Cond.methodLink "TriColourMachineLaw" 114 y_Law_inside ∈ TB ∧ Cond.static y_Law_inside ∈ TB ∧ Cond.initialized y_Law_inside.cls ∈ TB ∧ Cond.codeWith y_Law_inside b_Law_inside 6 (some .int) [(0, 11, 14, 13), (0, 11, 18, 55)] ∈ TB := ⟨tb_mem 664 (by decide +kernel) (by decide +kernel), tb_mem 665 (by decide +kernel) (by decide +kernel), tb_mem 42 (by decide +kernel) (by decide +kernel), List.mem_filter.mpr ⟨List.mem_of_getElem? (i := 666) rfl, rfl⟩⟩
theorem nm_Law_inside : cNm y_Law_inside y_Law_inside.cls 5 := ⟨rfl, by decide, by decide, by decide +kernel⟩
set_option maxRecDepth 100000 in
theorem v_law_117 : ∀ w ∈ cwsV "TriColourMachineLaw" 117 "TriColourMachineModel" y_Mod_inside b_Mod_inside 4 (some .long), w ∈ TB := tb_last (tb_all [923, 924, 925, 51] (by decide +kernel) (by decide +kernel)) (List.mem_filter.mpr ⟨List.mem_of_getElem? (i := 926) rfl, rfl⟩)
set_option maxRecDepth 100000 in
theorem v_law_118 : ∀ w ∈ cwsV "TriColourMachineLaw" 118 "TriColourMachine" y_TCM_count b_TCM_count 2 (some .int), w ∈ TB := tb_last (tb_all [321, 322, 323, 43] (by decide +kernel) (by decide +kernel)) (List.mem_filter.mpr ⟨List.mem_of_getElem? (i := 324) rfl, rfl⟩)
set_option maxRecDepth 100000 in
theorem v_law_121 : ∀ w ∈ cwsV "TriColourMachineLaw" 121 "TriColourMachineModel" y_Mod_count b_Mod_count 5 (some .int), w ∈ TB := tb_last (tb_all [927, 928, 929, 51] (by decide +kernel) (by decide +kernel)) (List.mem_filter.mpr ⟨List.mem_of_getElem? (i := 930) rfl, rfl⟩)
theorem d_law_0 : decode code 0 = .ok (.new 8, 3) := by decide +kernel
theorem d_law_3 : decode code 3 = .ok (.dup, 1) := by decide +kernel
theorem d_law_4 : decode code 4 = .ok (.invokespecial 61, 3) := by decide +kernel
theorem d_law_7 : decode code 7 = .ok (.astore_n 1, 1) := by decide +kernel
theorem d_law_8 : decode code 8 = .ok (.new 62, 3) := by decide +kernel
theorem d_law_11 : decode code 11 = .ok (.dup, 1) := by decide +kernel
theorem d_law_12 : decode code 12 = .ok (.invokespecial 64, 3) := by decide +kernel
theorem d_law_15 : decode code 15 = .ok (.astore_n 2, 1) := by decide +kernel
theorem d_law_16 : decode code 16 = .ok (.iconst 1, 1) := by decide +kernel
theorem d_law_17 : decode code 17 = .ok (.newarray .long, 2) := by decide +kernel
theorem d_law_19 : decode code 19 = .ok (.astore_n 3, 1) := by decide +kernel
theorem d_law_20 : decode code 20 = .ok (.iconst 0, 1) := by decide +kernel
theorem d_law_21 : decode code 21 = .ok (.istore 4, 2) := by decide +kernel
theorem d_law_23 : decode code 23 = .ok (.iload 4, 2) := by decide +kernel
theorem d_law_25 : decode code 25 = .ok (.aload_n 0, 1) := by decide +kernel
theorem d_law_26 : decode code 26 = .ok (.arraylength, 1) := by decide +kernel
theorem d_law_27 : decode code 27 = .ok (.bipush 7, 2) := by decide +kernel
theorem d_law_29 : decode code 29 = .ok (.isub, 1) := by decide +kernel
theorem d_law_30 : decode code 30 = .ok (.if_icmp .gt 692, 3) := by decide +kernel
theorem d_law_33 : decode code 33 = .ok (.aload_n 0, 1) := by decide +kernel
theorem d_law_34 : decode code 34 = .ok (.iload 4, 2) := by decide +kernel
theorem d_law_36 : decode code 36 = .ok (.iaload, 1) := by decide +kernel
theorem d_law_37 : decode code 37 = .ok (.bipush 15, 2) := by decide +kernel
theorem d_law_39 : decode code 39 = .ok (.iand, 1) := by decide +kernel
theorem d_law_40 : decode code 40 = .ok (.tableswitch 676 0 13 #[72, 159, 207, 244, 284, 333, 385, 422, 474, 502, 515, 543, 583, 651], 72) := by decide +kernel
theorem d_law_112 : decode code 112 = .ok (.aload_n 1, 1) := by decide +kernel
theorem d_law_113 : decode code 113 = .ok (.aload_n 0, 1) := by decide +kernel
theorem d_law_114 : decode code 114 = .ok (.iload 4, 2) := by decide +kernel
theorem d_law_116 : decode code 116 = .ok (.iconst 1, 1) := by decide +kernel
theorem d_law_117 : decode code 117 = .ok (.iadd, 1) := by decide +kernel
theorem d_law_118 : decode code 118 = .ok (.iaload, 1) := by decide +kernel
theorem d_law_119 : decode code 119 = .ok (.aload_n 0, 1) := by decide +kernel
theorem d_law_120 : decode code 120 = .ok (.iload 4, 2) := by decide +kernel
theorem d_law_122 : decode code 122 = .ok (.iconst 2, 1) := by decide +kernel
theorem d_law_123 : decode code 123 = .ok (.iadd, 1) := by decide +kernel
theorem d_law_124 : decode code 124 = .ok (.iaload, 1) := by decide +kernel
theorem d_law_125 : decode code 125 = .ok (.aload_n 0, 1) := by decide +kernel
theorem d_law_126 : decode code 126 = .ok (.iload 4, 2) := by decide +kernel
theorem d_law_128 : decode code 128 = .ok (.iconst 3, 1) := by decide +kernel
theorem d_law_129 : decode code 129 = .ok (.iadd, 1) := by decide +kernel
theorem d_law_130 : decode code 130 = .ok (.iaload, 1) := by decide +kernel
theorem d_law_131 : decode code 131 = .ok (.aload_n 0, 1) := by decide +kernel
theorem d_law_132 : decode code 132 = .ok (.iload 4, 2) := by decide +kernel
theorem d_law_134 : decode code 134 = .ok (.iconst 4, 1) := by decide +kernel
theorem d_law_135 : decode code 135 = .ok (.iadd, 1) := by decide +kernel
theorem d_law_136 : decode code 136 = .ok (.iaload, 1) := by decide +kernel
theorem d_law_137 : decode code 137 = .ok (.aload_n 0, 1) := by decide +kernel
theorem d_law_138 : decode code 138 = .ok (.iload 4, 2) := by decide +kernel
theorem d_law_140 : decode code 140 = .ok (.iconst 5, 1) := by decide +kernel
theorem d_law_141 : decode code 141 = .ok (.iadd, 1) := by decide +kernel
theorem d_law_142 : decode code 142 = .ok (.iaload, 1) := by decide +kernel
theorem d_law_143 : decode code 143 = .ok (.aload_n 0, 1) := by decide +kernel
theorem d_law_144 : decode code 144 = .ok (.iload 4, 2) := by decide +kernel
theorem d_law_146 : decode code 146 = .ok (.bipush 6, 2) := by decide +kernel
theorem d_law_148 : decode code 148 = .ok (.iadd, 1) := by decide +kernel
theorem d_law_149 : decode code 149 = .ok (.iaload, 1) := by decide +kernel
theorem d_law_150 : decode code 150 = .ok (.invokestatic 65, 3) := by decide +kernel
theorem d_law_153 : decode code 153 = .ok (.istore 5, 2) := by decide +kernel
theorem d_law_155 : decode code 155 = .ok (.aload_n 2, 1) := by decide +kernel
theorem d_law_156 : decode code 156 = .ok (.aload_n 0, 1) := by decide +kernel
theorem d_law_157 : decode code 157 = .ok (.iload 4, 2) := by decide +kernel
theorem d_law_159 : decode code 159 = .ok (.iconst 1, 1) := by decide +kernel
theorem d_law_160 : decode code 160 = .ok (.iadd, 1) := by decide +kernel
theorem d_law_161 : decode code 161 = .ok (.iaload, 1) := by decide +kernel
theorem d_law_162 : decode code 162 = .ok (.aload_n 0, 1) := by decide +kernel
theorem d_law_163 : decode code 163 = .ok (.iload 4, 2) := by decide +kernel
theorem d_law_165 : decode code 165 = .ok (.iconst 2, 1) := by decide +kernel
theorem d_law_166 : decode code 166 = .ok (.iadd, 1) := by decide +kernel
theorem d_law_167 : decode code 167 = .ok (.iaload, 1) := by decide +kernel
theorem d_law_168 : decode code 168 = .ok (.aload_n 0, 1) := by decide +kernel
theorem d_law_169 : decode code 169 = .ok (.iload 4, 2) := by decide +kernel
theorem d_law_171 : decode code 171 = .ok (.iconst 3, 1) := by decide +kernel
theorem d_law_172 : decode code 172 = .ok (.iadd, 1) := by decide +kernel
theorem d_law_173 : decode code 173 = .ok (.iaload, 1) := by decide +kernel
theorem d_law_174 : decode code 174 = .ok (.aload_n 0, 1) := by decide +kernel
theorem d_law_175 : decode code 175 = .ok (.iload 4, 2) := by decide +kernel
theorem d_law_177 : decode code 177 = .ok (.iconst 4, 1) := by decide +kernel
theorem d_law_178 : decode code 178 = .ok (.iadd, 1) := by decide +kernel
theorem d_law_179 : decode code 179 = .ok (.iaload, 1) := by decide +kernel
theorem d_law_180 : decode code 180 = .ok (.aload_n 0, 1) := by decide +kernel
theorem d_law_181 : decode code 181 = .ok (.iload 4, 2) := by decide +kernel
theorem d_law_183 : decode code 183 = .ok (.iconst 5, 1) := by decide +kernel
theorem d_law_184 : decode code 184 = .ok (.iadd, 1) := by decide +kernel
theorem d_law_185 : decode code 185 = .ok (.iaload, 1) := by decide +kernel
theorem d_law_186 : decode code 186 = .ok (.aload_n 0, 1) := by decide +kernel
theorem d_law_187 : decode code 187 = .ok (.iload 4, 2) := by decide +kernel
theorem d_law_189 : decode code 189 = .ok (.bipush 6, 2) := by decide +kernel
theorem d_law_191 : decode code 191 = .ok (.iadd, 1) := by decide +kernel
theorem d_law_192 : decode code 192 = .ok (.iaload, 1) := by decide +kernel
theorem d_law_193 : decode code 193 = .ok (.invokevirtual 70, 3) := by decide +kernel
theorem d_law_196 : decode code 196 = .ok (.goto 520, 3) := by decide +kernel
theorem d_law_199 : decode code 199 = .ok (.aload_n 1, 1) := by decide +kernel
theorem d_law_200 : decode code 200 = .ok (.aload_n 0, 1) := by decide +kernel
theorem d_law_201 : decode code 201 = .ok (.iload 4, 2) := by decide +kernel
theorem d_law_203 : decode code 203 = .ok (.iconst 1, 1) := by decide +kernel
theorem d_law_204 : decode code 204 = .ok (.iadd, 1) := by decide +kernel
theorem d_law_205 : decode code 205 = .ok (.iaload, 1) := by decide +kernel
theorem d_law_206 : decode code 206 = .ok (.aload_n 0, 1) := by decide +kernel
theorem d_law_207 : decode code 207 = .ok (.iload 4, 2) := by decide +kernel
theorem d_law_209 : decode code 209 = .ok (.iconst 2, 1) := by decide +kernel
theorem d_law_210 : decode code 210 = .ok (.iadd, 1) := by decide +kernel
theorem d_law_211 : decode code 211 = .ok (.iaload, 1) := by decide +kernel
theorem d_law_212 : decode code 212 = .ok (.invokestatic 71, 3) := by decide +kernel
theorem d_law_215 : decode code 215 = .ok (.istore 5, 2) := by decide +kernel
theorem d_law_217 : decode code 217 = .ok (.aload_n 2, 1) := by decide +kernel
theorem d_law_218 : decode code 218 = .ok (.aload_n 0, 1) := by decide +kernel
theorem d_law_219 : decode code 219 = .ok (.iload 4, 2) := by decide +kernel
theorem d_law_221 : decode code 221 = .ok (.iconst 1, 1) := by decide +kernel
theorem d_law_222 : decode code 222 = .ok (.iadd, 1) := by decide +kernel
theorem d_law_223 : decode code 223 = .ok (.iaload, 1) := by decide +kernel
theorem d_law_224 : decode code 224 = .ok (.aload_n 0, 1) := by decide +kernel
theorem d_law_225 : decode code 225 = .ok (.iload 4, 2) := by decide +kernel
theorem d_law_227 : decode code 227 = .ok (.iconst 2, 1) := by decide +kernel
theorem d_law_228 : decode code 228 = .ok (.iadd, 1) := by decide +kernel
theorem d_law_229 : decode code 229 = .ok (.iaload, 1) := by decide +kernel
theorem d_law_230 : decode code 230 = .ok (.invokevirtual 74, 3) := by decide +kernel
theorem d_law_233 : decode code 233 = .ok (.aload_n 2, 1) := by decide +kernel
theorem d_law_234 : decode code 234 = .ok (.invokevirtual 75, 3) := by decide +kernel
theorem d_law_237 : decode code 237 = .ok (.iload 5, 2) := by decide +kernel
theorem d_law_239 : decode code 239 = .ok (.if_icmp .eq 5, 3) := by decide +kernel
theorem d_law_242 : decode code 242 = .ok (.iconst 0, 1) := by decide +kernel
theorem d_law_243 : decode code 243 = .ok (.ireturn, 1) := by decide +kernel
theorem d_law_244 : decode code 244 = .ok (.goto 472, 3) := by decide +kernel
theorem d_law_247 : decode code 247 = .ok (.aload_n 1, 1) := by decide +kernel
theorem d_law_248 : decode code 248 = .ok (.aload_n 0, 1) := by decide +kernel
theorem d_law_249 : decode code 249 = .ok (.iload 4, 2) := by decide +kernel
theorem d_law_251 : decode code 251 = .ok (.iconst 1, 1) := by decide +kernel
theorem d_law_252 : decode code 252 = .ok (.iadd, 1) := by decide +kernel
theorem d_law_253 : decode code 253 = .ok (.iaload, 1) := by decide +kernel
theorem d_law_254 : decode code 254 = .ok (.aload_n 0, 1) := by decide +kernel
theorem d_law_255 : decode code 255 = .ok (.iload 4, 2) := by decide +kernel
theorem d_law_257 : decode code 257 = .ok (.iconst 2, 1) := by decide +kernel
theorem d_law_258 : decode code 258 = .ok (.iadd, 1) := by decide +kernel
theorem d_law_259 : decode code 259 = .ok (.iaload, 1) := by decide +kernel
theorem d_law_260 : decode code 260 = .ok (.invokestatic 79, 3) := by decide +kernel
theorem d_law_263 : decode code 263 = .ok (.istore 5, 2) := by decide +kernel
theorem d_law_265 : decode code 265 = .ok (.aload_n 2, 1) := by decide +kernel
theorem d_law_266 : decode code 266 = .ok (.aload_n 0, 1) := by decide +kernel
theorem d_law_267 : decode code 267 = .ok (.iload 4, 2) := by decide +kernel
theorem d_law_269 : decode code 269 = .ok (.iconst 1, 1) := by decide +kernel
theorem d_law_270 : decode code 270 = .ok (.iadd, 1) := by decide +kernel
theorem d_law_271 : decode code 271 = .ok (.iaload, 1) := by decide +kernel
theorem d_law_272 : decode code 272 = .ok (.aload_n 0, 1) := by decide +kernel
theorem d_law_273 : decode code 273 = .ok (.iload 4, 2) := by decide +kernel
theorem d_law_275 : decode code 275 = .ok (.iconst 2, 1) := by decide +kernel
theorem d_law_276 : decode code 276 = .ok (.iadd, 1) := by decide +kernel
theorem d_law_277 : decode code 277 = .ok (.iaload, 1) := by decide +kernel
theorem d_law_278 : decode code 278 = .ok (.invokevirtual 81, 3) := by decide +kernel
theorem d_law_281 : decode code 281 = .ok (.goto 435, 3) := by decide +kernel
theorem d_law_284 : decode code 284 = .ok (.aload_n 1, 1) := by decide +kernel
theorem d_law_285 : decode code 285 = .ok (.aload_n 0, 1) := by decide +kernel
theorem d_law_286 : decode code 286 = .ok (.iload 4, 2) := by decide +kernel
theorem d_law_288 : decode code 288 = .ok (.iconst 1, 1) := by decide +kernel
theorem d_law_289 : decode code 289 = .ok (.iadd, 1) := by decide +kernel
theorem d_law_290 : decode code 290 = .ok (.iaload, 1) := by decide +kernel
theorem d_law_291 : decode code 291 = .ok (.aload_n 0, 1) := by decide +kernel
theorem d_law_292 : decode code 292 = .ok (.iload 4, 2) := by decide +kernel
theorem d_law_294 : decode code 294 = .ok (.iconst 2, 1) := by decide +kernel
theorem d_law_295 : decode code 295 = .ok (.iadd, 1) := by decide +kernel
theorem d_law_296 : decode code 296 = .ok (.iaload, 1) := by decide +kernel
theorem d_law_297 : decode code 297 = .ok (.aload_n 3, 1) := by decide +kernel
theorem d_law_298 : decode code 298 = .ok (.invokestatic 82, 3) := by decide +kernel
theorem d_law_301 : decode code 301 = .ok (.istore 5, 2) := by decide +kernel
theorem d_law_303 : decode code 303 = .ok (.aload_n 2, 1) := by decide +kernel
theorem d_law_304 : decode code 304 = .ok (.aload_n 0, 1) := by decide +kernel
theorem d_law_305 : decode code 305 = .ok (.iload 4, 2) := by decide +kernel
theorem d_law_307 : decode code 307 = .ok (.iconst 1, 1) := by decide +kernel
theorem d_law_308 : decode code 308 = .ok (.iadd, 1) := by decide +kernel
theorem d_law_309 : decode code 309 = .ok (.iaload, 1) := by decide +kernel
theorem d_law_310 : decode code 310 = .ok (.aload_n 0, 1) := by decide +kernel
theorem d_law_311 : decode code 311 = .ok (.iload 4, 2) := by decide +kernel
theorem d_law_313 : decode code 313 = .ok (.iconst 2, 1) := by decide +kernel
theorem d_law_314 : decode code 314 = .ok (.iadd, 1) := by decide +kernel
theorem d_law_315 : decode code 315 = .ok (.iaload, 1) := by decide +kernel
theorem d_law_316 : decode code 316 = .ok (.invokevirtual 85, 3) := by decide +kernel
theorem d_law_319 : decode code 319 = .ok (.istore 6, 2) := by decide +kernel
theorem d_law_321 : decode code 321 = .ok (.goto 395, 3) := by decide +kernel
theorem d_law_324 : decode code 324 = .ok (.aload_n 1, 1) := by decide +kernel
theorem d_law_325 : decode code 325 = .ok (.aload_n 0, 1) := by decide +kernel
theorem d_law_326 : decode code 326 = .ok (.iload 4, 2) := by decide +kernel
theorem d_law_328 : decode code 328 = .ok (.iconst 1, 1) := by decide +kernel
theorem d_law_329 : decode code 329 = .ok (.iadd, 1) := by decide +kernel
theorem d_law_330 : decode code 330 = .ok (.iaload, 1) := by decide +kernel
theorem d_law_331 : decode code 331 = .ok (.aload_n 0, 1) := by decide +kernel
theorem d_law_332 : decode code 332 = .ok (.iload 4, 2) := by decide +kernel
theorem d_law_334 : decode code 334 = .ok (.iconst 2, 1) := by decide +kernel
theorem d_law_335 : decode code 335 = .ok (.iadd, 1) := by decide +kernel
theorem d_law_336 : decode code 336 = .ok (.iaload, 1) := by decide +kernel
theorem d_law_337 : decode code 337 = .ok (.aload_n 0, 1) := by decide +kernel
theorem d_law_338 : decode code 338 = .ok (.iload 4, 2) := by decide +kernel
theorem d_law_340 : decode code 340 = .ok (.iconst 3, 1) := by decide +kernel
theorem d_law_341 : decode code 341 = .ok (.iadd, 1) := by decide +kernel
theorem d_law_342 : decode code 342 = .ok (.iaload, 1) := by decide +kernel
theorem d_law_343 : decode code 343 = .ok (.invokestatic 86, 3) := by decide +kernel
theorem d_law_346 : decode code 346 = .ok (.istore 5, 2) := by decide +kernel
theorem d_law_348 : decode code 348 = .ok (.aload_n 2, 1) := by decide +kernel
theorem d_law_349 : decode code 349 = .ok (.aload_n 0, 1) := by decide +kernel
theorem d_law_350 : decode code 350 = .ok (.iload 4, 2) := by decide +kernel
theorem d_law_352 : decode code 352 = .ok (.iconst 1, 1) := by decide +kernel
theorem d_law_353 : decode code 353 = .ok (.iadd, 1) := by decide +kernel
theorem d_law_354 : decode code 354 = .ok (.iaload, 1) := by decide +kernel
theorem d_law_355 : decode code 355 = .ok (.aload_n 0, 1) := by decide +kernel
theorem d_law_356 : decode code 356 = .ok (.iload 4, 2) := by decide +kernel
theorem d_law_358 : decode code 358 = .ok (.iconst 2, 1) := by decide +kernel
theorem d_law_359 : decode code 359 = .ok (.iadd, 1) := by decide +kernel
theorem d_law_360 : decode code 360 = .ok (.iaload, 1) := by decide +kernel
theorem d_law_361 : decode code 361 = .ok (.aload_n 0, 1) := by decide +kernel
theorem d_law_362 : decode code 362 = .ok (.iload 4, 2) := by decide +kernel
theorem d_law_364 : decode code 364 = .ok (.iconst 3, 1) := by decide +kernel
theorem d_law_365 : decode code 365 = .ok (.iadd, 1) := by decide +kernel
theorem d_law_366 : decode code 366 = .ok (.iaload, 1) := by decide +kernel
theorem d_law_367 : decode code 367 = .ok (.invokevirtual 89, 3) := by decide +kernel
theorem d_law_370 : decode code 370 = .ok (.goto 346, 3) := by decide +kernel
theorem d_law_373 : decode code 373 = .ok (.aload_n 1, 1) := by decide +kernel
theorem d_law_374 : decode code 374 = .ok (.aload_n 0, 1) := by decide +kernel
theorem d_law_375 : decode code 375 = .ok (.iload 4, 2) := by decide +kernel
theorem d_law_377 : decode code 377 = .ok (.iconst 1, 1) := by decide +kernel
theorem d_law_378 : decode code 378 = .ok (.iadd, 1) := by decide +kernel
theorem d_law_379 : decode code 379 = .ok (.iaload, 1) := by decide +kernel
theorem d_law_380 : decode code 380 = .ok (.aload_n 0, 1) := by decide +kernel
theorem d_law_381 : decode code 381 = .ok (.iload 4, 2) := by decide +kernel
theorem d_law_383 : decode code 383 = .ok (.iconst 2, 1) := by decide +kernel
theorem d_law_384 : decode code 384 = .ok (.iadd, 1) := by decide +kernel
theorem d_law_385 : decode code 385 = .ok (.iaload, 1) := by decide +kernel
theorem d_law_386 : decode code 386 = .ok (.aload_n 0, 1) := by decide +kernel
theorem d_law_387 : decode code 387 = .ok (.iload 4, 2) := by decide +kernel
theorem d_law_389 : decode code 389 = .ok (.iconst 3, 1) := by decide +kernel
theorem d_law_390 : decode code 390 = .ok (.iadd, 1) := by decide +kernel
theorem d_law_391 : decode code 391 = .ok (.iaload, 1) := by decide +kernel
theorem d_law_392 : decode code 392 = .ok (.aload_n 3, 1) := by decide +kernel
theorem d_law_393 : decode code 393 = .ok (.invokestatic 90, 3) := by decide +kernel
theorem d_law_396 : decode code 396 = .ok (.istore 5, 2) := by decide +kernel
theorem d_law_398 : decode code 398 = .ok (.aload_n 2, 1) := by decide +kernel
theorem d_law_399 : decode code 399 = .ok (.aload_n 0, 1) := by decide +kernel
theorem d_law_400 : decode code 400 = .ok (.iload 4, 2) := by decide +kernel
theorem d_law_402 : decode code 402 = .ok (.iconst 1, 1) := by decide +kernel
theorem d_law_403 : decode code 403 = .ok (.iadd, 1) := by decide +kernel
theorem d_law_404 : decode code 404 = .ok (.iaload, 1) := by decide +kernel
theorem d_law_405 : decode code 405 = .ok (.aload_n 0, 1) := by decide +kernel
theorem d_law_406 : decode code 406 = .ok (.iload 4, 2) := by decide +kernel
theorem d_law_408 : decode code 408 = .ok (.iconst 2, 1) := by decide +kernel
theorem d_law_409 : decode code 409 = .ok (.iadd, 1) := by decide +kernel
theorem d_law_410 : decode code 410 = .ok (.iaload, 1) := by decide +kernel
theorem d_law_411 : decode code 411 = .ok (.aload_n 0, 1) := by decide +kernel
theorem d_law_412 : decode code 412 = .ok (.iload 4, 2) := by decide +kernel
theorem d_law_414 : decode code 414 = .ok (.iconst 3, 1) := by decide +kernel
theorem d_law_415 : decode code 415 = .ok (.iadd, 1) := by decide +kernel
theorem d_law_416 : decode code 416 = .ok (.iaload, 1) := by decide +kernel
theorem d_law_417 : decode code 417 = .ok (.invokevirtual 93, 3) := by decide +kernel
theorem d_law_420 : decode code 420 = .ok (.lstore 6, 2) := by decide +kernel
theorem d_law_422 : decode code 422 = .ok (.goto 294, 3) := by decide +kernel
theorem d_law_425 : decode code 425 = .ok (.aload_n 1, 1) := by decide +kernel
theorem d_law_426 : decode code 426 = .ok (.aload_n 0, 1) := by decide +kernel
theorem d_law_427 : decode code 427 = .ok (.iload 4, 2) := by decide +kernel
theorem d_law_429 : decode code 429 = .ok (.iconst 1, 1) := by decide +kernel
theorem d_law_430 : decode code 430 = .ok (.iadd, 1) := by decide +kernel
theorem d_law_431 : decode code 431 = .ok (.iaload, 1) := by decide +kernel
theorem d_law_432 : decode code 432 = .ok (.aload_n 0, 1) := by decide +kernel
theorem d_law_433 : decode code 433 = .ok (.iload 4, 2) := by decide +kernel
theorem d_law_435 : decode code 435 = .ok (.iconst 2, 1) := by decide +kernel
theorem d_law_436 : decode code 436 = .ok (.iadd, 1) := by decide +kernel
theorem d_law_437 : decode code 437 = .ok (.iaload, 1) := by decide +kernel
theorem d_law_438 : decode code 438 = .ok (.invokestatic 94, 3) := by decide +kernel
theorem d_law_441 : decode code 441 = .ok (.istore 5, 2) := by decide +kernel
theorem d_law_443 : decode code 443 = .ok (.aload_n 2, 1) := by decide +kernel
theorem d_law_444 : decode code 444 = .ok (.aload_n 0, 1) := by decide +kernel
theorem d_law_445 : decode code 445 = .ok (.iload 4, 2) := by decide +kernel
theorem d_law_447 : decode code 447 = .ok (.iconst 1, 1) := by decide +kernel
theorem d_law_448 : decode code 448 = .ok (.iadd, 1) := by decide +kernel
theorem d_law_449 : decode code 449 = .ok (.iaload, 1) := by decide +kernel
theorem d_law_450 : decode code 450 = .ok (.aload_n 0, 1) := by decide +kernel
theorem d_law_451 : decode code 451 = .ok (.iload 4, 2) := by decide +kernel
theorem d_law_453 : decode code 453 = .ok (.iconst 2, 1) := by decide +kernel
theorem d_law_454 : decode code 454 = .ok (.iadd, 1) := by decide +kernel
theorem d_law_455 : decode code 455 = .ok (.iaload, 1) := by decide +kernel
theorem d_law_456 : decode code 456 = .ok (.invokevirtual 96, 3) := by decide +kernel
theorem d_law_459 : decode code 459 = .ok (.goto 257, 3) := by decide +kernel
theorem d_law_462 : decode code 462 = .ok (.aload_n 1, 1) := by decide +kernel
theorem d_law_463 : decode code 463 = .ok (.aload_n 0, 1) := by decide +kernel
theorem d_law_464 : decode code 464 = .ok (.iload 4, 2) := by decide +kernel
theorem d_law_466 : decode code 466 = .ok (.iconst 1, 1) := by decide +kernel
theorem d_law_467 : decode code 467 = .ok (.iadd, 1) := by decide +kernel
theorem d_law_468 : decode code 468 = .ok (.iaload, 1) := by decide +kernel
theorem d_law_469 : decode code 469 = .ok (.aload_n 0, 1) := by decide +kernel
theorem d_law_470 : decode code 470 = .ok (.iload 4, 2) := by decide +kernel
theorem d_law_472 : decode code 472 = .ok (.iconst 2, 1) := by decide +kernel
theorem d_law_473 : decode code 473 = .ok (.iadd, 1) := by decide +kernel
theorem d_law_474 : decode code 474 = .ok (.iaload, 1) := by decide +kernel
theorem d_law_475 : decode code 475 = .ok (.aload_n 0, 1) := by decide +kernel
theorem d_law_476 : decode code 476 = .ok (.iload 4, 2) := by decide +kernel
theorem d_law_478 : decode code 478 = .ok (.iconst 3, 1) := by decide +kernel
theorem d_law_479 : decode code 479 = .ok (.iadd, 1) := by decide +kernel
theorem d_law_480 : decode code 480 = .ok (.iaload, 1) := by decide +kernel
theorem d_law_481 : decode code 481 = .ok (.aload_n 3, 1) := by decide +kernel
theorem d_law_482 : decode code 482 = .ok (.invokestatic 97, 3) := by decide +kernel
theorem d_law_485 : decode code 485 = .ok (.istore 5, 2) := by decide +kernel
theorem d_law_487 : decode code 487 = .ok (.aload_n 2, 1) := by decide +kernel
theorem d_law_488 : decode code 488 = .ok (.aload_n 0, 1) := by decide +kernel
theorem d_law_489 : decode code 489 = .ok (.iload 4, 2) := by decide +kernel
theorem d_law_491 : decode code 491 = .ok (.iconst 1, 1) := by decide +kernel
theorem d_law_492 : decode code 492 = .ok (.iadd, 1) := by decide +kernel
theorem d_law_493 : decode code 493 = .ok (.iaload, 1) := by decide +kernel
theorem d_law_494 : decode code 494 = .ok (.aload_n 0, 1) := by decide +kernel
theorem d_law_495 : decode code 495 = .ok (.iload 4, 2) := by decide +kernel
theorem d_law_497 : decode code 497 = .ok (.iconst 2, 1) := by decide +kernel
theorem d_law_498 : decode code 498 = .ok (.iadd, 1) := by decide +kernel
theorem d_law_499 : decode code 499 = .ok (.iaload, 1) := by decide +kernel
theorem d_law_500 : decode code 500 = .ok (.aload_n 0, 1) := by decide +kernel
theorem d_law_501 : decode code 501 = .ok (.iload 4, 2) := by decide +kernel
theorem d_law_503 : decode code 503 = .ok (.iconst 3, 1) := by decide +kernel
theorem d_law_504 : decode code 504 = .ok (.iadd, 1) := by decide +kernel
theorem d_law_505 : decode code 505 = .ok (.iaload, 1) := by decide +kernel
theorem d_law_506 : decode code 506 = .ok (.invokevirtual 99, 3) := by decide +kernel
theorem d_law_509 : decode code 509 = .ok (.lstore 6, 2) := by decide +kernel
theorem d_law_511 : decode code 511 = .ok (.goto 205, 3) := by decide +kernel
theorem d_law_514 : decode code 514 = .ok (.aload_n 1, 1) := by decide +kernel
theorem d_law_515 : decode code 515 = .ok (.aload_n 0, 1) := by decide +kernel
theorem d_law_516 : decode code 516 = .ok (.iload 4, 2) := by decide +kernel
theorem d_law_518 : decode code 518 = .ok (.iconst 1, 1) := by decide +kernel
theorem d_law_519 : decode code 519 = .ok (.iadd, 1) := by decide +kernel
theorem d_law_520 : decode code 520 = .ok (.iaload, 1) := by decide +kernel
theorem d_law_521 : decode code 521 = .ok (.aload_n 3, 1) := by decide +kernel
theorem d_law_522 : decode code 522 = .ok (.invokestatic 100, 3) := by decide +kernel
theorem d_law_525 : decode code 525 = .ok (.istore 5, 2) := by decide +kernel
theorem d_law_527 : decode code 527 = .ok (.aload_n 2, 1) := by decide +kernel
theorem d_law_528 : decode code 528 = .ok (.aload_n 0, 1) := by decide +kernel
theorem d_law_529 : decode code 529 = .ok (.iload 4, 2) := by decide +kernel
theorem d_law_531 : decode code 531 = .ok (.iconst 1, 1) := by decide +kernel
theorem d_law_532 : decode code 532 = .ok (.iadd, 1) := by decide +kernel
theorem d_law_533 : decode code 533 = .ok (.iaload, 1) := by decide +kernel
theorem d_law_534 : decode code 534 = .ok (.invokevirtual 103, 3) := by decide +kernel
theorem d_law_537 : decode code 537 = .ok (.istore 6, 2) := by decide +kernel
theorem d_law_539 : decode code 539 = .ok (.goto 177, 3) := by decide +kernel
theorem d_law_542 : decode code 542 = .ok (.aload_n 1, 1) := by decide +kernel
theorem d_law_543 : decode code 543 = .ok (.invokevirtual 104, 3) := by decide +kernel
theorem d_law_546 : decode code 546 = .ok (.pop, 1) := by decide +kernel
theorem d_law_547 : decode code 547 = .ok (.aload_n 2, 1) := by decide +kernel
theorem d_law_548 : decode code 548 = .ok (.invokevirtual 107, 3) := by decide +kernel
theorem d_law_551 : decode code 551 = .ok (.pop, 1) := by decide +kernel
theorem d_law_552 : decode code 552 = .ok (.goto 164, 3) := by decide +kernel
theorem d_law_555 : decode code 555 = .ok (.aload_n 1, 1) := by decide +kernel
theorem d_law_556 : decode code 556 = .ok (.aload_n 0, 1) := by decide +kernel
theorem d_law_557 : decode code 557 = .ok (.iload 4, 2) := by decide +kernel
theorem d_law_559 : decode code 559 = .ok (.iconst 1, 1) := by decide +kernel
theorem d_law_560 : decode code 560 = .ok (.iadd, 1) := by decide +kernel
theorem d_law_561 : decode code 561 = .ok (.iaload, 1) := by decide +kernel
theorem d_law_562 : decode code 562 = .ok (.aload_n 3, 1) := by decide +kernel
theorem d_law_563 : decode code 563 = .ok (.invokestatic 108, 3) := by decide +kernel
theorem d_law_566 : decode code 566 = .ok (.istore 5, 2) := by decide +kernel
theorem d_law_568 : decode code 568 = .ok (.aload_n 2, 1) := by decide +kernel
theorem d_law_569 : decode code 569 = .ok (.aload_n 0, 1) := by decide +kernel
theorem d_law_570 : decode code 570 = .ok (.iload 4, 2) := by decide +kernel
theorem d_law_572 : decode code 572 = .ok (.iconst 1, 1) := by decide +kernel
theorem d_law_573 : decode code 573 = .ok (.iadd, 1) := by decide +kernel
theorem d_law_574 : decode code 574 = .ok (.iaload, 1) := by decide +kernel
theorem d_law_575 : decode code 575 = .ok (.invokevirtual 110, 3) := by decide +kernel
theorem d_law_578 : decode code 578 = .ok (.lstore 6, 2) := by decide +kernel
theorem d_law_580 : decode code 580 = .ok (.goto 136, 3) := by decide +kernel
theorem d_law_583 : decode code 583 = .ok (.aload_n 1, 1) := by decide +kernel
theorem d_law_584 : decode code 584 = .ok (.aload_n 0, 1) := by decide +kernel
theorem d_law_585 : decode code 585 = .ok (.iload 4, 2) := by decide +kernel
theorem d_law_587 : decode code 587 = .ok (.iconst 1, 1) := by decide +kernel
theorem d_law_588 : decode code 588 = .ok (.iadd, 1) := by decide +kernel
theorem d_law_589 : decode code 589 = .ok (.iaload, 1) := by decide +kernel
theorem d_law_590 : decode code 590 = .ok (.aload_n 0, 1) := by decide +kernel
theorem d_law_591 : decode code 591 = .ok (.iload 4, 2) := by decide +kernel
theorem d_law_593 : decode code 593 = .ok (.iconst 2, 1) := by decide +kernel
theorem d_law_594 : decode code 594 = .ok (.iadd, 1) := by decide +kernel
theorem d_law_595 : decode code 595 = .ok (.iaload, 1) := by decide +kernel
theorem d_law_596 : decode code 596 = .ok (.aload_n 3, 1) := by decide +kernel
theorem d_law_597 : decode code 597 = .ok (.invokestatic 111, 3) := by decide +kernel
theorem d_law_600 : decode code 600 = .ok (.istore 5, 2) := by decide +kernel
theorem d_law_602 : decode code 602 = .ok (.aload_n 2, 1) := by decide +kernel
theorem d_law_603 : decode code 603 = .ok (.aload_n 0, 1) := by decide +kernel
theorem d_law_604 : decode code 604 = .ok (.iload 4, 2) := by decide +kernel
theorem d_law_606 : decode code 606 = .ok (.iconst 1, 1) := by decide +kernel
theorem d_law_607 : decode code 607 = .ok (.iadd, 1) := by decide +kernel
theorem d_law_608 : decode code 608 = .ok (.iaload, 1) := by decide +kernel
theorem d_law_609 : decode code 609 = .ok (.aload_n 0, 1) := by decide +kernel
theorem d_law_610 : decode code 610 = .ok (.iload 4, 2) := by decide +kernel
theorem d_law_612 : decode code 612 = .ok (.iconst 2, 1) := by decide +kernel
theorem d_law_613 : decode code 613 = .ok (.iadd, 1) := by decide +kernel
theorem d_law_614 : decode code 614 = .ok (.iaload, 1) := by decide +kernel
theorem d_law_615 : decode code 615 = .ok (.invokevirtual 113, 3) := by decide +kernel
theorem d_law_618 : decode code 618 = .ok (.istore 6, 2) := by decide +kernel
theorem d_law_620 : decode code 620 = .ok (.goto 96, 3) := by decide +kernel
theorem d_law_623 : decode code 623 = .ok (.aload_n 1, 1) := by decide +kernel
theorem d_law_624 : decode code 624 = .ok (.aload_n 0, 1) := by decide +kernel
theorem d_law_625 : decode code 625 = .ok (.iload 4, 2) := by decide +kernel
theorem d_law_627 : decode code 627 = .ok (.iconst 1, 1) := by decide +kernel
theorem d_law_628 : decode code 628 = .ok (.iadd, 1) := by decide +kernel
theorem d_law_629 : decode code 629 = .ok (.iaload, 1) := by decide +kernel
theorem d_law_630 : decode code 630 = .ok (.aload_n 0, 1) := by decide +kernel
theorem d_law_631 : decode code 631 = .ok (.iload 4, 2) := by decide +kernel
theorem d_law_633 : decode code 633 = .ok (.iconst 2, 1) := by decide +kernel
theorem d_law_634 : decode code 634 = .ok (.iadd, 1) := by decide +kernel
theorem d_law_635 : decode code 635 = .ok (.iaload, 1) := by decide +kernel
theorem d_law_636 : decode code 636 = .ok (.aload_n 0, 1) := by decide +kernel
theorem d_law_637 : decode code 637 = .ok (.iload 4, 2) := by decide +kernel
theorem d_law_639 : decode code 639 = .ok (.iconst 3, 1) := by decide +kernel
theorem d_law_640 : decode code 640 = .ok (.iadd, 1) := by decide +kernel
theorem d_law_641 : decode code 641 = .ok (.iaload, 1) := by decide +kernel
theorem d_law_642 : decode code 642 = .ok (.ifCond .eq 7, 3) := by decide +kernel
theorem d_law_645 : decode code 645 = .ok (.iconst 1, 1) := by decide +kernel
theorem d_law_646 : decode code 646 = .ok (.goto 4, 3) := by decide +kernel
theorem d_law_649 : decode code 649 = .ok (.iconst 0, 1) := by decide +kernel
theorem d_law_650 : decode code 650 = .ok (.aload_n 3, 1) := by decide +kernel
theorem d_law_651 : decode code 651 = .ok (.invokestatic 114, 3) := by decide +kernel
theorem d_law_654 : decode code 654 = .ok (.istore 5, 2) := by decide +kernel
theorem d_law_656 : decode code 656 = .ok (.aload_n 2, 1) := by decide +kernel
theorem d_law_657 : decode code 657 = .ok (.aload_n 0, 1) := by decide +kernel
theorem d_law_658 : decode code 658 = .ok (.iload 4, 2) := by decide +kernel
theorem d_law_660 : decode code 660 = .ok (.iconst 1, 1) := by decide +kernel
theorem d_law_661 : decode code 661 = .ok (.iadd, 1) := by decide +kernel
theorem d_law_662 : decode code 662 = .ok (.iaload, 1) := by decide +kernel
theorem d_law_663 : decode code 663 = .ok (.aload_n 0, 1) := by decide +kernel
theorem d_law_664 : decode code 664 = .ok (.iload 4, 2) := by decide +kernel
theorem d_law_666 : decode code 666 = .ok (.iconst 2, 1) := by decide +kernel
theorem d_law_667 : decode code 667 = .ok (.iadd, 1) := by decide +kernel
theorem d_law_668 : decode code 668 = .ok (.iaload, 1) := by decide +kernel
theorem d_law_669 : decode code 669 = .ok (.aload_n 0, 1) := by decide +kernel
theorem d_law_670 : decode code 670 = .ok (.iload 4, 2) := by decide +kernel
theorem d_law_672 : decode code 672 = .ok (.iconst 3, 1) := by decide +kernel
theorem d_law_673 : decode code 673 = .ok (.iadd, 1) := by decide +kernel
theorem d_law_674 : decode code 674 = .ok (.iaload, 1) := by decide +kernel
theorem d_law_675 : decode code 675 = .ok (.ifCond .eq 7, 3) := by decide +kernel
theorem d_law_678 : decode code 678 = .ok (.iconst 1, 1) := by decide +kernel
theorem d_law_679 : decode code 679 = .ok (.goto 4, 3) := by decide +kernel
theorem d_law_682 : decode code 682 = .ok (.iconst 0, 1) := by decide +kernel
theorem d_law_683 : decode code 683 = .ok (.invokevirtual 117, 3) := by decide +kernel
theorem d_law_686 : decode code 686 = .ok (.lstore 6, 2) := by decide +kernel
theorem d_law_688 : decode code 688 = .ok (.goto 28, 3) := by decide +kernel
theorem d_law_691 : decode code 691 = .ok (.aload_n 1, 1) := by decide +kernel
theorem d_law_692 : decode code 692 = .ok (.aload_n 0, 1) := by decide +kernel
theorem d_law_693 : decode code 693 = .ok (.iload 4, 2) := by decide +kernel
theorem d_law_695 : decode code 695 = .ok (.iconst 1, 1) := by decide +kernel
theorem d_law_696 : decode code 696 = .ok (.iadd, 1) := by decide +kernel
theorem d_law_697 : decode code 697 = .ok (.iaload, 1) := by decide +kernel
theorem d_law_698 : decode code 698 = .ok (.invokevirtual 118, 3) := by decide +kernel
theorem d_law_701 : decode code 701 = .ok (.pop, 1) := by decide +kernel
theorem d_law_702 : decode code 702 = .ok (.aload_n 2, 1) := by decide +kernel
theorem d_law_703 : decode code 703 = .ok (.aload_n 0, 1) := by decide +kernel
theorem d_law_704 : decode code 704 = .ok (.iload 4, 2) := by decide +kernel
theorem d_law_706 : decode code 706 = .ok (.iconst 1, 1) := by decide +kernel
theorem d_law_707 : decode code 707 = .ok (.iadd, 1) := by decide +kernel
theorem d_law_708 : decode code 708 = .ok (.iaload, 1) := by decide +kernel
theorem d_law_709 : decode code 709 = .ok (.invokevirtual 121, 3) := by decide +kernel
theorem d_law_712 : decode code 712 = .ok (.pop, 1) := by decide +kernel
theorem d_law_713 : decode code 713 = .ok (.goto 3, 3) := by decide +kernel
theorem d_law_716 : decode code 716 = .ok (.iinc 4 7, 3) := by decide +kernel
theorem d_law_719 : decode code 719 = .ok (.goto (-696), 3) := by decide +kernel
theorem d_law_722 : decode code 722 = .ok (.iconst 1, 1) := by decide +kernel
theorem d_law_723 : decode code 723 = .ok (.ireturn, 1) := by decide +kernel
