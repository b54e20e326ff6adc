theorem tb_last {ws : List Cond} {w : Cond} (h : ∀ x ∈ ws, x ∈ TB) (hw : w ∈ TB) : ∀ x ∈ ws ++ [w], x ∈ TB := fun x hx => by
  rcases List.mem_append.mp hx with hx | hx
  · exact h x hx
  · exact (List.mem_singleton.mp hx) ▸ hw
theorem f_Mod_7 : Cond.fieldLink "TriColourMachineModel" 7 "TriColourMachineModel" "ops" "[I" ∈ TB := tb_mem 682 (by decide +kernel) rfl
theorem f_Mod_13 : Cond.fieldLink "TriColourMachineModel" 13 "TriColourMachineModel" "as" "[I" ∈ TB := tb_mem 683 (by decide +kernel) rfl
theorem f_Mod_16 : Cond.fieldLink "TriColourMachineModel" 16 "TriColourMachineModel" "bs" "[I" ∈ TB := tb_mem 684 (by decide +kernel) rfl
theorem f_Mod_19 : Cond.fieldLink "TriColourMachineModel" 19 "TriColourMachineModel" "cs" "[I" ∈ TB := tb_mem 685 (by decide +kernel) rfl
theorem f_Mod_22 : Cond.fieldLink "TriColourMachineModel" 22 "TriColourMachineModel" "globals" "[J" ∈ TB := tb_mem 686 (by decide +kernel) rfl
theorem f_Mod_26 : Cond.fieldLink "TriColourMachineModel" 26 "TriColourMachineModel" "kind" "[I" ∈ TB := tb_mem 687 (by decide +kernel) rfl
theorem f_Mod_29 : Cond.fieldLink "TriColourMachineModel" 29 "TriColourMachineModel" "colour" "[I" ∈ TB := tb_mem 688 (by decide +kernel) rfl
theorem f_Mod_32 : Cond.fieldLink "TriColourMachineModel" 32 "TriColourMachineModel" "size" "[I" ∈ TB := tb_mem 689 (by decide +kernel) rfl
theorem f_Mod_35 : Cond.fieldLink "TriColourMachineModel" 35 "TriColourMachineModel" "metaOf" "[I" ∈ TB := tb_mem 690 (by decide +kernel) rfl
theorem f_Mod_38 : Cond.fieldLink "TriColourMachineModel" 38 "TriColourMachineModel" "keys" "[J" ∈ TB := tb_mem 691 (by decide +kernel) rfl
theorem f_Mod_41 : Cond.fieldLink "TriColourMachineModel" 41 "TriColourMachineModel" "values" "[J" ∈ TB := tb_mem 692 (by decide +kernel) rfl
theorem f_Mod_44 : Cond.fieldLink "TriColourMachineModel" 44 "TriColourMachineModel" "registers" "[J" ∈ TB := tb_mem 693 (by decide +kernel) rfl
theorem f_Mod_47 : Cond.fieldLink "TriColourMachineModel" 47 "TriColourMachineModel" "function" "[I" ∈ TB := tb_mem 694 (by decide +kernel) rfl
theorem f_Mod_50 : Cond.fieldLink "TriColourMachineModel" 50 "TriColourMachineModel" "place" "[I" ∈ TB := tb_mem 695 (by decide +kernel) rfl
theorem f_Mod_53 : Cond.fieldLink "TriColourMachineModel" 53 "TriColourMachineModel" "state" "[I" ∈ TB := tb_mem 696 (by decide +kernel) rfl
theorem f_Mod_56 : Cond.fieldLink "TriColourMachineModel" 56 "TriColourMachineModel" "waits" "[I" ∈ TB := tb_mem 697 (by decide +kernel) rfl
theorem f_Mod_59 : Cond.fieldLink "TriColourMachineModel" 59 "TriColourMachineModel" "active" "[I" ∈ TB := tb_mem 698 (by decide +kernel) rfl
theorem k_Mod_62 : Cond.constantLong "TriColourMachineModel" 62 (-1000000000000) ∈ TB := tb_mem 681 (by decide +kernel) rfl
theorem f_Mod_64 : Cond.fieldLink "TriColourMachineModel" 64 "TriColourMachineModel" "thrown" "I" ∈ TB := tb_mem 707 (by decide +kernel) rfl
set_option maxRecDepth 100000 in
theorem v_Mod_78 : ∀ w ∈ cwsV "TriColourMachineModel" 78 "TriColourMachineModel" y_Mod_badGlobal b_Mod_badGlobal 2 (some .boolean), w ∈ TB := tb_last (tb_all [780, 782, 17, 51] (by decide +kernel) (by decide +kernel)) (List.mem_filter.mpr ⟨List.mem_of_getElem? (i := 783) rfl, rfl⟩)
set_option maxRecDepth 100000 in
theorem v_Mod_127 : ∀ w ∈ cwsV "TriColourMachineModel" 127 "TriColourMachineModel" y_Mod_create b_Mod_create 5 (some .int), w ∈ TB := tb_last (tb_all [792, 794, 18, 51] (by decide +kernel) (by decide +kernel)) (List.mem_filter.mpr ⟨List.mem_of_getElem? (i := 795) rfl, rfl⟩)
theorem k_Mod_72 : Cond.constantLong "TriColourMachineModel" 72 (10000000000) ∈ TB := tb_mem 820 (by decide +kernel) rfl
set_option maxRecDepth 100000 in
theorem v_Mod_118 : ∀ w ∈ cwsV "TriColourMachineModel" 118 "TriColourMachineModel" y_Mod_free b_Mod_free 2 (some .int), w ∈ TB := tb_last (tb_all [796, 798, 19, 51] (by decide +kernel) (by decide +kernel)) (List.mem_filter.mpr ⟨List.mem_of_getElem? (i := 799) rfl, rfl⟩)
set_option maxRecDepth 100000 in
theorem v_Mod_121 : ∀ w ∈ cwsV "TriColourMachineModel" 121 "TriColourMachineModel" y_Mod_whole b_Mod_whole 2 (some .int), w ∈ TB := tb_last (tb_all [800, 802, 20, 51] (by decide +kernel) (by decide +kernel)) (List.mem_filter.mpr ⟨List.mem_of_getElem? (i := 803) rfl, rfl⟩)
theorem f_Mod_92 : Cond.fieldLink "TriColourMachineModel" 92 "TriColourMachineModel" "phase" "I" ∈ TB := tb_mem 700 (by decide +kernel) rfl
theorem f_Mod_106 : Cond.fieldLink "TriColourMachineModel" 106 "TriColourMachineModel" "sweep" "I" ∈ TB := tb_mem 701 (by decide +kernel) rfl
theorem f_Mod_124 : Cond.fieldLink "TriColourMachineModel" 124 "TriColourMachineModel" "made" "I" ∈ TB := tb_mem 702 (by decide +kernel) rfl
theorem f_Mod_112 : Cond.fieldLink "TriColourMachineModel" 112 "TriColourMachineModel" "fulls" "I" ∈ TB := tb_mem 706 (by decide +kernel) rfl
set_option maxRecDepth 100000 in
theorem v_Mod_115 : ∀ w ∈ cwsV "TriColourMachineModel" 115 "TriColourMachineModel" y_Mod_unit b_Mod_unit 3 (some .int), w ∈ TB := tb_last (tb_all [804, 806, 21, 51] (by decide +kernel) (by decide +kernel)) (List.mem_filter.mpr ⟨List.mem_of_getElem? (i := 807) rfl, rfl⟩)
theorem f_Mod_89 : Cond.fieldLink "TriColourMachineModel" 89 "TriColourMachineModel" "units" "I" ∈ TB := tb_mem 705 (by decide +kernel) rfl
set_option maxRecDepth 100000 in
theorem v_Mod_95 : ∀ w ∈ cwsV "TriColourMachineModel" 95 "TriColourMachineModel" y_Mod_shadeRoots b_Mod_shadeRoots 3 none, w ∈ TB := tb_last (tb_all [808, 810, 22, 51] (by decide +kernel) (by decide +kernel)) (List.mem_filter.mpr ⟨List.mem_of_getElem? (i := 811) rfl, rfl⟩)
set_option maxRecDepth 100000 in
theorem v_Mod_98 : ∀ w ∈ cwsV "TriColourMachineModel" 98 "TriColourMachineModel" y_Mod_leastGray b_Mod_leastGray 2 (some .int), w ∈ TB := tb_last (tb_all [821, 823, 25, 51] (by decide +kernel) (by decide +kernel)) (List.mem_filter.mpr ⟨List.mem_of_getElem? (i := 824) rfl, rfl⟩)
set_option maxRecDepth 100000 in
theorem v_Mod_102 : ∀ w ∈ cwsV "TriColourMachineModel" 102 "TriColourMachineModel" y_Mod_blacken b_Mod_blacken 3 none, w ∈ TB := tb_last (tb_all [825, 827, 26, 51] (by decide +kernel) (by decide +kernel)) (List.mem_filter.mpr ⟨List.mem_of_getElem? (i := 828) rfl, rfl⟩)
theorem f_Mod_109 : Cond.fieldLink "TriColourMachineModel" 109 "TriColourMachineModel" "gone" "I" ∈ TB := tb_mem 703 (by decide +kernel) rfl
set_option maxRecDepth 100000 in
theorem v_Mod_82 : ∀ w ∈ cwsV "TriColourMachineModel" 82 "TriColourMachineModel" y_Mod_shade b_Mod_shade 4 none, w ∈ TB := tb_last (tb_all [812, 814, 23, 51] (by decide +kernel) (by decide +kernel)) (List.mem_filter.mpr ⟨List.mem_of_getElem? (i := 815) rfl, rfl⟩)
theorem f_Mod_86 : Cond.fieldLink "TriColourMachineModel" 86 "TriColourMachineModel" "depth" "I" ∈ TB := tb_mem 699 (by decide +kernel) rfl
set_option maxRecDepth 100000 in
theorem v_Mod_74 : ∀ w ∈ cwsV "TriColourMachineModel" 74 "TriColourMachineModel" y_Mod_objectOf b_Mod_objectOf 3 (some .int), w ∈ TB := tb_last (tb_all [816, 818, 24, 51] (by decide +kernel) (by decide +kernel)) (List.mem_filter.mpr ⟨List.mem_of_getElem? (i := 819) rfl, rfl⟩)
set_option maxRecDepth 100000 in
theorem v_Mod_135 : ∀ w ∈ cwsV "TriColourMachineModel" 135 "TriColourMachineModel" y_Mod_tableOf b_Mod_tableOf 4 (some .int), w ∈ TB := tb_last (tb_all [833, 835, 27, 51] (by decide +kernel) (by decide +kernel)) (List.mem_filter.mpr ⟨List.mem_of_getElem? (i := 836) rfl, rfl⟩)
theorem f_Mod_141 : Cond.fieldLink "TriColourMachineModel" 141 "TriColourMachineModel" "trouble" "I" ∈ TB := tb_mem 708 (by decide +kernel) rfl
set_option maxRecDepth 100000 in
theorem v_Mod_147 : ∀ w ∈ cwsV "TriColourMachineModel" 147 "TriColourMachineModel" y_Mod_setting b_Mod_setting 10 none, w ∈ TB := tb_last (tb_all [837, 839, 28, 51] (by decide +kernel) (by decide +kernel)) (List.mem_filter.mpr ⟨List.mem_of_getElem? (i := 840) rfl, rfl⟩)
set_option maxRecDepth 100000 in
theorem v_Mod_131 : ∀ w ∈ cwsV "TriColourMachineModel" 131 "TriColourMachineModel" y_Mod_pairOf b_Mod_pairOf 5 (some .int), w ∈ TB := tb_last (tb_all [841, 843, 29, 51] (by decide +kernel) (by decide +kernel)) (List.mem_filter.mpr ⟨List.mem_of_getElem? (i := 844) rfl, rfl⟩)
set_option maxRecDepth 100000 in
theorem v_Mod_138 : ∀ w ∈ cwsV "TriColourMachineModel" 138 "TriColourMachineModel" y_Mod_next b_Mod_next 6 (some .int), w ∈ TB := tb_last (tb_all [845, 847, 30, 51] (by decide +kernel) (by decide +kernel)) (List.mem_filter.mpr ⟨List.mem_of_getElem? (i := 848) rfl, rfl⟩)
set_option maxRecDepth 100000 in
theorem v_Mod_144 : ∀ w ∈ cwsV "TriColourMachineModel" 144 "TriColourMachineModel" y_Mod_touch b_Mod_touch 2 none, w ∈ TB := tb_last (tb_all [849, 851, 31, 51] (by decide +kernel) (by decide +kernel)) (List.mem_filter.mpr ⟨List.mem_of_getElem? (i := 852) rfl, rfl⟩)
set_option maxRecDepth 100000 in
theorem v_Mod_151 : ∀ w ∈ cwsV "TriColourMachineModel" 151 "TriColourMachineModel" y_Mod_getting b_Mod_getting 7 (some .long), w ∈ TB := tb_last (tb_all [857, 859, 32, 51] (by decide +kernel) (by decide +kernel)) (List.mem_filter.mpr ⟨List.mem_of_getElem? (i := 860) rfl, rfl⟩)
set_option maxRecDepth 100000 in
theorem v_Mod_155 : ∀ w ∈ cwsV "TriColourMachineModel" 155 "TriColourMachineModel" y_Mod_join b_Mod_join 6 none, w ∈ TB := tb_last (tb_all [865, 867, 33, 51] (by decide +kernel) (by decide +kernel)) (List.mem_filter.mpr ⟨List.mem_of_getElem? (i := 868) rfl, rfl⟩)
set_option maxRecDepth 100000 in
theorem v_Mod_173 : ∀ w ∈ cwsV "TriColourMachineModel" 173 "TriColourMachineModel" y_Mod_enter b_Mod_enter 7 none, w ∈ TB := tb_last (tb_all [873, 875, 34, 51] (by decide +kernel) (by decide +kernel)) (List.mem_filter.mpr ⟨List.mem_of_getElem? (i := 876) rfl, rfl⟩)
set_option maxRecDepth 100000 in
theorem v_Mod_191 : ∀ w ∈ cwsV "TriColourMachineModel" 191 "TriColourMachineModel" y_Mod_step b_Mod_step 15 none, w ∈ TB := tb_last (tb_all [881, 883, 36, 51] (by decide +kernel) (by decide +kernel)) (List.mem_filter.mpr ⟨List.mem_of_getElem? (i := 884) rfl, rfl⟩)
theorem f_Mod_162 : Cond.fieldLink "TriColourMachineModel" 162 "TriColourMachineModel" "outcome" "J" ∈ TB := tb_mem 709 (by decide +kernel) rfl
set_option maxRecDepth 100000 in
theorem v_Mod_159 : ∀ w ∈ cwsV "TriColourMachineModel" 159 "TriColourMachineModel" y_Mod_coroutineOf b_Mod_coroutineOf 4 (some .int), w ∈ TB := tb_last (tb_all [877, 879, 35, 51] (by decide +kernel) (by decide +kernel)) (List.mem_filter.mpr ⟨List.mem_of_getElem? (i := 880) rfl, rfl⟩)
theorem f_Mod_170 : Cond.fieldLink "TriColourMachineModel" 170 "TriColourMachineModel" "done" "I" ∈ TB := tb_mem 704 (by decide +kernel) rfl
set_option maxRecDepth 100000 in
theorem v_Mod_176 : ∀ w ∈ cwsV "TriColourMachineModel" 176 "TriColourMachineModel" y_Mod_leave b_Mod_leave 6 none, w ∈ TB := tb_last (tb_all [885, 887, 37, 51] (by decide +kernel) (by decide +kernel)) (List.mem_filter.mpr ⟨List.mem_of_getElem? (i := 888) rfl, rfl⟩)
set_option maxRecDepth 100000 in
theorem v_Mod_180 : ∀ w ∈ cwsV "TriColourMachineModel" 180 "TriColourMachineModel" y_Mod_jumps b_Mod_jumps 6 (some .boolean), w ∈ TB := tb_last (tb_all [889, 891, 38, 51] (by decide +kernel) (by decide +kernel)) (List.mem_filter.mpr ⟨List.mem_of_getElem? (i := 892) rfl, rfl⟩)
set_option maxRecDepth 100000 in
theorem v_Mod_184 : ∀ w ∈ cwsV "TriColourMachineModel" 184 "TriColourMachineModel" y_Mod_calculate b_Mod_calculate 8 none, w ∈ TB := tb_last (tb_all [899, 901, 40, 51] (by decide +kernel) (by decide +kernel)) (List.mem_filter.mpr ⟨List.mem_of_getElem? (i := 902) rfl, rfl⟩)
set_option maxRecDepth 100000 in
theorem v_Mod_188 : ∀ w ∈ cwsV "TriColourMachineModel" 188 "TriColourMachineModel" y_Mod_following b_Mod_following 5 (some .long), w ∈ TB := tb_last (tb_all [903, 905, 41, 51] (by decide +kernel) (by decide +kernel)) (List.mem_filter.mpr ⟨List.mem_of_getElem? (i := 906) rfl, rfl⟩)
set_option maxRecDepth 100000 in
theorem v_Mod_166 : ∀ w ∈ cwsV "TriColourMachineModel" 166 "TriColourMachineModel" y_Mod_isNumber b_Mod_isNumber 3 (some .boolean), w ∈ TB := tb_last (tb_all [893, 895, 39, 51] (by decide +kernel) (by decide +kernel)) (List.mem_filter.mpr ⟨List.mem_of_getElem? (i := 896) rfl, rfl⟩)
theorem k_Mod_68 : Cond.constantLong "TriColourMachineModel" 68 (-2147483648) ∈ TB := tb_mem 897 (by decide +kernel) rfl
theorem k_Mod_70 : Cond.constantLong "TriColourMachineModel" 70 (2147483647) ∈ TB := tb_mem 898 (by decide +kernel) rfl
