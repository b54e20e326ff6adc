theorem v_Law_7 : ∀ w ∈ cwsV "TriColourMachineLaw" 7 "TriColourMachine" y_TCM_code b_TCM_code 8 none, w ∈ TB := tb_all [333, 334, 335, 43, 336] (by decide +kernel) (by decide +kernel)
theorem v_Law_15 : ∀ w ∈ cwsV "TriColourMachineLaw" 15 "TriColourMachine" y_TCM_number b_TCM_number 3 none, w ∈ TB := tb_all [411, 412, 413, 43, 414] (by decide +kernel) (by decide +kernel)
theorem v_Law_19 : ∀ w ∈ cwsV "TriColourMachineLaw" 19 "TriColourMachine" y_TCM_move b_TCM_move 3 none, w ∈ TB := tb_all [421, 422, 423, 43, 424] (by decide +kernel) (by decide +kernel)
theorem v_Law_22 : ∀ w ∈ cwsV "TriColourMachineLaw" 22 "TriColourMachine" y_TCM_make b_TCM_make 3 (some .int), w ∈ TB := tb_all [430, 431, 432, 43, 433] (by decide +kernel) (by decide +kernel)
theorem v_Law_28 : ∀ w ∈ cwsV "TriColourMachineLaw" 28 "TriColourMachine" y_TCM_set b_TCM_set 4 none, w ∈ TB := tb_all [498, 499, 500, 43, 501] (by decide +kernel) (by decide +kernel)
theorem v_Law_34 : ∀ w ∈ cwsV "TriColourMachineLaw" 34 "TriColourMachine" y_TCM_get b_TCM_get 4 (some .long), w ∈ TB := tb_all [541, 542, 543, 43, 544] (by decide +kernel) (by decide +kernel)
theorem v_Law_38 : ∀ w ∈ cwsV "TriColourMachineLaw" 38 "TriColourMachine" y_TCM_meta b_TCM_meta 3 none, w ∈ TB := tb_all [552, 553, 554, 43, 555] (by decide +kernel) (by decide +kernel)
theorem v_Law_41 : ∀ w ∈ cwsV "TriColourMachineLaw" 41 "TriColourMachine" y_TCM_resume b_TCM_resume 4 (some .long), w ∈ TB := tb_all [563, 564, 565, 43, 566] (by decide +kernel) (by decide +kernel)
theorem v_Law_44 : ∀ w ∈ cwsV "TriColourMachineLaw" 44 "TriColourMachine" y_TCM_collect b_TCM_collect 4 (some .int), w ∈ TB := tb_all [629, 630, 631, 43, 632] (by decide +kernel) (by decide +kernel)
theorem v_Law_48 : ∀ w ∈ cwsV "TriColourMachineLaw" 48 "TriColourMachine" y_TCM_global b_TCM_global 2 (some .long), w ∈ TB := tb_all [637, 638, 639, 43, 640] (by decide +kernel) (by decide +kernel)
theorem v_Law_52 : ∀ w ∈ cwsV "TriColourMachineLaw" 52 "TriColourMachine" y_TCM_object b_TCM_object 4 (some .int), w ∈ TB := tb_all [645, 646, 647, 43, 648] (by decide +kernel) (by decide +kernel)
theorem v_Law_57 : ∀ w ∈ cwsV "TriColourMachineLaw" 57 "TriColourMachine" y_TCM_inside b_TCM_inside 5 (some .long), w ∈ TB := tb_all [667, 668, 669, 43, 670] (by decide +kernel) (by decide +kernel)
theorem d_Law_code_0 : decode b_Law_code 0 = .ok (.aload_n 0, 1) := by decide +kernel
theorem d_Law_code_1 : decode b_Law_code 1 = .ok (.iload_n 1, 1) := by decide +kernel
theorem d_Law_code_2 : decode b_Law_code 2 = .ok (.iload_n 2, 1) := by decide +kernel
theorem d_Law_code_3 : decode b_Law_code 3 = .ok (.iload_n 3, 1) := by decide +kernel
theorem d_Law_code_4 : decode b_Law_code 4 = .ok (.iload 4, 2) := by decide +kernel
theorem d_Law_code_6 : decode b_Law_code 6 = .ok (.iload 5, 2) := by decide +kernel
theorem d_Law_code_8 : decode b_Law_code 8 = .ok (.iload 6, 2) := by decide +kernel
theorem d_Law_code_10 : decode b_Law_code 10 = .ok (.invokevirtual 7, 3) := by decide +kernel
theorem d_Law_code_13 : decode b_Law_code 13 = .ok (.goto 7, 3) := by decide +kernel
theorem d_Law_code_16 : decode b_Law_code 16 = .ok (.astore 7, 2) := by decide +kernel
theorem d_Law_code_18 : decode b_Law_code 18 = .ok (.iconst 1, 1) := by decide +kernel
theorem d_Law_code_19 : decode b_Law_code 19 = .ok (.ireturn, 1) := by decide +kernel
theorem d_Law_code_20 : decode b_Law_code 20 = .ok (.iconst 0, 1) := by decide +kernel
theorem d_Law_code_21 : decode b_Law_code 21 = .ok (.ireturn, 1) := by decide +kernel
theorem d_Law_number_0 : decode b_Law_number 0 = .ok (.aload_n 0, 1) := by decide +kernel
theorem d_Law_number_1 : decode b_Law_number 1 = .ok (.iload_n 1, 1) := by decide +kernel
theorem d_Law_number_2 : decode b_Law_number 2 = .ok (.iload_n 2, 1) := by decide +kernel
theorem d_Law_number_3 : decode b_Law_number 3 = .ok (.invokevirtual 15, 3) := by decide +kernel
theorem d_Law_number_6 : decode b_Law_number 6 = .ok (.goto 6, 3) := by decide +kernel
theorem d_Law_number_9 : decode b_Law_number 9 = .ok (.astore_n 3, 1) := by decide +kernel
theorem d_Law_number_10 : decode b_Law_number 10 = .ok (.iconst 1, 1) := by decide +kernel
theorem d_Law_number_11 : decode b_Law_number 11 = .ok (.ireturn, 1) := by decide +kernel
theorem d_Law_number_12 : decode b_Law_number 12 = .ok (.iconst 0, 1) := by decide +kernel
theorem d_Law_number_13 : decode b_Law_number 13 = .ok (.ireturn, 1) := by decide +kernel
theorem d_Law_move_0 : decode b_Law_move 0 = .ok (.aload_n 0, 1) := by decide +kernel
theorem d_Law_move_1 : decode b_Law_move 1 = .ok (.iload_n 1, 1) := by decide +kernel
theorem d_Law_move_2 : decode b_Law_move 2 = .ok (.iload_n 2, 1) := by decide +kernel
theorem d_Law_move_3 : decode b_Law_move 3 = .ok (.invokevirtual 19, 3) := by decide +kernel
theorem d_Law_move_6 : decode b_Law_move 6 = .ok (.goto 6, 3) := by decide +kernel
theorem d_Law_move_9 : decode b_Law_move 9 = .ok (.astore_n 3, 1) := by decide +kernel
theorem d_Law_move_10 : decode b_Law_move 10 = .ok (.iconst 1, 1) := by decide +kernel
theorem d_Law_move_11 : decode b_Law_move 11 = .ok (.ireturn, 1) := by decide +kernel
theorem d_Law_move_12 : decode b_Law_move 12 = .ok (.iconst 0, 1) := by decide +kernel
theorem d_Law_move_13 : decode b_Law_move 13 = .ok (.ireturn, 1) := by decide +kernel
theorem d_Law_make_0 : decode b_Law_make 0 = .ok (.aload_n 3, 1) := by decide +kernel
theorem d_Law_make_1 : decode b_Law_make 1 = .ok (.iconst 0, 1) := by decide +kernel
theorem d_Law_make_2 : decode b_Law_make 2 = .ok (.aload_n 0, 1) := by decide +kernel
theorem d_Law_make_3 : decode b_Law_make 3 = .ok (.iload_n 1, 1) := by decide +kernel
theorem d_Law_make_4 : decode b_Law_make 4 = .ok (.iload_n 2, 1) := by decide +kernel
theorem d_Law_make_5 : decode b_Law_make 5 = .ok (.invokevirtual 22, 3) := by decide +kernel
theorem d_Law_make_8 : decode b_Law_make 8 = .ok (.i2l, 1) := by decide +kernel
theorem d_Law_make_9 : decode b_Law_make 9 = .ok (.lastore, 1) := by decide +kernel
theorem d_Law_make_10 : decode b_Law_make 10 = .ok (.goto 11, 3) := by decide +kernel
theorem d_Law_make_13 : decode b_Law_make 13 = .ok (.astore 4, 2) := by decide +kernel
theorem d_Law_make_15 : decode b_Law_make 15 = .ok (.iconst 1, 1) := by decide +kernel
theorem d_Law_make_16 : decode b_Law_make 16 = .ok (.ireturn, 1) := by decide +kernel
theorem d_Law_make_17 : decode b_Law_make 17 = .ok (.astore 4, 2) := by decide +kernel
theorem d_Law_make_19 : decode b_Law_make 19 = .ok (.iconst 2, 1) := by decide +kernel
theorem d_Law_make_20 : decode b_Law_make 20 = .ok (.ireturn, 1) := by decide +kernel
theorem d_Law_make_21 : decode b_Law_make 21 = .ok (.iconst 0, 1) := by decide +kernel
theorem d_Law_make_22 : decode b_Law_make 22 = .ok (.ireturn, 1) := by decide +kernel
theorem d_Law_set_0 : decode b_Law_set 0 = .ok (.aload_n 0, 1) := by decide +kernel
theorem d_Law_set_1 : decode b_Law_set 1 = .ok (.iload_n 1, 1) := by decide +kernel
theorem d_Law_set_2 : decode b_Law_set 2 = .ok (.iload_n 2, 1) := by decide +kernel
theorem d_Law_set_3 : decode b_Law_set 3 = .ok (.iload_n 3, 1) := by decide +kernel
theorem d_Law_set_4 : decode b_Law_set 4 = .ok (.invokevirtual 28, 3) := by decide +kernel
theorem d_Law_set_7 : decode b_Law_set 7 = .ok (.goto 15, 3) := by decide +kernel
theorem d_Law_set_10 : decode b_Law_set 10 = .ok (.astore 4, 2) := by decide +kernel
theorem d_Law_set_12 : decode b_Law_set 12 = .ok (.iconst 1, 1) := by decide +kernel
theorem d_Law_set_13 : decode b_Law_set 13 = .ok (.ireturn, 1) := by decide +kernel
theorem d_Law_set_14 : decode b_Law_set 14 = .ok (.astore 4, 2) := by decide +kernel
theorem d_Law_set_16 : decode b_Law_set 16 = .ok (.iconst 2, 1) := by decide +kernel
theorem d_Law_set_17 : decode b_Law_set 17 = .ok (.ireturn, 1) := by decide +kernel
theorem d_Law_set_18 : decode b_Law_set 18 = .ok (.astore 4, 2) := by decide +kernel
theorem d_Law_set_20 : decode b_Law_set 20 = .ok (.iconst 3, 1) := by decide +kernel
theorem d_Law_set_21 : decode b_Law_set 21 = .ok (.ireturn, 1) := by decide +kernel
theorem d_Law_set_22 : decode b_Law_set 22 = .ok (.iconst 0, 1) := by decide +kernel
theorem d_Law_set_23 : decode b_Law_set 23 = .ok (.ireturn, 1) := by decide +kernel
theorem d_Law_get_0 : decode b_Law_get 0 = .ok (.aload 4, 2) := by decide +kernel
theorem d_Law_get_2 : decode b_Law_get 2 = .ok (.iconst 0, 1) := by decide +kernel
theorem d_Law_get_3 : decode b_Law_get 3 = .ok (.aload_n 0, 1) := by decide +kernel
theorem d_Law_get_4 : decode b_Law_get 4 = .ok (.iload_n 1, 1) := by decide +kernel
theorem d_Law_get_5 : decode b_Law_get 5 = .ok (.iload_n 2, 1) := by decide +kernel
theorem d_Law_get_6 : decode b_Law_get 6 = .ok (.iload_n 3, 1) := by decide +kernel
theorem d_Law_get_7 : decode b_Law_get 7 = .ok (.invokevirtual 34, 3) := by decide +kernel
theorem d_Law_get_10 : decode b_Law_get 10 = .ok (.lastore, 1) := by decide +kernel
theorem d_Law_get_11 : decode b_Law_get 11 = .ok (.goto 15, 3) := by decide +kernel
theorem d_Law_get_14 : decode b_Law_get 14 = .ok (.astore 5, 2) := by decide +kernel
theorem d_Law_get_16 : decode b_Law_get 16 = .ok (.iconst 1, 1) := by decide +kernel
theorem d_Law_get_17 : decode b_Law_get 17 = .ok (.ireturn, 1) := by decide +kernel
theorem d_Law_get_18 : decode b_Law_get 18 = .ok (.astore 5, 2) := by decide +kernel
theorem d_Law_get_20 : decode b_Law_get 20 = .ok (.iconst 2, 1) := by decide +kernel
theorem d_Law_get_21 : decode b_Law_get 21 = .ok (.ireturn, 1) := by decide +kernel
theorem d_Law_get_22 : decode b_Law_get 22 = .ok (.astore 5, 2) := by decide +kernel
theorem d_Law_get_24 : decode b_Law_get 24 = .ok (.iconst 3, 1) := by decide +kernel
theorem d_Law_get_25 : decode b_Law_get 25 = .ok (.ireturn, 1) := by decide +kernel
theorem d_Law_get_26 : decode b_Law_get 26 = .ok (.iconst 0, 1) := by decide +kernel
theorem d_Law_get_27 : decode b_Law_get 27 = .ok (.ireturn, 1) := by decide +kernel
theorem d_Law_meta_0 : decode b_Law_meta 0 = .ok (.aload_n 0, 1) := by decide +kernel
theorem d_Law_meta_1 : decode b_Law_meta 1 = .ok (.iload_n 1, 1) := by decide +kernel
theorem d_Law_meta_2 : decode b_Law_meta 2 = .ok (.iload_n 2, 1) := by decide +kernel
theorem d_Law_meta_3 : decode b_Law_meta 3 = .ok (.invokevirtual 38, 3) := by decide +kernel
theorem d_Law_meta_6 : decode b_Law_meta 6 = .ok (.goto 9, 3) := by decide +kernel
theorem d_Law_meta_9 : decode b_Law_meta 9 = .ok (.astore_n 3, 1) := by decide +kernel
theorem d_Law_meta_10 : decode b_Law_meta 10 = .ok (.iconst 1, 1) := by decide +kernel
theorem d_Law_meta_11 : decode b_Law_meta 11 = .ok (.ireturn, 1) := by decide +kernel
theorem d_Law_meta_12 : decode b_Law_meta 12 = .ok (.astore_n 3, 1) := by decide +kernel
theorem d_Law_meta_13 : decode b_Law_meta 13 = .ok (.iconst 2, 1) := by decide +kernel
theorem d_Law_meta_14 : decode b_Law_meta 14 = .ok (.ireturn, 1) := by decide +kernel
theorem d_Law_meta_15 : decode b_Law_meta 15 = .ok (.iconst 0, 1) := by decide +kernel
theorem d_Law_meta_16 : decode b_Law_meta 16 = .ok (.ireturn, 1) := by decide +kernel
theorem d_Law_resume_0 : decode b_Law_resume 0 = .ok (.aload 4, 2) := by decide +kernel
theorem d_Law_resume_2 : decode b_Law_resume 2 = .ok (.iconst 0, 1) := by decide +kernel
theorem d_Law_resume_3 : decode b_Law_resume 3 = .ok (.aload_n 0, 1) := by decide +kernel
theorem d_Law_resume_4 : decode b_Law_resume 4 = .ok (.iload_n 1, 1) := by decide +kernel
theorem d_Law_resume_5 : decode b_Law_resume 5 = .ok (.iload_n 2, 1) := by decide +kernel
theorem d_Law_resume_6 : decode b_Law_resume 6 = .ok (.iload_n 3, 1) := by decide +kernel
theorem d_Law_resume_7 : decode b_Law_resume 7 = .ok (.invokevirtual 41, 3) := by decide +kernel
theorem d_Law_resume_10 : decode b_Law_resume 10 = .ok (.lastore, 1) := by decide +kernel
theorem d_Law_resume_11 : decode b_Law_resume 11 = .ok (.goto 15, 3) := by decide +kernel
theorem d_Law_resume_14 : decode b_Law_resume 14 = .ok (.astore 5, 2) := by decide +kernel
theorem d_Law_resume_16 : decode b_Law_resume 16 = .ok (.iconst 1, 1) := by decide +kernel
theorem d_Law_resume_17 : decode b_Law_resume 17 = .ok (.ireturn, 1) := by decide +kernel
theorem d_Law_resume_18 : decode b_Law_resume 18 = .ok (.astore 5, 2) := by decide +kernel
theorem d_Law_resume_20 : decode b_Law_resume 20 = .ok (.iconst 2, 1) := by decide +kernel
theorem d_Law_resume_21 : decode b_Law_resume 21 = .ok (.ireturn, 1) := by decide +kernel
theorem d_Law_resume_22 : decode b_Law_resume 22 = .ok (.astore 5, 2) := by decide +kernel
theorem d_Law_resume_24 : decode b_Law_resume 24 = .ok (.iconst 3, 1) := by decide +kernel
theorem d_Law_resume_25 : decode b_Law_resume 25 = .ok (.ireturn, 1) := by decide +kernel
theorem d_Law_resume_26 : decode b_Law_resume 26 = .ok (.iconst 0, 1) := by decide +kernel
theorem d_Law_resume_27 : decode b_Law_resume 27 = .ok (.ireturn, 1) := by decide +kernel
theorem d_Law_collect_0 : decode b_Law_collect 0 = .ok (.aload_n 2, 1) := by decide +kernel
theorem d_Law_collect_1 : decode b_Law_collect 1 = .ok (.iconst 0, 1) := by decide +kernel
theorem d_Law_collect_2 : decode b_Law_collect 2 = .ok (.aload_n 0, 1) := by decide +kernel
theorem d_Law_collect_3 : decode b_Law_collect 3 = .ok (.iload_n 1, 1) := by decide +kernel
theorem d_Law_collect_4 : decode b_Law_collect 4 = .ok (.invokevirtual 44, 3) := by decide +kernel
theorem d_Law_collect_7 : decode b_Law_collect 7 = .ok (.i2l, 1) := by decide +kernel
theorem d_Law_collect_8 : decode b_Law_collect 8 = .ok (.lastore, 1) := by decide +kernel
theorem d_Law_collect_9 : decode b_Law_collect 9 = .ok (.goto 6, 3) := by decide +kernel
theorem d_Law_collect_12 : decode b_Law_collect 12 = .ok (.astore_n 3, 1) := by decide +kernel
theorem d_Law_collect_13 : decode b_Law_collect 13 = .ok (.iconst 1, 1) := by decide +kernel
theorem d_Law_collect_14 : decode b_Law_collect 14 = .ok (.ireturn, 1) := by decide +kernel
theorem d_Law_collect_15 : decode b_Law_collect 15 = .ok (.iconst 0, 1) := by decide +kernel
theorem d_Law_collect_16 : decode b_Law_collect 16 = .ok (.ireturn, 1) := by decide +kernel
theorem d_Law_global_0 : decode b_Law_global 0 = .ok (.aload_n 2, 1) := by decide +kernel
theorem d_Law_global_1 : decode b_Law_global 1 = .ok (.iconst 0, 1) := by decide +kernel
theorem d_Law_global_2 : decode b_Law_global 2 = .ok (.aload_n 0, 1) := by decide +kernel
theorem d_Law_global_3 : decode b_Law_global 3 = .ok (.iload_n 1, 1) := by decide +kernel
theorem d_Law_global_4 : decode b_Law_global 4 = .ok (.invokevirtual 48, 3) := by decide +kernel
theorem d_Law_global_7 : decode b_Law_global 7 = .ok (.lastore, 1) := by decide +kernel
theorem d_Law_global_8 : decode b_Law_global 8 = .ok (.goto 6, 3) := by decide +kernel
theorem d_Law_global_11 : decode b_Law_global 11 = .ok (.astore_n 3, 1) := by decide +kernel
theorem d_Law_global_12 : decode b_Law_global 12 = .ok (.iconst 1, 1) := by decide +kernel
theorem d_Law_global_13 : decode b_Law_global 13 = .ok (.ireturn, 1) := by decide +kernel
theorem d_Law_global_14 : decode b_Law_global 14 = .ok (.iconst 0, 1) := by decide +kernel
theorem d_Law_global_15 : decode b_Law_global 15 = .ok (.ireturn, 1) := by decide +kernel
theorem d_Law_object_0 : decode b_Law_object 0 = .ok (.aload_n 3, 1) := by decide +kernel
theorem d_Law_object_1 : decode b_Law_object 1 = .ok (.iconst 0, 1) := by decide +kernel
theorem d_Law_object_2 : decode b_Law_object 2 = .ok (.aload_n 0, 1) := by decide +kernel
theorem d_Law_object_3 : decode b_Law_object 3 = .ok (.iload_n 1, 1) := by decide +kernel
theorem d_Law_object_4 : decode b_Law_object 4 = .ok (.iload_n 2, 1) := by decide +kernel
theorem d_Law_object_5 : decode b_Law_object 5 = .ok (.invokevirtual 52, 3) := by decide +kernel
theorem d_Law_object_8 : decode b_Law_object 8 = .ok (.i2l, 1) := by decide +kernel
theorem d_Law_object_9 : decode b_Law_object 9 = .ok (.lastore, 1) := by decide +kernel
theorem d_Law_object_10 : decode b_Law_object 10 = .ok (.goto 11, 3) := by decide +kernel
theorem d_Law_object_13 : decode b_Law_object 13 = .ok (.astore 4, 2) := by decide +kernel
theorem d_Law_object_15 : decode b_Law_object 15 = .ok (.iconst 1, 1) := by decide +kernel
theorem d_Law_object_16 : decode b_Law_object 16 = .ok (.ireturn, 1) := by decide +kernel
theorem d_Law_object_17 : decode b_Law_object 17 = .ok (.astore 4, 2) := by decide +kernel
theorem d_Law_object_19 : decode b_Law_object 19 = .ok (.iconst 2, 1) := by decide +kernel
theorem d_Law_object_20 : decode b_Law_object 20 = .ok (.ireturn, 1) := by decide +kernel
theorem d_Law_object_21 : decode b_Law_object 21 = .ok (.iconst 0, 1) := by decide +kernel
theorem d_Law_object_22 : decode b_Law_object 22 = .ok (.ireturn, 1) := by decide +kernel
theorem d_Law_inside_0 : decode b_Law_inside 0 = .ok (.aload 4, 2) := by decide +kernel
theorem d_Law_inside_2 : decode b_Law_inside 2 = .ok (.iconst 0, 1) := by decide +kernel
theorem d_Law_inside_3 : decode b_Law_inside 3 = .ok (.aload_n 0, 1) := by decide +kernel
theorem d_Law_inside_4 : decode b_Law_inside 4 = .ok (.iload_n 1, 1) := by decide +kernel
theorem d_Law_inside_5 : decode b_Law_inside 5 = .ok (.iload_n 2, 1) := by decide +kernel
theorem d_Law_inside_6 : decode b_Law_inside 6 = .ok (.iload_n 3, 1) := by decide +kernel
theorem d_Law_inside_7 : decode b_Law_inside 7 = .ok (.invokevirtual 57, 3) := by decide +kernel
theorem d_Law_inside_10 : decode b_Law_inside 10 = .ok (.lastore, 1) := by decide +kernel
theorem d_Law_inside_11 : decode b_Law_inside 11 = .ok (.goto 11, 3) := by decide +kernel
theorem d_Law_inside_14 : decode b_Law_inside 14 = .ok (.astore 5, 2) := by decide +kernel
theorem d_Law_inside_16 : decode b_Law_inside 16 = .ok (.iconst 1, 1) := by decide +kernel
theorem d_Law_inside_17 : decode b_Law_inside 17 = .ok (.ireturn, 1) := by decide +kernel
theorem d_Law_inside_18 : decode b_Law_inside 18 = .ok (.astore 5, 2) := by decide +kernel
theorem d_Law_inside_20 : decode b_Law_inside 20 = .ok (.iconst 2, 1) := by decide +kernel
theorem d_Law_inside_21 : decode b_Law_inside 21 = .ok (.ireturn, 1) := by decide +kernel
theorem d_Law_inside_22 : decode b_Law_inside 22 = .ok (.iconst 0, 1) := by decide +kernel
theorem d_Law_inside_23 : decode b_Law_inside 23 = .ok (.ireturn, 1) := by decide +kernel
theorem xl_Law_13 : Cond.classLink "TriColourMachineLaw" 13 X_IAE ∈ TB := tb_mem 332 (by decide +kernel) (by decide +kernel)
theorem xl_Law_26 : Cond.classLink "TriColourMachineLaw" 26 X_ISE ∈ TB := tb_mem 429 (by decide +kernel) (by decide +kernel)
theorem xl_Law_32 : Cond.classLink "TriColourMachineLaw" 32 X_UOE ∈ TB := tb_mem 497 (by decide +kernel) (by decide +kernel)
theorem xl_Law_55 : Cond.classLink "TriColourMachineLaw" 55 X_NSE ∈ TB := tb_mem 644 (by decide +kernel) (by decide +kernel)
