-- part 05.dec2
section
theorem d_TCM_init_0 : decode b_TCM_init 0 = .ok (.aload_n 0, 1) := by decide +kernel
theorem d_TCM_init_1 : decode b_TCM_init 1 = .ok (.invokespecial 3, 3) := by decide +kernel
theorem d_TCM_init_4 : decode b_TCM_init 4 = .ok (.new 9, 3) := by decide +kernel
theorem d_TCM_init_7 : decode b_TCM_init 7 = .ok (.dup, 1) := by decide +kernel
theorem d_TCM_init_8 : decode b_TCM_init 8 = .ok (.invokespecial 11, 3) := by decide +kernel
theorem d_TCM_init_11 : decode b_TCM_init 11 = .ok (.astore_n 1, 1) := by decide +kernel
theorem d_TCM_init_12 : decode b_TCM_init 12 = .ok (.aload_n 0, 1) := by decide +kernel
theorem d_TCM_init_13 : decode b_TCM_init 13 = .ok (.aload_n 1, 1) := by decide +kernel
theorem d_TCM_init_14 : decode b_TCM_init 14 = .ok (.putfield 12, 3) := by decide +kernel
theorem d_TCM_init_17 : decode b_TCM_init 17 = .ok (.aload_n 0, 1) := by decide +kernel
theorem d_TCM_init_18 : decode b_TCM_init 18 = .ok (.new 16, 3) := by decide +kernel
theorem d_TCM_init_21 : decode b_TCM_init 21 = .ok (.dup, 1) := by decide +kernel
theorem d_TCM_init_22 : decode b_TCM_init 22 = .ok (.aload_n 1, 1) := by decide +kernel
theorem d_TCM_init_23 : decode b_TCM_init 23 = .ok (.invokespecial 18, 3) := by decide +kernel
theorem d_TCM_init_26 : decode b_TCM_init 26 = .ok (.putfield 21, 3) := by decide +kernel
theorem d_TCM_init_29 : decode b_TCM_init 29 = .ok (.return_, 1) := by decide +kernel
theorem d_Pro_init_0 : decode b_Pro_init 0 = .ok (.aload_n 0, 1) := by decide +kernel
theorem d_Pro_init_1 : decode b_Pro_init 1 = .ok (.invokespecial 3, 3) := by decide +kernel
theorem d_Pro_init_4 : decode b_Pro_init 4 = .ok (.aload_n 0, 1) := by decide +kernel
theorem d_Pro_init_5 : decode b_Pro_init 5 = .ok (.bipush 68, 2) := by decide +kernel
theorem d_Pro_init_7 : decode b_Pro_init 7 = .ok (.anewarray 11, 3) := by decide +kernel
theorem d_Pro_init_10 : decode b_Pro_init 10 = .ok (.putfield 13, 3) := by decide +kernel
theorem d_Pro_init_13 : decode b_Pro_init 13 = .ok (.aload_n 0, 1) := by decide +kernel
theorem d_Pro_init_14 : decode b_Pro_init 14 = .ok (.iconst 5, 1) := by decide +kernel
theorem d_Pro_init_15 : decode b_Pro_init 15 = .ok (.anewarray 17, 3) := by decide +kernel
theorem d_Pro_init_18 : decode b_Pro_init 18 = .ok (.putfield 19, 3) := by decide +kernel
theorem d_Pro_init_21 : decode b_Pro_init 21 = .ok (.aload_n 0, 1) := by decide +kernel
theorem d_Pro_init_22 : decode b_Pro_init 22 = .ok (.iconst 0, 1) := by decide +kernel
theorem d_Pro_init_23 : decode b_Pro_init 23 = .ok (.putfield 23, 3) := by decide +kernel
theorem d_Pro_init_26 : decode b_Pro_init 26 = .ok (.aload_n 0, 1) := by decide +kernel
theorem d_Pro_init_27 : decode b_Pro_init 27 = .ok (.iconst 0, 1) := by decide +kernel
theorem d_Pro_init_28 : decode b_Pro_init 28 = .ok (.putfield 27, 3) := by decide +kernel
theorem d_Pro_init_31 : decode b_Pro_init 31 = .ok (.aload_n 0, 1) := by decide +kernel
theorem d_Pro_init_32 : decode b_Pro_init 32 = .ok (.iconst 0, 1) := by decide +kernel
theorem d_Pro_init_33 : decode b_Pro_init 33 = .ok (.putfield 30, 3) := by decide +kernel
theorem d_Pro_init_36 : decode b_Pro_init 36 = .ok (.aload_n 0, 1) := by decide +kernel
theorem d_Pro_init_37 : decode b_Pro_init 37 = .ok (.ldc2_w 33, 3) := by decide +kernel
theorem d_Pro_init_40 : decode b_Pro_init 40 = .ok (.putfield 35, 3) := by decide +kernel
theorem d_Pro_init_43 : decode b_Pro_init 43 = .ok (.aload_n 0, 1) := by decide +kernel
theorem d_Pro_init_44 : decode b_Pro_init 44 = .ok (.aload_n 1, 1) := by decide +kernel
theorem d_Pro_init_45 : decode b_Pro_init 45 = .ok (.putfield 39, 3) := by decide +kernel
theorem d_Pro_init_48 : decode b_Pro_init 48 = .ok (.iconst 0, 1) := by decide +kernel
theorem d_Pro_init_49 : decode b_Pro_init 49 = .ok (.istore_n 2, 1) := by decide +kernel
theorem d_Pro_init_50 : decode b_Pro_init 50 = .ok (.iload_n 2, 1) := by decide +kernel
theorem d_Pro_init_51 : decode b_Pro_init 51 = .ok (.bipush 68, 2) := by decide +kernel
theorem d_Pro_init_53 : decode b_Pro_init 53 = .ok (.if_icmp .ge 22, 3) := by decide +kernel
theorem d_Pro_init_56 : decode b_Pro_init 56 = .ok (.aload_n 0, 1) := by decide +kernel
theorem d_Pro_init_57 : decode b_Pro_init 57 = .ok (.getfield 13, 3) := by decide +kernel
theorem d_Pro_init_60 : decode b_Pro_init 60 = .ok (.iload_n 2, 1) := by decide +kernel
theorem d_Pro_init_61 : decode b_Pro_init 61 = .ok (.new 11, 3) := by decide +kernel
theorem d_Pro_init_64 : decode b_Pro_init 64 = .ok (.dup, 1) := by decide +kernel
theorem d_Pro_init_65 : decode b_Pro_init 65 = .ok (.invokespecial 43, 3) := by decide +kernel
theorem d_Pro_init_68 : decode b_Pro_init 68 = .ok (.aastore, 1) := by decide +kernel
theorem d_Pro_init_69 : decode b_Pro_init 69 = .ok (.iinc 2 1, 3) := by decide +kernel
theorem d_Pro_init_72 : decode b_Pro_init 72 = .ok (.goto (-22), 3) := by decide +kernel
theorem d_Pro_init_75 : decode b_Pro_init 75 = .ok (.return_, 1) := by decide +kernel
theorem d_TCM_full_0 : decode b_TCM_full 0 = .ok (.aload_n 0, 1) := by decide +kernel
theorem d_TCM_full_1 : decode b_TCM_full 1 = .ok (.getfield 12, 3) := by decide +kernel
theorem d_TCM_full_4 : decode b_TCM_full 4 = .ok (.getfield 90, 3) := by decide +kernel
theorem d_TCM_full_7 : decode b_TCM_full 7 = .ok (.istore_n 1, 1) := by decide +kernel
theorem d_TCM_full_8 : decode b_TCM_full 8 = .ok (.aload_n 0, 1) := by decide +kernel
theorem d_TCM_full_9 : decode b_TCM_full 9 = .ok (.getfield 12, 3) := by decide +kernel
theorem d_TCM_full_12 : decode b_TCM_full 12 = .ok (.invokevirtual 96, 3) := by decide +kernel
theorem d_TCM_full_15 : decode b_TCM_full 15 = .ok (.aload_n 0, 1) := by decide +kernel
theorem d_TCM_full_16 : decode b_TCM_full 16 = .ok (.getfield 12, 3) := by decide +kernel
theorem d_TCM_full_19 : decode b_TCM_full 19 = .ok (.getfield 90, 3) := by decide +kernel
theorem d_TCM_full_22 : decode b_TCM_full 22 = .ok (.iload_n 1, 1) := by decide +kernel
theorem d_TCM_full_23 : decode b_TCM_full 23 = .ok (.isub, 1) := by decide +kernel
theorem d_TCM_full_24 : decode b_TCM_full 24 = .ok (.ireturn, 1) := by decide +kernel
theorem d_TCM_count_0 : decode b_TCM_count 0 = .ok (.iload_n 1, 1) := by decide +kernel
theorem d_TCM_count_1 : decode b_TCM_count 1 = .ok (.tableswitch 131 0 8 #[51, 67, 75, 83, 91, 99, 107, 115, 123], 51) := by decide +kernel
theorem d_TCM_count_52 : decode b_TCM_count 52 = .ok (.aload_n 0, 1) := by decide +kernel
theorem d_TCM_count_53 : decode b_TCM_count 53 = .ok (.getfield 12, 3) := by decide +kernel
theorem d_TCM_count_56 : decode b_TCM_count 56 = .ok (.getfield 154, 3) := by decide +kernel
theorem d_TCM_count_59 : decode b_TCM_count 59 = .ok (.aload_n 0, 1) := by decide +kernel
theorem d_TCM_count_60 : decode b_TCM_count 60 = .ok (.getfield 12, 3) := by decide +kernel
theorem d_TCM_count_63 : decode b_TCM_count 63 = .ok (.getfield 90, 3) := by decide +kernel
theorem d_TCM_count_66 : decode b_TCM_count 66 = .ok (.isub, 1) := by decide +kernel
theorem d_TCM_count_67 : decode b_TCM_count 67 = .ok (.ireturn, 1) := by decide +kernel
theorem d_TCM_count_68 : decode b_TCM_count 68 = .ok (.aload_n 0, 1) := by decide +kernel
theorem d_TCM_count_69 : decode b_TCM_count 69 = .ok (.getfield 12, 3) := by decide +kernel
theorem d_TCM_count_72 : decode b_TCM_count 72 = .ok (.getfield 157, 3) := by decide +kernel
theorem d_TCM_count_75 : decode b_TCM_count 75 = .ok (.ireturn, 1) := by decide +kernel
theorem d_TCM_count_76 : decode b_TCM_count 76 = .ok (.aload_n 0, 1) := by decide +kernel
theorem d_TCM_count_77 : decode b_TCM_count 77 = .ok (.getfield 12, 3) := by decide +kernel
theorem d_TCM_count_80 : decode b_TCM_count 80 = .ok (.getfield 160, 3) := by decide +kernel
theorem d_TCM_count_83 : decode b_TCM_count 83 = .ok (.ireturn, 1) := by decide +kernel
theorem d_TCM_count_84 : decode b_TCM_count 84 = .ok (.aload_n 0, 1) := by decide +kernel
theorem d_TCM_count_85 : decode b_TCM_count 85 = .ok (.getfield 12, 3) := by decide +kernel
theorem d_TCM_count_88 : decode b_TCM_count 88 = .ok (.getfield 154, 3) := by decide +kernel
theorem d_TCM_count_91 : decode b_TCM_count 91 = .ok (.ireturn, 1) := by decide +kernel
theorem d_TCM_count_92 : decode b_TCM_count 92 = .ok (.aload_n 0, 1) := by decide +kernel
theorem d_TCM_count_93 : decode b_TCM_count 93 = .ok (.getfield 12, 3) := by decide +kernel
theorem d_TCM_count_96 : decode b_TCM_count 96 = .ok (.getfield 90, 3) := by decide +kernel
theorem d_TCM_count_99 : decode b_TCM_count 99 = .ok (.ireturn, 1) := by decide +kernel
theorem d_TCM_count_100 : decode b_TCM_count 100 = .ok (.aload_n 0, 1) := by decide +kernel
theorem d_TCM_count_101 : decode b_TCM_count 101 = .ok (.getfield 21, 3) := by decide +kernel
theorem d_TCM_count_104 : decode b_TCM_count 104 = .ok (.getfield 163, 3) := by decide +kernel
theorem d_TCM_count_107 : decode b_TCM_count 107 = .ok (.ireturn, 1) := by decide +kernel
theorem d_TCM_count_108 : decode b_TCM_count 108 = .ok (.aload_n 0, 1) := by decide +kernel
theorem d_TCM_count_109 : decode b_TCM_count 109 = .ok (.getfield 12, 3) := by decide +kernel
theorem d_TCM_count_112 : decode b_TCM_count 112 = .ok (.invokevirtual 166, 3) := by decide +kernel
theorem d_TCM_count_115 : decode b_TCM_count 115 = .ok (.ireturn, 1) := by decide +kernel
theorem d_TCM_count_116 : decode b_TCM_count 116 = .ok (.aload_n 0, 1) := by decide +kernel
theorem d_TCM_count_117 : decode b_TCM_count 117 = .ok (.getfield 12, 3) := by decide +kernel
theorem d_TCM_count_120 : decode b_TCM_count 120 = .ok (.getfield 170, 3) := by decide +kernel
theorem d_TCM_count_123 : decode b_TCM_count 123 = .ok (.ireturn, 1) := by decide +kernel
theorem d_TCM_count_124 : decode b_TCM_count 124 = .ok (.aload_n 0, 1) := by decide +kernel
theorem d_TCM_count_125 : decode b_TCM_count 125 = .ok (.getfield 12, 3) := by decide +kernel
theorem d_TCM_count_128 : decode b_TCM_count 128 = .ok (.getfield 173, 3) := by decide +kernel
theorem d_TCM_count_131 : decode b_TCM_count 131 = .ok (.ireturn, 1) := by decide +kernel
theorem d_TCM_count_132 : decode b_TCM_count 132 = .ok (.iconst (-1), 1) := by decide +kernel
theorem d_TCM_count_133 : decode b_TCM_count 133 = .ok (.ireturn, 1) := by decide +kernel
theorem d_TCM_code_0 : decode b_TCM_code 0 = .ok (.iload_n 1, 1) := by decide +kernel
theorem d_TCM_code_1 : decode b_TCM_code 1 = .ok (.iconst 0, 1) := by decide +kernel
theorem d_TCM_code_2 : decode b_TCM_code 2 = .ok (.iconst 3, 1) := by decide +kernel
theorem d_TCM_code_3 : decode b_TCM_code 3 = .ok (.invokestatic 25, 3) := by decide +kernel
theorem d_TCM_code_6 : decode b_TCM_code 6 = .ok (.iload_n 2, 1) := by decide +kernel
theorem d_TCM_code_7 : decode b_TCM_code 7 = .ok (.iconst 0, 1) := by decide +kernel
theorem d_TCM_code_8 : decode b_TCM_code 8 = .ok (.bipush 15, 2) := by decide +kernel
theorem d_TCM_code_10 : decode b_TCM_code 10 = .ok (.invokestatic 25, 3) := by decide +kernel
theorem d_TCM_code_13 : decode b_TCM_code 13 = .ok (.iload_n 3, 1) := by decide +kernel
theorem d_TCM_code_14 : decode b_TCM_code 14 = .ok (.iconst (-1), 1) := by decide +kernel
theorem d_TCM_code_15 : decode b_TCM_code 15 = .ok (.bipush 21, 2) := by decide +kernel
theorem d_TCM_code_17 : decode b_TCM_code 17 = .ok (.invokestatic 25, 3) := by decide +kernel
theorem d_TCM_code_20 : decode b_TCM_code 20 = .ok (.aload_n 0, 1) := by decide +kernel
theorem d_TCM_code_21 : decode b_TCM_code 21 = .ok (.getfield 21, 3) := by decide +kernel
theorem d_TCM_code_24 : decode b_TCM_code 24 = .ok (.iload_n 1, 1) := by decide +kernel
theorem d_TCM_code_25 : decode b_TCM_code 25 = .ok (.iload_n 2, 1) := by decide +kernel
theorem d_TCM_code_26 : decode b_TCM_code 26 = .ok (.invokevirtual 29, 3) := by decide +kernel
theorem d_TCM_code_29 : decode b_TCM_code 29 = .ok (.astore 7, 2) := by decide +kernel
theorem d_TCM_code_31 : decode b_TCM_code 31 = .ok (.aload 7, 2) := by decide +kernel
theorem d_TCM_code_33 : decode b_TCM_code 33 = .ok (.iload_n 3, 1) := by decide +kernel
theorem d_TCM_code_34 : decode b_TCM_code 34 = .ok (.putfield 33, 3) := by decide +kernel
theorem d_TCM_code_37 : decode b_TCM_code 37 = .ok (.aload 7, 2) := by decide +kernel
theorem d_TCM_code_39 : decode b_TCM_code 39 = .ok (.iload 4, 2) := by decide +kernel
theorem d_TCM_code_41 : decode b_TCM_code 41 = .ok (.putfield 39, 3) := by decide +kernel
theorem d_TCM_code_44 : decode b_TCM_code 44 = .ok (.aload 7, 2) := by decide +kernel
theorem d_TCM_code_46 : decode b_TCM_code 46 = .ok (.iload 5, 2) := by decide +kernel
theorem d_TCM_code_48 : decode b_TCM_code 48 = .ok (.putfield 42, 3) := by decide +kernel
theorem d_TCM_code_51 : decode b_TCM_code 51 = .ok (.aload 7, 2) := by decide +kernel
theorem d_TCM_code_53 : decode b_TCM_code 53 = .ok (.iload 6, 2) := by decide +kernel
theorem d_TCM_code_55 : decode b_TCM_code 55 = .ok (.putfield 45, 3) := by decide +kernel
theorem d_TCM_code_58 : decode b_TCM_code 58 = .ok (.return_, 1) := by decide +kernel
theorem d_TCM_checkRange_0 : decode b_TCM_checkRange 0 = .ok (.iload_n 0, 1) := by decide +kernel
theorem d_TCM_checkRange_1 : decode b_TCM_checkRange 1 = .ok (.iload_n 1, 1) := by decide +kernel
theorem d_TCM_checkRange_2 : decode b_TCM_checkRange 2 = .ok (.if_icmp .lt 8, 3) := by decide +kernel
theorem d_TCM_checkRange_5 : decode b_TCM_checkRange 5 = .ok (.iload_n 0, 1) := by decide +kernel
theorem d_TCM_checkRange_6 : decode b_TCM_checkRange 6 = .ok (.iload_n 2, 1) := by decide +kernel
theorem d_TCM_checkRange_7 : decode b_TCM_checkRange 7 = .ok (.if_icmp .le 11, 3) := by decide +kernel
theorem d_TCM_checkRange_10 : decode b_TCM_checkRange 10 = .ok (.new 138, 3) := by decide +kernel
theorem d_TCM_checkRange_13 : decode b_TCM_checkRange 13 = .ok (.dup, 1) := by decide +kernel
theorem d_TCM_checkRange_14 : decode b_TCM_checkRange 14 = .ok (.invokespecial 140, 3) := by decide +kernel
theorem d_TCM_checkRange_17 : decode b_TCM_checkRange 17 = .ok (.athrow, 1) := by decide +kernel
theorem d_TCM_checkRange_18 : decode b_TCM_checkRange 18 = .ok (.return_, 1) := by decide +kernel
theorem d_Pro_instructionAt_0 : decode b_Pro_instructionAt 0 = .ok (.aload_n 0, 1) := by decide +kernel
theorem d_Pro_instructionAt_1 : decode b_Pro_instructionAt 1 = .ok (.getfield 13, 3) := by decide +kernel
theorem d_Pro_instructionAt_4 : decode b_Pro_instructionAt 4 = .ok (.iload_n 1, 1) := by decide +kernel
theorem d_Pro_instructionAt_5 : decode b_Pro_instructionAt 5 = .ok (.bipush 17, 2) := by decide +kernel
theorem d_Pro_instructionAt_7 : decode b_Pro_instructionAt 7 = .ok (.imul, 1) := by decide +kernel
theorem d_Pro_instructionAt_8 : decode b_Pro_instructionAt 8 = .ok (.iload_n 2, 1) := by decide +kernel
theorem d_Pro_instructionAt_9 : decode b_Pro_instructionAt 9 = .ok (.iadd, 1) := by decide +kernel
theorem d_Pro_instructionAt_10 : decode b_Pro_instructionAt 10 = .ok (.aaload, 1) := by decide +kernel
theorem d_Pro_instructionAt_11 : decode b_Pro_instructionAt 11 = .ok (.areturn, 1) := by decide +kernel
theorem d_TCM_number_0 : decode b_TCM_number 0 = .ok (.iload_n 1, 1) := by decide +kernel
theorem d_TCM_number_1 : decode b_TCM_number 1 = .ok (.invokestatic 48, 3) := by decide +kernel
theorem d_TCM_number_4 : decode b_TCM_number 4 = .ok (.aload_n 0, 1) := by decide +kernel
theorem d_TCM_number_5 : decode b_TCM_number 5 = .ok (.getfield 12, 3) := by decide +kernel
theorem d_TCM_number_8 : decode b_TCM_number 8 = .ok (.getfield 52, 3) := by decide +kernel
theorem d_TCM_number_11 : decode b_TCM_number 11 = .ok (.iload_n 1, 1) := by decide +kernel
theorem d_TCM_number_12 : decode b_TCM_number 12 = .ok (.iload_n 2, 1) := by decide +kernel
theorem d_TCM_number_13 : decode b_TCM_number 13 = .ok (.i2l, 1) := by decide +kernel
theorem d_TCM_number_14 : decode b_TCM_number 14 = .ok (.lastore, 1) := by decide +kernel
theorem d_TCM_number_15 : decode b_TCM_number 15 = .ok (.return_, 1) := by decide +kernel
theorem d_TCM_checkGlobal_0 : decode b_TCM_checkGlobal 0 = .ok (.iload_n 0, 1) := by decide +kernel
theorem d_TCM_checkGlobal_1 : decode b_TCM_checkGlobal 1 = .ok (.iconst 0, 1) := by decide +kernel
theorem d_TCM_checkGlobal_2 : decode b_TCM_checkGlobal 2 = .ok (.iconst 5, 1) := by decide +kernel
theorem d_TCM_checkGlobal_3 : decode b_TCM_checkGlobal 3 = .ok (.invokestatic 25, 3) := by decide +kernel
theorem d_TCM_checkGlobal_6 : decode b_TCM_checkGlobal 6 = .ok (.return_, 1) := by decide +kernel
theorem d_TCM_move_0 : decode b_TCM_move 0 = .ok (.iload_n 1, 1) := by decide +kernel
theorem d_TCM_move_1 : decode b_TCM_move 1 = .ok (.invokestatic 48, 3) := by decide +kernel
theorem d_TCM_move_4 : decode b_TCM_move 4 = .ok (.iload_n 2, 1) := by decide +kernel
theorem d_TCM_move_5 : decode b_TCM_move 5 = .ok (.iconst (-1), 1) := by decide +kernel
theorem d_TCM_move_6 : decode b_TCM_move 6 = .ok (.iconst 5, 1) := by decide +kernel
theorem d_TCM_move_7 : decode b_TCM_move 7 = .ok (.invokestatic 25, 3) := by decide +kernel
theorem d_TCM_move_10 : decode b_TCM_move 10 = .ok (.aload_n 0, 1) := by decide +kernel
theorem d_TCM_move_11 : decode b_TCM_move 11 = .ok (.getfield 12, 3) := by decide +kernel
theorem d_TCM_move_14 : decode b_TCM_move 14 = .ok (.getfield 52, 3) := by decide +kernel
theorem d_TCM_move_17 : decode b_TCM_move 17 = .ok (.iload_n 1, 1) := by decide +kernel
theorem d_TCM_move_18 : decode b_TCM_move 18 = .ok (.iload_n 2, 1) := by decide +kernel
theorem d_TCM_move_19 : decode b_TCM_move 19 = .ok (.ifCond .ge 9, 3) := by decide +kernel
theorem d_TCM_move_22 : decode b_TCM_move 22 = .ok (.ldc2_w 56, 3) := by decide +kernel
theorem d_TCM_move_25 : decode b_TCM_move 25 = .ok (.goto 12, 3) := by decide +kernel
theorem d_TCM_move_28 : decode b_TCM_move 28 = .ok (.aload_n 0, 1) := by decide +kernel
theorem d_TCM_move_29 : decode b_TCM_move 29 = .ok (.getfield 12, 3) := by decide +kernel
theorem d_TCM_move_32 : decode b_TCM_move 32 = .ok (.getfield 52, 3) := by decide +kernel
theorem d_TCM_move_35 : decode b_TCM_move 35 = .ok (.iload_n 2, 1) := by decide +kernel
theorem d_TCM_move_36 : decode b_TCM_move 36 = .ok (.laload, 1) := by decide +kernel
theorem d_TCM_move_37 : decode b_TCM_move 37 = .ok (.lastore, 1) := by decide +kernel
theorem d_TCM_move_38 : decode b_TCM_move 38 = .ok (.return_, 1) := by decide +kernel
theorem d_TCM_make_0 : decode b_TCM_make 0 = .ok (.iload_n 1, 1) := by decide +kernel
theorem d_TCM_make_1 : decode b_TCM_make 1 = .ok (.invokestatic 48, 3) := by decide +kernel
theorem d_TCM_make_4 : decode b_TCM_make 4 = .ok (.iload_n 2, 1) := by decide +kernel
theorem d_TCM_make_5 : decode b_TCM_make 5 = .ok (.iconst (-1), 1) := by decide +kernel
theorem d_TCM_make_6 : decode b_TCM_make 6 = .ok (.iconst 3, 1) := by decide +kernel
theorem d_TCM_make_7 : decode b_TCM_make 7 = .ok (.invokestatic 25, 3) := by decide +kernel
theorem d_TCM_make_10 : decode b_TCM_make 10 = .ok (.aload_n 0, 1) := by decide +kernel
theorem d_TCM_make_11 : decode b_TCM_make 11 = .ok (.getfield 12, 3) := by decide +kernel
theorem d_TCM_make_14 : decode b_TCM_make 14 = .ok (.iload_n 2, 1) := by decide +kernel
theorem d_TCM_make_15 : decode b_TCM_make 15 = .ok (.ifCond .ge 7, 3) := by decide +kernel
theorem d_TCM_make_18 : decode b_TCM_make 18 = .ok (.iconst 1, 1) := by decide +kernel
theorem d_TCM_make_19 : decode b_TCM_make 19 = .ok (.goto 4, 3) := by decide +kernel
theorem d_TCM_make_22 : decode b_TCM_make 22 = .ok (.iconst 2, 1) := by decide +kernel
theorem d_TCM_make_23 : decode b_TCM_make 23 = .ok (.iload_n 2, 1) := by decide +kernel
theorem d_TCM_make_24 : decode b_TCM_make 24 = .ok (.invokevirtual 58, 3) := by decide +kernel
theorem d_TCM_make_27 : decode b_TCM_make 27 = .ok (.invokestatic 62, 3) := by decide +kernel
theorem d_TCM_make_30 : decode b_TCM_make 30 = .ok (.aload_n 0, 1) := by decide +kernel
theorem d_TCM_make_31 : decode b_TCM_make 31 = .ok (.getfield 12, 3) := by decide +kernel
theorem d_TCM_make_34 : decode b_TCM_make 34 = .ok (.getfield 52, 3) := by decide +kernel
theorem d_TCM_make_37 : decode b_TCM_make 37 = .ok (.iload_n 1, 1) := by decide +kernel
theorem d_TCM_make_38 : decode b_TCM_make 38 = .ok (.aload_n 0, 1) := by decide +kernel
theorem d_TCM_make_39 : decode b_TCM_make 39 = .ok (.getfield 12, 3) := by decide +kernel
theorem d_TCM_make_42 : decode b_TCM_make 42 = .ok (.getfield 65, 3) := by decide +kernel
theorem d_TCM_make_45 : decode b_TCM_make 45 = .ok (.lastore, 1) := by decide +kernel
theorem d_TCM_make_46 : decode b_TCM_make 46 = .ok (.aload_n 0, 1) := by decide +kernel
theorem d_TCM_make_47 : decode b_TCM_make 47 = .ok (.getfield 12, 3) := by decide +kernel
theorem d_TCM_make_50 : decode b_TCM_make 50 = .ok (.getfield 65, 3) := by decide +kernel
theorem d_TCM_make_53 : decode b_TCM_make 53 = .ok (.invokestatic 69, 3) := by decide +kernel
theorem d_TCM_make_56 : decode b_TCM_make 56 = .ok (.ireturn, 1) := by decide +kernel
theorem d_TCM_raise_0 : decode b_TCM_raise 0 = .ok (.iload_n 0, 1) := by decide +kernel
theorem d_TCM_raise_1 : decode b_TCM_raise 1 = .ok (.iconst 1, 1) := by decide +kernel
theorem d_TCM_raise_2 : decode b_TCM_raise 2 = .ok (.if_icmp .ne 11, 3) := by decide +kernel
theorem d_TCM_raise_5 : decode b_TCM_raise 5 = .ok (.new 176, 3) := by decide +kernel
theorem d_TCM_raise_8 : decode b_TCM_raise 8 = .ok (.dup, 1) := by decide +kernel
theorem d_TCM_raise_9 : decode b_TCM_raise 9 = .ok (.invokespecial 178, 3) := by decide +kernel
theorem d_TCM_raise_12 : decode b_TCM_raise 12 = .ok (.athrow, 1) := by decide +kernel
theorem d_TCM_raise_13 : decode b_TCM_raise 13 = .ok (.iload_n 0, 1) := by decide +kernel
theorem d_TCM_raise_14 : decode b_TCM_raise 14 = .ok (.ifCond .eq 11, 3) := by decide +kernel
theorem d_TCM_raise_17 : decode b_TCM_raise 17 = .ok (.new 179, 3) := by decide +kernel
theorem d_TCM_raise_20 : decode b_TCM_raise 20 = .ok (.dup, 1) := by decide +kernel
theorem d_TCM_raise_21 : decode b_TCM_raise 21 = .ok (.invokespecial 181, 3) := by decide +kernel
theorem d_TCM_raise_24 : decode b_TCM_raise 24 = .ok (.athrow, 1) := by decide +kernel
theorem d_TCM_raise_25 : decode b_TCM_raise 25 = .ok (.return_, 1) := by decide +kernel
theorem d_TCM_numberOf_0 : decode b_TCM_numberOf 0 = .ok (.lload_n 0, 1) := by decide +kernel
theorem d_TCM_numberOf_1 : decode b_TCM_numberOf 1 = .ok (.ldc2_w 186, 3) := by decide +kernel
theorem d_TCM_numberOf_4 : decode b_TCM_numberOf 4 = .ok (.lsub, 1) := by decide +kernel
theorem d_TCM_numberOf_5 : decode b_TCM_numberOf 5 = .ok (.l2i, 1) := by decide +kernel
theorem d_TCM_numberOf_6 : decode b_TCM_numberOf 6 = .ok (.ireturn, 1) := by decide +kernel
theorem d_TCM_set_0 : decode b_TCM_set 0 = .ok (.iload_n 1, 1) := by decide +kernel
theorem d_TCM_set_1 : decode b_TCM_set 1 = .ok (.invokestatic 48, 3) := by decide +kernel
theorem d_TCM_set_4 : decode b_TCM_set 4 = .ok (.iload_n 2, 1) := by decide +kernel
theorem d_TCM_set_5 : decode b_TCM_set 5 = .ok (.invokestatic 48, 3) := by decide +kernel
theorem d_TCM_set_8 : decode b_TCM_set 8 = .ok (.iload_n 3, 1) := by decide +kernel
theorem d_TCM_set_9 : decode b_TCM_set 9 = .ok (.invokestatic 48, 3) := by decide +kernel
theorem d_TCM_set_12 : decode b_TCM_set 12 = .ok (.aload_n 0, 1) := by decide +kernel
theorem d_TCM_set_13 : decode b_TCM_set 13 = .ok (.getfield 12, 3) := by decide +kernel
theorem d_TCM_set_16 : decode b_TCM_set 16 = .ok (.aload_n 0, 1) := by decide +kernel
theorem d_TCM_set_17 : decode b_TCM_set 17 = .ok (.getfield 12, 3) := by decide +kernel
theorem d_TCM_set_20 : decode b_TCM_set 20 = .ok (.getfield 52, 3) := by decide +kernel
theorem d_TCM_set_23 : decode b_TCM_set 23 = .ok (.iload_n 1, 1) := by decide +kernel
theorem d_TCM_set_24 : decode b_TCM_set 24 = .ok (.laload, 1) := by decide +kernel
theorem d_TCM_set_25 : decode b_TCM_set 25 = .ok (.aload_n 0, 1) := by decide +kernel
theorem d_TCM_set_26 : decode b_TCM_set 26 = .ok (.getfield 12, 3) := by decide +kernel
theorem d_TCM_set_29 : decode b_TCM_set 29 = .ok (.getfield 52, 3) := by decide +kernel
theorem d_TCM_set_32 : decode b_TCM_set 32 = .ok (.iload_n 2, 1) := by decide +kernel
theorem d_TCM_set_33 : decode b_TCM_set 33 = .ok (.laload, 1) := by decide +kernel
theorem d_TCM_set_34 : decode b_TCM_set 34 = .ok (.aload_n 0, 1) := by decide +kernel
theorem d_TCM_set_35 : decode b_TCM_set 35 = .ok (.getfield 12, 3) := by decide +kernel
theorem d_TCM_set_38 : decode b_TCM_set 38 = .ok (.getfield 52, 3) := by decide +kernel
theorem d_TCM_set_41 : decode b_TCM_set 41 = .ok (.iload_n 3, 1) := by decide +kernel
theorem d_TCM_set_42 : decode b_TCM_set 42 = .ok (.laload, 1) := by decide +kernel
theorem d_TCM_set_43 : decode b_TCM_set 43 = .ok (.invokevirtual 73, 3) := by decide +kernel
theorem d_TCM_set_46 : decode b_TCM_set 46 = .ok (.invokestatic 62, 3) := by decide +kernel
theorem d_TCM_set_49 : decode b_TCM_set 49 = .ok (.return_, 1) := by decide +kernel
theorem d_TCM_get_0 : decode b_TCM_get 0 = .ok (.iload_n 1, 1) := by decide +kernel
theorem d_TCM_get_1 : decode b_TCM_get 1 = .ok (.invokestatic 48, 3) := by decide +kernel
theorem d_TCM_get_4 : decode b_TCM_get 4 = .ok (.iload_n 2, 1) := by decide +kernel
theorem d_TCM_get_5 : decode b_TCM_get 5 = .ok (.invokestatic 48, 3) := by decide +kernel
theorem d_TCM_get_8 : decode b_TCM_get 8 = .ok (.iload_n 3, 1) := by decide +kernel
theorem d_TCM_get_9 : decode b_TCM_get 9 = .ok (.invokestatic 48, 3) := by decide +kernel
theorem d_TCM_get_12 : decode b_TCM_get 12 = .ok (.aload_n 0, 1) := by decide +kernel
theorem d_TCM_get_13 : decode b_TCM_get 13 = .ok (.getfield 12, 3) := by decide +kernel
theorem d_TCM_get_16 : decode b_TCM_get 16 = .ok (.aload_n 0, 1) := by decide +kernel
theorem d_TCM_get_17 : decode b_TCM_get 17 = .ok (.getfield 12, 3) := by decide +kernel
theorem d_TCM_get_20 : decode b_TCM_get 20 = .ok (.getfield 52, 3) := by decide +kernel
theorem d_TCM_get_23 : decode b_TCM_get 23 = .ok (.iload_n 1, 1) := by decide +kernel
theorem d_TCM_get_24 : decode b_TCM_get 24 = .ok (.laload, 1) := by decide +kernel
theorem d_TCM_get_25 : decode b_TCM_get 25 = .ok (.aload_n 0, 1) := by decide +kernel
theorem d_TCM_get_26 : decode b_TCM_get 26 = .ok (.getfield 12, 3) := by decide +kernel
theorem d_TCM_get_29 : decode b_TCM_get 29 = .ok (.getfield 52, 3) := by decide +kernel
theorem d_TCM_get_32 : decode b_TCM_get 32 = .ok (.iload_n 2, 1) := by decide +kernel
theorem d_TCM_get_33 : decode b_TCM_get 33 = .ok (.laload, 1) := by decide +kernel
theorem d_TCM_get_34 : decode b_TCM_get 34 = .ok (.invokevirtual 77, 3) := by decide +kernel
theorem d_TCM_get_37 : decode b_TCM_get 37 = .ok (.invokestatic 62, 3) := by decide +kernel
theorem d_TCM_get_40 : decode b_TCM_get 40 = .ok (.aload_n 0, 1) := by decide +kernel
theorem d_TCM_get_41 : decode b_TCM_get 41 = .ok (.getfield 12, 3) := by decide +kernel
theorem d_TCM_get_44 : decode b_TCM_get 44 = .ok (.getfield 52, 3) := by decide +kernel
theorem d_TCM_get_47 : decode b_TCM_get 47 = .ok (.iload_n 3, 1) := by decide +kernel
theorem d_TCM_get_48 : decode b_TCM_get 48 = .ok (.aload_n 0, 1) := by decide +kernel
theorem d_TCM_get_49 : decode b_TCM_get 49 = .ok (.getfield 12, 3) := by decide +kernel
theorem d_TCM_get_52 : decode b_TCM_get 52 = .ok (.getfield 65, 3) := by decide +kernel
theorem d_TCM_get_55 : decode b_TCM_get 55 = .ok (.lastore, 1) := by decide +kernel
theorem d_TCM_get_56 : decode b_TCM_get 56 = .ok (.aload_n 0, 1) := by decide +kernel
theorem d_TCM_get_57 : decode b_TCM_get 57 = .ok (.getfield 12, 3) := by decide +kernel
theorem d_TCM_get_60 : decode b_TCM_get 60 = .ok (.getfield 65, 3) := by decide +kernel
theorem d_TCM_get_63 : decode b_TCM_get 63 = .ok (.lreturn, 1) := by decide +kernel
theorem d_TCM_meta_0 : decode b_TCM_meta 0 = .ok (.iload_n 1, 1) := by decide +kernel
theorem d_TCM_meta_1 : decode b_TCM_meta 1 = .ok (.invokestatic 48, 3) := by decide +kernel
theorem d_TCM_meta_4 : decode b_TCM_meta 4 = .ok (.iload_n 2, 1) := by decide +kernel
theorem d_TCM_meta_5 : decode b_TCM_meta 5 = .ok (.invokestatic 48, 3) := by decide +kernel
theorem d_TCM_meta_8 : decode b_TCM_meta 8 = .ok (.aload_n 0, 1) := by decide +kernel
theorem d_TCM_meta_9 : decode b_TCM_meta 9 = .ok (.getfield 12, 3) := by decide +kernel
theorem d_TCM_meta_12 : decode b_TCM_meta 12 = .ok (.aload_n 0, 1) := by decide +kernel
theorem d_TCM_meta_13 : decode b_TCM_meta 13 = .ok (.getfield 12, 3) := by decide +kernel
theorem d_TCM_meta_16 : decode b_TCM_meta 16 = .ok (.getfield 52, 3) := by decide +kernel
theorem d_TCM_meta_19 : decode b_TCM_meta 19 = .ok (.iload_n 1, 1) := by decide +kernel
theorem d_TCM_meta_20 : decode b_TCM_meta 20 = .ok (.laload, 1) := by decide +kernel
theorem d_TCM_meta_21 : decode b_TCM_meta 21 = .ok (.aload_n 0, 1) := by decide +kernel
theorem d_TCM_meta_22 : decode b_TCM_meta 22 = .ok (.getfield 12, 3) := by decide +kernel
theorem d_TCM_meta_25 : decode b_TCM_meta 25 = .ok (.getfield 52, 3) := by decide +kernel
theorem d_TCM_meta_28 : decode b_TCM_meta 28 = .ok (.iload_n 2, 1) := by decide +kernel
theorem d_TCM_meta_29 : decode b_TCM_meta 29 = .ok (.laload, 1) := by decide +kernel
theorem d_TCM_meta_30 : decode b_TCM_meta 30 = .ok (.invokevirtual 81, 3) := by decide +kernel
theorem d_TCM_meta_33 : decode b_TCM_meta 33 = .ok (.invokestatic 62, 3) := by decide +kernel
theorem d_TCM_meta_36 : decode b_TCM_meta 36 = .ok (.return_, 1) := by decide +kernel
theorem d_TCM_resume_0 : decode b_TCM_resume 0 = .ok (.iload_n 1, 1) := by decide +kernel
theorem d_TCM_resume_1 : decode b_TCM_resume 1 = .ok (.invokestatic 48, 3) := by decide +kernel
theorem d_TCM_resume_4 : decode b_TCM_resume 4 = .ok (.iload_n 2, 1) := by decide +kernel
theorem d_TCM_resume_5 : decode b_TCM_resume 5 = .ok (.invokestatic 48, 3) := by decide +kernel
theorem d_TCM_resume_8 : decode b_TCM_resume 8 = .ok (.iload_n 3, 1) := by decide +kernel
theorem d_TCM_resume_9 : decode b_TCM_resume 9 = .ok (.invokestatic 48, 3) := by decide +kernel
theorem d_TCM_resume_12 : decode b_TCM_resume 12 = .ok (.aload_n 0, 1) := by decide +kernel
theorem d_TCM_resume_13 : decode b_TCM_resume 13 = .ok (.getfield 21, 3) := by decide +kernel
theorem d_TCM_resume_16 : decode b_TCM_resume 16 = .ok (.aload_n 0, 1) := by decide +kernel
theorem d_TCM_resume_17 : decode b_TCM_resume 17 = .ok (.getfield 12, 3) := by decide +kernel
theorem d_TCM_resume_20 : decode b_TCM_resume 20 = .ok (.getfield 52, 3) := by decide +kernel
theorem d_TCM_resume_23 : decode b_TCM_resume 23 = .ok (.iload_n 1, 1) := by decide +kernel
theorem d_TCM_resume_24 : decode b_TCM_resume 24 = .ok (.laload, 1) := by decide +kernel
theorem d_TCM_resume_25 : decode b_TCM_resume 25 = .ok (.aload_n 0, 1) := by decide +kernel
theorem d_TCM_resume_26 : decode b_TCM_resume 26 = .ok (.getfield 12, 3) := by decide +kernel
theorem d_TCM_resume_29 : decode b_TCM_resume 29 = .ok (.getfield 52, 3) := by decide +kernel
theorem d_TCM_resume_32 : decode b_TCM_resume 32 = .ok (.iload_n 2, 1) := by decide +kernel
theorem d_TCM_resume_33 : decode b_TCM_resume 33 = .ok (.laload, 1) := by decide +kernel
theorem d_TCM_resume_34 : decode b_TCM_resume 34 = .ok (.invokevirtual 84, 3) := by decide +kernel
theorem d_TCM_resume_37 : decode b_TCM_resume 37 = .ok (.invokestatic 62, 3) := by decide +kernel
theorem d_TCM_resume_40 : decode b_TCM_resume 40 = .ok (.aload_n 0, 1) := by decide +kernel
theorem d_TCM_resume_41 : decode b_TCM_resume 41 = .ok (.getfield 12, 3) := by decide +kernel
theorem d_TCM_resume_44 : decode b_TCM_resume 44 = .ok (.getfield 52, 3) := by decide +kernel
theorem d_TCM_resume_47 : decode b_TCM_resume 47 = .ok (.iload_n 3, 1) := by decide +kernel
theorem d_TCM_resume_48 : decode b_TCM_resume 48 = .ok (.aload_n 0, 1) := by decide +kernel
theorem d_TCM_resume_49 : decode b_TCM_resume 49 = .ok (.getfield 21, 3) := by decide +kernel
theorem d_TCM_resume_52 : decode b_TCM_resume 52 = .ok (.getfield 87, 3) := by decide +kernel
theorem d_TCM_resume_55 : decode b_TCM_resume 55 = .ok (.lastore, 1) := by decide +kernel
theorem d_TCM_resume_56 : decode b_TCM_resume 56 = .ok (.aload_n 0, 1) := by decide +kernel
theorem d_TCM_resume_57 : decode b_TCM_resume 57 = .ok (.getfield 21, 3) := by decide +kernel
theorem d_TCM_resume_60 : decode b_TCM_resume 60 = .ok (.getfield 87, 3) := by decide +kernel
theorem d_TCM_resume_63 : decode b_TCM_resume 63 = .ok (.lreturn, 1) := by decide +kernel
theorem d_Pro_run_0 : decode b_Pro_run 0 = .ok (.aload_n 0, 1) := by decide +kernel
theorem d_Pro_run_1 : decode b_Pro_run 1 = .ok (.lload_n 1, 1) := by decide +kernel
theorem d_Pro_run_2 : decode b_Pro_run 2 = .ok (.lload_n 3, 1) := by decide +kernel
theorem d_Pro_run_3 : decode b_Pro_run 3 = .ok (.invokevirtual 44, 3) := by decide +kernel
theorem d_Pro_run_6 : decode b_Pro_run 6 = .ok (.istore 5, 2) := by decide +kernel
theorem d_Pro_run_8 : decode b_Pro_run 8 = .ok (.iconst 0, 1) := by decide +kernel
theorem d_Pro_run_9 : decode b_Pro_run 9 = .ok (.istore 6, 2) := by decide +kernel
theorem d_Pro_run_11 : decode b_Pro_run 11 = .ok (.iload 6, 2) := by decide +kernel
theorem d_Pro_run_13 : decode b_Pro_run 13 = .ok (.sipush 200, 3) := by decide +kernel
theorem d_Pro_run_16 : decode b_Pro_run 16 = .ok (.if_icmp .ge 70, 3) := by decide +kernel
theorem d_Pro_run_19 : decode b_Pro_run 19 = .ok (.iload 5, 2) := by decide +kernel
theorem d_Pro_run_21 : decode b_Pro_run 21 = .ok (.ifCond .ne 65, 3) := by decide +kernel
theorem d_Pro_run_24 : decode b_Pro_run 24 = .ok (.aload_n 0, 1) := by decide +kernel
theorem d_Pro_run_25 : decode b_Pro_run 25 = .ok (.getfield 23, 3) := by decide +kernel
theorem d_Pro_run_28 : decode b_Pro_run 28 = .ok (.ifCond .le 58, 3) := by decide +kernel
theorem d_Pro_run_31 : decode b_Pro_run 31 = .ok (.aload_n 0, 1) := by decide +kernel
theorem d_Pro_run_32 : decode b_Pro_run 32 = .ok (.getfield 19, 3) := by decide +kernel
theorem d_Pro_run_35 : decode b_Pro_run 35 = .ok (.aload_n 0, 1) := by decide +kernel
theorem d_Pro_run_36 : decode b_Pro_run 36 = .ok (.getfield 23, 3) := by decide +kernel
theorem d_Pro_run_39 : decode b_Pro_run 39 = .ok (.iconst 1, 1) := by decide +kernel
theorem d_Pro_run_40 : decode b_Pro_run 40 = .ok (.isub, 1) := by decide +kernel
theorem d_Pro_run_41 : decode b_Pro_run 41 = .ok (.aaload, 1) := by decide +kernel
theorem d_Pro_run_42 : decode b_Pro_run 42 = .ok (.astore 7, 2) := by decide +kernel
theorem d_Pro_run_44 : decode b_Pro_run 44 = .ok (.aload_n 0, 1) := by decide +kernel
theorem d_Pro_run_45 : decode b_Pro_run 45 = .ok (.aload 7, 2) := by decide +kernel
theorem d_Pro_run_47 : decode b_Pro_run 47 = .ok (.aload_n 0, 1) := by decide +kernel
theorem d_Pro_run_48 : decode b_Pro_run 48 = .ok (.aload 7, 2) := by decide +kernel
theorem d_Pro_run_50 : decode b_Pro_run 50 = .ok (.getfield 48, 3) := by decide +kernel
theorem d_Pro_run_53 : decode b_Pro_run 53 = .ok (.aload 7, 2) := by decide +kernel
theorem d_Pro_run_55 : decode b_Pro_run 55 = .ok (.getfield 51, 3) := by decide +kernel
theorem d_Pro_run_58 : decode b_Pro_run 58 = .ok (.invokevirtual 54, 3) := by decide +kernel
theorem d_Pro_run_61 : decode b_Pro_run 61 = .ok (.invokevirtual 58, 3) := by decide +kernel
theorem d_Pro_run_64 : decode b_Pro_run 64 = .ok (.istore 5, 2) := by decide +kernel
theorem d_Pro_run_66 : decode b_Pro_run 66 = .ok (.iload 5, 2) := by decide +kernel
theorem d_Pro_run_68 : decode b_Pro_run 68 = .ok (.ifCond .ne 12, 3) := by decide +kernel
theorem d_Pro_run_71 : decode b_Pro_run 71 = .ok (.aload 7, 2) := by decide +kernel
theorem d_Pro_run_73 : decode b_Pro_run 73 = .ok (.aload_n 0, 1) := by decide +kernel
theorem d_Pro_run_74 : decode b_Pro_run 74 = .ok (.getfield 30, 3) := by decide +kernel
theorem d_Pro_run_77 : decode b_Pro_run 77 = .ok (.putfield 51, 3) := by decide +kernel
theorem d_Pro_run_80 : decode b_Pro_run 80 = .ok (.iinc 6 1, 3) := by decide +kernel
theorem d_Pro_run_83 : decode b_Pro_run 83 = .ok (.goto (-72), 3) := by decide +kernel
theorem d_Pro_run_86 : decode b_Pro_run 86 = .ok (.iload 5, 2) := by decide +kernel
theorem d_Pro_run_88 : decode b_Pro_run 88 = .ok (.ifCond .ne 13, 3) := by decide +kernel
theorem d_Pro_run_91 : decode b_Pro_run 91 = .ok (.aload_n 0, 1) := by decide +kernel
theorem d_Pro_run_92 : decode b_Pro_run 92 = .ok (.getfield 23, 3) := by decide +kernel
theorem d_Pro_run_95 : decode b_Pro_run 95 = .ok (.ifCond .le 6, 3) := by decide +kernel
theorem d_Pro_run_98 : decode b_Pro_run 98 = .ok (.iconst 2, 1) := by decide +kernel
theorem d_Pro_run_99 : decode b_Pro_run 99 = .ok (.istore 5, 2) := by decide +kernel
theorem d_Pro_run_101 : decode b_Pro_run 101 = .ok (.aload_n 0, 1) := by decide +kernel
theorem d_Pro_run_102 : decode b_Pro_run 102 = .ok (.invokevirtual 62, 3) := by decide +kernel
theorem d_Pro_run_105 : decode b_Pro_run 105 = .ok (.iload 5, 2) := by decide +kernel
theorem d_Pro_run_107 : decode b_Pro_run 107 = .ok (.ireturn, 1) := by decide +kernel
theorem d_Pro_enter_0 : decode b_Pro_enter 0 = .ok (.aload_n 0, 1) := by decide +kernel
theorem d_Pro_enter_1 : decode b_Pro_enter 1 = .ok (.getfield 39, 3) := by decide +kernel
theorem d_Pro_enter_4 : decode b_Pro_enter 4 = .ok (.iconst 2, 1) := by decide +kernel
theorem d_Pro_enter_5 : decode b_Pro_enter 5 = .ok (.lload_n 1, 1) := by decide +kernel
theorem d_Pro_enter_6 : decode b_Pro_enter 6 = .ok (.invokevirtual 65, 3) := by decide +kernel
theorem d_Pro_enter_9 : decode b_Pro_enter 9 = .ok (.ifCond .ne 5, 3) := by decide +kernel
theorem d_Pro_enter_12 : decode b_Pro_enter 12 = .ok (.iconst 1, 1) := by decide +kernel
theorem d_Pro_enter_13 : decode b_Pro_enter 13 = .ok (.ireturn, 1) := by decide +kernel
theorem d_Pro_enter_14 : decode b_Pro_enter 14 = .ok (.lload_n 1, 1) := by decide +kernel
theorem d_Pro_enter_15 : decode b_Pro_enter 15 = .ok (.invokestatic 71, 3) := by decide +kernel
theorem d_Pro_enter_18 : decode b_Pro_enter 18 = .ok (.istore 5, 2) := by decide +kernel
theorem d_Pro_enter_20 : decode b_Pro_enter 20 = .ok (.aload_n 0, 1) := by decide +kernel
theorem d_Pro_enter_21 : decode b_Pro_enter 21 = .ok (.getfield 39, 3) := by decide +kernel
theorem d_Pro_enter_24 : decode b_Pro_enter 24 = .ok (.getfield 75, 3) := by decide +kernel
theorem d_Pro_enter_27 : decode b_Pro_enter 27 = .ok (.iload 5, 2) := by decide +kernel
theorem d_Pro_enter_29 : decode b_Pro_enter 29 = .ok (.aaload, 1) := by decide +kernel
theorem d_Pro_enter_30 : decode b_Pro_enter 30 = .ok (.getfield 79, 3) := by decide +kernel
theorem d_Pro_enter_33 : decode b_Pro_enter 33 = .ok (.astore 6, 2) := by decide +kernel
theorem d_Pro_enter_35 : decode b_Pro_enter 35 = .ok (.aload 6, 2) := by decide +kernel
theorem d_Pro_enter_37 : decode b_Pro_enter 37 = .ok (.getfield 85, 3) := by decide +kernel
theorem d_Pro_enter_40 : decode b_Pro_enter 40 = .ok (.iconst 3, 1) := by decide +kernel
theorem d_Pro_enter_41 : decode b_Pro_enter 41 = .ok (.if_icmp .eq 12, 3) := by decide +kernel
theorem d_Pro_enter_44 : decode b_Pro_enter 44 = .ok (.aload 6, 2) := by decide +kernel
theorem d_Pro_enter_46 : decode b_Pro_enter 46 = .ok (.getfield 85, 3) := by decide +kernel
theorem d_Pro_enter_49 : decode b_Pro_enter 49 = .ok (.iconst 2, 1) := by decide +kernel
theorem d_Pro_enter_50 : decode b_Pro_enter 50 = .ok (.if_icmp .ne 5, 3) := by decide +kernel
theorem d_Pro_enter_53 : decode b_Pro_enter 53 = .ok (.iconst 1, 1) := by decide +kernel
theorem d_Pro_enter_54 : decode b_Pro_enter 54 = .ok (.ireturn, 1) := by decide +kernel
theorem d_Pro_enter_55 : decode b_Pro_enter 55 = .ok (.aload_n 0, 1) := by decide +kernel
theorem d_Pro_enter_56 : decode b_Pro_enter 56 = .ok (.getfield 23, 3) := by decide +kernel
theorem d_Pro_enter_59 : decode b_Pro_enter 59 = .ok (.iconst 5, 1) := by decide +kernel
theorem d_Pro_enter_60 : decode b_Pro_enter 60 = .ok (.if_icmp .ne 5, 3) := by decide +kernel
theorem d_Pro_enter_63 : decode b_Pro_enter 63 = .ok (.iconst 2, 1) := by decide +kernel
theorem d_Pro_enter_64 : decode b_Pro_enter 64 = .ok (.ireturn, 1) := by decide +kernel
theorem d_Pro_enter_65 : decode b_Pro_enter 65 = .ok (.aload 6, 2) := by decide +kernel
theorem d_Pro_enter_67 : decode b_Pro_enter 67 = .ok (.getfield 88, 3) := by decide +kernel
theorem d_Pro_enter_70 : decode b_Pro_enter 70 = .ok (.aload 6, 2) := by decide +kernel
theorem d_Pro_enter_72 : decode b_Pro_enter 72 = .ok (.getfield 92, 3) := by decide +kernel
theorem d_Pro_enter_75 : decode b_Pro_enter 75 = .ok (.lload_n 3, 1) := by decide +kernel
theorem d_Pro_enter_76 : decode b_Pro_enter 76 = .ok (.lastore, 1) := by decide +kernel
theorem d_Pro_enter_77 : decode b_Pro_enter 77 = .ok (.aload 6, 2) := by decide +kernel
theorem d_Pro_enter_79 : decode b_Pro_enter 79 = .ok (.iconst 2, 1) := by decide +kernel
theorem d_Pro_enter_80 : decode b_Pro_enter 80 = .ok (.putfield 85, 3) := by decide +kernel
theorem d_Pro_enter_83 : decode b_Pro_enter 83 = .ok (.aload_n 0, 1) := by decide +kernel
theorem d_Pro_enter_84 : decode b_Pro_enter 84 = .ok (.getfield 39, 3) := by decide +kernel
theorem d_Pro_enter_87 : decode b_Pro_enter 87 = .ok (.iload 5, 2) := by decide +kernel
theorem d_Pro_enter_89 : decode b_Pro_enter 89 = .ok (.invokevirtual 95, 3) := by decide +kernel
theorem d_Pro_enter_92 : decode b_Pro_enter 92 = .ok (.aload_n 0, 1) := by decide +kernel
theorem d_Pro_enter_93 : decode b_Pro_enter 93 = .ok (.getfield 19, 3) := by decide +kernel
theorem d_Pro_enter_96 : decode b_Pro_enter 96 = .ok (.aload_n 0, 1) := by decide +kernel
theorem d_Pro_enter_97 : decode b_Pro_enter 97 = .ok (.getfield 23, 3) := by decide +kernel
theorem d_Pro_enter_100 : decode b_Pro_enter 100 = .ok (.aload 6, 2) := by decide +kernel
theorem d_Pro_enter_102 : decode b_Pro_enter 102 = .ok (.aastore, 1) := by decide +kernel
theorem d_Pro_enter_103 : decode b_Pro_enter 103 = .ok (.aload_n 0, 1) := by decide +kernel
theorem d_Pro_enter_104 : decode b_Pro_enter 104 = .ok (.dup, 1) := by decide +kernel
theorem d_Pro_enter_105 : decode b_Pro_enter 105 = .ok (.getfield 23, 3) := by decide +kernel
theorem d_Pro_enter_108 : decode b_Pro_enter 108 = .ok (.iconst 1, 1) := by decide +kernel
theorem d_Pro_enter_109 : decode b_Pro_enter 109 = .ok (.iadd, 1) := by decide +kernel
theorem d_Pro_enter_110 : decode b_Pro_enter 110 = .ok (.putfield 23, 3) := by decide +kernel
theorem d_Pro_enter_113 : decode b_Pro_enter 113 = .ok (.iconst 0, 1) := by decide +kernel
theorem d_Pro_enter_114 : decode b_Pro_enter 114 = .ok (.ireturn, 1) := by decide +kernel
theorem d_Pro_perform_0 : decode b_Pro_perform 0 = .ok (.aload_n 2, 1) := by decide +kernel
theorem d_Pro_perform_1 : decode b_Pro_perform 1 = .ok (.getfield 102, 3) := by decide +kernel
theorem d_Pro_perform_4 : decode b_Pro_perform 4 = .ok (.iconst (-1), 1) := by decide +kernel
theorem d_Pro_perform_5 : decode b_Pro_perform 5 = .ok (.if_icmp .ne 5, 3) := by decide +kernel
theorem d_Pro_perform_8 : decode b_Pro_perform 8 = .ok (.iconst 1, 1) := by decide +kernel
theorem d_Pro_perform_9 : decode b_Pro_perform 9 = .ok (.ireturn, 1) := by decide +kernel
theorem d_Pro_perform_10 : decode b_Pro_perform 10 = .ok (.aload_n 0, 1) := by decide +kernel
theorem d_Pro_perform_11 : decode b_Pro_perform 11 = .ok (.dup, 1) := by decide +kernel
theorem d_Pro_perform_12 : decode b_Pro_perform 12 = .ok (.getfield 27, 3) := by decide +kernel
theorem d_Pro_perform_15 : decode b_Pro_perform 15 = .ok (.iconst 1, 1) := by decide +kernel
theorem d_Pro_perform_16 : decode b_Pro_perform 16 = .ok (.iadd, 1) := by decide +kernel
theorem d_Pro_perform_17 : decode b_Pro_perform 17 = .ok (.putfield 27, 3) := by decide +kernel
theorem d_Pro_perform_20 : decode b_Pro_perform 20 = .ok (.aload_n 0, 1) := by decide +kernel
theorem d_Pro_perform_21 : decode b_Pro_perform 21 = .ok (.aload_n 1, 1) := by decide +kernel
theorem d_Pro_perform_22 : decode b_Pro_perform 22 = .ok (.getfield 51, 3) := by decide +kernel
theorem d_Pro_perform_25 : decode b_Pro_perform 25 = .ok (.iconst 1, 1) := by decide +kernel
theorem d_Pro_perform_26 : decode b_Pro_perform 26 = .ok (.iadd, 1) := by decide +kernel
theorem d_Pro_perform_27 : decode b_Pro_perform 27 = .ok (.putfield 30, 3) := by decide +kernel
theorem d_Pro_perform_30 : decode b_Pro_perform 30 = .ok (.aload_n 1, 1) := by decide +kernel
theorem d_Pro_perform_31 : decode b_Pro_perform 31 = .ok (.getfield 88, 3) := by decide +kernel
theorem d_Pro_perform_34 : decode b_Pro_perform 34 = .ok (.astore_n 3, 1) := by decide +kernel
theorem d_Pro_perform_35 : decode b_Pro_perform 35 = .ok (.aload_n 2, 1) := by decide +kernel
theorem d_Pro_perform_36 : decode b_Pro_perform 36 = .ok (.getfield 105, 3) := by decide +kernel
theorem d_Pro_perform_39 : decode b_Pro_perform 39 = .ok (.iconst 4, 1) := by decide +kernel
theorem d_Pro_perform_40 : decode b_Pro_perform 40 = .ok (.invokestatic 108, 3) := by decide +kernel
theorem d_Pro_perform_43 : decode b_Pro_perform 43 = .ok (.istore 4, 2) := by decide +kernel
theorem d_Pro_perform_45 : decode b_Pro_perform 45 = .ok (.aload_n 2, 1) := by decide +kernel
theorem d_Pro_perform_46 : decode b_Pro_perform 46 = .ok (.getfield 114, 3) := by decide +kernel
theorem d_Pro_perform_49 : decode b_Pro_perform 49 = .ok (.iconst 4, 1) := by decide +kernel
theorem d_Pro_perform_50 : decode b_Pro_perform 50 = .ok (.invokestatic 108, 3) := by decide +kernel
theorem d_Pro_perform_53 : decode b_Pro_perform 53 = .ok (.istore 5, 2) := by decide +kernel
theorem d_Pro_perform_55 : decode b_Pro_perform 55 = .ok (.aload_n 2, 1) := by decide +kernel
theorem d_Pro_perform_56 : decode b_Pro_perform 56 = .ok (.getfield 117, 3) := by decide +kernel
theorem d_Pro_perform_59 : decode b_Pro_perform 59 = .ok (.iconst 4, 1) := by decide +kernel
theorem d_Pro_perform_60 : decode b_Pro_perform 60 = .ok (.invokestatic 108, 3) := by decide +kernel
theorem d_Pro_perform_63 : decode b_Pro_perform 63 = .ok (.istore 6, 2) := by decide +kernel
theorem d_Pro_perform_65 : decode b_Pro_perform 65 = .ok (.aload_n 2, 1) := by decide +kernel
theorem d_Pro_perform_66 : decode b_Pro_perform 66 = .ok (.getfield 102, 3) := by decide +kernel
theorem d_Pro_perform_69 : decode b_Pro_perform 69 = .ok (.tableswitch 481 0 21 #[103, 112, 123, 133, 156, 179, 196, 219, 239, 239, 239, 258, 275, 285, 310, 336, 352, 376, 403, 424, 439, 462], 103) := by decide +kernel
theorem d_Pro_perform_172 : decode b_Pro_perform 172 = .ok (.aload_n 3, 1) := by decide +kernel
theorem d_Pro_perform_173 : decode b_Pro_perform 173 = .ok (.iload 4, 2) := by decide +kernel
theorem d_Pro_perform_175 : decode b_Pro_perform 175 = .ok (.ldc2_w 33, 3) := by decide +kernel
theorem d_Pro_perform_178 : decode b_Pro_perform 178 = .ok (.lastore, 1) := by decide +kernel
theorem d_Pro_perform_179 : decode b_Pro_perform 179 = .ok (.iconst 0, 1) := by decide +kernel
theorem d_Pro_perform_180 : decode b_Pro_perform 180 = .ok (.ireturn, 1) := by decide +kernel
theorem d_Pro_perform_181 : decode b_Pro_perform 181 = .ok (.aload_n 3, 1) := by decide +kernel
theorem d_Pro_perform_182 : decode b_Pro_perform 182 = .ok (.iload 4, 2) := by decide +kernel
theorem d_Pro_perform_184 : decode b_Pro_perform 184 = .ok (.aload_n 2, 1) := by decide +kernel
theorem d_Pro_perform_185 : decode b_Pro_perform 185 = .ok (.getfield 117, 3) := by decide +kernel
theorem d_Pro_perform_188 : decode b_Pro_perform 188 = .ok (.i2l, 1) := by decide +kernel
theorem d_Pro_perform_189 : decode b_Pro_perform 189 = .ok (.lastore, 1) := by decide +kernel
theorem d_Pro_perform_190 : decode b_Pro_perform 190 = .ok (.iconst 0, 1) := by decide +kernel
theorem d_Pro_perform_191 : decode b_Pro_perform 191 = .ok (.ireturn, 1) := by decide +kernel
theorem d_Pro_perform_192 : decode b_Pro_perform 192 = .ok (.aload_n 3, 1) := by decide +kernel
theorem d_Pro_perform_193 : decode b_Pro_perform 193 = .ok (.iload 4, 2) := by decide +kernel
theorem d_Pro_perform_195 : decode b_Pro_perform 195 = .ok (.aload_n 3, 1) := by decide +kernel
theorem d_Pro_perform_196 : decode b_Pro_perform 196 = .ok (.iload 5, 2) := by decide +kernel
theorem d_Pro_perform_198 : decode b_Pro_perform 198 = .ok (.laload, 1) := by decide +kernel
theorem d_Pro_perform_199 : decode b_Pro_perform 199 = .ok (.lastore, 1) := by decide +kernel
theorem d_Pro_perform_200 : decode b_Pro_perform 200 = .ok (.iconst 0, 1) := by decide +kernel
theorem d_Pro_perform_201 : decode b_Pro_perform 201 = .ok (.ireturn, 1) := by decide +kernel
theorem d_Pro_perform_202 : decode b_Pro_perform 202 = .ok (.aload_n 3, 1) := by decide +kernel
theorem d_Pro_perform_203 : decode b_Pro_perform 203 = .ok (.iload 4, 2) := by decide +kernel
theorem d_Pro_perform_205 : decode b_Pro_perform 205 = .ok (.aload_n 0, 1) := by decide +kernel
theorem d_Pro_perform_206 : decode b_Pro_perform 206 = .ok (.getfield 39, 3) := by decide +kernel
theorem d_Pro_perform_209 : decode b_Pro_perform 209 = .ok (.getfield 120, 3) := by decide +kernel
theorem d_Pro_perform_212 : decode b_Pro_perform 212 = .ok (.aload_n 2, 1) := by decide +kernel
theorem d_Pro_perform_213 : decode b_Pro_perform 213 = .ok (.getfield 117, 3) := by decide +kernel
theorem d_Pro_perform_216 : decode b_Pro_perform 216 = .ok (.bipush 6, 2) := by decide +kernel
theorem d_Pro_perform_218 : decode b_Pro_perform 218 = .ok (.invokestatic 108, 3) := by decide +kernel
theorem d_Pro_perform_221 : decode b_Pro_perform 221 = .ok (.laload, 1) := by decide +kernel
theorem d_Pro_perform_222 : decode b_Pro_perform 222 = .ok (.lastore, 1) := by decide +kernel
theorem d_Pro_perform_223 : decode b_Pro_perform 223 = .ok (.iconst 0, 1) := by decide +kernel
theorem d_Pro_perform_224 : decode b_Pro_perform 224 = .ok (.ireturn, 1) := by decide +kernel
theorem d_Pro_perform_225 : decode b_Pro_perform 225 = .ok (.aload_n 0, 1) := by decide +kernel
theorem d_Pro_perform_226 : decode b_Pro_perform 226 = .ok (.getfield 39, 3) := by decide +kernel
theorem d_Pro_perform_229 : decode b_Pro_perform 229 = .ok (.getfield 120, 3) := by decide +kernel
theorem d_Pro_perform_232 : decode b_Pro_perform 232 = .ok (.aload_n 2, 1) := by decide +kernel
theorem d_Pro_perform_233 : decode b_Pro_perform 233 = .ok (.getfield 117, 3) := by decide +kernel
theorem d_Pro_perform_236 : decode b_Pro_perform 236 = .ok (.bipush 6, 2) := by decide +kernel
theorem d_Pro_perform_238 : decode b_Pro_perform 238 = .ok (.invokestatic 108, 3) := by decide +kernel
theorem d_Pro_perform_241 : decode b_Pro_perform 241 = .ok (.aload_n 3, 1) := by decide +kernel
theorem d_Pro_perform_242 : decode b_Pro_perform 242 = .ok (.iload 4, 2) := by decide +kernel
theorem d_Pro_perform_244 : decode b_Pro_perform 244 = .ok (.laload, 1) := by decide +kernel
theorem d_Pro_perform_245 : decode b_Pro_perform 245 = .ok (.lastore, 1) := by decide +kernel
theorem d_Pro_perform_246 : decode b_Pro_perform 246 = .ok (.iconst 0, 1) := by decide +kernel
theorem d_Pro_perform_247 : decode b_Pro_perform 247 = .ok (.ireturn, 1) := by decide +kernel
theorem d_Pro_perform_248 : decode b_Pro_perform 248 = .ok (.aload_n 0, 1) := by decide +kernel
theorem d_Pro_perform_249 : decode b_Pro_perform 249 = .ok (.aload_n 3, 1) := by decide +kernel
theorem d_Pro_perform_250 : decode b_Pro_perform 250 = .ok (.iload 4, 2) := by decide +kernel
theorem d_Pro_perform_252 : decode b_Pro_perform 252 = .ok (.aload_n 0, 1) := by decide +kernel
theorem d_Pro_perform_253 : decode b_Pro_perform 253 = .ok (.getfield 39, 3) := by decide +kernel
theorem d_Pro_perform_256 : decode b_Pro_perform 256 = .ok (.iconst 1, 1) := by decide +kernel
theorem d_Pro_perform_257 : decode b_Pro_perform 257 = .ok (.iconst 0, 1) := by decide +kernel
theorem d_Pro_perform_258 : decode b_Pro_perform 258 = .ok (.invokevirtual 123, 3) := by decide +kernel
theorem d_Pro_perform_261 : decode b_Pro_perform 261 = .ok (.invokevirtual 126, 3) := by decide +kernel
theorem d_Pro_perform_264 : decode b_Pro_perform 264 = .ok (.ireturn, 1) := by decide +kernel
theorem d_Pro_perform_265 : decode b_Pro_perform 265 = .ok (.aload_n 0, 1) := by decide +kernel
theorem d_Pro_perform_266 : decode b_Pro_perform 266 = .ok (.aload_n 3, 1) := by decide +kernel
theorem d_Pro_perform_267 : decode b_Pro_perform 267 = .ok (.iload 4, 2) := by decide +kernel
theorem d_Pro_perform_269 : decode b_Pro_perform 269 = .ok (.aload_n 0, 1) := by decide +kernel
theorem d_Pro_perform_270 : decode b_Pro_perform 270 = .ok (.getfield 39, 3) := by decide +kernel
theorem d_Pro_perform_273 : decode b_Pro_perform 273 = .ok (.aload_n 3, 1) := by decide +kernel
theorem d_Pro_perform_274 : decode b_Pro_perform 274 = .ok (.iload 5, 2) := by decide +kernel
theorem d_Pro_perform_276 : decode b_Pro_perform 276 = .ok (.laload, 1) := by decide +kernel
theorem d_Pro_perform_277 : decode b_Pro_perform 277 = .ok (.aload_n 3, 1) := by decide +kernel
theorem d_Pro_perform_278 : decode b_Pro_perform 278 = .ok (.iload 6, 2) := by decide +kernel
theorem d_Pro_perform_280 : decode b_Pro_perform 280 = .ok (.laload, 1) := by decide +kernel
theorem d_Pro_perform_281 : decode b_Pro_perform 281 = .ok (.invokevirtual 130, 3) := by decide +kernel
theorem d_Pro_perform_284 : decode b_Pro_perform 284 = .ok (.invokevirtual 126, 3) := by decide +kernel
theorem d_Pro_perform_287 : decode b_Pro_perform 287 = .ok (.ireturn, 1) := by decide +kernel
theorem d_Pro_perform_288 : decode b_Pro_perform 288 = .ok (.aload_n 0, 1) := by decide +kernel
theorem d_Pro_perform_289 : decode b_Pro_perform 289 = .ok (.getfield 39, 3) := by decide +kernel
theorem d_Pro_perform_292 : decode b_Pro_perform 292 = .ok (.aload_n 3, 1) := by decide +kernel
theorem d_Pro_perform_293 : decode b_Pro_perform 293 = .ok (.iload 4, 2) := by decide +kernel
theorem d_Pro_perform_295 : decode b_Pro_perform 295 = .ok (.laload, 1) := by decide +kernel
theorem d_Pro_perform_296 : decode b_Pro_perform 296 = .ok (.aload_n 3, 1) := by decide +kernel
theorem d_Pro_perform_297 : decode b_Pro_perform 297 = .ok (.iload 5, 2) := by decide +kernel
theorem d_Pro_perform_299 : decode b_Pro_perform 299 = .ok (.laload, 1) := by decide +kernel
theorem d_Pro_perform_300 : decode b_Pro_perform 300 = .ok (.aload_n 3, 1) := by decide +kernel
theorem d_Pro_perform_301 : decode b_Pro_perform 301 = .ok (.iload 6, 2) := by decide +kernel
theorem d_Pro_perform_303 : decode b_Pro_perform 303 = .ok (.laload, 1) := by decide +kernel
theorem d_Pro_perform_304 : decode b_Pro_perform 304 = .ok (.invokevirtual 133, 3) := by decide +kernel
theorem d_Pro_perform_307 : decode b_Pro_perform 307 = .ok (.ireturn, 1) := by decide +kernel
theorem d_Pro_perform_308 : decode b_Pro_perform 308 = .ok (.aload_n 2, 1) := by decide +kernel
theorem d_Pro_perform_309 : decode b_Pro_perform 309 = .ok (.getfield 102, 3) := by decide +kernel
theorem d_Pro_perform_312 : decode b_Pro_perform 312 = .ok (.aload_n 3, 1) := by decide +kernel
theorem d_Pro_perform_313 : decode b_Pro_perform 313 = .ok (.iload 4, 2) := by decide +kernel
theorem d_Pro_perform_315 : decode b_Pro_perform 315 = .ok (.aload_n 3, 1) := by decide +kernel
theorem d_Pro_perform_316 : decode b_Pro_perform 316 = .ok (.iload 5, 2) := by decide +kernel
theorem d_Pro_perform_318 : decode b_Pro_perform 318 = .ok (.laload, 1) := by decide +kernel
theorem d_Pro_perform_319 : decode b_Pro_perform 319 = .ok (.aload_n 3, 1) := by decide +kernel
theorem d_Pro_perform_320 : decode b_Pro_perform 320 = .ok (.iload 6, 2) := by decide +kernel
theorem d_Pro_perform_322 : decode b_Pro_perform 322 = .ok (.laload, 1) := by decide +kernel
theorem d_Pro_perform_323 : decode b_Pro_perform 323 = .ok (.invokestatic 137, 3) := by decide +kernel
theorem d_Pro_perform_326 : decode b_Pro_perform 326 = .ok (.ireturn, 1) := by decide +kernel
theorem d_Pro_perform_327 : decode b_Pro_perform 327 = .ok (.aload_n 0, 1) := by decide +kernel
theorem d_Pro_perform_328 : decode b_Pro_perform 328 = .ok (.aload_n 3, 1) := by decide +kernel
theorem d_Pro_perform_329 : decode b_Pro_perform 329 = .ok (.iload 4, 2) := by decide +kernel
theorem d_Pro_perform_331 : decode b_Pro_perform 331 = .ok (.laload, 1) := by decide +kernel
theorem d_Pro_perform_332 : decode b_Pro_perform 332 = .ok (.aload_n 3, 1) := by decide +kernel
theorem d_Pro_perform_333 : decode b_Pro_perform 333 = .ok (.iload 5, 2) := by decide +kernel
theorem d_Pro_perform_335 : decode b_Pro_perform 335 = .ok (.laload, 1) := by decide +kernel
theorem d_Pro_perform_336 : decode b_Pro_perform 336 = .ok (.aload_n 2, 1) := by decide +kernel
theorem d_Pro_perform_337 : decode b_Pro_perform 337 = .ok (.getfield 117, 3) := by decide +kernel
theorem d_Pro_perform_340 : decode b_Pro_perform 340 = .ok (.invokevirtual 141, 3) := by decide +kernel
theorem d_Pro_perform_343 : decode b_Pro_perform 343 = .ok (.ireturn, 1) := by decide +kernel
theorem d_Pro_perform_344 : decode b_Pro_perform 344 = .ok (.aload_n 0, 1) := by decide +kernel
theorem d_Pro_perform_345 : decode b_Pro_perform 345 = .ok (.iconst 1, 1) := by decide +kernel
theorem d_Pro_perform_346 : decode b_Pro_perform 346 = .ok (.aload_n 2, 1) := by decide +kernel
theorem d_Pro_perform_347 : decode b_Pro_perform 347 = .ok (.getfield 117, 3) := by decide +kernel
theorem d_Pro_perform_350 : decode b_Pro_perform 350 = .ok (.invokevirtual 145, 3) := by decide +kernel
theorem d_Pro_perform_353 : decode b_Pro_perform 353 = .ok (.ireturn, 1) := by decide +kernel
theorem d_Pro_perform_354 : decode b_Pro_perform 354 = .ok (.aload_n 0, 1) := by decide +kernel
theorem d_Pro_perform_355 : decode b_Pro_perform 355 = .ok (.aload_n 3, 1) := by decide +kernel
theorem d_Pro_perform_356 : decode b_Pro_perform 356 = .ok (.iload 4, 2) := by decide +kernel
theorem d_Pro_perform_358 : decode b_Pro_perform 358 = .ok (.laload, 1) := by decide +kernel
theorem d_Pro_perform_359 : decode b_Pro_perform 359 = .ok (.ldc2_w 33, 3) := by decide +kernel
theorem d_Pro_perform_362 : decode b_Pro_perform 362 = .ok (.lcmp, 1) := by decide +kernel
theorem d_Pro_perform_363 : decode b_Pro_perform 363 = .ok (.ifCond .ne 7, 3) := by decide +kernel
theorem d_Pro_perform_366 : decode b_Pro_perform 366 = .ok (.iconst 1, 1) := by decide +kernel
theorem d_Pro_perform_367 : decode b_Pro_perform 367 = .ok (.goto 4, 3) := by decide +kernel
theorem d_Pro_perform_370 : decode b_Pro_perform 370 = .ok (.iconst 0, 1) := by decide +kernel
theorem d_Pro_perform_371 : decode b_Pro_perform 371 = .ok (.aload_n 2, 1) := by decide +kernel
theorem d_Pro_perform_372 : decode b_Pro_perform 372 = .ok (.getfield 117, 3) := by decide +kernel
theorem d_Pro_perform_375 : decode b_Pro_perform 375 = .ok (.invokevirtual 145, 3) := by decide +kernel
theorem d_Pro_perform_378 : decode b_Pro_perform 378 = .ok (.ireturn, 1) := by decide +kernel
theorem d_Pro_perform_379 : decode b_Pro_perform 379 = .ok (.aload_n 0, 1) := by decide +kernel
theorem d_Pro_perform_380 : decode b_Pro_perform 380 = .ok (.aload_n 3, 1) := by decide +kernel
theorem d_Pro_perform_381 : decode b_Pro_perform 381 = .ok (.iload 4, 2) := by decide +kernel
theorem d_Pro_perform_383 : decode b_Pro_perform 383 = .ok (.laload, 1) := by decide +kernel
theorem d_Pro_perform_384 : decode b_Pro_perform 384 = .ok (.aload_n 3, 1) := by decide +kernel
theorem d_Pro_perform_385 : decode b_Pro_perform 385 = .ok (.iload 5, 2) := by decide +kernel
theorem d_Pro_perform_387 : decode b_Pro_perform 387 = .ok (.laload, 1) := by decide +kernel
theorem d_Pro_perform_388 : decode b_Pro_perform 388 = .ok (.lcmp, 1) := by decide +kernel
theorem d_Pro_perform_389 : decode b_Pro_perform 389 = .ok (.ifCond .ne 7, 3) := by decide +kernel
theorem d_Pro_perform_392 : decode b_Pro_perform 392 = .ok (.iconst 1, 1) := by decide +kernel
theorem d_Pro_perform_393 : decode b_Pro_perform 393 = .ok (.goto 4, 3) := by decide +kernel
theorem d_Pro_perform_396 : decode b_Pro_perform 396 = .ok (.iconst 0, 1) := by decide +kernel
theorem d_Pro_perform_397 : decode b_Pro_perform 397 = .ok (.aload_n 2, 1) := by decide +kernel
theorem d_Pro_perform_398 : decode b_Pro_perform 398 = .ok (.getfield 117, 3) := by decide +kernel
theorem d_Pro_perform_401 : decode b_Pro_perform 401 = .ok (.invokevirtual 145, 3) := by decide +kernel
theorem d_Pro_perform_404 : decode b_Pro_perform 404 = .ok (.ireturn, 1) := by decide +kernel
theorem d_Pro_perform_405 : decode b_Pro_perform 405 = .ok (.aload_n 0, 1) := by decide +kernel
theorem d_Pro_perform_406 : decode b_Pro_perform 406 = .ok (.getfield 39, 3) := by decide +kernel
theorem d_Pro_perform_409 : decode b_Pro_perform 409 = .ok (.aload_n 3, 1) := by decide +kernel
theorem d_Pro_perform_410 : decode b_Pro_perform 410 = .ok (.iload 4, 2) := by decide +kernel
theorem d_Pro_perform_412 : decode b_Pro_perform 412 = .ok (.laload, 1) := by decide +kernel
theorem d_Pro_perform_413 : decode b_Pro_perform 413 = .ok (.aload_n 3, 1) := by decide +kernel
theorem d_Pro_perform_414 : decode b_Pro_perform 414 = .ok (.iload 5, 2) := by decide +kernel
theorem d_Pro_perform_416 : decode b_Pro_perform 416 = .ok (.laload, 1) := by decide +kernel
theorem d_Pro_perform_417 : decode b_Pro_perform 417 = .ok (.invokevirtual 149, 3) := by decide +kernel
theorem d_Pro_perform_420 : decode b_Pro_perform 420 = .ok (.ireturn, 1) := by decide +kernel
theorem d_Pro_perform_421 : decode b_Pro_perform 421 = .ok (.aload_n 0, 1) := by decide +kernel
theorem d_Pro_perform_422 : decode b_Pro_perform 422 = .ok (.aload_n 3, 1) := by decide +kernel
theorem d_Pro_perform_423 : decode b_Pro_perform 423 = .ok (.iload 4, 2) := by decide +kernel
theorem d_Pro_perform_425 : decode b_Pro_perform 425 = .ok (.aload_n 0, 1) := by decide +kernel
theorem d_Pro_perform_426 : decode b_Pro_perform 426 = .ok (.getfield 39, 3) := by decide +kernel
theorem d_Pro_perform_429 : decode b_Pro_perform 429 = .ok (.iconst 2, 1) := by decide +kernel
theorem d_Pro_perform_430 : decode b_Pro_perform 430 = .ok (.aload_n 2, 1) := by decide +kernel
theorem d_Pro_perform_431 : decode b_Pro_perform 431 = .ok (.getfield 117, 3) := by decide +kernel
theorem d_Pro_perform_434 : decode b_Pro_perform 434 = .ok (.iconst 4, 1) := by decide +kernel
theorem d_Pro_perform_435 : decode b_Pro_perform 435 = .ok (.invokestatic 108, 3) := by decide +kernel
theorem d_Pro_perform_438 : decode b_Pro_perform 438 = .ok (.invokevirtual 123, 3) := by decide +kernel
theorem d_Pro_perform_441 : decode b_Pro_perform 441 = .ok (.invokevirtual 126, 3) := by decide +kernel
theorem d_Pro_perform_444 : decode b_Pro_perform 444 = .ok (.ireturn, 1) := by decide +kernel
theorem d_Pro_perform_445 : decode b_Pro_perform 445 = .ok (.aload_n 0, 1) := by decide +kernel
theorem d_Pro_perform_446 : decode b_Pro_perform 446 = .ok (.aload_n 1, 1) := by decide +kernel
theorem d_Pro_perform_447 : decode b_Pro_perform 447 = .ok (.getfield 51, 3) := by decide +kernel
theorem d_Pro_perform_450 : decode b_Pro_perform 450 = .ok (.putfield 30, 3) := by decide +kernel
theorem d_Pro_perform_453 : decode b_Pro_perform 453 = .ok (.aload_n 1, 1) := by decide +kernel
theorem d_Pro_perform_454 : decode b_Pro_perform 454 = .ok (.iload 4, 2) := by decide +kernel
theorem d_Pro_perform_456 : decode b_Pro_perform 456 = .ok (.putfield 99, 3) := by decide +kernel
theorem d_Pro_perform_459 : decode b_Pro_perform 459 = .ok (.aload_n 0, 1) := by decide +kernel
theorem d_Pro_perform_460 : decode b_Pro_perform 460 = .ok (.aload_n 3, 1) := by decide +kernel
theorem d_Pro_perform_461 : decode b_Pro_perform 461 = .ok (.iload 5, 2) := by decide +kernel
theorem d_Pro_perform_463 : decode b_Pro_perform 463 = .ok (.laload, 1) := by decide +kernel
theorem d_Pro_perform_464 : decode b_Pro_perform 464 = .ok (.aload_n 3, 1) := by decide +kernel
theorem d_Pro_perform_465 : decode b_Pro_perform 465 = .ok (.iload 6, 2) := by decide +kernel
theorem d_Pro_perform_467 : decode b_Pro_perform 467 = .ok (.laload, 1) := by decide +kernel
theorem d_Pro_perform_468 : decode b_Pro_perform 468 = .ok (.invokevirtual 44, 3) := by decide +kernel
theorem d_Pro_perform_471 : decode b_Pro_perform 471 = .ok (.ireturn, 1) := by decide +kernel
theorem d_Pro_perform_472 : decode b_Pro_perform 472 = .ok (.aload_n 1, 1) := by decide +kernel
theorem d_Pro_perform_473 : decode b_Pro_perform 473 = .ok (.iconst 1, 1) := by decide +kernel
theorem d_Pro_perform_474 : decode b_Pro_perform 474 = .ok (.putfield 85, 3) := by decide +kernel
theorem d_Pro_perform_477 : decode b_Pro_perform 477 = .ok (.aload_n 1, 1) := by decide +kernel
theorem d_Pro_perform_478 : decode b_Pro_perform 478 = .ok (.iload 4, 2) := by decide +kernel
theorem d_Pro_perform_480 : decode b_Pro_perform 480 = .ok (.putfield 92, 3) := by decide +kernel
theorem d_Pro_perform_483 : decode b_Pro_perform 483 = .ok (.aload_n 0, 1) := by decide +kernel
theorem d_Pro_perform_484 : decode b_Pro_perform 484 = .ok (.aload_n 3, 1) := by decide +kernel
theorem d_Pro_perform_485 : decode b_Pro_perform 485 = .ok (.iload 4, 2) := by decide +kernel
theorem d_Pro_perform_487 : decode b_Pro_perform 487 = .ok (.laload, 1) := by decide +kernel
theorem d_Pro_perform_488 : decode b_Pro_perform 488 = .ok (.invokevirtual 152, 3) := by decide +kernel
theorem d_Pro_perform_491 : decode b_Pro_perform 491 = .ok (.iconst 0, 1) := by decide +kernel
theorem d_Pro_perform_492 : decode b_Pro_perform 492 = .ok (.ireturn, 1) := by decide +kernel
theorem d_Pro_perform_493 : decode b_Pro_perform 493 = .ok (.aload_n 1, 1) := by decide +kernel
theorem d_Pro_perform_494 : decode b_Pro_perform 494 = .ok (.iconst 3, 1) := by decide +kernel
theorem d_Pro_perform_495 : decode b_Pro_perform 495 = .ok (.putfield 85, 3) := by decide +kernel
theorem d_Pro_perform_498 : decode b_Pro_perform 498 = .ok (.aload_n 0, 1) := by decide +kernel
theorem d_Pro_perform_499 : decode b_Pro_perform 499 = .ok (.aload_n 3, 1) := by decide +kernel
theorem d_Pro_perform_500 : decode b_Pro_perform 500 = .ok (.iload 4, 2) := by decide +kernel
theorem d_Pro_perform_502 : decode b_Pro_perform 502 = .ok (.laload, 1) := by decide +kernel
theorem d_Pro_perform_503 : decode b_Pro_perform 503 = .ok (.invokevirtual 152, 3) := by decide +kernel
theorem d_Pro_perform_506 : decode b_Pro_perform 506 = .ok (.iconst 0, 1) := by decide +kernel
theorem d_Pro_perform_507 : decode b_Pro_perform 507 = .ok (.ireturn, 1) := by decide +kernel
theorem d_Pro_perform_508 : decode b_Pro_perform 508 = .ok (.aload_n 0, 1) := by decide +kernel
theorem d_Pro_perform_509 : decode b_Pro_perform 509 = .ok (.aload_n 3, 1) := by decide +kernel
theorem d_Pro_perform_510 : decode b_Pro_perform 510 = .ok (.iload 4, 2) := by decide +kernel
theorem d_Pro_perform_512 : decode b_Pro_perform 512 = .ok (.aload_n 0, 1) := by decide +kernel
theorem d_Pro_perform_513 : decode b_Pro_perform 513 = .ok (.getfield 39, 3) := by decide +kernel
theorem d_Pro_perform_516 : decode b_Pro_perform 516 = .ok (.aload_n 3, 1) := by decide +kernel
theorem d_Pro_perform_517 : decode b_Pro_perform 517 = .ok (.iload 5, 2) := by decide +kernel
theorem d_Pro_perform_519 : decode b_Pro_perform 519 = .ok (.laload, 1) := by decide +kernel
theorem d_Pro_perform_520 : decode b_Pro_perform 520 = .ok (.aload_n 3, 1) := by decide +kernel
theorem d_Pro_perform_521 : decode b_Pro_perform 521 = .ok (.iload 6, 2) := by decide +kernel
theorem d_Pro_perform_523 : decode b_Pro_perform 523 = .ok (.laload, 1) := by decide +kernel
theorem d_Pro_perform_524 : decode b_Pro_perform 524 = .ok (.invokevirtual 156, 3) := by decide +kernel
theorem d_Pro_perform_527 : decode b_Pro_perform 527 = .ok (.invokevirtual 126, 3) := by decide +kernel
theorem d_Pro_perform_530 : decode b_Pro_perform 530 = .ok (.ireturn, 1) := by decide +kernel
theorem d_Pro_perform_531 : decode b_Pro_perform 531 = .ok (.aload_n 0, 1) := by decide +kernel
theorem d_Pro_perform_532 : decode b_Pro_perform 532 = .ok (.aload_n 3, 1) := by decide +kernel
theorem d_Pro_perform_533 : decode b_Pro_perform 533 = .ok (.iload 4, 2) := by decide +kernel
theorem d_Pro_perform_535 : decode b_Pro_perform 535 = .ok (.aload_n 0, 1) := by decide +kernel
theorem d_Pro_perform_536 : decode b_Pro_perform 536 = .ok (.getfield 39, 3) := by decide +kernel
theorem d_Pro_perform_539 : decode b_Pro_perform 539 = .ok (.aload_n 3, 1) := by decide +kernel
theorem d_Pro_perform_540 : decode b_Pro_perform 540 = .ok (.iload 5, 2) := by decide +kernel
theorem d_Pro_perform_542 : decode b_Pro_perform 542 = .ok (.laload, 1) := by decide +kernel
theorem d_Pro_perform_543 : decode b_Pro_perform 543 = .ok (.invokevirtual 159, 3) := by decide +kernel
theorem d_Pro_perform_546 : decode b_Pro_perform 546 = .ok (.invokevirtual 126, 3) := by decide +kernel
theorem d_Pro_perform_549 : decode b_Pro_perform 549 = .ok (.ireturn, 1) := by decide +kernel
theorem d_Pro_perform_550 : decode b_Pro_perform 550 = .ok (.iconst 1, 1) := by decide +kernel
theorem d_Pro_perform_551 : decode b_Pro_perform 551 = .ok (.ireturn, 1) := by decide +kernel
theorem d_Pro_keepFound_0 : decode b_Pro_keepFound 0 = .ok (.iload_n 3, 1) := by decide +kernel
theorem d_Pro_keepFound_1 : decode b_Pro_keepFound 1 = .ok (.ifCond .ne 13, 3) := by decide +kernel
theorem d_Pro_keepFound_4 : decode b_Pro_keepFound 4 = .ok (.aload_n 1, 1) := by decide +kernel
theorem d_Pro_keepFound_5 : decode b_Pro_keepFound 5 = .ok (.iload_n 2, 1) := by decide +kernel
theorem d_Pro_keepFound_6 : decode b_Pro_keepFound 6 = .ok (.aload_n 0, 1) := by decide +kernel
theorem d_Pro_keepFound_7 : decode b_Pro_keepFound 7 = .ok (.getfield 39, 3) := by decide +kernel
theorem d_Pro_keepFound_10 : decode b_Pro_keepFound 10 = .ok (.getfield 162, 3) := by decide +kernel
theorem d_Pro_keepFound_13 : decode b_Pro_keepFound 13 = .ok (.lastore, 1) := by decide +kernel
theorem d_Pro_keepFound_14 : decode b_Pro_keepFound 14 = .ok (.iload_n 3, 1) := by decide +kernel
theorem d_Pro_keepFound_15 : decode b_Pro_keepFound 15 = .ok (.ireturn, 1) := by decide +kernel
theorem d_Pro_calculate_0 : decode b_Pro_calculate 0 = .ok (.lload_n 3, 1) := by decide +kernel
theorem d_Pro_calculate_1 : decode b_Pro_calculate 1 = .ok (.invokestatic 165, 3) := by decide +kernel
theorem d_Pro_calculate_4 : decode b_Pro_calculate 4 = .ok (.ifCond .eq 11, 3) := by decide +kernel
theorem d_Pro_calculate_7 : decode b_Pro_calculate 7 = .ok (.lload 5, 2) := by decide +kernel
theorem d_Pro_calculate_9 : decode b_Pro_calculate 9 = .ok (.invokestatic 165, 3) := by decide +kernel
theorem d_Pro_calculate_12 : decode b_Pro_calculate 12 = .ok (.ifCond .ne 5, 3) := by decide +kernel
theorem d_Pro_calculate_15 : decode b_Pro_calculate 15 = .ok (.iconst 1, 1) := by decide +kernel
theorem d_Pro_calculate_16 : decode b_Pro_calculate 16 = .ok (.ireturn, 1) := by decide +kernel
theorem d_Pro_calculate_17 : decode b_Pro_calculate 17 = .ok (.lload_n 3, 1) := by decide +kernel
theorem d_Pro_calculate_18 : decode b_Pro_calculate 18 = .ok (.l2i, 1) := by decide +kernel
theorem d_Pro_calculate_19 : decode b_Pro_calculate 19 = .ok (.istore 7, 2) := by decide +kernel
theorem d_Pro_calculate_21 : decode b_Pro_calculate 21 = .ok (.lload 5, 2) := by decide +kernel
theorem d_Pro_calculate_23 : decode b_Pro_calculate 23 = .ok (.l2i, 1) := by decide +kernel
theorem d_Pro_calculate_24 : decode b_Pro_calculate 24 = .ok (.istore 8, 2) := by decide +kernel
theorem d_Pro_calculate_26 : decode b_Pro_calculate 26 = .ok (.aload_n 1, 1) := by decide +kernel
theorem d_Pro_calculate_27 : decode b_Pro_calculate 27 = .ok (.iload_n 2, 1) := by decide +kernel
theorem d_Pro_calculate_28 : decode b_Pro_calculate 28 = .ok (.iload_n 0, 1) := by decide +kernel
theorem d_Pro_calculate_29 : decode b_Pro_calculate 29 = .ok (.bipush 8, 2) := by decide +kernel
theorem d_Pro_calculate_31 : decode b_Pro_calculate 31 = .ok (.if_icmp .ne 12, 3) := by decide +kernel
theorem d_Pro_calculate_34 : decode b_Pro_calculate 34 = .ok (.iload 7, 2) := by decide +kernel
theorem d_Pro_calculate_36 : decode b_Pro_calculate 36 = .ok (.iload 8, 2) := by decide +kernel
theorem d_Pro_calculate_38 : decode b_Pro_calculate 38 = .ok (.iadd, 1) := by decide +kernel
theorem d_Pro_calculate_39 : decode b_Pro_calculate 39 = .ok (.i2l, 1) := by decide +kernel
theorem d_Pro_calculate_40 : decode b_Pro_calculate 40 = .ok (.goto 24, 3) := by decide +kernel
theorem d_Pro_calculate_43 : decode b_Pro_calculate 43 = .ok (.iload_n 0, 1) := by decide +kernel
theorem d_Pro_calculate_44 : decode b_Pro_calculate 44 = .ok (.bipush 9, 2) := by decide +kernel
theorem d_Pro_calculate_46 : decode b_Pro_calculate 46 = .ok (.if_icmp .ne 12, 3) := by decide +kernel
theorem d_Pro_calculate_49 : decode b_Pro_calculate 49 = .ok (.iload 7, 2) := by decide +kernel
theorem d_Pro_calculate_51 : decode b_Pro_calculate 51 = .ok (.iload 8, 2) := by decide +kernel
theorem d_Pro_calculate_53 : decode b_Pro_calculate 53 = .ok (.isub, 1) := by decide +kernel
theorem d_Pro_calculate_54 : decode b_Pro_calculate 54 = .ok (.i2l, 1) := by decide +kernel
theorem d_Pro_calculate_55 : decode b_Pro_calculate 55 = .ok (.goto 9, 3) := by decide +kernel
theorem d_Pro_calculate_58 : decode b_Pro_calculate 58 = .ok (.iload 7, 2) := by decide +kernel
theorem d_Pro_calculate_60 : decode b_Pro_calculate 60 = .ok (.iload 8, 2) := by decide +kernel
theorem d_Pro_calculate_62 : decode b_Pro_calculate 62 = .ok (.imul, 1) := by decide +kernel
theorem d_Pro_calculate_63 : decode b_Pro_calculate 63 = .ok (.i2l, 1) := by decide +kernel
theorem d_Pro_calculate_64 : decode b_Pro_calculate 64 = .ok (.lastore, 1) := by decide +kernel
theorem d_Pro_calculate_65 : decode b_Pro_calculate 65 = .ok (.iconst 0, 1) := by decide +kernel
theorem d_Pro_calculate_66 : decode b_Pro_calculate 66 = .ok (.ireturn, 1) := by decide +kernel
theorem d_TCM_isNumber_0 : decode b_TCM_isNumber 0 = .ok (.lload_n 0, 1) := by decide +kernel
theorem d_TCM_isNumber_1 : decode b_TCM_isNumber 1 = .ok (.ldc2_w 182, 3) := by decide +kernel
theorem d_TCM_isNumber_4 : decode b_TCM_isNumber 4 = .ok (.lcmp, 1) := by decide +kernel
theorem d_TCM_isNumber_5 : decode b_TCM_isNumber 5 = .ok (.ifCond .lt 15, 3) := by decide +kernel
theorem d_TCM_isNumber_8 : decode b_TCM_isNumber 8 = .ok (.lload_n 0, 1) := by decide +kernel
theorem d_TCM_isNumber_9 : decode b_TCM_isNumber 9 = .ok (.ldc2_w 184, 3) := by decide +kernel
theorem d_TCM_isNumber_12 : decode b_TCM_isNumber 12 = .ok (.lcmp, 1) := by decide +kernel
theorem d_TCM_isNumber_13 : decode b_TCM_isNumber 13 = .ok (.ifCond .gt 7, 3) := by decide +kernel
theorem d_TCM_isNumber_16 : decode b_TCM_isNumber 16 = .ok (.iconst 1, 1) := by decide +kernel
theorem d_TCM_isNumber_17 : decode b_TCM_isNumber 17 = .ok (.goto 4, 3) := by decide +kernel
theorem d_TCM_isNumber_20 : decode b_TCM_isNumber 20 = .ok (.iconst 0, 1) := by decide +kernel
theorem d_TCM_isNumber_21 : decode b_TCM_isNumber 21 = .ok (.ireturn, 1) := by decide +kernel
theorem d_Pro_jumpIfBelow_0 : decode b_Pro_jumpIfBelow 0 = .ok (.lload_n 1, 1) := by decide +kernel
theorem d_Pro_jumpIfBelow_1 : decode b_Pro_jumpIfBelow 1 = .ok (.invokestatic 165, 3) := by decide +kernel
theorem d_Pro_jumpIfBelow_4 : decode b_Pro_jumpIfBelow 4 = .ok (.ifCond .eq 10, 3) := by decide +kernel
theorem d_Pro_jumpIfBelow_7 : decode b_Pro_jumpIfBelow 7 = .ok (.lload_n 3, 1) := by decide +kernel
theorem d_Pro_jumpIfBelow_8 : decode b_Pro_jumpIfBelow 8 = .ok (.invokestatic 165, 3) := by decide +kernel
theorem d_Pro_jumpIfBelow_11 : decode b_Pro_jumpIfBelow 11 = .ok (.ifCond .ne 5, 3) := by decide +kernel
theorem d_Pro_jumpIfBelow_14 : decode b_Pro_jumpIfBelow 14 = .ok (.iconst 1, 1) := by decide +kernel
theorem d_Pro_jumpIfBelow_15 : decode b_Pro_jumpIfBelow 15 = .ok (.ireturn, 1) := by decide +kernel
theorem d_Pro_jumpIfBelow_16 : decode b_Pro_jumpIfBelow 16 = .ok (.aload_n 0, 1) := by decide +kernel
theorem d_Pro_jumpIfBelow_17 : decode b_Pro_jumpIfBelow 17 = .ok (.lload_n 1, 1) := by decide +kernel
theorem d_Pro_jumpIfBelow_18 : decode b_Pro_jumpIfBelow 18 = .ok (.lload_n 3, 1) := by decide +kernel
theorem d_Pro_jumpIfBelow_19 : decode b_Pro_jumpIfBelow 19 = .ok (.lcmp, 1) := by decide +kernel
theorem d_Pro_jumpIfBelow_20 : decode b_Pro_jumpIfBelow 20 = .ok (.ifCond .ge 7, 3) := by decide +kernel
theorem d_Pro_jumpIfBelow_23 : decode b_Pro_jumpIfBelow 23 = .ok (.iconst 1, 1) := by decide +kernel
theorem d_Pro_jumpIfBelow_24 : decode b_Pro_jumpIfBelow 24 = .ok (.goto 4, 3) := by decide +kernel
theorem d_Pro_jumpIfBelow_27 : decode b_Pro_jumpIfBelow 27 = .ok (.iconst 0, 1) := by decide +kernel
theorem d_Pro_jumpIfBelow_28 : decode b_Pro_jumpIfBelow 28 = .ok (.iload 5, 2) := by decide +kernel
theorem d_Pro_jumpIfBelow_30 : decode b_Pro_jumpIfBelow 30 = .ok (.invokevirtual 145, 3) := by decide +kernel
theorem d_Pro_jumpIfBelow_33 : decode b_Pro_jumpIfBelow 33 = .ok (.ireturn, 1) := by decide +kernel
theorem d_Pro_jumpIf_0 : decode b_Pro_jumpIf 0 = .ok (.iload_n 1, 1) := by decide +kernel
theorem d_Pro_jumpIf_1 : decode b_Pro_jumpIf 1 = .ok (.ifCond .eq 13, 3) := by decide +kernel
theorem d_Pro_jumpIf_4 : decode b_Pro_jumpIf 4 = .ok (.aload_n 0, 1) := by decide +kernel
theorem d_Pro_jumpIf_5 : decode b_Pro_jumpIf 5 = .ok (.iload_n 2, 1) := by decide +kernel
theorem d_Pro_jumpIf_6 : decode b_Pro_jumpIf 6 = .ok (.bipush 16, 2) := by decide +kernel
theorem d_Pro_jumpIf_8 : decode b_Pro_jumpIf 8 = .ok (.invokestatic 108, 3) := by decide +kernel
theorem d_Pro_jumpIf_11 : decode b_Pro_jumpIf 11 = .ok (.putfield 30, 3) := by decide +kernel
theorem d_Pro_jumpIf_14 : decode b_Pro_jumpIf 14 = .ok (.iconst 0, 1) := by decide +kernel
theorem d_Pro_jumpIf_15 : decode b_Pro_jumpIf 15 = .ok (.ireturn, 1) := by decide +kernel
theorem d_Pro_leave_0 : decode b_Pro_leave 0 = .ok (.aload_n 0, 1) := by decide +kernel
theorem d_Pro_leave_1 : decode b_Pro_leave 1 = .ok (.dup, 1) := by decide +kernel
theorem d_Pro_leave_2 : decode b_Pro_leave 2 = .ok (.getfield 23, 3) := by decide +kernel
theorem d_Pro_leave_5 : decode b_Pro_leave 5 = .ok (.iconst 1, 1) := by decide +kernel
theorem d_Pro_leave_6 : decode b_Pro_leave 6 = .ok (.isub, 1) := by decide +kernel
theorem d_Pro_leave_7 : decode b_Pro_leave 7 = .ok (.putfield 23, 3) := by decide +kernel
theorem d_Pro_leave_10 : decode b_Pro_leave 10 = .ok (.aload_n 0, 1) := by decide +kernel
theorem d_Pro_leave_11 : decode b_Pro_leave 11 = .ok (.getfield 23, 3) := by decide +kernel
theorem d_Pro_leave_14 : decode b_Pro_leave 14 = .ok (.ifCond .ne 9, 3) := by decide +kernel
theorem d_Pro_leave_17 : decode b_Pro_leave 17 = .ok (.aload_n 0, 1) := by decide +kernel
theorem d_Pro_leave_18 : decode b_Pro_leave 18 = .ok (.lload_n 1, 1) := by decide +kernel
theorem d_Pro_leave_19 : decode b_Pro_leave 19 = .ok (.putfield 35, 3) := by decide +kernel
theorem d_Pro_leave_22 : decode b_Pro_leave 22 = .ok (.return_, 1) := by decide +kernel
theorem d_Pro_leave_23 : decode b_Pro_leave 23 = .ok (.aload_n 0, 1) := by decide +kernel
theorem d_Pro_leave_24 : decode b_Pro_leave 24 = .ok (.getfield 19, 3) := by decide +kernel
theorem d_Pro_leave_27 : decode b_Pro_leave 27 = .ok (.aload_n 0, 1) := by decide +kernel
theorem d_Pro_leave_28 : decode b_Pro_leave 28 = .ok (.getfield 23, 3) := by decide +kernel
theorem d_Pro_leave_31 : decode b_Pro_leave 31 = .ok (.iconst 1, 1) := by decide +kernel
theorem d_Pro_leave_32 : decode b_Pro_leave 32 = .ok (.isub, 1) := by decide +kernel
theorem d_Pro_leave_33 : decode b_Pro_leave 33 = .ok (.aaload, 1) := by decide +kernel
theorem d_Pro_leave_34 : decode b_Pro_leave 34 = .ok (.astore_n 3, 1) := by decide +kernel
theorem d_Pro_leave_35 : decode b_Pro_leave 35 = .ok (.aload_n 3, 1) := by decide +kernel
theorem d_Pro_leave_36 : decode b_Pro_leave 36 = .ok (.getfield 88, 3) := by decide +kernel
theorem d_Pro_leave_39 : decode b_Pro_leave 39 = .ok (.aload_n 3, 1) := by decide +kernel
theorem d_Pro_leave_40 : decode b_Pro_leave 40 = .ok (.getfield 99, 3) := by decide +kernel
theorem d_Pro_leave_43 : decode b_Pro_leave 43 = .ok (.lload_n 1, 1) := by decide +kernel
theorem d_Pro_leave_44 : decode b_Pro_leave 44 = .ok (.lastore, 1) := by decide +kernel
theorem d_Pro_leave_45 : decode b_Pro_leave 45 = .ok (.aload_n 3, 1) := by decide +kernel
theorem d_Pro_leave_46 : decode b_Pro_leave 46 = .ok (.dup, 1) := by decide +kernel
theorem d_Pro_leave_47 : decode b_Pro_leave 47 = .ok (.getfield 51, 3) := by decide +kernel
theorem d_Pro_leave_50 : decode b_Pro_leave 50 = .ok (.iconst 1, 1) := by decide +kernel
theorem d_Pro_leave_51 : decode b_Pro_leave 51 = .ok (.iadd, 1) := by decide +kernel
theorem d_Pro_leave_52 : decode b_Pro_leave 52 = .ok (.putfield 51, 3) := by decide +kernel
theorem d_Pro_leave_55 : decode b_Pro_leave 55 = .ok (.return_, 1) := by decide +kernel
theorem d_Pro_endActive_0 : decode b_Pro_endActive 0 = .ok (.iconst 0, 1) := by decide +kernel
theorem d_Pro_endActive_1 : decode b_Pro_endActive 1 = .ok (.istore_n 1, 1) := by decide +kernel
theorem d_Pro_endActive_2 : decode b_Pro_endActive 2 = .ok (.iload_n 1, 1) := by decide +kernel
theorem d_Pro_endActive_3 : decode b_Pro_endActive 3 = .ok (.aload_n 0, 1) := by decide +kernel
theorem d_Pro_endActive_4 : decode b_Pro_endActive 4 = .ok (.getfield 23, 3) := by decide +kernel
theorem d_Pro_endActive_7 : decode b_Pro_endActive 7 = .ok (.if_icmp .ge 19, 3) := by decide +kernel
theorem d_Pro_endActive_10 : decode b_Pro_endActive 10 = .ok (.aload_n 0, 1) := by decide +kernel
theorem d_Pro_endActive_11 : decode b_Pro_endActive 11 = .ok (.getfield 19, 3) := by decide +kernel
theorem d_Pro_endActive_14 : decode b_Pro_endActive 14 = .ok (.iload_n 1, 1) := by decide +kernel
theorem d_Pro_endActive_15 : decode b_Pro_endActive 15 = .ok (.aaload, 1) := by decide +kernel
theorem d_Pro_endActive_16 : decode b_Pro_endActive 16 = .ok (.iconst 3, 1) := by decide +kernel
theorem d_Pro_endActive_17 : decode b_Pro_endActive 17 = .ok (.putfield 85, 3) := by decide +kernel
theorem d_Pro_endActive_20 : decode b_Pro_endActive 20 = .ok (.iinc 1 1, 3) := by decide +kernel
theorem d_Pro_endActive_23 : decode b_Pro_endActive 23 = .ok (.goto (-21), 3) := by decide +kernel
theorem d_Pro_endActive_26 : decode b_Pro_endActive 26 = .ok (.aload_n 0, 1) := by decide +kernel
theorem d_Pro_endActive_27 : decode b_Pro_endActive 27 = .ok (.iconst 0, 1) := by decide +kernel
theorem d_Pro_endActive_28 : decode b_Pro_endActive 28 = .ok (.putfield 23, 3) := by decide +kernel
theorem d_Pro_endActive_31 : decode b_Pro_endActive 31 = .ok (.return_, 1) := by decide +kernel
theorem d_TCM_collect_0 : decode b_TCM_collect 0 = .ok (.iload_n 1, 1) := by decide +kernel
theorem d_TCM_collect_1 : decode b_TCM_collect 1 = .ok (.iconst 1, 1) := by decide +kernel
theorem d_TCM_collect_2 : decode b_TCM_collect 2 = .ok (.bipush 100, 2) := by decide +kernel
theorem d_TCM_collect_4 : decode b_TCM_collect 4 = .ok (.invokestatic 25, 3) := by decide +kernel
theorem d_TCM_collect_7 : decode b_TCM_collect 7 = .ok (.aload_n 0, 1) := by decide +kernel
theorem d_TCM_collect_8 : decode b_TCM_collect 8 = .ok (.getfield 12, 3) := by decide +kernel
theorem d_TCM_collect_11 : decode b_TCM_collect 11 = .ok (.getfield 90, 3) := by decide +kernel
theorem d_TCM_collect_14 : decode b_TCM_collect 14 = .ok (.istore_n 2, 1) := by decide +kernel
theorem d_TCM_collect_15 : decode b_TCM_collect 15 = .ok (.iconst 0, 1) := by decide +kernel
theorem d_TCM_collect_16 : decode b_TCM_collect 16 = .ok (.istore_n 3, 1) := by decide +kernel
theorem d_TCM_collect_17 : decode b_TCM_collect 17 = .ok (.iload_n 3, 1) := by decide +kernel
theorem d_TCM_collect_18 : decode b_TCM_collect 18 = .ok (.iload_n 1, 1) := by decide +kernel
theorem d_TCM_collect_19 : decode b_TCM_collect 19 = .ok (.if_icmp .ge 16, 3) := by decide +kernel
theorem d_TCM_collect_22 : decode b_TCM_collect 22 = .ok (.aload_n 0, 1) := by decide +kernel
theorem d_TCM_collect_23 : decode b_TCM_collect 23 = .ok (.getfield 12, 3) := by decide +kernel
theorem d_TCM_collect_26 : decode b_TCM_collect 26 = .ok (.invokevirtual 93, 3) := by decide +kernel
theorem d_TCM_collect_29 : decode b_TCM_collect 29 = .ok (.iinc 3 1, 3) := by decide +kernel
theorem d_TCM_collect_32 : decode b_TCM_collect 32 = .ok (.goto (-15), 3) := by decide +kernel
theorem d_TCM_collect_35 : decode b_TCM_collect 35 = .ok (.aload_n 0, 1) := by decide +kernel
theorem d_TCM_collect_36 : decode b_TCM_collect 36 = .ok (.getfield 12, 3) := by decide +kernel
theorem d_TCM_collect_39 : decode b_TCM_collect 39 = .ok (.getfield 90, 3) := by decide +kernel
theorem d_TCM_collect_42 : decode b_TCM_collect 42 = .ok (.iload_n 2, 1) := by decide +kernel
theorem d_TCM_collect_43 : decode b_TCM_collect 43 = .ok (.isub, 1) := by decide +kernel
theorem d_TCM_collect_44 : decode b_TCM_collect 44 = .ok (.ireturn, 1) := by decide +kernel
theorem d_TCM_global_0 : decode b_TCM_global 0 = .ok (.iload_n 1, 1) := by decide +kernel
theorem d_TCM_global_1 : decode b_TCM_global 1 = .ok (.invokestatic 48, 3) := by decide +kernel
theorem d_TCM_global_4 : decode b_TCM_global 4 = .ok (.aload_n 0, 1) := by decide +kernel
theorem d_TCM_global_5 : decode b_TCM_global 5 = .ok (.getfield 12, 3) := by decide +kernel
theorem d_TCM_global_8 : decode b_TCM_global 8 = .ok (.getfield 52, 3) := by decide +kernel
theorem d_TCM_global_11 : decode b_TCM_global 11 = .ok (.iload_n 1, 1) := by decide +kernel
theorem d_TCM_global_12 : decode b_TCM_global 12 = .ok (.laload, 1) := by decide +kernel
theorem d_TCM_global_13 : decode b_TCM_global 13 = .ok (.lreturn, 1) := by decide +kernel
theorem d_TCM_object_0 : decode b_TCM_object 0 = .ok (.iload_n 1, 1) := by decide +kernel
theorem d_TCM_object_1 : decode b_TCM_object 1 = .ok (.iconst 0, 1) := by decide +kernel
theorem d_TCM_object_2 : decode b_TCM_object 2 = .ok (.bipush 15, 2) := by decide +kernel
theorem d_TCM_object_4 : decode b_TCM_object 4 = .ok (.invokestatic 25, 3) := by decide +kernel
theorem d_TCM_object_7 : decode b_TCM_object 7 = .ok (.iload_n 2, 1) := by decide +kernel
theorem d_TCM_object_8 : decode b_TCM_object 8 = .ok (.iconst 0, 1) := by decide +kernel
theorem d_TCM_object_9 : decode b_TCM_object 9 = .ok (.iconst 3, 1) := by decide +kernel
theorem d_TCM_object_10 : decode b_TCM_object 10 = .ok (.invokestatic 25, 3) := by decide +kernel
theorem d_TCM_object_13 : decode b_TCM_object 13 = .ok (.aload_n 0, 1) := by decide +kernel
theorem d_TCM_object_14 : decode b_TCM_object 14 = .ok (.getfield 12, 3) := by decide +kernel
theorem d_TCM_object_17 : decode b_TCM_object 17 = .ok (.getfield 99, 3) := by decide +kernel
theorem d_TCM_object_20 : decode b_TCM_object 20 = .ok (.iload_n 1, 1) := by decide +kernel
theorem d_TCM_object_21 : decode b_TCM_object 21 = .ok (.aaload, 1) := by decide +kernel
theorem d_TCM_object_22 : decode b_TCM_object 22 = .ok (.astore_n 3, 1) := by decide +kernel
theorem d_TCM_object_23 : decode b_TCM_object 23 = .ok (.iload_n 2, 1) := by decide +kernel
theorem d_TCM_object_24 : decode b_TCM_object 24 = .ok (.ifCond .ne 8, 3) := by decide +kernel
theorem d_TCM_object_27 : decode b_TCM_object 27 = .ok (.aload_n 3, 1) := by decide +kernel
theorem d_TCM_object_28 : decode b_TCM_object 28 = .ok (.getfield 103, 3) := by decide +kernel
theorem d_TCM_object_31 : decode b_TCM_object 31 = .ok (.ireturn, 1) := by decide +kernel
theorem d_TCM_object_32 : decode b_TCM_object 32 = .ok (.aload_n 3, 1) := by decide +kernel
theorem d_TCM_object_33 : decode b_TCM_object 33 = .ok (.getfield 103, 3) := by decide +kernel
theorem d_TCM_object_36 : decode b_TCM_object 36 = .ok (.ifCond .ne 11, 3) := by decide +kernel
theorem d_TCM_object_39 : decode b_TCM_object 39 = .ok (.new 108, 3) := by decide +kernel
theorem d_TCM_object_42 : decode b_TCM_object 42 = .ok (.dup, 1) := by decide +kernel
theorem d_TCM_object_43 : decode b_TCM_object 43 = .ok (.invokespecial 110, 3) := by decide +kernel
theorem d_TCM_object_46 : decode b_TCM_object 46 = .ok (.athrow, 1) := by decide +kernel
theorem d_TCM_object_47 : decode b_TCM_object 47 = .ok (.iload_n 2, 1) := by decide +kernel
theorem d_TCM_object_48 : decode b_TCM_object 48 = .ok (.iconst 1, 1) := by decide +kernel
theorem d_TCM_object_49 : decode b_TCM_object 49 = .ok (.if_icmp .ne 8, 3) := by decide +kernel
theorem d_TCM_object_52 : decode b_TCM_object 52 = .ok (.aload_n 3, 1) := by decide +kernel
theorem d_TCM_object_53 : decode b_TCM_object 53 = .ok (.getfield 111, 3) := by decide +kernel
theorem d_TCM_object_56 : decode b_TCM_object 56 = .ok (.ireturn, 1) := by decide +kernel
theorem d_TCM_object_57 : decode b_TCM_object 57 = .ok (.aload_n 3, 1) := by decide +kernel
theorem d_TCM_object_58 : decode b_TCM_object 58 = .ok (.getfield 103, 3) := by decide +kernel
theorem d_TCM_object_61 : decode b_TCM_object 61 = .ok (.iconst 1, 1) := by decide +kernel
theorem d_TCM_object_62 : decode b_TCM_object 62 = .ok (.if_icmp .ne 26, 3) := by decide +kernel
theorem d_TCM_object_65 : decode b_TCM_object 65 = .ok (.iload_n 2, 1) := by decide +kernel
theorem d_TCM_object_66 : decode b_TCM_object 66 = .ok (.iconst 2, 1) := by decide +kernel
theorem d_TCM_object_67 : decode b_TCM_object 67 = .ok (.if_icmp .ne 13, 3) := by decide +kernel
theorem d_TCM_object_70 : decode b_TCM_object 70 = .ok (.aload_n 3, 1) := by decide +kernel
theorem d_TCM_object_71 : decode b_TCM_object 71 = .ok (.getfield 114, 3) := by decide +kernel
theorem d_TCM_object_74 : decode b_TCM_object 74 = .ok (.getfield 118, 3) := by decide +kernel
theorem d_TCM_object_77 : decode b_TCM_object 77 = .ok (.goto 10, 3) := by decide +kernel
theorem d_TCM_object_80 : decode b_TCM_object 80 = .ok (.aload_n 3, 1) := by decide +kernel
theorem d_TCM_object_81 : decode b_TCM_object 81 = .ok (.getfield 114, 3) := by decide +kernel
theorem d_TCM_object_84 : decode b_TCM_object 84 = .ok (.getfield 123, 3) := by decide +kernel
theorem d_TCM_object_87 : decode b_TCM_object 87 = .ok (.ireturn, 1) := by decide +kernel
theorem d_TCM_object_88 : decode b_TCM_object 88 = .ok (.iload_n 2, 1) := by decide +kernel
theorem d_TCM_object_89 : decode b_TCM_object 89 = .ok (.iconst 2, 1) := by decide +kernel
theorem d_TCM_object_90 : decode b_TCM_object 90 = .ok (.if_icmp .ne 13, 3) := by decide +kernel
theorem d_TCM_object_93 : decode b_TCM_object 93 = .ok (.aload_n 3, 1) := by decide +kernel
theorem d_TCM_object_94 : decode b_TCM_object 94 = .ok (.getfield 126, 3) := by decide +kernel
theorem d_TCM_object_97 : decode b_TCM_object 97 = .ok (.getfield 130, 3) := by decide +kernel
theorem d_TCM_object_100 : decode b_TCM_object 100 = .ok (.goto 10, 3) := by decide +kernel
theorem d_TCM_object_103 : decode b_TCM_object 103 = .ok (.aload_n 3, 1) := by decide +kernel
theorem d_TCM_object_104 : decode b_TCM_object 104 = .ok (.getfield 126, 3) := by decide +kernel
theorem d_TCM_object_107 : decode b_TCM_object 107 = .ok (.getfield 135, 3) := by decide +kernel
theorem d_TCM_object_110 : decode b_TCM_object 110 = .ok (.ireturn, 1) := by decide +kernel
theorem d_TCM_inside_0 : decode b_TCM_inside 0 = .ok (.iload_n 1, 1) := by decide +kernel
theorem d_TCM_inside_1 : decode b_TCM_inside 1 = .ok (.iconst 0, 1) := by decide +kernel
theorem d_TCM_inside_2 : decode b_TCM_inside 2 = .ok (.bipush 15, 2) := by decide +kernel
theorem d_TCM_inside_4 : decode b_TCM_inside 4 = .ok (.invokestatic 25, 3) := by decide +kernel
theorem d_TCM_inside_7 : decode b_TCM_inside 7 = .ok (.iload_n 2, 1) := by decide +kernel
theorem d_TCM_inside_8 : decode b_TCM_inside 8 = .ok (.ifCond .ge 11, 3) := by decide +kernel
theorem d_TCM_inside_11 : decode b_TCM_inside 11 = .ok (.new 138, 3) := by decide +kernel
theorem d_TCM_inside_14 : decode b_TCM_inside 14 = .ok (.dup, 1) := by decide +kernel
theorem d_TCM_inside_15 : decode b_TCM_inside 15 = .ok (.invokespecial 140, 3) := by decide +kernel
theorem d_TCM_inside_18 : decode b_TCM_inside 18 = .ok (.athrow, 1) := by decide +kernel
theorem d_TCM_inside_19 : decode b_TCM_inside 19 = .ok (.aload_n 0, 1) := by decide +kernel
theorem d_TCM_inside_20 : decode b_TCM_inside 20 = .ok (.getfield 12, 3) := by decide +kernel
theorem d_TCM_inside_23 : decode b_TCM_inside 23 = .ok (.getfield 99, 3) := by decide +kernel
theorem d_TCM_inside_26 : decode b_TCM_inside 26 = .ok (.iload_n 1, 1) := by decide +kernel
theorem d_TCM_inside_27 : decode b_TCM_inside 27 = .ok (.aaload, 1) := by decide +kernel
theorem d_TCM_inside_28 : decode b_TCM_inside 28 = .ok (.astore 4, 2) := by decide +kernel
theorem d_TCM_inside_30 : decode b_TCM_inside 30 = .ok (.iload_n 2, 1) := by decide +kernel
theorem d_TCM_inside_31 : decode b_TCM_inside 31 = .ok (.aload 4, 2) := by decide +kernel
theorem d_TCM_inside_33 : decode b_TCM_inside 33 = .ok (.iload_n 3, 1) := by decide +kernel
theorem d_TCM_inside_34 : decode b_TCM_inside 34 = .ok (.invokevirtual 141, 3) := by decide +kernel
theorem d_TCM_inside_37 : decode b_TCM_inside 37 = .ok (.if_icmp .lt 11, 3) := by decide +kernel
theorem d_TCM_inside_40 : decode b_TCM_inside 40 = .ok (.new 108, 3) := by decide +kernel
theorem d_TCM_inside_43 : decode b_TCM_inside 43 = .ok (.dup, 1) := by decide +kernel
theorem d_TCM_inside_44 : decode b_TCM_inside 44 = .ok (.invokespecial 110, 3) := by decide +kernel
theorem d_TCM_inside_47 : decode b_TCM_inside 47 = .ok (.athrow, 1) := by decide +kernel
theorem d_TCM_inside_48 : decode b_TCM_inside 48 = .ok (.aload 4, 2) := by decide +kernel
theorem d_TCM_inside_50 : decode b_TCM_inside 50 = .ok (.getfield 103, 3) := by decide +kernel
theorem d_TCM_inside_53 : decode b_TCM_inside 53 = .ok (.iconst 2, 1) := by decide +kernel
theorem d_TCM_inside_54 : decode b_TCM_inside 54 = .ok (.if_icmp .ne 14, 3) := by decide +kernel
theorem d_TCM_inside_57 : decode b_TCM_inside 57 = .ok (.aload 4, 2) := by decide +kernel
theorem d_TCM_inside_59 : decode b_TCM_inside 59 = .ok (.getfield 126, 3) := by decide +kernel
theorem d_TCM_inside_62 : decode b_TCM_inside 62 = .ok (.getfield 145, 3) := by decide +kernel
theorem d_TCM_inside_65 : decode b_TCM_inside 65 = .ok (.iload_n 2, 1) := by decide +kernel
theorem d_TCM_inside_66 : decode b_TCM_inside 66 = .ok (.laload, 1) := by decide +kernel
theorem d_TCM_inside_67 : decode b_TCM_inside 67 = .ok (.lreturn, 1) := by decide +kernel
theorem d_TCM_inside_68 : decode b_TCM_inside 68 = .ok (.iload_n 3, 1) := by decide +kernel
theorem d_TCM_inside_69 : decode b_TCM_inside 69 = .ok (.ifCond .eq 16, 3) := by decide +kernel
theorem d_TCM_inside_72 : decode b_TCM_inside 72 = .ok (.aload 4, 2) := by decide +kernel
theorem d_TCM_inside_74 : decode b_TCM_inside 74 = .ok (.getfield 114, 3) := by decide +kernel
theorem d_TCM_inside_77 : decode b_TCM_inside 77 = .ok (.getfield 148, 3) := by decide +kernel
theorem d_TCM_inside_80 : decode b_TCM_inside 80 = .ok (.iload_n 2, 1) := by decide +kernel
theorem d_TCM_inside_81 : decode b_TCM_inside 81 = .ok (.laload, 1) := by decide +kernel
theorem d_TCM_inside_82 : decode b_TCM_inside 82 = .ok (.goto 13, 3) := by decide +kernel
theorem d_TCM_inside_85 : decode b_TCM_inside 85 = .ok (.aload 4, 2) := by decide +kernel
theorem d_TCM_inside_87 : decode b_TCM_inside 87 = .ok (.getfield 114, 3) := by decide +kernel
theorem d_TCM_inside_90 : decode b_TCM_inside 90 = .ok (.getfield 151, 3) := by decide +kernel
theorem d_TCM_inside_93 : decode b_TCM_inside 93 = .ok (.iload_n 2, 1) := by decide +kernel
theorem d_TCM_inside_94 : decode b_TCM_inside 94 = .ok (.laload, 1) := by decide +kernel
theorem d_TCM_inside_95 : decode b_TCM_inside 95 = .ok (.lreturn, 1) := by decide +kernel
end

-- part 06.spec
section
/-! THE CLASS AS FUNCTIONS: its state (ints by field and object; longs by field, object and place; which coroutines are active), and what each method makes of it -/
abbrev CS : Type := (Nat → Nat → Int32) × (Nat → Nat → Nat → Int64) × (Nat → Option Nat)
def sI (C : CS) (f n : Nat) (v : Int32) : CS := (fun a b => if a = f ∧ b = n then v else C.1 a b, C.2.1, C.2.2)
def sJ (C : CS) (f n i : Nat) (v : Int64) : CS := (C.1, fun a b c => if a = f ∧ b = n ∧ c = i then v else C.2.1 a b c, C.2.2)
def sR (C : CS) (f n : Nat) (g : Nat → Int64) : CS := (C.1, fun a b c => if a = f ∧ b = n then g c else C.2.1 a b c, C.2.2)
def sA (C : CS) (i n : Nat) : CS := (C.1, C.2.1, va_up C.2.2 i (some n))
theorem sI_1 (C : CS) (f n a b : Nat) (v : Int32) : (sI C f n v).1 a b = if a = f ∧ b = n then v else C.1 a b := rfl
theorem sI_2 (C : CS) (f n : Nat) (v : Int32) : (sI C f n v).2 = C.2 := rfl
theorem sJ_1 (C : CS) (f n i : Nat) (v : Int64) : (sJ C f n i v).1 = C.1 := rfl
theorem sJ_2 (C : CS) (f n i a b c : Nat) (v : Int64) : (sJ C f n i v).2.1 a b c = if a = f ∧ b = n ∧ c = i then v else C.2.1 a b c := rfl
theorem sJ_3 (C : CS) (f n i : Nat) (v : Int64) : (sJ C f n i v).2.2 = C.2.2 := rfl
theorem sR_1 (C : CS) (f n : Nat) (g : Nat → Int64) : (sR C f n g).1 = C.1 := rfl
theorem sR_2 (C : CS) (f n a b c : Nat) (g : Nat → Int64) : (sR C f n g).2.1 a b c = if a = f ∧ b = n then g c else C.2.1 a b c := rfl
theorem sR_3 (C : CS) (f n : Nat) (g : Nat → Int64) : (sR C f n g).2.2 = C.2.2 := rfl
theorem sA_1 (C : CS) (i n : Nat) : (sA C i n).1 = C.1 := rfl
theorem sA_2 (C : CS) (i n : Nat) : (sA C i n).2.1 = C.2.1 := rfl
theorem sA_3 (C : CS) (i n : Nat) : (sA C i n).2.2 = va_up C.2.2 i (some n) := rfl
/-- the value of object n; the number of an object's value -/
def oV (n : Nat) : Int64 := 10000000000 + lN n
def on (v : Int64) : Nat := (v - 10000000000).toInt32.toNatClampNeg
def okV (v : Int64) : Prop := v < 10000000000 ∨ ∃ n, n < 16 ∧ v = oV n
theorem oV_sub : ∀ n, n < 16 → (oV n - 10000000000).toInt32 = nI n := by decide
theorem oV_ge : ∀ n, n < 16 → ¬ oV n < 10000000000 := by decide
theorem on_oV {n : Nat} (h : n < 16) : on (oV n) = n := by unfold on; rw [oV_sub n h]; exact nI_clamp (by omega)
theorem okV_on {v : Int64} (h : okV v) (hv : ¬ v < 10000000000) : on v < 16 ∧ v = oV (on v) ∧ (v - 10000000000).toInt32 = nI (on v) := by
  rcases h with h | ⟨n, hn, rfl⟩
  · exact absurd h hv
  · rw [on_oV hn]; exact ⟨hn, rfl, oV_sub n hn⟩
/-- an answer that is a place, or -1 -/
def enc : Option Nat → Int32
  | none => -1
  | some i => nI i
/-- the first place from i on, of c, where p holds -/
def lst (p : Nat → Bool) : Nat → Nat → Option Nat
  | 0, _ => none
  | c + 1, i => if p i = true then some i else lst p c (i + 1)
theorem lst_lt {p : Nat → Bool} : ∀ (c i j : Nat), lst p c i = some j → i ≤ j ∧ j < i + c ∧ p j = true
  | 0, i, j, h => by cases h
  | c + 1, i, j, h => by
    unfold lst at h
    by_cases hp : p i = true
    · rw [if_pos hp] at h
      cases h
      exact ⟨Nat.le_refl _, by omega, hp⟩
    · rw [if_neg hp] at h
      obtain ⟨h1, h2, h3⟩ := lst_lt c (i + 1) j h
      exact ⟨by omega, by omega, h3⟩
def cPairs (C : CS) (n : Nat) : Nat := (C.1 2 n).toNatClampNeg
def tfind (C : CS) (n : Nat) (key : Int64) : Option Nat := lst (fun i => C.2.1 1 n i == key) (cPairs C n) 0
def isA (C : CS) (k : Int32) (v : Int64) : Bool := !decide (v < 10000000000) && decide (C.1 0 (on v) = k)
def tlinked (C : CS) (mt : Int32) (link : Int64) : Option Nat :=
  if mt < 0 then none else match tfind C mt.toNatClampNeg link with
    | none => none
    | some j => if isA C 1 (C.2.1 2 mt.toNatClampNeg j) = true then some (on (C.2.1 2 mt.toNatClampNeg j)) else none
def tlast (C : CS) (key link : Int64) : Nat → Nat → Option Nat
  | 0, _ => none
  | c + 1, n => match (if (tfind C n key).isSome = true then none else tlinked C (C.1 3 n) link) with
    | none => some n
    | some m => tlast C key link c m
def ctouch (C : CS) (n : Nat) : CS := if C.1 13 0 = 1 ∧ C.1 1 n = 2 then sI C 1 n 1 else C
def tclear (C : CS) (n : Nat) : CS := sI (sI C 2 n 0) 3 n (-1)
/-- a row whose first k places are v -/
def fil (v : Int64) (k : Nat) (f : Nat → Int64) : Nat → Int64 := fun i => if i < k then v else f i
def cclear (C : CS) (n : Nat) (f : Int32) : CS := sI (sI (sI (sI (sR C 3 n (fil (-1000000000000) 4 (C.2.1 3 n))) 4 n f) 5 n 0) 6 n 0) 7 n 0
def tappend (C : CS) (n : Nat) (key value : Int64) : CS := sI (sJ (sJ C 1 n (cPairs C n) key) 2 n (cPairs C n) value) 2 n (C.1 2 n + 1)
def ttake (C : CS) (n pair : Nat) : CS := sI (sR (sR C 1 n (va_cpy (C.2.1 1 n) (C.2.1 1 n) (pair + 1) pair (cPairs C n - pair - 1))) 2 n (va_cpy (C.2.1 2 n) (C.2.1 2 n) (pair + 1) pair (cPairs C n - pair - 1))) 2 n (C.1 2 n - 1)
def cbirth (C : CS) (n : Nat) : Int32 := if C.1 13 0 = 1 ∨ (C.1 13 0 = 2 ∧ C.1 14 0 ≤ nI n) then 2 else 0
def cfree (C : CS) : Option Nat := lst (fun n => C.1 0 n == 0) 16 0
def cgray (C : CS) : Option Nat := lst (fun n => C.1 1 n == 1) 16 0
def cactive (C : CS) (n : Nat) : Bool := decide (C.1 0 n = 2) && decide (C.1 6 n = 2)
/-- a row of values: the white objects in it become gray; how many -/
def cshade (C : CS) (n : Nat) : Int32 × CS := if C.1 1 n = 0 then (1, sI C 1 n 1) else (0, C)
def cshadeRow (row : Nat → Int64) : Nat → Nat → Int32 → CS → Int32 × CS
  | 0, _, a, C => (a, C)
  | c + 1, i, a, C => if ¬ row i < 10000000000 ∧ C.1 1 (on (row i)) = 0 then cshadeRow row c (i + 1) (a + 1) (sI C 1 (on (row i)) 1) else cshadeRow row c (i + 1) a C
def croots : Nat → Nat → Int32 → CS → Int32 × CS
  | 0, _, a, C => (a, C)
  | c + 1, n, a, C => if cactive C n = true then
      croots c (n + 1) (a + (cshade C n).1 + (cshadeRow (C.2.1 3 n) 4 0 0 (cshade C n).2).1) (cshadeRow (C.2.1 3 n) 4 0 0 (cshade C n).2).2
    else croots c (n + 1) a C
def cshadeRoots (C : CS) : Int32 × CS := croots 16 0 (cshadeRow (C.2.1 0 0) 6 0 0 C).1 (cshadeRow (C.2.1 0 0) 6 0 0 C).2
def cblacken (C : CS) (n : Nat) : CS :=
  let C1 := sI C 1 n 2
  if C.1 0 n = 2 then (cshadeRow (C.2.1 3 n) 4 0 0 C1).2
  else
    let C3 := (cshadeRow (C.2.1 2 n) (cPairs C n) 0 0 (cshadeRow (C.2.1 1 n) (cPairs C n) 0 0 C1).2).2
    if C.1 3 n < 0 then C3 else (cshade C3 (C.1 3 n).toNatClampNeg).2
def csweep (C : CS) : CS :=
  let i := (C.1 14 0).toNatClampNeg
  let C1 := if ¬ C.1 0 i = 0 ∧ C.1 1 i = 0 then sI (sI C 0 i 0) 16 0 (C.1 16 0 + 1) else C
  let C2 := sI (sI C1 1 i 0) 14 0 (C.1 14 0 + 1)
  if C.1 14 0 + 1 = 16 then sI (sI C2 14 0 0) 13 0 0 else C2
def cunit (C : CS) : CS :=
  let C1 := sI C 17 0 (C.1 17 0 + 1)
  if C.1 13 0 = 2 then csweep C1 else match cgray C1 with
    | some n => cblacken C1 n
    | none => sI (cshadeRoots C1).2 13 0 (if C.1 13 0 = 0 ∨ 0 < (cshadeRoots C1).1 then 1 else 2)
def cwhile : Nat → CS → CS
  | 0, C => C
  | c + 1, C => if C.1 13 0 = 0 then C else cwhile c (cunit C)
def cfull (C : CS) : CS := cwhile 1000 (cunit (cwhile 1000 (sI C 18 0 (C.1 18 0 + 1))))
def ccreate (C : CS) (kind f : Int32) : Int32 × CS :=
  let C0 := if (cfree C).isSome = true then C else cfull C
  match cfree C0 with
  | none => (3, C0)
  | some n =>
    let C1 := sI C0 0 n kind
    let C2 := sI C1 1 n (cbirth C1 n)
    let C3 := if kind = 1 then tclear C2 n else cclear C2 n f
    (0, sJ (sI C3 15 0 (C3.1 15 0 + 1)) 4 0 0 (10000000000 + (nI n).toInt64))
def cgetting (C : CS) (t k : Int64) : Int32 × CS :=
  if isA C 1 t = true then
    let C1 := sJ C 4 0 0 (-1000000000000)
    if k = -1000000000000 then (0, C1) else match tlast C1 k 0 5 (on t) with
      | none => (2, C1)
      | some n => match tfind C1 n k with
        | none => (0, C1)
        | some j => (0, sJ C1 4 0 0 (C1.2.1 2 n j))
  else (1, C)
def csetting (C : CS) (t k v : Int64) : Int32 × CS :=
  if isA C 1 t = true ∧ ¬ k = -1000000000000 then match tlast C k 1 5 (on t) with
    | none => (2, C)
    | some n => match tfind C n k with
      | none => if v = -1000000000000 then (0, C) else if C.1 2 n = 6 then (3, C) else (0, ctouch (tappend C n k v) n)
      | some j => if v = -1000000000000 then (0, ctouch (ttake C n j) n) else (0, ctouch (sJ C 2 n j v) n)
  else (1, C)
def csetMeta (C : CS) (t m : Int64) : Int32 × CS :=
  if isA C 1 t = true ∧ (m = -1000000000000 ∨ isA C 1 m = true) then (0, ctouch (sI C 3 (on t) (if m = -1000000000000 then -1 else nI (on m))) (on t)) else (1, C)
def ckeyAfter (C : CS) (t k : Int64) : Int32 × CS :=
  if isA C 1 t = true then
    if k = -1000000000000 then (0, sJ C 4 0 0 (if 0 < cPairs C (on t) then C.2.1 1 (on t) 0 else -1000000000000))
    else match tfind C (on t) k with
      | none => (1, C)
      | some j => (0, sJ C 4 0 0 (if j + 1 < cPairs C (on t) then C.2.1 1 (on t) (j + 1) else -1000000000000))
  else (1, C)
def chowMany (C : CS) (t : Int64) : Int32 × CS := if isA C 1 t = true then (0, sJ C 4 0 0 (C.1 2 (on t)).toInt64) else (1, C)
/-! the processor -/
def cDepth (C : CS) : Nat := (C.1 19 0).toNatClampNeg
def centerOk (C : CS) (v : Int64) : Int32 := if isA C 2 v = true ∧ ¬ C.1 6 (on v) = 3 ∧ ¬ C.1 6 (on v) = 2 then (if C.1 19 0 = 5 then 2 else 0) else 1
def center (C : CS) (v x : Int64) : Int32 × CS :=
  if centerOk C v = 0 then (0, sI (sA (ctouch (sI (sJ C 3 (on v) (C.1 7 (on v)).toNatClampNeg x) 6 (on v) 2) (on v)) (cDepth C) (on v)) 19 0 (C.1 19 0 + 1)) else (centerOk C v, C)
/-- the active coroutine at place i of the stack -/
def cact (C : CS) (i : Nat) : Nat := (C.2.2 i).getD 0
def cleave (C : CS) (x : Int64) : CS :=
  if C.1 19 0 - 1 = 0 then sJ (sI C 19 0 (C.1 19 0 - 1)) 5 0 0 x
  else
    let n := cact C (cDepth C - 2)
    let C1 := sJ (sI C 19 0 (C.1 19 0 - 1)) 3 n (C.1 8 n).toNatClampNeg x
    sI C1 5 n (C1.1 5 n + 1)
def cend : Nat → Nat → CS → CS
  | 0, _, C => sI C 19 0 0
  | c + 1, i, C => cend c (i + 1) (sI C 6 (cact C i) 3)
def fmod (x : Int32) (m : Nat) : Nat := (x.toInt % (m : Int)).toNat
def isNum (v : Int64) : Prop := -2147483648 ≤ v ∧ v ≤ 2147483647
def ckeep (C : CS) (n a : Nat) (tr : Int32) : CS := if tr = 0 then sJ C 3 n a (C.2.1 4 0 0) else C
noncomputable def ccalc (C : CS) (op : Int32) (n a : Nat) (x y : Int64) : Int32 × CS := by
  classical
  exact if isNum x ∧ isNum y then (0, sJ C 3 n a (if op = 8 then (x.toInt32 + y.toInt32).toInt64 else if op = 9 then (x.toInt32 - y.toInt32).toInt64 else (x.toInt32 * y.toInt32).toInt64)) else (1, C)
noncomputable def cbelow (C : CS) (x y : Int64) (p : Int32) : Int32 × CS := by
  classical
  exact if isNum x ∧ isNum y then (0, if x < y then sI C 21 0 (nI (fmod p 16)) else C) else (1, C)
/-- an INSTRUCTION begun: it counts, and the next place is one more -/
def cbeg (C : CS) (n : Nat) : CS := sI (sI C 20 0 (C.1 20 0 + 1)) 21 0 (C.1 5 n + 1)
def ckept (r : Int32 × CS) (n a : Nat) : Int32 × CS := (r.1, ckeep r.2 n a r.1)
/-- instruction k done by coroutine n, its op the number o -/
noncomputable def cperfO (C : CS) (n k : Nat) : Nat → Int32 × CS
  | 0 => (0, sJ (cbeg C n) 3 n (fmod (C.1 10 k) 4) (-1000000000000))
  | 1 => (0, sJ (cbeg C n) 3 n (fmod (C.1 10 k) 4) (C.1 12 k).toInt64)
  | 2 => (0, sJ (cbeg C n) 3 n (fmod (C.1 10 k) 4) (C.2.1 3 n (fmod (C.1 11 k) 4)))
  | 3 => (0, sJ (cbeg C n) 3 n (fmod (C.1 10 k) 4) (C.2.1 0 0 (fmod (C.1 12 k) 6)))
  | 4 => (0, sJ (cbeg C n) 0 0 (fmod (C.1 12 k) 6) (C.2.1 3 n (fmod (C.1 10 k) 4)))
  | 5 => ckept (ccreate (cbeg C n) 1 0) n (fmod (C.1 10 k) 4)
  | 6 => ckept (cgetting (cbeg C n) (C.2.1 3 n (fmod (C.1 11 k) 4)) (C.2.1 3 n (fmod (C.1 12 k) 4))) n (fmod (C.1 10 k) 4)
  | 7 => csetting (cbeg C n) (C.2.1 3 n (fmod (C.1 10 k) 4)) (C.2.1 3 n (fmod (C.1 11 k) 4)) (C.2.1 3 n (fmod (C.1 12 k) 4))
  | 8 => ccalc (cbeg C n) 8 n (fmod (C.1 10 k) 4) (C.2.1 3 n (fmod (C.1 11 k) 4)) (C.2.1 3 n (fmod (C.1 12 k) 4))
  | 9 => ccalc (cbeg C n) 9 n (fmod (C.1 10 k) 4) (C.2.1 3 n (fmod (C.1 11 k) 4)) (C.2.1 3 n (fmod (C.1 12 k) 4))
  | 10 => ccalc (cbeg C n) 10 n (fmod (C.1 10 k) 4) (C.2.1 3 n (fmod (C.1 11 k) 4)) (C.2.1 3 n (fmod (C.1 12 k) 4))
  | 11 => cbelow (cbeg C n) (C.2.1 3 n (fmod (C.1 10 k) 4)) (C.2.1 3 n (fmod (C.1 11 k) 4)) (C.1 12 k)
  | 12 => (0, sI (cbeg C n) 21 0 (nI (fmod (C.1 12 k) 16)))
  | 13 => (0, if C.2.1 3 n (fmod (C.1 10 k) 4) = -1000000000000 then sI (cbeg C n) 21 0 (nI (fmod (C.1 12 k) 16)) else cbeg C n)
  | 14 => (0, if C.2.1 3 n (fmod (C.1 10 k) 4) = C.2.1 3 n (fmod (C.1 11 k) 4) then sI (cbeg C n) 21 0 (nI (fmod (C.1 12 k) 16)) else cbeg C n)
  | 15 => csetMeta (cbeg C n) (C.2.1 3 n (fmod (C.1 10 k) 4)) (C.2.1 3 n (fmod (C.1 11 k) 4))
  | 16 => ckept (ccreate (cbeg C n) 2 (nI (fmod (C.1 12 k) 4))) n (fmod (C.1 10 k) 4)
  | 17 => center (sI (sI (cbeg C n) 21 0 (C.1 5 n)) 8 n (nI (fmod (C.1 10 k) 4))) (C.2.1 3 n (fmod (C.1 11 k) 4)) (C.2.1 3 n (fmod (C.1 12 k) 4))
  | 18 => (0, cleave (sI (sI (cbeg C n) 6 n 1) 7 n (nI (fmod (C.1 10 k) 4))) (C.2.1 3 n (fmod (C.1 10 k) 4)))
  | 19 => (0, cleave (sI (cbeg C n) 6 n 3) (C.2.1 3 n (fmod (C.1 10 k) 4)))
  | 20 => ckept (ckeyAfter (cbeg C n) (C.2.1 3 n (fmod (C.1 11 k) 4)) (C.2.1 3 n (fmod (C.1 12 k) 4))) n (fmod (C.1 10 k) 4)
  | 21 => ckept (chowMany (cbeg C n) (C.2.1 3 n (fmod (C.1 11 k) 4))) n (fmod (C.1 10 k) 4)
  | _ => (1, cbeg C n)
end
