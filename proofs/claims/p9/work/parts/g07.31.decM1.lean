theorem d_Mod_thrown_0 : decode b_Mod_thrown 0 = .ok (.aload_n 0, 1) := by decide +kernel
theorem d_Mod_thrown_1 : decode b_Mod_thrown 1 = .ok (.getfield 64, 3) := by decide +kernel
theorem d_Mod_thrown_4 : decode b_Mod_thrown 4 = .ok (.ireturn, 1) := by decide +kernel
theorem d_Mod_code_0 : decode b_Mod_code 0 = .ok (.aload_n 0, 1) := by decide +kernel
theorem d_Mod_code_1 : decode b_Mod_code 1 = .ok (.iload_n 1, 1) := by decide +kernel
theorem d_Mod_code_2 : decode b_Mod_code 2 = .ok (.ifCond .lt 29, 3) := by decide +kernel
theorem d_Mod_code_5 : decode b_Mod_code 5 = .ok (.iload_n 1, 1) := by decide +kernel
theorem d_Mod_code_6 : decode b_Mod_code 6 = .ok (.iconst 3, 1) := by decide +kernel
theorem d_Mod_code_7 : decode b_Mod_code 7 = .ok (.if_icmp .gt 24, 3) := by decide +kernel
theorem d_Mod_code_10 : decode b_Mod_code 10 = .ok (.iload_n 2, 1) := by decide +kernel
theorem d_Mod_code_11 : decode b_Mod_code 11 = .ok (.ifCond .lt 20, 3) := by decide +kernel
theorem d_Mod_code_14 : decode b_Mod_code 14 = .ok (.iload_n 2, 1) := by decide +kernel
theorem d_Mod_code_15 : decode b_Mod_code 15 = .ok (.bipush 15, 2) := by decide +kernel
theorem d_Mod_code_17 : decode b_Mod_code 17 = .ok (.if_icmp .gt 14, 3) := by decide +kernel
theorem d_Mod_code_20 : decode b_Mod_code 20 = .ok (.iload_n 3, 1) := by decide +kernel
theorem d_Mod_code_21 : decode b_Mod_code 21 = .ok (.iconst (-1), 1) := by decide +kernel
theorem d_Mod_code_22 : decode b_Mod_code 22 = .ok (.if_icmp .lt 9, 3) := by decide +kernel
theorem d_Mod_code_25 : decode b_Mod_code 25 = .ok (.iload_n 3, 1) := by decide +kernel
theorem d_Mod_code_26 : decode b_Mod_code 26 = .ok (.bipush 21, 2) := by decide +kernel
theorem d_Mod_code_28 : decode b_Mod_code 28 = .ok (.if_icmp .le 7, 3) := by decide +kernel
theorem d_Mod_code_31 : decode b_Mod_code 31 = .ok (.iconst 1, 1) := by decide +kernel
theorem d_Mod_code_32 : decode b_Mod_code 32 = .ok (.goto 4, 3) := by decide +kernel
theorem d_Mod_code_35 : decode b_Mod_code 35 = .ok (.iconst 0, 1) := by decide +kernel
theorem d_Mod_code_36 : decode b_Mod_code 36 = .ok (.putfield 64, 3) := by decide +kernel
theorem d_Mod_code_39 : decode b_Mod_code 39 = .ok (.aload_n 0, 1) := by decide +kernel
theorem d_Mod_code_40 : decode b_Mod_code 40 = .ok (.getfield 64, 3) := by decide +kernel
theorem d_Mod_code_43 : decode b_Mod_code 43 = .ok (.ifCond .eq 4, 3) := by decide +kernel
theorem d_Mod_code_46 : decode b_Mod_code 46 = .ok (.return_, 1) := by decide +kernel
theorem d_Mod_code_47 : decode b_Mod_code 47 = .ok (.iload_n 1, 1) := by decide +kernel
theorem d_Mod_code_48 : decode b_Mod_code 48 = .ok (.bipush 16, 2) := by decide +kernel
theorem d_Mod_code_50 : decode b_Mod_code 50 = .ok (.imul, 1) := by decide +kernel
theorem d_Mod_code_51 : decode b_Mod_code 51 = .ok (.iload_n 2, 1) := by decide +kernel
theorem d_Mod_code_52 : decode b_Mod_code 52 = .ok (.iadd, 1) := by decide +kernel
theorem d_Mod_code_53 : decode b_Mod_code 53 = .ok (.istore 7, 2) := by decide +kernel
theorem d_Mod_code_55 : decode b_Mod_code 55 = .ok (.aload_n 0, 1) := by decide +kernel
theorem d_Mod_code_56 : decode b_Mod_code 56 = .ok (.getfield 7, 3) := by decide +kernel
theorem d_Mod_code_59 : decode b_Mod_code 59 = .ok (.iload 7, 2) := by decide +kernel
theorem d_Mod_code_61 : decode b_Mod_code 61 = .ok (.iload_n 3, 1) := by decide +kernel
theorem d_Mod_code_62 : decode b_Mod_code 62 = .ok (.iastore, 1) := by decide +kernel
theorem d_Mod_code_63 : decode b_Mod_code 63 = .ok (.aload_n 0, 1) := by decide +kernel
theorem d_Mod_code_64 : decode b_Mod_code 64 = .ok (.getfield 13, 3) := by decide +kernel
theorem d_Mod_code_67 : decode b_Mod_code 67 = .ok (.iload 7, 2) := by decide +kernel
theorem d_Mod_code_69 : decode b_Mod_code 69 = .ok (.iload 4, 2) := by decide +kernel
theorem d_Mod_code_71 : decode b_Mod_code 71 = .ok (.iastore, 1) := by decide +kernel
theorem d_Mod_code_72 : decode b_Mod_code 72 = .ok (.aload_n 0, 1) := by decide +kernel
theorem d_Mod_code_73 : decode b_Mod_code 73 = .ok (.getfield 16, 3) := by decide +kernel
theorem d_Mod_code_76 : decode b_Mod_code 76 = .ok (.iload 7, 2) := by decide +kernel
theorem d_Mod_code_78 : decode b_Mod_code 78 = .ok (.iload 5, 2) := by decide +kernel
theorem d_Mod_code_80 : decode b_Mod_code 80 = .ok (.iastore, 1) := by decide +kernel
theorem d_Mod_code_81 : decode b_Mod_code 81 = .ok (.aload_n 0, 1) := by decide +kernel
theorem d_Mod_code_82 : decode b_Mod_code 82 = .ok (.getfield 19, 3) := by decide +kernel
theorem d_Mod_code_85 : decode b_Mod_code 85 = .ok (.iload 7, 2) := by decide +kernel
theorem d_Mod_code_87 : decode b_Mod_code 87 = .ok (.iload 6, 2) := by decide +kernel
theorem d_Mod_code_89 : decode b_Mod_code 89 = .ok (.iastore, 1) := by decide +kernel
theorem d_Mod_code_90 : decode b_Mod_code 90 = .ok (.return_, 1) := by decide +kernel
theorem d_Mod_number_0 : decode b_Mod_number 0 = .ok (.aload_n 0, 1) := by decide +kernel
theorem d_Mod_number_1 : decode b_Mod_number 1 = .ok (.aload_n 0, 1) := by decide +kernel
theorem d_Mod_number_2 : decode b_Mod_number 2 = .ok (.iload_n 1, 1) := by decide +kernel
theorem d_Mod_number_3 : decode b_Mod_number 3 = .ok (.invokevirtual 78, 3) := by decide +kernel
theorem d_Mod_number_6 : decode b_Mod_number 6 = .ok (.ifCond .eq 7, 3) := by decide +kernel
theorem d_Mod_number_9 : decode b_Mod_number 9 = .ok (.iconst 1, 1) := by decide +kernel
theorem d_Mod_number_10 : decode b_Mod_number 10 = .ok (.goto 4, 3) := by decide +kernel
theorem d_Mod_number_13 : decode b_Mod_number 13 = .ok (.iconst 0, 1) := by decide +kernel
theorem d_Mod_number_14 : decode b_Mod_number 14 = .ok (.putfield 64, 3) := by decide +kernel
theorem d_Mod_number_17 : decode b_Mod_number 17 = .ok (.aload_n 0, 1) := by decide +kernel
theorem d_Mod_number_18 : decode b_Mod_number 18 = .ok (.getfield 64, 3) := by decide +kernel
theorem d_Mod_number_21 : decode b_Mod_number 21 = .ok (.ifCond .ne 11, 3) := by decide +kernel
theorem d_Mod_number_24 : decode b_Mod_number 24 = .ok (.aload_n 0, 1) := by decide +kernel
theorem d_Mod_number_25 : decode b_Mod_number 25 = .ok (.getfield 22, 3) := by decide +kernel
theorem d_Mod_number_28 : decode b_Mod_number 28 = .ok (.iload_n 1, 1) := by decide +kernel
theorem d_Mod_number_29 : decode b_Mod_number 29 = .ok (.iload_n 2, 1) := by decide +kernel
theorem d_Mod_number_30 : decode b_Mod_number 30 = .ok (.i2l, 1) := by decide +kernel
theorem d_Mod_number_31 : decode b_Mod_number 31 = .ok (.lastore, 1) := by decide +kernel
theorem d_Mod_number_32 : decode b_Mod_number 32 = .ok (.return_, 1) := by decide +kernel
theorem d_Mod_badGlobal_0 : decode b_Mod_badGlobal 0 = .ok (.iload_n 1, 1) := by decide +kernel
theorem d_Mod_badGlobal_1 : decode b_Mod_badGlobal 1 = .ok (.ifCond .lt 8, 3) := by decide +kernel
theorem d_Mod_badGlobal_4 : decode b_Mod_badGlobal 4 = .ok (.iload_n 1, 1) := by decide +kernel
theorem d_Mod_badGlobal_5 : decode b_Mod_badGlobal 5 = .ok (.iconst 5, 1) := by decide +kernel
theorem d_Mod_badGlobal_6 : decode b_Mod_badGlobal 6 = .ok (.if_icmp .le 7, 3) := by decide +kernel
theorem d_Mod_badGlobal_9 : decode b_Mod_badGlobal 9 = .ok (.iconst 1, 1) := by decide +kernel
theorem d_Mod_badGlobal_10 : decode b_Mod_badGlobal 10 = .ok (.goto 4, 3) := by decide +kernel
theorem d_Mod_badGlobal_13 : decode b_Mod_badGlobal 13 = .ok (.iconst 0, 1) := by decide +kernel
theorem d_Mod_badGlobal_14 : decode b_Mod_badGlobal 14 = .ok (.ireturn, 1) := by decide +kernel
theorem d_Mod_move_0 : decode b_Mod_move 0 = .ok (.aload_n 0, 1) := by decide +kernel
theorem d_Mod_move_1 : decode b_Mod_move 1 = .ok (.aload_n 0, 1) := by decide +kernel
theorem d_Mod_move_2 : decode b_Mod_move 2 = .ok (.iload_n 1, 1) := by decide +kernel
theorem d_Mod_move_3 : decode b_Mod_move 3 = .ok (.invokevirtual 78, 3) := by decide +kernel
theorem d_Mod_move_6 : decode b_Mod_move 6 = .ok (.ifCond .ne 13, 3) := by decide +kernel
theorem d_Mod_move_9 : decode b_Mod_move 9 = .ok (.iload_n 2, 1) := by decide +kernel
theorem d_Mod_move_10 : decode b_Mod_move 10 = .ok (.iconst (-1), 1) := by decide +kernel
theorem d_Mod_move_11 : decode b_Mod_move 11 = .ok (.if_icmp .lt 8, 3) := by decide +kernel
theorem d_Mod_move_14 : decode b_Mod_move 14 = .ok (.iload_n 2, 1) := by decide +kernel
theorem d_Mod_move_15 : decode b_Mod_move 15 = .ok (.iconst 5, 1) := by decide +kernel
theorem d_Mod_move_16 : decode b_Mod_move 16 = .ok (.if_icmp .le 7, 3) := by decide +kernel
theorem d_Mod_move_19 : decode b_Mod_move 19 = .ok (.iconst 1, 1) := by decide +kernel
theorem d_Mod_move_20 : decode b_Mod_move 20 = .ok (.goto 4, 3) := by decide +kernel
theorem d_Mod_move_23 : decode b_Mod_move 23 = .ok (.iconst 0, 1) := by decide +kernel
theorem d_Mod_move_24 : decode b_Mod_move 24 = .ok (.putfield 64, 3) := by decide +kernel
theorem d_Mod_move_27 : decode b_Mod_move 27 = .ok (.aload_n 0, 1) := by decide +kernel
theorem d_Mod_move_28 : decode b_Mod_move 28 = .ok (.getfield 64, 3) := by decide +kernel
theorem d_Mod_move_31 : decode b_Mod_move 31 = .ok (.ifCond .ne 25, 3) := by decide +kernel
theorem d_Mod_move_34 : decode b_Mod_move 34 = .ok (.aload_n 0, 1) := by decide +kernel
theorem d_Mod_move_35 : decode b_Mod_move 35 = .ok (.getfield 22, 3) := by decide +kernel
theorem d_Mod_move_38 : decode b_Mod_move 38 = .ok (.iload_n 1, 1) := by decide +kernel
theorem d_Mod_move_39 : decode b_Mod_move 39 = .ok (.iload_n 2, 1) := by decide +kernel
theorem d_Mod_move_40 : decode b_Mod_move 40 = .ok (.ifCond .ge 9, 3) := by decide +kernel
theorem d_Mod_move_43 : decode b_Mod_move 43 = .ok (.ldc2_w 62, 3) := by decide +kernel
theorem d_Mod_move_46 : decode b_Mod_move 46 = .ok (.goto 9, 3) := by decide +kernel
theorem d_Mod_move_49 : decode b_Mod_move 49 = .ok (.aload_n 0, 1) := by decide +kernel
theorem d_Mod_move_50 : decode b_Mod_move 50 = .ok (.getfield 22, 3) := by decide +kernel
theorem d_Mod_move_53 : decode b_Mod_move 53 = .ok (.iload_n 2, 1) := by decide +kernel
theorem d_Mod_move_54 : decode b_Mod_move 54 = .ok (.laload, 1) := by decide +kernel
theorem d_Mod_move_55 : decode b_Mod_move 55 = .ok (.lastore, 1) := by decide +kernel
theorem d_Mod_move_56 : decode b_Mod_move 56 = .ok (.return_, 1) := by decide +kernel
theorem d_Mod_make_0 : decode b_Mod_make 0 = .ok (.aload_n 0, 1) := by decide +kernel
theorem d_Mod_make_1 : decode b_Mod_make 1 = .ok (.aload_n 0, 1) := by decide +kernel
theorem d_Mod_make_2 : decode b_Mod_make 2 = .ok (.iload_n 1, 1) := by decide +kernel
theorem d_Mod_make_3 : decode b_Mod_make 3 = .ok (.invokevirtual 78, 3) := by decide +kernel
theorem d_Mod_make_6 : decode b_Mod_make 6 = .ok (.ifCond .ne 13, 3) := by decide +kernel
theorem d_Mod_make_9 : decode b_Mod_make 9 = .ok (.iload_n 2, 1) := by decide +kernel
theorem d_Mod_make_10 : decode b_Mod_make 10 = .ok (.iconst (-1), 1) := by decide +kernel
theorem d_Mod_make_11 : decode b_Mod_make 11 = .ok (.if_icmp .lt 8, 3) := by decide +kernel
theorem d_Mod_make_14 : decode b_Mod_make 14 = .ok (.iload_n 2, 1) := by decide +kernel
theorem d_Mod_make_15 : decode b_Mod_make 15 = .ok (.iconst 3, 1) := by decide +kernel
theorem d_Mod_make_16 : decode b_Mod_make 16 = .ok (.if_icmp .le 7, 3) := by decide +kernel
theorem d_Mod_make_19 : decode b_Mod_make 19 = .ok (.iconst 1, 1) := by decide +kernel
theorem d_Mod_make_20 : decode b_Mod_make 20 = .ok (.goto 4, 3) := by decide +kernel
theorem d_Mod_make_23 : decode b_Mod_make 23 = .ok (.iconst 0, 1) := by decide +kernel
theorem d_Mod_make_24 : decode b_Mod_make 24 = .ok (.putfield 64, 3) := by decide +kernel
theorem d_Mod_make_27 : decode b_Mod_make 27 = .ok (.aload_n 0, 1) := by decide +kernel
theorem d_Mod_make_28 : decode b_Mod_make 28 = .ok (.getfield 64, 3) := by decide +kernel
theorem d_Mod_make_31 : decode b_Mod_make 31 = .ok (.ifCond .eq 5, 3) := by decide +kernel
theorem d_Mod_make_34 : decode b_Mod_make 34 = .ok (.iconst 0, 1) := by decide +kernel
theorem d_Mod_make_35 : decode b_Mod_make 35 = .ok (.ireturn, 1) := by decide +kernel
theorem d_Mod_make_36 : decode b_Mod_make 36 = .ok (.aload_n 0, 1) := by decide +kernel
theorem d_Mod_make_37 : decode b_Mod_make 37 = .ok (.iload_n 2, 1) := by decide +kernel
theorem d_Mod_make_38 : decode b_Mod_make 38 = .ok (.ifCond .ge 7, 3) := by decide +kernel
theorem d_Mod_make_41 : decode b_Mod_make 41 = .ok (.iconst 1, 1) := by decide +kernel
theorem d_Mod_make_42 : decode b_Mod_make 42 = .ok (.goto 4, 3) := by decide +kernel
theorem d_Mod_make_45 : decode b_Mod_make 45 = .ok (.iconst 2, 1) := by decide +kernel
theorem d_Mod_make_46 : decode b_Mod_make 46 = .ok (.iload_n 2, 1) := by decide +kernel
theorem d_Mod_make_47 : decode b_Mod_make 47 = .ok (.invokevirtual 127, 3) := by decide +kernel
theorem d_Mod_make_50 : decode b_Mod_make 50 = .ok (.istore_n 3, 1) := by decide +kernel
theorem d_Mod_make_51 : decode b_Mod_make 51 = .ok (.aload_n 0, 1) := by decide +kernel
theorem d_Mod_make_52 : decode b_Mod_make 52 = .ok (.iload_n 3, 1) := by decide +kernel
theorem d_Mod_make_53 : decode b_Mod_make 53 = .ok (.ifCond .ge 7, 3) := by decide +kernel
theorem d_Mod_make_56 : decode b_Mod_make 56 = .ok (.iconst 2, 1) := by decide +kernel
theorem d_Mod_make_57 : decode b_Mod_make 57 = .ok (.goto 4, 3) := by decide +kernel
theorem d_Mod_make_60 : decode b_Mod_make 60 = .ok (.iconst 0, 1) := by decide +kernel
theorem d_Mod_make_61 : decode b_Mod_make 61 = .ok (.putfield 64, 3) := by decide +kernel
theorem d_Mod_make_64 : decode b_Mod_make 64 = .ok (.iload_n 3, 1) := by decide +kernel
theorem d_Mod_make_65 : decode b_Mod_make 65 = .ok (.ifCond .ge 5, 3) := by decide +kernel
theorem d_Mod_make_68 : decode b_Mod_make 68 = .ok (.iconst 0, 1) := by decide +kernel
theorem d_Mod_make_69 : decode b_Mod_make 69 = .ok (.ireturn, 1) := by decide +kernel
theorem d_Mod_make_70 : decode b_Mod_make 70 = .ok (.aload_n 0, 1) := by decide +kernel
theorem d_Mod_make_71 : decode b_Mod_make 71 = .ok (.getfield 22, 3) := by decide +kernel
theorem d_Mod_make_74 : decode b_Mod_make 74 = .ok (.iload_n 1, 1) := by decide +kernel
theorem d_Mod_make_75 : decode b_Mod_make 75 = .ok (.ldc2_w 72, 3) := by decide +kernel
theorem d_Mod_make_78 : decode b_Mod_make 78 = .ok (.iload_n 3, 1) := by decide +kernel
theorem d_Mod_make_79 : decode b_Mod_make 79 = .ok (.i2l, 1) := by decide +kernel
theorem d_Mod_make_80 : decode b_Mod_make 80 = .ok (.ladd, 1) := by decide +kernel
theorem d_Mod_make_81 : decode b_Mod_make 81 = .ok (.lastore, 1) := by decide +kernel
theorem d_Mod_make_82 : decode b_Mod_make 82 = .ok (.iload_n 3, 1) := by decide +kernel
theorem d_Mod_make_83 : decode b_Mod_make 83 = .ok (.ireturn, 1) := by decide +kernel
theorem d_Mod_free_0 : decode b_Mod_free 0 = .ok (.iconst 0, 1) := by decide +kernel
theorem d_Mod_free_1 : decode b_Mod_free 1 = .ok (.istore_n 1, 1) := by decide +kernel
theorem d_Mod_free_2 : decode b_Mod_free 2 = .ok (.iload_n 1, 1) := by decide +kernel
theorem d_Mod_free_3 : decode b_Mod_free 3 = .ok (.bipush 16, 2) := by decide +kernel
theorem d_Mod_free_5 : decode b_Mod_free 5 = .ok (.if_icmp .ge 20, 3) := by decide +kernel
theorem d_Mod_free_8 : decode b_Mod_free 8 = .ok (.aload_n 0, 1) := by decide +kernel
theorem d_Mod_free_9 : decode b_Mod_free 9 = .ok (.getfield 26, 3) := by decide +kernel
theorem d_Mod_free_12 : decode b_Mod_free 12 = .ok (.iload_n 1, 1) := by decide +kernel
theorem d_Mod_free_13 : decode b_Mod_free 13 = .ok (.iaload, 1) := by decide +kernel
theorem d_Mod_free_14 : decode b_Mod_free 14 = .ok (.ifCond .ne 5, 3) := by decide +kernel
theorem d_Mod_free_17 : decode b_Mod_free 17 = .ok (.iload_n 1, 1) := by decide +kernel
theorem d_Mod_free_18 : decode b_Mod_free 18 = .ok (.ireturn, 1) := by decide +kernel
theorem d_Mod_free_19 : decode b_Mod_free 19 = .ok (.iinc 1 1, 3) := by decide +kernel
theorem d_Mod_free_22 : decode b_Mod_free 22 = .ok (.goto (-20), 3) := by decide +kernel
theorem d_Mod_free_25 : decode b_Mod_free 25 = .ok (.iconst (-1), 1) := by decide +kernel
theorem d_Mod_free_26 : decode b_Mod_free 26 = .ok (.ireturn, 1) := by decide +kernel
theorem d_Mod_whole_0 : decode b_Mod_whole 0 = .ok (.aload_n 0, 1) := by decide +kernel
theorem d_Mod_whole_1 : decode b_Mod_whole 1 = .ok (.dup, 1) := by decide +kernel
theorem d_Mod_whole_2 : decode b_Mod_whole 2 = .ok (.getfield 112, 3) := by decide +kernel
theorem d_Mod_whole_5 : decode b_Mod_whole 5 = .ok (.iconst 1, 1) := by decide +kernel
theorem d_Mod_whole_6 : decode b_Mod_whole 6 = .ok (.iadd, 1) := by decide +kernel
theorem d_Mod_whole_7 : decode b_Mod_whole 7 = .ok (.putfield 112, 3) := by decide +kernel
theorem d_Mod_whole_10 : decode b_Mod_whole 10 = .ok (.iconst 0, 1) := by decide +kernel
theorem d_Mod_whole_11 : decode b_Mod_whole 11 = .ok (.istore_n 1, 1) := by decide +kernel
theorem d_Mod_whole_12 : decode b_Mod_whole 12 = .ok (.aload_n 0, 1) := by decide +kernel
theorem d_Mod_whole_13 : decode b_Mod_whole 13 = .ok (.getfield 92, 3) := by decide +kernel
theorem d_Mod_whole_16 : decode b_Mod_whole 16 = .ok (.ifCond .eq 13, 3) := by decide +kernel
theorem d_Mod_whole_19 : decode b_Mod_whole 19 = .ok (.iload_n 1, 1) := by decide +kernel
theorem d_Mod_whole_20 : decode b_Mod_whole 20 = .ok (.aload_n 0, 1) := by decide +kernel
theorem d_Mod_whole_21 : decode b_Mod_whole 21 = .ok (.invokevirtual 115, 3) := by decide +kernel
theorem d_Mod_whole_24 : decode b_Mod_whole 24 = .ok (.iadd, 1) := by decide +kernel
theorem d_Mod_whole_25 : decode b_Mod_whole 25 = .ok (.istore_n 1, 1) := by decide +kernel
theorem d_Mod_whole_26 : decode b_Mod_whole 26 = .ok (.goto (-14), 3) := by decide +kernel
theorem d_Mod_whole_29 : decode b_Mod_whole 29 = .ok (.iload_n 1, 1) := by decide +kernel
theorem d_Mod_whole_30 : decode b_Mod_whole 30 = .ok (.aload_n 0, 1) := by decide +kernel
theorem d_Mod_whole_31 : decode b_Mod_whole 31 = .ok (.invokevirtual 115, 3) := by decide +kernel
theorem d_Mod_whole_34 : decode b_Mod_whole 34 = .ok (.iadd, 1) := by decide +kernel
theorem d_Mod_whole_35 : decode b_Mod_whole 35 = .ok (.istore_n 1, 1) := by decide +kernel
theorem d_Mod_whole_36 : decode b_Mod_whole 36 = .ok (.aload_n 0, 1) := by decide +kernel
theorem d_Mod_whole_37 : decode b_Mod_whole 37 = .ok (.getfield 92, 3) := by decide +kernel
theorem d_Mod_whole_40 : decode b_Mod_whole 40 = .ok (.ifCond .eq 13, 3) := by decide +kernel
theorem d_Mod_whole_43 : decode b_Mod_whole 43 = .ok (.iload_n 1, 1) := by decide +kernel
theorem d_Mod_whole_44 : decode b_Mod_whole 44 = .ok (.aload_n 0, 1) := by decide +kernel
theorem d_Mod_whole_45 : decode b_Mod_whole 45 = .ok (.invokevirtual 115, 3) := by decide +kernel
theorem d_Mod_whole_48 : decode b_Mod_whole 48 = .ok (.iadd, 1) := by decide +kernel
theorem d_Mod_whole_49 : decode b_Mod_whole 49 = .ok (.istore_n 1, 1) := by decide +kernel
theorem d_Mod_whole_50 : decode b_Mod_whole 50 = .ok (.goto (-14), 3) := by decide +kernel
theorem d_Mod_whole_53 : decode b_Mod_whole 53 = .ok (.iload_n 1, 1) := by decide +kernel
theorem d_Mod_whole_54 : decode b_Mod_whole 54 = .ok (.ireturn, 1) := by decide +kernel
theorem d_Mod_shadeRoots_0 : decode b_Mod_shadeRoots 0 = .ok (.iconst 0, 1) := by decide +kernel
theorem d_Mod_shadeRoots_1 : decode b_Mod_shadeRoots 1 = .ok (.istore_n 1, 1) := by decide +kernel
theorem d_Mod_shadeRoots_2 : decode b_Mod_shadeRoots 2 = .ok (.iload_n 1, 1) := by decide +kernel
theorem d_Mod_shadeRoots_3 : decode b_Mod_shadeRoots 3 = .ok (.bipush 6, 2) := by decide +kernel
theorem d_Mod_shadeRoots_5 : decode b_Mod_shadeRoots 5 = .ok (.if_icmp .ge 19, 3) := by decide +kernel
theorem d_Mod_shadeRoots_8 : decode b_Mod_shadeRoots 8 = .ok (.aload_n 0, 1) := by decide +kernel
theorem d_Mod_shadeRoots_9 : decode b_Mod_shadeRoots 9 = .ok (.aload_n 0, 1) := by decide +kernel
theorem d_Mod_shadeRoots_10 : decode b_Mod_shadeRoots 10 = .ok (.getfield 22, 3) := by decide +kernel
theorem d_Mod_shadeRoots_13 : decode b_Mod_shadeRoots 13 = .ok (.iload_n 1, 1) := by decide +kernel
theorem d_Mod_shadeRoots_14 : decode b_Mod_shadeRoots 14 = .ok (.laload, 1) := by decide +kernel
theorem d_Mod_shadeRoots_15 : decode b_Mod_shadeRoots 15 = .ok (.invokevirtual 82, 3) := by decide +kernel
theorem d_Mod_shadeRoots_18 : decode b_Mod_shadeRoots 18 = .ok (.iinc 1 1, 3) := by decide +kernel
theorem d_Mod_shadeRoots_21 : decode b_Mod_shadeRoots 21 = .ok (.goto (-19), 3) := by decide +kernel
theorem d_Mod_shadeRoots_24 : decode b_Mod_shadeRoots 24 = .ok (.iconst 0, 1) := by decide +kernel
theorem d_Mod_shadeRoots_25 : decode b_Mod_shadeRoots 25 = .ok (.istore_n 1, 1) := by decide +kernel
theorem d_Mod_shadeRoots_26 : decode b_Mod_shadeRoots 26 = .ok (.iload_n 1, 1) := by decide +kernel
theorem d_Mod_shadeRoots_27 : decode b_Mod_shadeRoots 27 = .ok (.aload_n 0, 1) := by decide +kernel
theorem d_Mod_shadeRoots_28 : decode b_Mod_shadeRoots 28 = .ok (.getfield 86, 3) := by decide +kernel
theorem d_Mod_shadeRoots_31 : decode b_Mod_shadeRoots 31 = .ok (.if_icmp .ge 56, 3) := by decide +kernel
theorem d_Mod_shadeRoots_34 : decode b_Mod_shadeRoots 34 = .ok (.aload_n 0, 1) := by decide +kernel
theorem d_Mod_shadeRoots_35 : decode b_Mod_shadeRoots 35 = .ok (.ldc2_w 72, 3) := by decide +kernel
theorem d_Mod_shadeRoots_38 : decode b_Mod_shadeRoots 38 = .ok (.aload_n 0, 1) := by decide +kernel
theorem d_Mod_shadeRoots_39 : decode b_Mod_shadeRoots 39 = .ok (.getfield 59, 3) := by decide +kernel
theorem d_Mod_shadeRoots_42 : decode b_Mod_shadeRoots 42 = .ok (.iload_n 1, 1) := by decide +kernel
theorem d_Mod_shadeRoots_43 : decode b_Mod_shadeRoots 43 = .ok (.iaload, 1) := by decide +kernel
theorem d_Mod_shadeRoots_44 : decode b_Mod_shadeRoots 44 = .ok (.i2l, 1) := by decide +kernel
theorem d_Mod_shadeRoots_45 : decode b_Mod_shadeRoots 45 = .ok (.ladd, 1) := by decide +kernel
theorem d_Mod_shadeRoots_46 : decode b_Mod_shadeRoots 46 = .ok (.invokevirtual 82, 3) := by decide +kernel
theorem d_Mod_shadeRoots_49 : decode b_Mod_shadeRoots 49 = .ok (.iconst 0, 1) := by decide +kernel
theorem d_Mod_shadeRoots_50 : decode b_Mod_shadeRoots 50 = .ok (.istore_n 2, 1) := by decide +kernel
theorem d_Mod_shadeRoots_51 : decode b_Mod_shadeRoots 51 = .ok (.iload_n 2, 1) := by decide +kernel
theorem d_Mod_shadeRoots_52 : decode b_Mod_shadeRoots 52 = .ok (.iconst 4, 1) := by decide +kernel
theorem d_Mod_shadeRoots_53 : decode b_Mod_shadeRoots 53 = .ok (.if_icmp .ge 28, 3) := by decide +kernel
theorem d_Mod_shadeRoots_56 : decode b_Mod_shadeRoots 56 = .ok (.aload_n 0, 1) := by decide +kernel
theorem d_Mod_shadeRoots_57 : decode b_Mod_shadeRoots 57 = .ok (.aload_n 0, 1) := by decide +kernel
theorem d_Mod_shadeRoots_58 : decode b_Mod_shadeRoots 58 = .ok (.getfield 44, 3) := by decide +kernel
theorem d_Mod_shadeRoots_61 : decode b_Mod_shadeRoots 61 = .ok (.aload_n 0, 1) := by decide +kernel
theorem d_Mod_shadeRoots_62 : decode b_Mod_shadeRoots 62 = .ok (.getfield 59, 3) := by decide +kernel
theorem d_Mod_shadeRoots_65 : decode b_Mod_shadeRoots 65 = .ok (.iload_n 1, 1) := by decide +kernel
theorem d_Mod_shadeRoots_66 : decode b_Mod_shadeRoots 66 = .ok (.iaload, 1) := by decide +kernel
theorem d_Mod_shadeRoots_67 : decode b_Mod_shadeRoots 67 = .ok (.iconst 4, 1) := by decide +kernel
theorem d_Mod_shadeRoots_68 : decode b_Mod_shadeRoots 68 = .ok (.imul, 1) := by decide +kernel
theorem d_Mod_shadeRoots_69 : decode b_Mod_shadeRoots 69 = .ok (.iload_n 2, 1) := by decide +kernel
theorem d_Mod_shadeRoots_70 : decode b_Mod_shadeRoots 70 = .ok (.iadd, 1) := by decide +kernel
theorem d_Mod_shadeRoots_71 : decode b_Mod_shadeRoots 71 = .ok (.laload, 1) := by decide +kernel
theorem d_Mod_shadeRoots_72 : decode b_Mod_shadeRoots 72 = .ok (.invokevirtual 82, 3) := by decide +kernel
theorem d_Mod_shadeRoots_75 : decode b_Mod_shadeRoots 75 = .ok (.iinc 2 1, 3) := by decide +kernel
theorem d_Mod_shadeRoots_78 : decode b_Mod_shadeRoots 78 = .ok (.goto (-27), 3) := by decide +kernel
theorem d_Mod_shadeRoots_81 : decode b_Mod_shadeRoots 81 = .ok (.iinc 1 1, 3) := by decide +kernel
theorem d_Mod_shadeRoots_84 : decode b_Mod_shadeRoots 84 = .ok (.goto (-58), 3) := by decide +kernel
theorem d_Mod_shadeRoots_87 : decode b_Mod_shadeRoots 87 = .ok (.return_, 1) := by decide +kernel
theorem d_Mod_shade_0 : decode b_Mod_shade 0 = .ok (.aload_n 0, 1) := by decide +kernel
theorem d_Mod_shade_1 : decode b_Mod_shade 1 = .ok (.lload_n 1, 1) := by decide +kernel
theorem d_Mod_shade_2 : decode b_Mod_shade 2 = .ok (.invokevirtual 74, 3) := by decide +kernel
theorem d_Mod_shade_5 : decode b_Mod_shade 5 = .ok (.istore_n 3, 1) := by decide +kernel
theorem d_Mod_shade_6 : decode b_Mod_shade 6 = .ok (.iload_n 3, 1) := by decide +kernel
theorem d_Mod_shade_7 : decode b_Mod_shade 7 = .ok (.ifCond .lt 19, 3) := by decide +kernel
theorem d_Mod_shade_10 : decode b_Mod_shade 10 = .ok (.aload_n 0, 1) := by decide +kernel
theorem d_Mod_shade_11 : decode b_Mod_shade 11 = .ok (.getfield 29, 3) := by decide +kernel
theorem d_Mod_shade_14 : decode b_Mod_shade 14 = .ok (.iload_n 3, 1) := by decide +kernel
theorem d_Mod_shade_15 : decode b_Mod_shade 15 = .ok (.iaload, 1) := by decide +kernel
theorem d_Mod_shade_16 : decode b_Mod_shade 16 = .ok (.ifCond .ne 10, 3) := by decide +kernel
theorem d_Mod_shade_19 : decode b_Mod_shade 19 = .ok (.aload_n 0, 1) := by decide +kernel
theorem d_Mod_shade_20 : decode b_Mod_shade 20 = .ok (.getfield 29, 3) := by decide +kernel
theorem d_Mod_shade_23 : decode b_Mod_shade 23 = .ok (.iload_n 3, 1) := by decide +kernel
theorem d_Mod_shade_24 : decode b_Mod_shade 24 = .ok (.iconst 1, 1) := by decide +kernel
theorem d_Mod_shade_25 : decode b_Mod_shade 25 = .ok (.iastore, 1) := by decide +kernel
theorem d_Mod_shade_26 : decode b_Mod_shade 26 = .ok (.return_, 1) := by decide +kernel
theorem d_Mod_objectOf_0 : decode b_Mod_objectOf 0 = .ok (.lload_n 1, 1) := by decide +kernel
theorem d_Mod_objectOf_1 : decode b_Mod_objectOf 1 = .ok (.ldc2_w 72, 3) := by decide +kernel
theorem d_Mod_objectOf_4 : decode b_Mod_objectOf 4 = .ok (.lcmp, 1) := by decide +kernel
theorem d_Mod_objectOf_5 : decode b_Mod_objectOf 5 = .ok (.ifCond .lt 12, 3) := by decide +kernel
theorem d_Mod_objectOf_8 : decode b_Mod_objectOf 8 = .ok (.lload_n 1, 1) := by decide +kernel
theorem d_Mod_objectOf_9 : decode b_Mod_objectOf 9 = .ok (.ldc2_w 72, 3) := by decide +kernel
theorem d_Mod_objectOf_12 : decode b_Mod_objectOf 12 = .ok (.lsub, 1) := by decide +kernel
theorem d_Mod_objectOf_13 : decode b_Mod_objectOf 13 = .ok (.l2i, 1) := by decide +kernel
theorem d_Mod_objectOf_14 : decode b_Mod_objectOf 14 = .ok (.goto 4, 3) := by decide +kernel
theorem d_Mod_objectOf_17 : decode b_Mod_objectOf 17 = .ok (.iconst (-1), 1) := by decide +kernel
theorem d_Mod_objectOf_18 : decode b_Mod_objectOf 18 = .ok (.ireturn, 1) := by decide +kernel
theorem d_Mod_leastGray_0 : decode b_Mod_leastGray 0 = .ok (.iconst 0, 1) := by decide +kernel
theorem d_Mod_leastGray_1 : decode b_Mod_leastGray 1 = .ok (.istore_n 1, 1) := by decide +kernel
theorem d_Mod_leastGray_2 : decode b_Mod_leastGray 2 = .ok (.iload_n 1, 1) := by decide +kernel
theorem d_Mod_leastGray_3 : decode b_Mod_leastGray 3 = .ok (.bipush 16, 2) := by decide +kernel
theorem d_Mod_leastGray_5 : decode b_Mod_leastGray 5 = .ok (.if_icmp .ge 30, 3) := by decide +kernel
theorem d_Mod_leastGray_8 : decode b_Mod_leastGray 8 = .ok (.aload_n 0, 1) := by decide +kernel
theorem d_Mod_leastGray_9 : decode b_Mod_leastGray 9 = .ok (.getfield 26, 3) := by decide +kernel
theorem d_Mod_leastGray_12 : decode b_Mod_leastGray 12 = .ok (.iload_n 1, 1) := by decide +kernel
theorem d_Mod_leastGray_13 : decode b_Mod_leastGray 13 = .ok (.iaload, 1) := by decide +kernel
theorem d_Mod_leastGray_14 : decode b_Mod_leastGray 14 = .ok (.ifCond .eq 15, 3) := by decide +kernel
theorem d_Mod_leastGray_17 : decode b_Mod_leastGray 17 = .ok (.aload_n 0, 1) := by decide +kernel
theorem d_Mod_leastGray_18 : decode b_Mod_leastGray 18 = .ok (.getfield 29, 3) := by decide +kernel
theorem d_Mod_leastGray_21 : decode b_Mod_leastGray 21 = .ok (.iload_n 1, 1) := by decide +kernel
theorem d_Mod_leastGray_22 : decode b_Mod_leastGray 22 = .ok (.iaload, 1) := by decide +kernel
theorem d_Mod_leastGray_23 : decode b_Mod_leastGray 23 = .ok (.iconst 1, 1) := by decide +kernel
theorem d_Mod_leastGray_24 : decode b_Mod_leastGray 24 = .ok (.if_icmp .ne 5, 3) := by decide +kernel
theorem d_Mod_leastGray_27 : decode b_Mod_leastGray 27 = .ok (.iload_n 1, 1) := by decide +kernel
theorem d_Mod_leastGray_28 : decode b_Mod_leastGray 28 = .ok (.ireturn, 1) := by decide +kernel
theorem d_Mod_leastGray_29 : decode b_Mod_leastGray 29 = .ok (.iinc 1 1, 3) := by decide +kernel
theorem d_Mod_leastGray_32 : decode b_Mod_leastGray 32 = .ok (.goto (-30), 3) := by decide +kernel
theorem d_Mod_leastGray_35 : decode b_Mod_leastGray 35 = .ok (.iconst (-1), 1) := by decide +kernel
theorem d_Mod_leastGray_36 : decode b_Mod_leastGray 36 = .ok (.ireturn, 1) := by decide +kernel
theorem d_Mod_blacken_0 : decode b_Mod_blacken 0 = .ok (.aload_n 0, 1) := by decide +kernel
theorem d_Mod_blacken_1 : decode b_Mod_blacken 1 = .ok (.getfield 29, 3) := by decide +kernel
theorem d_Mod_blacken_4 : decode b_Mod_blacken 4 = .ok (.iload_n 1, 1) := by decide +kernel
theorem d_Mod_blacken_5 : decode b_Mod_blacken 5 = .ok (.iconst 2, 1) := by decide +kernel
theorem d_Mod_blacken_6 : decode b_Mod_blacken 6 = .ok (.iastore, 1) := by decide +kernel
theorem d_Mod_blacken_7 : decode b_Mod_blacken 7 = .ok (.aload_n 0, 1) := by decide +kernel
theorem d_Mod_blacken_8 : decode b_Mod_blacken 8 = .ok (.getfield 26, 3) := by decide +kernel
theorem d_Mod_blacken_11 : decode b_Mod_blacken 11 = .ok (.iload_n 1, 1) := by decide +kernel
theorem d_Mod_blacken_12 : decode b_Mod_blacken 12 = .ok (.iaload, 1) := by decide +kernel
theorem d_Mod_blacken_13 : decode b_Mod_blacken 13 = .ok (.iconst 2, 1) := by decide +kernel
theorem d_Mod_blacken_14 : decode b_Mod_blacken 14 = .ok (.if_icmp .ne 31, 3) := by decide +kernel
theorem d_Mod_blacken_17 : decode b_Mod_blacken 17 = .ok (.iconst 0, 1) := by decide +kernel
theorem d_Mod_blacken_18 : decode b_Mod_blacken 18 = .ok (.istore_n 2, 1) := by decide +kernel
theorem d_Mod_blacken_19 : decode b_Mod_blacken 19 = .ok (.iload_n 2, 1) := by decide +kernel
theorem d_Mod_blacken_20 : decode b_Mod_blacken 20 = .ok (.iconst 4, 1) := by decide +kernel
theorem d_Mod_blacken_21 : decode b_Mod_blacken 21 = .ok (.if_icmp .ge 23, 3) := by decide +kernel
theorem d_Mod_blacken_24 : decode b_Mod_blacken 24 = .ok (.aload_n 0, 1) := by decide +kernel
theorem d_Mod_blacken_25 : decode b_Mod_blacken 25 = .ok (.aload_n 0, 1) := by decide +kernel
theorem d_Mod_blacken_26 : decode b_Mod_blacken 26 = .ok (.getfield 44, 3) := by decide +kernel
theorem d_Mod_blacken_29 : decode b_Mod_blacken 29 = .ok (.iload_n 1, 1) := by decide +kernel
theorem d_Mod_blacken_30 : decode b_Mod_blacken 30 = .ok (.iconst 4, 1) := by decide +kernel
theorem d_Mod_blacken_31 : decode b_Mod_blacken 31 = .ok (.imul, 1) := by decide +kernel
theorem d_Mod_blacken_32 : decode b_Mod_blacken 32 = .ok (.iload_n 2, 1) := by decide +kernel
theorem d_Mod_blacken_33 : decode b_Mod_blacken 33 = .ok (.iadd, 1) := by decide +kernel
theorem d_Mod_blacken_34 : decode b_Mod_blacken 34 = .ok (.laload, 1) := by decide +kernel
theorem d_Mod_blacken_35 : decode b_Mod_blacken 35 = .ok (.invokevirtual 82, 3) := by decide +kernel
theorem d_Mod_blacken_38 : decode b_Mod_blacken 38 = .ok (.iinc 2 1, 3) := by decide +kernel
theorem d_Mod_blacken_41 : decode b_Mod_blacken 41 = .ok (.goto (-22), 3) := by decide +kernel
theorem d_Mod_blacken_44 : decode b_Mod_blacken 44 = .ok (.return_, 1) := by decide +kernel
theorem d_Mod_blacken_45 : decode b_Mod_blacken 45 = .ok (.aload_n 0, 1) := by decide +kernel
theorem d_Mod_blacken_46 : decode b_Mod_blacken 46 = .ok (.getfield 35, 3) := by decide +kernel
theorem d_Mod_blacken_49 : decode b_Mod_blacken 49 = .ok (.iload_n 1, 1) := by decide +kernel
theorem d_Mod_blacken_50 : decode b_Mod_blacken 50 = .ok (.iaload, 1) := by decide +kernel
theorem d_Mod_blacken_51 : decode b_Mod_blacken 51 = .ok (.ifCond .lt 18, 3) := by decide +kernel
theorem d_Mod_blacken_54 : decode b_Mod_blacken 54 = .ok (.aload_n 0, 1) := by decide +kernel
theorem d_Mod_blacken_55 : decode b_Mod_blacken 55 = .ok (.ldc2_w 72, 3) := by decide +kernel
theorem d_Mod_blacken_58 : decode b_Mod_blacken 58 = .ok (.aload_n 0, 1) := by decide +kernel
theorem d_Mod_blacken_59 : decode b_Mod_blacken 59 = .ok (.getfield 35, 3) := by decide +kernel
theorem d_Mod_blacken_62 : decode b_Mod_blacken 62 = .ok (.iload_n 1, 1) := by decide +kernel
theorem d_Mod_blacken_63 : decode b_Mod_blacken 63 = .ok (.iaload, 1) := by decide +kernel
theorem d_Mod_blacken_64 : decode b_Mod_blacken 64 = .ok (.i2l, 1) := by decide +kernel
theorem d_Mod_blacken_65 : decode b_Mod_blacken 65 = .ok (.ladd, 1) := by decide +kernel
theorem d_Mod_blacken_66 : decode b_Mod_blacken 66 = .ok (.invokevirtual 82, 3) := by decide +kernel
theorem d_Mod_blacken_69 : decode b_Mod_blacken 69 = .ok (.iconst 0, 1) := by decide +kernel
theorem d_Mod_blacken_70 : decode b_Mod_blacken 70 = .ok (.istore_n 2, 1) := by decide +kernel
theorem d_Mod_blacken_71 : decode b_Mod_blacken 71 = .ok (.iload_n 2, 1) := by decide +kernel
theorem d_Mod_blacken_72 : decode b_Mod_blacken 72 = .ok (.aload_n 0, 1) := by decide +kernel
theorem d_Mod_blacken_73 : decode b_Mod_blacken 73 = .ok (.getfield 32, 3) := by decide +kernel
theorem d_Mod_blacken_76 : decode b_Mod_blacken 76 = .ok (.iload_n 1, 1) := by decide +kernel
theorem d_Mod_blacken_77 : decode b_Mod_blacken 77 = .ok (.iaload, 1) := by decide +kernel
theorem d_Mod_blacken_78 : decode b_Mod_blacken 78 = .ok (.if_icmp .ge 39, 3) := by decide +kernel
theorem d_Mod_blacken_81 : decode b_Mod_blacken 81 = .ok (.aload_n 0, 1) := by decide +kernel
theorem d_Mod_blacken_82 : decode b_Mod_blacken 82 = .ok (.aload_n 0, 1) := by decide +kernel
theorem d_Mod_blacken_83 : decode b_Mod_blacken 83 = .ok (.getfield 38, 3) := by decide +kernel
theorem d_Mod_blacken_86 : decode b_Mod_blacken 86 = .ok (.iload_n 1, 1) := by decide +kernel
theorem d_Mod_blacken_87 : decode b_Mod_blacken 87 = .ok (.bipush 6, 2) := by decide +kernel
theorem d_Mod_blacken_89 : decode b_Mod_blacken 89 = .ok (.imul, 1) := by decide +kernel
theorem d_Mod_blacken_90 : decode b_Mod_blacken 90 = .ok (.iload_n 2, 1) := by decide +kernel
theorem d_Mod_blacken_91 : decode b_Mod_blacken 91 = .ok (.iadd, 1) := by decide +kernel
theorem d_Mod_blacken_92 : decode b_Mod_blacken 92 = .ok (.laload, 1) := by decide +kernel
theorem d_Mod_blacken_93 : decode b_Mod_blacken 93 = .ok (.invokevirtual 82, 3) := by decide +kernel
theorem d_Mod_blacken_96 : decode b_Mod_blacken 96 = .ok (.aload_n 0, 1) := by decide +kernel
theorem d_Mod_blacken_97 : decode b_Mod_blacken 97 = .ok (.aload_n 0, 1) := by decide +kernel
theorem d_Mod_blacken_98 : decode b_Mod_blacken 98 = .ok (.getfield 41, 3) := by decide +kernel
theorem d_Mod_blacken_101 : decode b_Mod_blacken 101 = .ok (.iload_n 1, 1) := by decide +kernel
theorem d_Mod_blacken_102 : decode b_Mod_blacken 102 = .ok (.bipush 6, 2) := by decide +kernel
theorem d_Mod_blacken_104 : decode b_Mod_blacken 104 = .ok (.imul, 1) := by decide +kernel
theorem d_Mod_blacken_105 : decode b_Mod_blacken 105 = .ok (.iload_n 2, 1) := by decide +kernel
theorem d_Mod_blacken_106 : decode b_Mod_blacken 106 = .ok (.iadd, 1) := by decide +kernel
theorem d_Mod_blacken_107 : decode b_Mod_blacken 107 = .ok (.laload, 1) := by decide +kernel
theorem d_Mod_blacken_108 : decode b_Mod_blacken 108 = .ok (.invokevirtual 82, 3) := by decide +kernel
theorem d_Mod_blacken_111 : decode b_Mod_blacken 111 = .ok (.iinc 2 1, 3) := by decide +kernel
theorem d_Mod_blacken_114 : decode b_Mod_blacken 114 = .ok (.goto (-43), 3) := by decide +kernel
theorem d_Mod_blacken_117 : decode b_Mod_blacken 117 = .ok (.return_, 1) := by decide +kernel
theorem d_Mod_set_0 : decode b_Mod_set 0 = .ok (.aload_n 0, 1) := by decide +kernel
theorem d_Mod_set_1 : decode b_Mod_set 1 = .ok (.aload_n 0, 1) := by decide +kernel
theorem d_Mod_set_2 : decode b_Mod_set 2 = .ok (.iload_n 1, 1) := by decide +kernel
theorem d_Mod_set_3 : decode b_Mod_set 3 = .ok (.invokevirtual 78, 3) := by decide +kernel
theorem d_Mod_set_6 : decode b_Mod_set 6 = .ok (.ifCond .ne 19, 3) := by decide +kernel
theorem d_Mod_set_9 : decode b_Mod_set 9 = .ok (.aload_n 0, 1) := by decide +kernel
theorem d_Mod_set_10 : decode b_Mod_set 10 = .ok (.iload_n 2, 1) := by decide +kernel
theorem d_Mod_set_11 : decode b_Mod_set 11 = .ok (.invokevirtual 78, 3) := by decide +kernel
theorem d_Mod_set_14 : decode b_Mod_set 14 = .ok (.ifCond .ne 11, 3) := by decide +kernel
theorem d_Mod_set_17 : decode b_Mod_set 17 = .ok (.aload_n 0, 1) := by decide +kernel
theorem d_Mod_set_18 : decode b_Mod_set 18 = .ok (.iload_n 3, 1) := by decide +kernel
theorem d_Mod_set_19 : decode b_Mod_set 19 = .ok (.invokevirtual 78, 3) := by decide +kernel
theorem d_Mod_set_22 : decode b_Mod_set 22 = .ok (.ifCond .eq 7, 3) := by decide +kernel
theorem d_Mod_set_25 : decode b_Mod_set 25 = .ok (.iconst 1, 1) := by decide +kernel
theorem d_Mod_set_26 : decode b_Mod_set 26 = .ok (.goto 21, 3) := by decide +kernel
theorem d_Mod_set_29 : decode b_Mod_set 29 = .ok (.aload_n 0, 1) := by decide +kernel
theorem d_Mod_set_30 : decode b_Mod_set 30 = .ok (.aload_n 0, 1) := by decide +kernel
theorem d_Mod_set_31 : decode b_Mod_set 31 = .ok (.getfield 22, 3) := by decide +kernel
theorem d_Mod_set_34 : decode b_Mod_set 34 = .ok (.iload_n 1, 1) := by decide +kernel
theorem d_Mod_set_35 : decode b_Mod_set 35 = .ok (.laload, 1) := by decide +kernel
theorem d_Mod_set_36 : decode b_Mod_set 36 = .ok (.invokevirtual 135, 3) := by decide +kernel
theorem d_Mod_set_39 : decode b_Mod_set 39 = .ok (.ifCond .ge 7, 3) := by decide +kernel
theorem d_Mod_set_42 : decode b_Mod_set 42 = .ok (.iconst 3, 1) := by decide +kernel
theorem d_Mod_set_43 : decode b_Mod_set 43 = .ok (.goto 4, 3) := by decide +kernel
theorem d_Mod_set_46 : decode b_Mod_set 46 = .ok (.iconst 0, 1) := by decide +kernel
theorem d_Mod_set_47 : decode b_Mod_set 47 = .ok (.putfield 64, 3) := by decide +kernel
theorem d_Mod_set_50 : decode b_Mod_set 50 = .ok (.aload_n 0, 1) := by decide +kernel
theorem d_Mod_set_51 : decode b_Mod_set 51 = .ok (.getfield 64, 3) := by decide +kernel
theorem d_Mod_set_54 : decode b_Mod_set 54 = .ok (.ifCond .eq 4, 3) := by decide +kernel
theorem d_Mod_set_57 : decode b_Mod_set 57 = .ok (.return_, 1) := by decide +kernel
theorem d_Mod_set_58 : decode b_Mod_set 58 = .ok (.aload_n 0, 1) := by decide +kernel
theorem d_Mod_set_59 : decode b_Mod_set 59 = .ok (.iconst 0, 1) := by decide +kernel
theorem d_Mod_set_60 : decode b_Mod_set 60 = .ok (.putfield 141, 3) := by decide +kernel
theorem d_Mod_set_63 : decode b_Mod_set 63 = .ok (.aload_n 0, 1) := by decide +kernel
theorem d_Mod_set_64 : decode b_Mod_set 64 = .ok (.aload_n 0, 1) := by decide +kernel
theorem d_Mod_set_65 : decode b_Mod_set 65 = .ok (.aload_n 0, 1) := by decide +kernel
theorem d_Mod_set_66 : decode b_Mod_set 66 = .ok (.getfield 22, 3) := by decide +kernel
theorem d_Mod_set_69 : decode b_Mod_set 69 = .ok (.iload_n 1, 1) := by decide +kernel
theorem d_Mod_set_70 : decode b_Mod_set 70 = .ok (.laload, 1) := by decide +kernel
theorem d_Mod_set_71 : decode b_Mod_set 71 = .ok (.invokevirtual 135, 3) := by decide +kernel
theorem d_Mod_set_74 : decode b_Mod_set 74 = .ok (.aload_n 0, 1) := by decide +kernel
theorem d_Mod_set_75 : decode b_Mod_set 75 = .ok (.getfield 22, 3) := by decide +kernel
theorem d_Mod_set_78 : decode b_Mod_set 78 = .ok (.iload_n 2, 1) := by decide +kernel
theorem d_Mod_set_79 : decode b_Mod_set 79 = .ok (.laload, 1) := by decide +kernel
theorem d_Mod_set_80 : decode b_Mod_set 80 = .ok (.aload_n 0, 1) := by decide +kernel
theorem d_Mod_set_81 : decode b_Mod_set 81 = .ok (.getfield 22, 3) := by decide +kernel
theorem d_Mod_set_84 : decode b_Mod_set 84 = .ok (.iload_n 3, 1) := by decide +kernel
theorem d_Mod_set_85 : decode b_Mod_set 85 = .ok (.laload, 1) := by decide +kernel
theorem d_Mod_set_86 : decode b_Mod_set 86 = .ok (.invokevirtual 147, 3) := by decide +kernel
theorem d_Mod_set_89 : decode b_Mod_set 89 = .ok (.aload_n 0, 1) := by decide +kernel
theorem d_Mod_set_90 : decode b_Mod_set 90 = .ok (.aload_n 0, 1) := by decide +kernel
theorem d_Mod_set_91 : decode b_Mod_set 91 = .ok (.getfield 141, 3) := by decide +kernel
theorem d_Mod_set_94 : decode b_Mod_set 94 = .ok (.putfield 64, 3) := by decide +kernel
theorem d_Mod_set_97 : decode b_Mod_set 97 = .ok (.return_, 1) := by decide +kernel
theorem d_Mod_tableOf_0 : decode b_Mod_tableOf 0 = .ok (.aload_n 0, 1) := by decide +kernel
theorem d_Mod_tableOf_1 : decode b_Mod_tableOf 1 = .ok (.lload_n 1, 1) := by decide +kernel
theorem d_Mod_tableOf_2 : decode b_Mod_tableOf 2 = .ok (.invokevirtual 74, 3) := by decide +kernel
theorem d_Mod_tableOf_5 : decode b_Mod_tableOf 5 = .ok (.istore_n 3, 1) := by decide +kernel
theorem d_Mod_tableOf_6 : decode b_Mod_tableOf 6 = .ok (.iload_n 3, 1) := by decide +kernel
theorem d_Mod_tableOf_7 : decode b_Mod_tableOf 7 = .ok (.ifCond .lt 17, 3) := by decide +kernel
theorem d_Mod_tableOf_10 : decode b_Mod_tableOf 10 = .ok (.aload_n 0, 1) := by decide +kernel
theorem d_Mod_tableOf_11 : decode b_Mod_tableOf 11 = .ok (.getfield 26, 3) := by decide +kernel
theorem d_Mod_tableOf_14 : decode b_Mod_tableOf 14 = .ok (.iload_n 3, 1) := by decide +kernel
theorem d_Mod_tableOf_15 : decode b_Mod_tableOf 15 = .ok (.iaload, 1) := by decide +kernel
theorem d_Mod_tableOf_16 : decode b_Mod_tableOf 16 = .ok (.iconst 1, 1) := by decide +kernel
theorem d_Mod_tableOf_17 : decode b_Mod_tableOf 17 = .ok (.if_icmp .ne 7, 3) := by decide +kernel
theorem d_Mod_tableOf_20 : decode b_Mod_tableOf 20 = .ok (.iload_n 3, 1) := by decide +kernel
theorem d_Mod_tableOf_21 : decode b_Mod_tableOf 21 = .ok (.goto 4, 3) := by decide +kernel
theorem d_Mod_tableOf_24 : decode b_Mod_tableOf 24 = .ok (.iconst (-1), 1) := by decide +kernel
theorem d_Mod_tableOf_25 : decode b_Mod_tableOf 25 = .ok (.ireturn, 1) := by decide +kernel
theorem d_Mod_pairOf_0 : decode b_Mod_pairOf 0 = .ok (.iconst 0, 1) := by decide +kernel
theorem d_Mod_pairOf_1 : decode b_Mod_pairOf 1 = .ok (.istore 4, 2) := by decide +kernel
theorem d_Mod_pairOf_3 : decode b_Mod_pairOf 3 = .ok (.iload 4, 2) := by decide +kernel
theorem d_Mod_pairOf_5 : decode b_Mod_pairOf 5 = .ok (.aload_n 0, 1) := by decide +kernel
theorem d_Mod_pairOf_6 : decode b_Mod_pairOf 6 = .ok (.getfield 32, 3) := by decide +kernel
theorem d_Mod_pairOf_9 : decode b_Mod_pairOf 9 = .ok (.iload_n 1, 1) := by decide +kernel
theorem d_Mod_pairOf_10 : decode b_Mod_pairOf 10 = .ok (.iaload, 1) := by decide +kernel
theorem d_Mod_pairOf_11 : decode b_Mod_pairOf 11 = .ok (.if_icmp .ge 29, 3) := by decide +kernel
theorem d_Mod_pairOf_14 : decode b_Mod_pairOf 14 = .ok (.aload_n 0, 1) := by decide +kernel
theorem d_Mod_pairOf_15 : decode b_Mod_pairOf 15 = .ok (.getfield 38, 3) := by decide +kernel
theorem d_Mod_pairOf_18 : decode b_Mod_pairOf 18 = .ok (.iload_n 1, 1) := by decide +kernel
theorem d_Mod_pairOf_19 : decode b_Mod_pairOf 19 = .ok (.bipush 6, 2) := by decide +kernel
theorem d_Mod_pairOf_21 : decode b_Mod_pairOf 21 = .ok (.imul, 1) := by decide +kernel
theorem d_Mod_pairOf_22 : decode b_Mod_pairOf 22 = .ok (.iload 4, 2) := by decide +kernel
theorem d_Mod_pairOf_24 : decode b_Mod_pairOf 24 = .ok (.iadd, 1) := by decide +kernel
theorem d_Mod_pairOf_25 : decode b_Mod_pairOf 25 = .ok (.laload, 1) := by decide +kernel
theorem d_Mod_pairOf_26 : decode b_Mod_pairOf 26 = .ok (.lload_n 2, 1) := by decide +kernel
theorem d_Mod_pairOf_27 : decode b_Mod_pairOf 27 = .ok (.lcmp, 1) := by decide +kernel
theorem d_Mod_pairOf_28 : decode b_Mod_pairOf 28 = .ok (.ifCond .ne 6, 3) := by decide +kernel
theorem d_Mod_pairOf_31 : decode b_Mod_pairOf 31 = .ok (.iload 4, 2) := by decide +kernel
theorem d_Mod_pairOf_33 : decode b_Mod_pairOf 33 = .ok (.ireturn, 1) := by decide +kernel
theorem d_Mod_pairOf_34 : decode b_Mod_pairOf 34 = .ok (.iinc 4 1, 3) := by decide +kernel
theorem d_Mod_pairOf_37 : decode b_Mod_pairOf 37 = .ok (.goto (-34), 3) := by decide +kernel
theorem d_Mod_pairOf_40 : decode b_Mod_pairOf 40 = .ok (.iconst (-1), 1) := by decide +kernel
theorem d_Mod_pairOf_41 : decode b_Mod_pairOf 41 = .ok (.ireturn, 1) := by decide +kernel
theorem d_Mod_next_0 : decode b_Mod_next 0 = .ok (.aload_n 0, 1) := by decide +kernel
theorem d_Mod_next_1 : decode b_Mod_next 1 = .ok (.getfield 35, 3) := by decide +kernel
theorem d_Mod_next_4 : decode b_Mod_next 4 = .ok (.iload_n 1, 1) := by decide +kernel
theorem d_Mod_next_5 : decode b_Mod_next 5 = .ok (.iaload, 1) := by decide +kernel
theorem d_Mod_next_6 : decode b_Mod_next 6 = .ok (.istore 4, 2) := by decide +kernel
theorem d_Mod_next_8 : decode b_Mod_next 8 = .ok (.iload 4, 2) := by decide +kernel
theorem d_Mod_next_10 : decode b_Mod_next 10 = .ok (.ifCond .ge 5, 3) := by decide +kernel
theorem d_Mod_next_13 : decode b_Mod_next 13 = .ok (.iconst (-1), 1) := by decide +kernel
theorem d_Mod_next_14 : decode b_Mod_next 14 = .ok (.ireturn, 1) := by decide +kernel
theorem d_Mod_next_15 : decode b_Mod_next 15 = .ok (.aload_n 0, 1) := by decide +kernel
theorem d_Mod_next_16 : decode b_Mod_next 16 = .ok (.iload 4, 2) := by decide +kernel
theorem d_Mod_next_18 : decode b_Mod_next 18 = .ok (.lload_n 2, 1) := by decide +kernel
theorem d_Mod_next_19 : decode b_Mod_next 19 = .ok (.invokevirtual 131, 3) := by decide +kernel
theorem d_Mod_next_22 : decode b_Mod_next 22 = .ok (.istore 5, 2) := by decide +kernel
theorem d_Mod_next_24 : decode b_Mod_next 24 = .ok (.iload 5, 2) := by decide +kernel
theorem d_Mod_next_26 : decode b_Mod_next 26 = .ok (.ifCond .ge 7, 3) := by decide +kernel
theorem d_Mod_next_29 : decode b_Mod_next 29 = .ok (.iconst (-1), 1) := by decide +kernel
theorem d_Mod_next_30 : decode b_Mod_next 30 = .ok (.goto 20, 3) := by decide +kernel
theorem d_Mod_next_33 : decode b_Mod_next 33 = .ok (.aload_n 0, 1) := by decide +kernel
theorem d_Mod_next_34 : decode b_Mod_next 34 = .ok (.aload_n 0, 1) := by decide +kernel
theorem d_Mod_next_35 : decode b_Mod_next 35 = .ok (.getfield 41, 3) := by decide +kernel
theorem d_Mod_next_38 : decode b_Mod_next 38 = .ok (.iload 4, 2) := by decide +kernel
theorem d_Mod_next_40 : decode b_Mod_next 40 = .ok (.bipush 6, 2) := by decide +kernel
theorem d_Mod_next_42 : decode b_Mod_next 42 = .ok (.imul, 1) := by decide +kernel
theorem d_Mod_next_43 : decode b_Mod_next 43 = .ok (.iload 5, 2) := by decide +kernel
theorem d_Mod_next_45 : decode b_Mod_next 45 = .ok (.iadd, 1) := by decide +kernel
theorem d_Mod_next_46 : decode b_Mod_next 46 = .ok (.laload, 1) := by decide +kernel
theorem d_Mod_next_47 : decode b_Mod_next 47 = .ok (.invokevirtual 135, 3) := by decide +kernel
theorem d_Mod_next_50 : decode b_Mod_next 50 = .ok (.ireturn, 1) := by decide +kernel
theorem d_Mod_touch_0 : decode b_Mod_touch 0 = .ok (.aload_n 0, 1) := by decide +kernel
theorem d_Mod_touch_1 : decode b_Mod_touch 1 = .ok (.getfield 92, 3) := by decide +kernel
theorem d_Mod_touch_4 : decode b_Mod_touch 4 = .ok (.iconst 1, 1) := by decide +kernel
theorem d_Mod_touch_5 : decode b_Mod_touch 5 = .ok (.if_icmp .ne 20, 3) := by decide +kernel
theorem d_Mod_touch_8 : decode b_Mod_touch 8 = .ok (.aload_n 0, 1) := by decide +kernel
theorem d_Mod_touch_9 : decode b_Mod_touch 9 = .ok (.getfield 29, 3) := by decide +kernel
theorem d_Mod_touch_12 : decode b_Mod_touch 12 = .ok (.iload_n 1, 1) := by decide +kernel
theorem d_Mod_touch_13 : decode b_Mod_touch 13 = .ok (.iaload, 1) := by decide +kernel
theorem d_Mod_touch_14 : decode b_Mod_touch 14 = .ok (.iconst 2, 1) := by decide +kernel
theorem d_Mod_touch_15 : decode b_Mod_touch 15 = .ok (.if_icmp .ne 10, 3) := by decide +kernel
theorem d_Mod_touch_18 : decode b_Mod_touch 18 = .ok (.aload_n 0, 1) := by decide +kernel
theorem d_Mod_touch_19 : decode b_Mod_touch 19 = .ok (.getfield 29, 3) := by decide +kernel
theorem d_Mod_touch_22 : decode b_Mod_touch 22 = .ok (.iload_n 1, 1) := by decide +kernel
theorem d_Mod_touch_23 : decode b_Mod_touch 23 = .ok (.iconst 1, 1) := by decide +kernel
theorem d_Mod_touch_24 : decode b_Mod_touch 24 = .ok (.iastore, 1) := by decide +kernel
theorem d_Mod_touch_25 : decode b_Mod_touch 25 = .ok (.return_, 1) := by decide +kernel
theorem d_Mod_get_0 : decode b_Mod_get 0 = .ok (.aload_n 0, 1) := by decide +kernel
theorem d_Mod_get_1 : decode b_Mod_get 1 = .ok (.aload_n 0, 1) := by decide +kernel
theorem d_Mod_get_2 : decode b_Mod_get 2 = .ok (.iload_n 1, 1) := by decide +kernel
theorem d_Mod_get_3 : decode b_Mod_get 3 = .ok (.invokevirtual 78, 3) := by decide +kernel
theorem d_Mod_get_6 : decode b_Mod_get 6 = .ok (.ifCond .ne 19, 3) := by decide +kernel
theorem d_Mod_get_9 : decode b_Mod_get 9 = .ok (.aload_n 0, 1) := by decide +kernel
theorem d_Mod_get_10 : decode b_Mod_get 10 = .ok (.iload_n 2, 1) := by decide +kernel
theorem d_Mod_get_11 : decode b_Mod_get 11 = .ok (.invokevirtual 78, 3) := by decide +kernel
theorem d_Mod_get_14 : decode b_Mod_get 14 = .ok (.ifCond .ne 11, 3) := by decide +kernel
theorem d_Mod_get_17 : decode b_Mod_get 17 = .ok (.aload_n 0, 1) := by decide +kernel
theorem d_Mod_get_18 : decode b_Mod_get 18 = .ok (.iload_n 3, 1) := by decide +kernel
theorem d_Mod_get_19 : decode b_Mod_get 19 = .ok (.invokevirtual 78, 3) := by decide +kernel
theorem d_Mod_get_22 : decode b_Mod_get 22 = .ok (.ifCond .eq 7, 3) := by decide +kernel
theorem d_Mod_get_25 : decode b_Mod_get 25 = .ok (.iconst 1, 1) := by decide +kernel
theorem d_Mod_get_26 : decode b_Mod_get 26 = .ok (.goto 21, 3) := by decide +kernel
theorem d_Mod_get_29 : decode b_Mod_get 29 = .ok (.aload_n 0, 1) := by decide +kernel
theorem d_Mod_get_30 : decode b_Mod_get 30 = .ok (.aload_n 0, 1) := by decide +kernel
theorem d_Mod_get_31 : decode b_Mod_get 31 = .ok (.getfield 22, 3) := by decide +kernel
theorem d_Mod_get_34 : decode b_Mod_get 34 = .ok (.iload_n 1, 1) := by decide +kernel
theorem d_Mod_get_35 : decode b_Mod_get 35 = .ok (.laload, 1) := by decide +kernel
theorem d_Mod_get_36 : decode b_Mod_get 36 = .ok (.invokevirtual 135, 3) := by decide +kernel
theorem d_Mod_get_39 : decode b_Mod_get 39 = .ok (.ifCond .ge 7, 3) := by decide +kernel
theorem d_Mod_get_42 : decode b_Mod_get 42 = .ok (.iconst 3, 1) := by decide +kernel
theorem d_Mod_get_43 : decode b_Mod_get 43 = .ok (.goto 4, 3) := by decide +kernel
theorem d_Mod_get_46 : decode b_Mod_get 46 = .ok (.iconst 0, 1) := by decide +kernel
theorem d_Mod_get_47 : decode b_Mod_get 47 = .ok (.putfield 64, 3) := by decide +kernel
theorem d_Mod_get_50 : decode b_Mod_get 50 = .ok (.aload_n 0, 1) := by decide +kernel
theorem d_Mod_get_51 : decode b_Mod_get 51 = .ok (.getfield 64, 3) := by decide +kernel
theorem d_Mod_get_54 : decode b_Mod_get 54 = .ok (.ifCond .eq 5, 3) := by decide +kernel
theorem d_Mod_get_57 : decode b_Mod_get 57 = .ok (.lconst 0, 1) := by decide +kernel
theorem d_Mod_get_58 : decode b_Mod_get 58 = .ok (.lreturn, 1) := by decide +kernel
theorem d_Mod_get_59 : decode b_Mod_get 59 = .ok (.aload_n 0, 1) := by decide +kernel
theorem d_Mod_get_60 : decode b_Mod_get 60 = .ok (.iconst 0, 1) := by decide +kernel
theorem d_Mod_get_61 : decode b_Mod_get 61 = .ok (.putfield 141, 3) := by decide +kernel
theorem d_Mod_get_64 : decode b_Mod_get 64 = .ok (.aload_n 0, 1) := by decide +kernel
theorem d_Mod_get_65 : decode b_Mod_get 65 = .ok (.aload_n 0, 1) := by decide +kernel
theorem d_Mod_get_66 : decode b_Mod_get 66 = .ok (.aload_n 0, 1) := by decide +kernel
theorem d_Mod_get_67 : decode b_Mod_get 67 = .ok (.getfield 22, 3) := by decide +kernel
theorem d_Mod_get_70 : decode b_Mod_get 70 = .ok (.iload_n 1, 1) := by decide +kernel
theorem d_Mod_get_71 : decode b_Mod_get 71 = .ok (.laload, 1) := by decide +kernel
theorem d_Mod_get_72 : decode b_Mod_get 72 = .ok (.invokevirtual 135, 3) := by decide +kernel
theorem d_Mod_get_75 : decode b_Mod_get 75 = .ok (.aload_n 0, 1) := by decide +kernel
theorem d_Mod_get_76 : decode b_Mod_get 76 = .ok (.getfield 22, 3) := by decide +kernel
theorem d_Mod_get_79 : decode b_Mod_get 79 = .ok (.iload_n 2, 1) := by decide +kernel
theorem d_Mod_get_80 : decode b_Mod_get 80 = .ok (.laload, 1) := by decide +kernel
theorem d_Mod_get_81 : decode b_Mod_get 81 = .ok (.invokevirtual 151, 3) := by decide +kernel
theorem d_Mod_get_84 : decode b_Mod_get 84 = .ok (.lstore 4, 2) := by decide +kernel
theorem d_Mod_get_86 : decode b_Mod_get 86 = .ok (.aload_n 0, 1) := by decide +kernel
theorem d_Mod_get_87 : decode b_Mod_get 87 = .ok (.aload_n 0, 1) := by decide +kernel
theorem d_Mod_get_88 : decode b_Mod_get 88 = .ok (.getfield 141, 3) := by decide +kernel
theorem d_Mod_get_91 : decode b_Mod_get 91 = .ok (.putfield 64, 3) := by decide +kernel
theorem d_Mod_get_94 : decode b_Mod_get 94 = .ok (.aload_n 0, 1) := by decide +kernel
theorem d_Mod_get_95 : decode b_Mod_get 95 = .ok (.getfield 64, 3) := by decide +kernel
theorem d_Mod_get_98 : decode b_Mod_get 98 = .ok (.ifCond .eq 5, 3) := by decide +kernel
theorem d_Mod_get_101 : decode b_Mod_get 101 = .ok (.lconst 0, 1) := by decide +kernel
theorem d_Mod_get_102 : decode b_Mod_get 102 = .ok (.lreturn, 1) := by decide +kernel
theorem d_Mod_get_103 : decode b_Mod_get 103 = .ok (.aload_n 0, 1) := by decide +kernel
theorem d_Mod_get_104 : decode b_Mod_get 104 = .ok (.getfield 22, 3) := by decide +kernel
theorem d_Mod_get_107 : decode b_Mod_get 107 = .ok (.iload_n 3, 1) := by decide +kernel
theorem d_Mod_get_108 : decode b_Mod_get 108 = .ok (.lload 4, 2) := by decide +kernel
theorem d_Mod_get_110 : decode b_Mod_get 110 = .ok (.lastore, 1) := by decide +kernel
theorem d_Mod_get_111 : decode b_Mod_get 111 = .ok (.lload 4, 2) := by decide +kernel
theorem d_Mod_get_113 : decode b_Mod_get 113 = .ok (.lreturn, 1) := by decide +kernel
theorem d_Mod_getting_0 : decode b_Mod_getting 0 = .ok (.iload_n 1, 1) := by decide +kernel
theorem d_Mod_getting_1 : decode b_Mod_getting 1 = .ok (.istore 4, 2) := by decide +kernel
theorem d_Mod_getting_3 : decode b_Mod_getting 3 = .ok (.iconst 0, 1) := by decide +kernel
theorem d_Mod_getting_4 : decode b_Mod_getting 4 = .ok (.istore 5, 2) := by decide +kernel
theorem d_Mod_getting_6 : decode b_Mod_getting 6 = .ok (.iload 5, 2) := by decide +kernel
theorem d_Mod_getting_8 : decode b_Mod_getting 8 = .ok (.iconst 5, 1) := by decide +kernel
theorem d_Mod_getting_9 : decode b_Mod_getting 9 = .ok (.if_icmp .ge 67, 3) := by decide +kernel
theorem d_Mod_getting_12 : decode b_Mod_getting 12 = .ok (.lload_n 2, 1) := by decide +kernel
theorem d_Mod_getting_13 : decode b_Mod_getting 13 = .ok (.ldc2_w 62, 3) := by decide +kernel
theorem d_Mod_getting_16 : decode b_Mod_getting 16 = .ok (.lcmp, 1) := by decide +kernel
theorem d_Mod_getting_17 : decode b_Mod_getting 17 = .ok (.ifCond .ne 7, 3) := by decide +kernel
theorem d_Mod_getting_20 : decode b_Mod_getting 20 = .ok (.ldc2_w 62, 3) := by decide +kernel
theorem d_Mod_getting_23 : decode b_Mod_getting 23 = .ok (.lreturn, 1) := by decide +kernel
theorem d_Mod_getting_24 : decode b_Mod_getting 24 = .ok (.aload_n 0, 1) := by decide +kernel
theorem d_Mod_getting_25 : decode b_Mod_getting 25 = .ok (.iload 4, 2) := by decide +kernel
theorem d_Mod_getting_27 : decode b_Mod_getting 27 = .ok (.lload_n 2, 1) := by decide +kernel
theorem d_Mod_getting_28 : decode b_Mod_getting 28 = .ok (.invokevirtual 131, 3) := by decide +kernel
theorem d_Mod_getting_31 : decode b_Mod_getting 31 = .ok (.istore 6, 2) := by decide +kernel
theorem d_Mod_getting_33 : decode b_Mod_getting 33 = .ok (.iload 6, 2) := by decide +kernel
theorem d_Mod_getting_35 : decode b_Mod_getting 35 = .ok (.ifCond .lt 17, 3) := by decide +kernel
theorem d_Mod_getting_38 : decode b_Mod_getting 38 = .ok (.aload_n 0, 1) := by decide +kernel
theorem d_Mod_getting_39 : decode b_Mod_getting 39 = .ok (.getfield 41, 3) := by decide +kernel
theorem d_Mod_getting_42 : decode b_Mod_getting 42 = .ok (.iload 4, 2) := by decide +kernel
theorem d_Mod_getting_44 : decode b_Mod_getting 44 = .ok (.bipush 6, 2) := by decide +kernel
theorem d_Mod_getting_46 : decode b_Mod_getting 46 = .ok (.imul, 1) := by decide +kernel
theorem d_Mod_getting_47 : decode b_Mod_getting 47 = .ok (.iload 6, 2) := by decide +kernel
theorem d_Mod_getting_49 : decode b_Mod_getting 49 = .ok (.iadd, 1) := by decide +kernel
theorem d_Mod_getting_50 : decode b_Mod_getting 50 = .ok (.laload, 1) := by decide +kernel
theorem d_Mod_getting_51 : decode b_Mod_getting 51 = .ok (.lreturn, 1) := by decide +kernel
theorem d_Mod_getting_52 : decode b_Mod_getting 52 = .ok (.aload_n 0, 1) := by decide +kernel
theorem d_Mod_getting_53 : decode b_Mod_getting 53 = .ok (.iload 4, 2) := by decide +kernel
theorem d_Mod_getting_55 : decode b_Mod_getting 55 = .ok (.lconst 0, 1) := by decide +kernel
theorem d_Mod_getting_56 : decode b_Mod_getting 56 = .ok (.invokevirtual 138, 3) := by decide +kernel
theorem d_Mod_getting_59 : decode b_Mod_getting 59 = .ok (.istore 4, 2) := by decide +kernel
theorem d_Mod_getting_61 : decode b_Mod_getting 61 = .ok (.iload 4, 2) := by decide +kernel
theorem d_Mod_getting_63 : decode b_Mod_getting 63 = .ok (.ifCond .ge 7, 3) := by decide +kernel
theorem d_Mod_getting_66 : decode b_Mod_getting 66 = .ok (.ldc2_w 62, 3) := by decide +kernel
theorem d_Mod_getting_69 : decode b_Mod_getting 69 = .ok (.lreturn, 1) := by decide +kernel
theorem d_Mod_getting_70 : decode b_Mod_getting 70 = .ok (.iinc 5 1, 3) := by decide +kernel
theorem d_Mod_getting_73 : decode b_Mod_getting 73 = .ok (.goto (-67), 3) := by decide +kernel
theorem d_Mod_getting_76 : decode b_Mod_getting 76 = .ok (.aload_n 0, 1) := by decide +kernel
theorem d_Mod_getting_77 : decode b_Mod_getting 77 = .ok (.iconst 2, 1) := by decide +kernel
theorem d_Mod_getting_78 : decode b_Mod_getting 78 = .ok (.putfield 141, 3) := by decide +kernel
theorem d_Mod_getting_81 : decode b_Mod_getting 81 = .ok (.ldc2_w 62, 3) := by decide +kernel
theorem d_Mod_getting_84 : decode b_Mod_getting 84 = .ok (.lreturn, 1) := by decide +kernel
theorem d_Mod_meta_0 : decode b_Mod_meta 0 = .ok (.aload_n 0, 1) := by decide +kernel
theorem d_Mod_meta_1 : decode b_Mod_meta 1 = .ok (.aload_n 0, 1) := by decide +kernel
theorem d_Mod_meta_2 : decode b_Mod_meta 2 = .ok (.iload_n 1, 1) := by decide +kernel
theorem d_Mod_meta_3 : decode b_Mod_meta 3 = .ok (.invokevirtual 78, 3) := by decide +kernel
theorem d_Mod_meta_6 : decode b_Mod_meta 6 = .ok (.ifCond .ne 11, 3) := by decide +kernel
theorem d_Mod_meta_9 : decode b_Mod_meta 9 = .ok (.aload_n 0, 1) := by decide +kernel
theorem d_Mod_meta_10 : decode b_Mod_meta 10 = .ok (.iload_n 2, 1) := by decide +kernel
theorem d_Mod_meta_11 : decode b_Mod_meta 11 = .ok (.invokevirtual 78, 3) := by decide +kernel
theorem d_Mod_meta_14 : decode b_Mod_meta 14 = .ok (.ifCond .eq 7, 3) := by decide +kernel
theorem d_Mod_meta_17 : decode b_Mod_meta 17 = .ok (.iconst 1, 1) := by decide +kernel
theorem d_Mod_meta_18 : decode b_Mod_meta 18 = .ok (.goto 4, 3) := by decide +kernel
theorem d_Mod_meta_21 : decode b_Mod_meta 21 = .ok (.iconst 0, 1) := by decide +kernel
theorem d_Mod_meta_22 : decode b_Mod_meta 22 = .ok (.putfield 64, 3) := by decide +kernel
theorem d_Mod_meta_25 : decode b_Mod_meta 25 = .ok (.aload_n 0, 1) := by decide +kernel
theorem d_Mod_meta_26 : decode b_Mod_meta 26 = .ok (.getfield 64, 3) := by decide +kernel
theorem d_Mod_meta_29 : decode b_Mod_meta 29 = .ok (.ifCond .eq 4, 3) := by decide +kernel
theorem d_Mod_meta_32 : decode b_Mod_meta 32 = .ok (.return_, 1) := by decide +kernel
theorem d_Mod_meta_33 : decode b_Mod_meta 33 = .ok (.aload_n 0, 1) := by decide +kernel
theorem d_Mod_meta_34 : decode b_Mod_meta 34 = .ok (.iconst 0, 1) := by decide +kernel
theorem d_Mod_meta_35 : decode b_Mod_meta 35 = .ok (.putfield 141, 3) := by decide +kernel
theorem d_Mod_meta_38 : decode b_Mod_meta 38 = .ok (.aload_n 0, 1) := by decide +kernel
theorem d_Mod_meta_39 : decode b_Mod_meta 39 = .ok (.aload_n 0, 1) := by decide +kernel
theorem d_Mod_meta_40 : decode b_Mod_meta 40 = .ok (.getfield 22, 3) := by decide +kernel
theorem d_Mod_meta_43 : decode b_Mod_meta 43 = .ok (.iload_n 1, 1) := by decide +kernel
theorem d_Mod_meta_44 : decode b_Mod_meta 44 = .ok (.laload, 1) := by decide +kernel
theorem d_Mod_meta_45 : decode b_Mod_meta 45 = .ok (.aload_n 0, 1) := by decide +kernel
theorem d_Mod_meta_46 : decode b_Mod_meta 46 = .ok (.getfield 22, 3) := by decide +kernel
theorem d_Mod_meta_49 : decode b_Mod_meta 49 = .ok (.iload_n 2, 1) := by decide +kernel
theorem d_Mod_meta_50 : decode b_Mod_meta 50 = .ok (.laload, 1) := by decide +kernel
theorem d_Mod_meta_51 : decode b_Mod_meta 51 = .ok (.invokevirtual 155, 3) := by decide +kernel
theorem d_Mod_meta_54 : decode b_Mod_meta 54 = .ok (.aload_n 0, 1) := by decide +kernel
theorem d_Mod_meta_55 : decode b_Mod_meta 55 = .ok (.aload_n 0, 1) := by decide +kernel
theorem d_Mod_meta_56 : decode b_Mod_meta 56 = .ok (.getfield 141, 3) := by decide +kernel
theorem d_Mod_meta_59 : decode b_Mod_meta 59 = .ok (.ifCond .ne 7, 3) := by decide +kernel
theorem d_Mod_meta_62 : decode b_Mod_meta 62 = .ok (.iconst 0, 1) := by decide +kernel
theorem d_Mod_meta_63 : decode b_Mod_meta 63 = .ok (.goto 4, 3) := by decide +kernel
theorem d_Mod_meta_66 : decode b_Mod_meta 66 = .ok (.iconst 2, 1) := by decide +kernel
theorem d_Mod_meta_67 : decode b_Mod_meta 67 = .ok (.putfield 64, 3) := by decide +kernel
theorem d_Mod_meta_70 : decode b_Mod_meta 70 = .ok (.return_, 1) := by decide +kernel
theorem d_Mod_join_0 : decode b_Mod_join 0 = .ok (.aload_n 0, 1) := by decide +kernel
theorem d_Mod_join_1 : decode b_Mod_join 1 = .ok (.lload_n 1, 1) := by decide +kernel
theorem d_Mod_join_2 : decode b_Mod_join 2 = .ok (.invokevirtual 135, 3) := by decide +kernel
theorem d_Mod_join_5 : decode b_Mod_join 5 = .ok (.istore 5, 2) := by decide +kernel
theorem d_Mod_join_7 : decode b_Mod_join 7 = .ok (.iload 5, 2) := by decide +kernel
theorem d_Mod_join_9 : decode b_Mod_join 9 = .ok (.ifCond .lt 19, 3) := by decide +kernel
theorem d_Mod_join_12 : decode b_Mod_join 12 = .ok (.lload_n 3, 1) := by decide +kernel
theorem d_Mod_join_13 : decode b_Mod_join 13 = .ok (.ldc2_w 62, 3) := by decide +kernel
theorem d_Mod_join_16 : decode b_Mod_join 16 = .ok (.lcmp, 1) := by decide +kernel
theorem d_Mod_join_17 : decode b_Mod_join 17 = .ok (.ifCond .eq 17, 3) := by decide +kernel
theorem d_Mod_join_20 : decode b_Mod_join 20 = .ok (.aload_n 0, 1) := by decide +kernel
theorem d_Mod_join_21 : decode b_Mod_join 21 = .ok (.lload_n 3, 1) := by decide +kernel
theorem d_Mod_join_22 : decode b_Mod_join 22 = .ok (.invokevirtual 135, 3) := by decide +kernel
theorem d_Mod_join_25 : decode b_Mod_join 25 = .ok (.ifCond .ge 9, 3) := by decide +kernel
theorem d_Mod_join_28 : decode b_Mod_join 28 = .ok (.aload_n 0, 1) := by decide +kernel
theorem d_Mod_join_29 : decode b_Mod_join 29 = .ok (.iconst 3, 1) := by decide +kernel
theorem d_Mod_join_30 : decode b_Mod_join 30 = .ok (.putfield 141, 3) := by decide +kernel
theorem d_Mod_join_33 : decode b_Mod_join 33 = .ok (.return_, 1) := by decide +kernel
theorem d_Mod_join_34 : decode b_Mod_join 34 = .ok (.aload_n 0, 1) := by decide +kernel
theorem d_Mod_join_35 : decode b_Mod_join 35 = .ok (.getfield 35, 3) := by decide +kernel
theorem d_Mod_join_38 : decode b_Mod_join 38 = .ok (.iload 5, 2) := by decide +kernel
theorem d_Mod_join_40 : decode b_Mod_join 40 = .ok (.lload_n 3, 1) := by decide +kernel
theorem d_Mod_join_41 : decode b_Mod_join 41 = .ok (.ldc2_w 62, 3) := by decide +kernel
theorem d_Mod_join_44 : decode b_Mod_join 44 = .ok (.lcmp, 1) := by decide +kernel
theorem d_Mod_join_45 : decode b_Mod_join 45 = .ok (.ifCond .ne 7, 3) := by decide +kernel
theorem d_Mod_join_48 : decode b_Mod_join 48 = .ok (.iconst (-1), 1) := by decide +kernel
theorem d_Mod_join_49 : decode b_Mod_join 49 = .ok (.goto 8, 3) := by decide +kernel
theorem d_Mod_join_52 : decode b_Mod_join 52 = .ok (.aload_n 0, 1) := by decide +kernel
theorem d_Mod_join_53 : decode b_Mod_join 53 = .ok (.lload_n 3, 1) := by decide +kernel
theorem d_Mod_join_54 : decode b_Mod_join 54 = .ok (.invokevirtual 135, 3) := by decide +kernel
theorem d_Mod_join_57 : decode b_Mod_join 57 = .ok (.iastore, 1) := by decide +kernel
theorem d_Mod_join_58 : decode b_Mod_join 58 = .ok (.aload_n 0, 1) := by decide +kernel
theorem d_Mod_join_59 : decode b_Mod_join 59 = .ok (.iload 5, 2) := by decide +kernel
theorem d_Mod_join_61 : decode b_Mod_join 61 = .ok (.invokevirtual 144, 3) := by decide +kernel
theorem d_Mod_join_64 : decode b_Mod_join 64 = .ok (.return_, 1) := by decide +kernel
theorem d_Mod_enter_0 : decode b_Mod_enter 0 = .ok (.aload_n 0, 1) := by decide +kernel
theorem d_Mod_enter_1 : decode b_Mod_enter 1 = .ok (.lload_n 1, 1) := by decide +kernel
theorem d_Mod_enter_2 : decode b_Mod_enter 2 = .ok (.invokevirtual 159, 3) := by decide +kernel
theorem d_Mod_enter_5 : decode b_Mod_enter 5 = .ok (.istore 5, 2) := by decide +kernel
theorem d_Mod_enter_7 : decode b_Mod_enter 7 = .ok (.iload 5, 2) := by decide +kernel
theorem d_Mod_enter_9 : decode b_Mod_enter 9 = .ok (.ifCond .lt 14, 3) := by decide +kernel
theorem d_Mod_enter_12 : decode b_Mod_enter 12 = .ok (.aload_n 0, 1) := by decide +kernel
theorem d_Mod_enter_13 : decode b_Mod_enter 13 = .ok (.getfield 53, 3) := by decide +kernel
theorem d_Mod_enter_16 : decode b_Mod_enter 16 = .ok (.iload 5, 2) := by decide +kernel
theorem d_Mod_enter_18 : decode b_Mod_enter 18 = .ok (.iaload, 1) := by decide +kernel
theorem d_Mod_enter_19 : decode b_Mod_enter 19 = .ok (.iconst 1, 1) := by decide +kernel
theorem d_Mod_enter_20 : decode b_Mod_enter 20 = .ok (.if_icmp .le 9, 3) := by decide +kernel
theorem d_Mod_enter_23 : decode b_Mod_enter 23 = .ok (.aload_n 0, 1) := by decide +kernel
theorem d_Mod_enter_24 : decode b_Mod_enter 24 = .ok (.iconst 3, 1) := by decide +kernel
theorem d_Mod_enter_25 : decode b_Mod_enter 25 = .ok (.putfield 141, 3) := by decide +kernel
theorem d_Mod_enter_28 : decode b_Mod_enter 28 = .ok (.return_, 1) := by decide +kernel
theorem d_Mod_enter_29 : decode b_Mod_enter 29 = .ok (.aload_n 0, 1) := by decide +kernel
theorem d_Mod_enter_30 : decode b_Mod_enter 30 = .ok (.getfield 86, 3) := by decide +kernel
theorem d_Mod_enter_33 : decode b_Mod_enter 33 = .ok (.iconst 5, 1) := by decide +kernel
theorem d_Mod_enter_34 : decode b_Mod_enter 34 = .ok (.if_icmp .ne 9, 3) := by decide +kernel
theorem d_Mod_enter_37 : decode b_Mod_enter 37 = .ok (.aload_n 0, 1) := by decide +kernel
theorem d_Mod_enter_38 : decode b_Mod_enter 38 = .ok (.iconst 2, 1) := by decide +kernel
theorem d_Mod_enter_39 : decode b_Mod_enter 39 = .ok (.putfield 141, 3) := by decide +kernel
theorem d_Mod_enter_42 : decode b_Mod_enter 42 = .ok (.return_, 1) := by decide +kernel
theorem d_Mod_enter_43 : decode b_Mod_enter 43 = .ok (.iconst 0, 1) := by decide +kernel
theorem d_Mod_enter_44 : decode b_Mod_enter 44 = .ok (.istore 6, 2) := by decide +kernel
theorem d_Mod_enter_46 : decode b_Mod_enter 46 = .ok (.aload_n 0, 1) := by decide +kernel
theorem d_Mod_enter_47 : decode b_Mod_enter 47 = .ok (.getfield 53, 3) := by decide +kernel
theorem d_Mod_enter_50 : decode b_Mod_enter 50 = .ok (.iload 5, 2) := by decide +kernel
theorem d_Mod_enter_52 : decode b_Mod_enter 52 = .ok (.iaload, 1) := by decide +kernel
theorem d_Mod_enter_53 : decode b_Mod_enter 53 = .ok (.iconst 1, 1) := by decide +kernel
theorem d_Mod_enter_54 : decode b_Mod_enter 54 = .ok (.if_icmp .ne 12, 3) := by decide +kernel
theorem d_Mod_enter_57 : decode b_Mod_enter 57 = .ok (.aload_n 0, 1) := by decide +kernel
theorem d_Mod_enter_58 : decode b_Mod_enter 58 = .ok (.getfield 56, 3) := by decide +kernel
theorem d_Mod_enter_61 : decode b_Mod_enter 61 = .ok (.iload 5, 2) := by decide +kernel
theorem d_Mod_enter_63 : decode b_Mod_enter 63 = .ok (.iaload, 1) := by decide +kernel
theorem d_Mod_enter_64 : decode b_Mod_enter 64 = .ok (.istore 6, 2) := by decide +kernel
theorem d_Mod_enter_66 : decode b_Mod_enter 66 = .ok (.aload_n 0, 1) := by decide +kernel
theorem d_Mod_enter_67 : decode b_Mod_enter 67 = .ok (.getfield 44, 3) := by decide +kernel
theorem d_Mod_enter_70 : decode b_Mod_enter 70 = .ok (.iload 5, 2) := by decide +kernel
theorem d_Mod_enter_72 : decode b_Mod_enter 72 = .ok (.iconst 4, 1) := by decide +kernel
theorem d_Mod_enter_73 : decode b_Mod_enter 73 = .ok (.imul, 1) := by decide +kernel
theorem d_Mod_enter_74 : decode b_Mod_enter 74 = .ok (.iload 6, 2) := by decide +kernel
theorem d_Mod_enter_76 : decode b_Mod_enter 76 = .ok (.iadd, 1) := by decide +kernel
theorem d_Mod_enter_77 : decode b_Mod_enter 77 = .ok (.lload_n 3, 1) := by decide +kernel
theorem d_Mod_enter_78 : decode b_Mod_enter 78 = .ok (.lastore, 1) := by decide +kernel
theorem d_Mod_enter_79 : decode b_Mod_enter 79 = .ok (.aload_n 0, 1) := by decide +kernel
theorem d_Mod_enter_80 : decode b_Mod_enter 80 = .ok (.iload 5, 2) := by decide +kernel
theorem d_Mod_enter_82 : decode b_Mod_enter 82 = .ok (.invokevirtual 144, 3) := by decide +kernel
theorem d_Mod_enter_85 : decode b_Mod_enter 85 = .ok (.aload_n 0, 1) := by decide +kernel
theorem d_Mod_enter_86 : decode b_Mod_enter 86 = .ok (.getfield 53, 3) := by decide +kernel
theorem d_Mod_enter_89 : decode b_Mod_enter 89 = .ok (.iload 5, 2) := by decide +kernel
theorem d_Mod_enter_91 : decode b_Mod_enter 91 = .ok (.iconst 2, 1) := by decide +kernel
theorem d_Mod_enter_92 : decode b_Mod_enter 92 = .ok (.iastore, 1) := by decide +kernel
theorem d_Mod_enter_93 : decode b_Mod_enter 93 = .ok (.aload_n 0, 1) := by decide +kernel
theorem d_Mod_enter_94 : decode b_Mod_enter 94 = .ok (.getfield 59, 3) := by decide +kernel
theorem d_Mod_enter_97 : decode b_Mod_enter 97 = .ok (.aload_n 0, 1) := by decide +kernel
theorem d_Mod_enter_98 : decode b_Mod_enter 98 = .ok (.getfield 86, 3) := by decide +kernel
theorem d_Mod_enter_101 : decode b_Mod_enter 101 = .ok (.iload 5, 2) := by decide +kernel
theorem d_Mod_enter_103 : decode b_Mod_enter 103 = .ok (.iastore, 1) := by decide +kernel
theorem d_Mod_enter_104 : decode b_Mod_enter 104 = .ok (.aload_n 0, 1) := by decide +kernel
theorem d_Mod_enter_105 : decode b_Mod_enter 105 = .ok (.dup, 1) := by decide +kernel
theorem d_Mod_enter_106 : decode b_Mod_enter 106 = .ok (.getfield 86, 3) := by decide +kernel
theorem d_Mod_enter_109 : decode b_Mod_enter 109 = .ok (.iconst 1, 1) := by decide +kernel
theorem d_Mod_enter_110 : decode b_Mod_enter 110 = .ok (.iadd, 1) := by decide +kernel
theorem d_Mod_enter_111 : decode b_Mod_enter 111 = .ok (.putfield 86, 3) := by decide +kernel
theorem d_Mod_enter_114 : decode b_Mod_enter 114 = .ok (.return_, 1) := by decide +kernel
theorem d_Mod_coroutineOf_0 : decode b_Mod_coroutineOf 0 = .ok (.aload_n 0, 1) := by decide +kernel
theorem d_Mod_coroutineOf_1 : decode b_Mod_coroutineOf 1 = .ok (.lload_n 1, 1) := by decide +kernel
theorem d_Mod_coroutineOf_2 : decode b_Mod_coroutineOf 2 = .ok (.invokevirtual 74, 3) := by decide +kernel
theorem d_Mod_coroutineOf_5 : decode b_Mod_coroutineOf 5 = .ok (.istore_n 3, 1) := by decide +kernel
theorem d_Mod_coroutineOf_6 : decode b_Mod_coroutineOf 6 = .ok (.iload_n 3, 1) := by decide +kernel
theorem d_Mod_coroutineOf_7 : decode b_Mod_coroutineOf 7 = .ok (.ifCond .lt 17, 3) := by decide +kernel
theorem d_Mod_coroutineOf_10 : decode b_Mod_coroutineOf 10 = .ok (.aload_n 0, 1) := by decide +kernel
theorem d_Mod_coroutineOf_11 : decode b_Mod_coroutineOf 11 = .ok (.getfield 26, 3) := by decide +kernel
theorem d_Mod_coroutineOf_14 : decode b_Mod_coroutineOf 14 = .ok (.iload_n 3, 1) := by decide +kernel
theorem d_Mod_coroutineOf_15 : decode b_Mod_coroutineOf 15 = .ok (.iaload, 1) := by decide +kernel
theorem d_Mod_coroutineOf_16 : decode b_Mod_coroutineOf 16 = .ok (.iconst 2, 1) := by decide +kernel
theorem d_Mod_coroutineOf_17 : decode b_Mod_coroutineOf 17 = .ok (.if_icmp .ne 7, 3) := by decide +kernel
theorem d_Mod_coroutineOf_20 : decode b_Mod_coroutineOf 20 = .ok (.iload_n 3, 1) := by decide +kernel
theorem d_Mod_coroutineOf_21 : decode b_Mod_coroutineOf 21 = .ok (.goto 4, 3) := by decide +kernel
theorem d_Mod_coroutineOf_24 : decode b_Mod_coroutineOf 24 = .ok (.iconst (-1), 1) := by decide +kernel
theorem d_Mod_coroutineOf_25 : decode b_Mod_coroutineOf 25 = .ok (.ireturn, 1) := by decide +kernel
theorem d_Mod_leave_0 : decode b_Mod_leave 0 = .ok (.aload_n 0, 1) := by decide +kernel
theorem d_Mod_leave_1 : decode b_Mod_leave 1 = .ok (.dup, 1) := by decide +kernel
theorem d_Mod_leave_2 : decode b_Mod_leave 2 = .ok (.getfield 86, 3) := by decide +kernel
theorem d_Mod_leave_5 : decode b_Mod_leave 5 = .ok (.iconst 1, 1) := by decide +kernel
theorem d_Mod_leave_6 : decode b_Mod_leave 6 = .ok (.isub, 1) := by decide +kernel
theorem d_Mod_leave_7 : decode b_Mod_leave 7 = .ok (.putfield 86, 3) := by decide +kernel
theorem d_Mod_leave_10 : decode b_Mod_leave 10 = .ok (.aload_n 0, 1) := by decide +kernel
theorem d_Mod_leave_11 : decode b_Mod_leave 11 = .ok (.getfield 53, 3) := by decide +kernel
theorem d_Mod_leave_14 : decode b_Mod_leave 14 = .ok (.aload_n 0, 1) := by decide +kernel
theorem d_Mod_leave_15 : decode b_Mod_leave 15 = .ok (.getfield 59, 3) := by decide +kernel
theorem d_Mod_leave_18 : decode b_Mod_leave 18 = .ok (.aload_n 0, 1) := by decide +kernel
theorem d_Mod_leave_19 : decode b_Mod_leave 19 = .ok (.getfield 86, 3) := by decide +kernel
theorem d_Mod_leave_22 : decode b_Mod_leave 22 = .ok (.iaload, 1) := by decide +kernel
theorem d_Mod_leave_23 : decode b_Mod_leave 23 = .ok (.iload_n 1, 1) := by decide +kernel
theorem d_Mod_leave_24 : decode b_Mod_leave 24 = .ok (.iastore, 1) := by decide +kernel
theorem d_Mod_leave_25 : decode b_Mod_leave 25 = .ok (.aload_n 0, 1) := by decide +kernel
theorem d_Mod_leave_26 : decode b_Mod_leave 26 = .ok (.lload_n 2, 1) := by decide +kernel
theorem d_Mod_leave_27 : decode b_Mod_leave 27 = .ok (.putfield 162, 3) := by decide +kernel
theorem d_Mod_leave_30 : decode b_Mod_leave 30 = .ok (.aload_n 0, 1) := by decide +kernel
theorem d_Mod_leave_31 : decode b_Mod_leave 31 = .ok (.getfield 86, 3) := by decide +kernel
theorem d_Mod_leave_34 : decode b_Mod_leave 34 = .ok (.ifCond .ne 4, 3) := by decide +kernel
theorem d_Mod_leave_37 : decode b_Mod_leave 37 = .ok (.return_, 1) := by decide +kernel
theorem d_Mod_leave_38 : decode b_Mod_leave 38 = .ok (.aload_n 0, 1) := by decide +kernel
theorem d_Mod_leave_39 : decode b_Mod_leave 39 = .ok (.getfield 59, 3) := by decide +kernel
theorem d_Mod_leave_42 : decode b_Mod_leave 42 = .ok (.aload_n 0, 1) := by decide +kernel
theorem d_Mod_leave_43 : decode b_Mod_leave 43 = .ok (.getfield 86, 3) := by decide +kernel
theorem d_Mod_leave_46 : decode b_Mod_leave 46 = .ok (.iconst 1, 1) := by decide +kernel
theorem d_Mod_leave_47 : decode b_Mod_leave 47 = .ok (.isub, 1) := by decide +kernel
theorem d_Mod_leave_48 : decode b_Mod_leave 48 = .ok (.iaload, 1) := by decide +kernel
theorem d_Mod_leave_49 : decode b_Mod_leave 49 = .ok (.istore 4, 2) := by decide +kernel
theorem d_Mod_leave_51 : decode b_Mod_leave 51 = .ok (.aload_n 0, 1) := by decide +kernel
theorem d_Mod_leave_52 : decode b_Mod_leave 52 = .ok (.getfield 47, 3) := by decide +kernel
theorem d_Mod_leave_55 : decode b_Mod_leave 55 = .ok (.iload 4, 2) := by decide +kernel
theorem d_Mod_leave_57 : decode b_Mod_leave 57 = .ok (.iaload, 1) := by decide +kernel
theorem d_Mod_leave_58 : decode b_Mod_leave 58 = .ok (.bipush 16, 2) := by decide +kernel
theorem d_Mod_leave_60 : decode b_Mod_leave 60 = .ok (.imul, 1) := by decide +kernel
theorem d_Mod_leave_61 : decode b_Mod_leave 61 = .ok (.aload_n 0, 1) := by decide +kernel
theorem d_Mod_leave_62 : decode b_Mod_leave 62 = .ok (.getfield 50, 3) := by decide +kernel
theorem d_Mod_leave_65 : decode b_Mod_leave 65 = .ok (.iload 4, 2) := by decide +kernel
theorem d_Mod_leave_67 : decode b_Mod_leave 67 = .ok (.iaload, 1) := by decide +kernel
theorem d_Mod_leave_68 : decode b_Mod_leave 68 = .ok (.iadd, 1) := by decide +kernel
theorem d_Mod_leave_69 : decode b_Mod_leave 69 = .ok (.istore 5, 2) := by decide +kernel
theorem d_Mod_leave_71 : decode b_Mod_leave 71 = .ok (.aload_n 0, 1) := by decide +kernel
theorem d_Mod_leave_72 : decode b_Mod_leave 72 = .ok (.getfield 44, 3) := by decide +kernel
theorem d_Mod_leave_75 : decode b_Mod_leave 75 = .ok (.iload 4, 2) := by decide +kernel
theorem d_Mod_leave_77 : decode b_Mod_leave 77 = .ok (.iconst 4, 1) := by decide +kernel
theorem d_Mod_leave_78 : decode b_Mod_leave 78 = .ok (.imul, 1) := by decide +kernel
theorem d_Mod_leave_79 : decode b_Mod_leave 79 = .ok (.aload_n 0, 1) := by decide +kernel
theorem d_Mod_leave_80 : decode b_Mod_leave 80 = .ok (.getfield 13, 3) := by decide +kernel
theorem d_Mod_leave_83 : decode b_Mod_leave 83 = .ok (.iload 5, 2) := by decide +kernel
theorem d_Mod_leave_85 : decode b_Mod_leave 85 = .ok (.iaload, 1) := by decide +kernel
theorem d_Mod_leave_86 : decode b_Mod_leave 86 = .ok (.iconst 3, 1) := by decide +kernel
theorem d_Mod_leave_87 : decode b_Mod_leave 87 = .ok (.iand, 1) := by decide +kernel
theorem d_Mod_leave_88 : decode b_Mod_leave 88 = .ok (.iadd, 1) := by decide +kernel
theorem d_Mod_leave_89 : decode b_Mod_leave 89 = .ok (.lload_n 2, 1) := by decide +kernel
theorem d_Mod_leave_90 : decode b_Mod_leave 90 = .ok (.lastore, 1) := by decide +kernel
theorem d_Mod_leave_91 : decode b_Mod_leave 91 = .ok (.aload_n 0, 1) := by decide +kernel
theorem d_Mod_leave_92 : decode b_Mod_leave 92 = .ok (.getfield 50, 3) := by decide +kernel
theorem d_Mod_leave_95 : decode b_Mod_leave 95 = .ok (.iload 4, 2) := by decide +kernel
theorem d_Mod_leave_97 : decode b_Mod_leave 97 = .ok (.dup2, 1) := by decide +kernel
theorem d_Mod_leave_98 : decode b_Mod_leave 98 = .ok (.iaload, 1) := by decide +kernel
theorem d_Mod_leave_99 : decode b_Mod_leave 99 = .ok (.iconst 1, 1) := by decide +kernel
theorem d_Mod_leave_100 : decode b_Mod_leave 100 = .ok (.iadd, 1) := by decide +kernel
theorem d_Mod_leave_101 : decode b_Mod_leave 101 = .ok (.iastore, 1) := by decide +kernel
theorem d_Mod_leave_102 : decode b_Mod_leave 102 = .ok (.return_, 1) := by decide +kernel
theorem d_Mod_jumps_0 : decode b_Mod_jumps 0 = .ok (.iload_n 1, 1) := by decide +kernel
theorem d_Mod_jumps_1 : decode b_Mod_jumps 1 = .ok (.bipush 11, 2) := by decide +kernel
theorem d_Mod_jumps_3 : decode b_Mod_jumps 3 = .ok (.if_icmp .ne 38, 3) := by decide +kernel
theorem d_Mod_jumps_6 : decode b_Mod_jumps 6 = .ok (.aload_n 0, 1) := by decide +kernel
theorem d_Mod_jumps_7 : decode b_Mod_jumps 7 = .ok (.lload_n 2, 1) := by decide +kernel
theorem d_Mod_jumps_8 : decode b_Mod_jumps 8 = .ok (.invokevirtual 166, 3) := by decide +kernel
theorem d_Mod_jumps_11 : decode b_Mod_jumps 11 = .ok (.ifCond .eq 12, 3) := by decide +kernel
theorem d_Mod_jumps_14 : decode b_Mod_jumps 14 = .ok (.aload_n 0, 1) := by decide +kernel
theorem d_Mod_jumps_15 : decode b_Mod_jumps 15 = .ok (.lload 4, 2) := by decide +kernel
theorem d_Mod_jumps_17 : decode b_Mod_jumps 17 = .ok (.invokevirtual 166, 3) := by decide +kernel
theorem d_Mod_jumps_20 : decode b_Mod_jumps 20 = .ok (.ifCond .ne 8, 3) := by decide +kernel
theorem d_Mod_jumps_23 : decode b_Mod_jumps 23 = .ok (.aload_n 0, 1) := by decide +kernel
theorem d_Mod_jumps_24 : decode b_Mod_jumps 24 = .ok (.iconst 3, 1) := by decide +kernel
theorem d_Mod_jumps_25 : decode b_Mod_jumps 25 = .ok (.putfield 141, 3) := by decide +kernel
theorem d_Mod_jumps_28 : decode b_Mod_jumps 28 = .ok (.lload_n 2, 1) := by decide +kernel
theorem d_Mod_jumps_29 : decode b_Mod_jumps 29 = .ok (.lload 4, 2) := by decide +kernel
theorem d_Mod_jumps_31 : decode b_Mod_jumps 31 = .ok (.lcmp, 1) := by decide +kernel
theorem d_Mod_jumps_32 : decode b_Mod_jumps 32 = .ok (.ifCond .ge 7, 3) := by decide +kernel
theorem d_Mod_jumps_35 : decode b_Mod_jumps 35 = .ok (.iconst 1, 1) := by decide +kernel
theorem d_Mod_jumps_36 : decode b_Mod_jumps 36 = .ok (.goto 4, 3) := by decide +kernel
theorem d_Mod_jumps_39 : decode b_Mod_jumps 39 = .ok (.iconst 0, 1) := by decide +kernel
theorem d_Mod_jumps_40 : decode b_Mod_jumps 40 = .ok (.ireturn, 1) := by decide +kernel
theorem d_Mod_jumps_41 : decode b_Mod_jumps 41 = .ok (.iload_n 1, 1) := by decide +kernel
theorem d_Mod_jumps_42 : decode b_Mod_jumps 42 = .ok (.bipush 12, 2) := by decide +kernel
theorem d_Mod_jumps_44 : decode b_Mod_jumps 44 = .ok (.if_icmp .eq 30, 3) := by decide +kernel
theorem d_Mod_jumps_47 : decode b_Mod_jumps 47 = .ok (.iload_n 1, 1) := by decide +kernel
theorem d_Mod_jumps_48 : decode b_Mod_jumps 48 = .ok (.bipush 13, 2) := by decide +kernel
theorem d_Mod_jumps_50 : decode b_Mod_jumps 50 = .ok (.if_icmp .ne 11, 3) := by decide +kernel
theorem d_Mod_jumps_53 : decode b_Mod_jumps 53 = .ok (.lload_n 2, 1) := by decide +kernel
theorem d_Mod_jumps_54 : decode b_Mod_jumps 54 = .ok (.ldc2_w 62, 3) := by decide +kernel
theorem d_Mod_jumps_57 : decode b_Mod_jumps 57 = .ok (.lcmp, 1) := by decide +kernel
theorem d_Mod_jumps_58 : decode b_Mod_jumps 58 = .ok (.ifCond .eq 16, 3) := by decide +kernel
theorem d_Mod_jumps_61 : decode b_Mod_jumps 61 = .ok (.iload_n 1, 1) := by decide +kernel
theorem d_Mod_jumps_62 : decode b_Mod_jumps 62 = .ok (.bipush 14, 2) := by decide +kernel
theorem d_Mod_jumps_64 : decode b_Mod_jumps 64 = .ok (.if_icmp .ne 14, 3) := by decide +kernel
theorem d_Mod_jumps_67 : decode b_Mod_jumps 67 = .ok (.lload_n 2, 1) := by decide +kernel
theorem d_Mod_jumps_68 : decode b_Mod_jumps 68 = .ok (.lload 4, 2) := by decide +kernel
theorem d_Mod_jumps_70 : decode b_Mod_jumps 70 = .ok (.lcmp, 1) := by decide +kernel
theorem d_Mod_jumps_71 : decode b_Mod_jumps 71 = .ok (.ifCond .ne 7, 3) := by decide +kernel
theorem d_Mod_jumps_74 : decode b_Mod_jumps 74 = .ok (.iconst 1, 1) := by decide +kernel
theorem d_Mod_jumps_75 : decode b_Mod_jumps 75 = .ok (.goto 4, 3) := by decide +kernel
theorem d_Mod_jumps_78 : decode b_Mod_jumps 78 = .ok (.iconst 0, 1) := by decide +kernel
theorem d_Mod_jumps_79 : decode b_Mod_jumps 79 = .ok (.ireturn, 1) := by decide +kernel
theorem d_Mod_isNumber_0 : decode b_Mod_isNumber 0 = .ok (.lload_n 1, 1) := by decide +kernel
theorem d_Mod_isNumber_1 : decode b_Mod_isNumber 1 = .ok (.ldc2_w 68, 3) := by decide +kernel
theorem d_Mod_isNumber_4 : decode b_Mod_isNumber 4 = .ok (.lcmp, 1) := by decide +kernel
theorem d_Mod_isNumber_5 : decode b_Mod_isNumber 5 = .ok (.ifCond .lt 15, 3) := by decide +kernel
theorem d_Mod_isNumber_8 : decode b_Mod_isNumber 8 = .ok (.lload_n 1, 1) := by decide +kernel
theorem d_Mod_isNumber_9 : decode b_Mod_isNumber 9 = .ok (.ldc2_w 70, 3) := by decide +kernel
theorem d_Mod_isNumber_12 : decode b_Mod_isNumber 12 = .ok (.lcmp, 1) := by decide +kernel
theorem d_Mod_isNumber_13 : decode b_Mod_isNumber 13 = .ok (.ifCond .gt 7, 3) := by decide +kernel
theorem d_Mod_isNumber_16 : decode b_Mod_isNumber 16 = .ok (.iconst 1, 1) := by decide +kernel
theorem d_Mod_isNumber_17 : decode b_Mod_isNumber 17 = .ok (.goto 4, 3) := by decide +kernel
theorem d_Mod_isNumber_20 : decode b_Mod_isNumber 20 = .ok (.iconst 0, 1) := by decide +kernel
theorem d_Mod_isNumber_21 : decode b_Mod_isNumber 21 = .ok (.ireturn, 1) := by decide +kernel
theorem d_Mod_calculate_0 : decode b_Mod_calculate 0 = .ok (.aload_n 0, 1) := by decide +kernel
theorem d_Mod_calculate_1 : decode b_Mod_calculate 1 = .ok (.lload 4, 2) := by decide +kernel
theorem d_Mod_calculate_3 : decode b_Mod_calculate 3 = .ok (.invokevirtual 166, 3) := by decide +kernel
theorem d_Mod_calculate_6 : decode b_Mod_calculate 6 = .ok (.ifCond .eq 12, 3) := by decide +kernel
theorem d_Mod_calculate_9 : decode b_Mod_calculate 9 = .ok (.aload_n 0, 1) := by decide +kernel
theorem d_Mod_calculate_10 : decode b_Mod_calculate 10 = .ok (.lload 6, 2) := by decide +kernel
theorem d_Mod_calculate_12 : decode b_Mod_calculate 12 = .ok (.invokevirtual 166, 3) := by decide +kernel
theorem d_Mod_calculate_15 : decode b_Mod_calculate 15 = .ok (.ifCond .ne 9, 3) := by decide +kernel
theorem d_Mod_calculate_18 : decode b_Mod_calculate 18 = .ok (.aload_n 0, 1) := by decide +kernel
theorem d_Mod_calculate_19 : decode b_Mod_calculate 19 = .ok (.iconst 3, 1) := by decide +kernel
theorem d_Mod_calculate_20 : decode b_Mod_calculate 20 = .ok (.putfield 141, 3) := by decide +kernel
theorem d_Mod_calculate_23 : decode b_Mod_calculate 23 = .ok (.return_, 1) := by decide +kernel
theorem d_Mod_calculate_24 : decode b_Mod_calculate 24 = .ok (.aload_n 0, 1) := by decide +kernel
theorem d_Mod_calculate_25 : decode b_Mod_calculate 25 = .ok (.getfield 44, 3) := by decide +kernel
theorem d_Mod_calculate_28 : decode b_Mod_calculate 28 = .ok (.iload_n 3, 1) := by decide +kernel
theorem d_Mod_calculate_29 : decode b_Mod_calculate 29 = .ok (.iload_n 2, 1) := by decide +kernel
theorem d_Mod_calculate_30 : decode b_Mod_calculate 30 = .ok (.bipush 8, 2) := by decide +kernel
theorem d_Mod_calculate_32 : decode b_Mod_calculate 32 = .ok (.if_icmp .ne 11, 3) := by decide +kernel
theorem d_Mod_calculate_35 : decode b_Mod_calculate 35 = .ok (.lload 4, 2) := by decide +kernel
theorem d_Mod_calculate_37 : decode b_Mod_calculate 37 = .ok (.lload 6, 2) := by decide +kernel
theorem d_Mod_calculate_39 : decode b_Mod_calculate 39 = .ok (.ladd, 1) := by decide +kernel
theorem d_Mod_calculate_40 : decode b_Mod_calculate 40 = .ok (.goto 22, 3) := by decide +kernel
theorem d_Mod_calculate_43 : decode b_Mod_calculate 43 = .ok (.iload_n 2, 1) := by decide +kernel
theorem d_Mod_calculate_44 : decode b_Mod_calculate 44 = .ok (.bipush 9, 2) := by decide +kernel
theorem d_Mod_calculate_46 : decode b_Mod_calculate 46 = .ok (.if_icmp .ne 11, 3) := by decide +kernel
theorem d_Mod_calculate_49 : decode b_Mod_calculate 49 = .ok (.lload 4, 2) := by decide +kernel
theorem d_Mod_calculate_51 : decode b_Mod_calculate 51 = .ok (.lload 6, 2) := by decide +kernel
theorem d_Mod_calculate_53 : decode b_Mod_calculate 53 = .ok (.lsub, 1) := by decide +kernel
theorem d_Mod_calculate_54 : decode b_Mod_calculate 54 = .ok (.goto 8, 3) := by decide +kernel
theorem d_Mod_calculate_57 : decode b_Mod_calculate 57 = .ok (.lload 4, 2) := by decide +kernel
theorem d_Mod_calculate_59 : decode b_Mod_calculate 59 = .ok (.lload 6, 2) := by decide +kernel
theorem d_Mod_calculate_61 : decode b_Mod_calculate 61 = .ok (.lmul, 1) := by decide +kernel
theorem d_Mod_calculate_62 : decode b_Mod_calculate 62 = .ok (.l2i, 1) := by decide +kernel
theorem d_Mod_calculate_63 : decode b_Mod_calculate 63 = .ok (.i2l, 1) := by decide +kernel
theorem d_Mod_calculate_64 : decode b_Mod_calculate 64 = .ok (.lastore, 1) := by decide +kernel
theorem d_Mod_calculate_65 : decode b_Mod_calculate 65 = .ok (.return_, 1) := by decide +kernel
theorem d_Mod_following_0 : decode b_Mod_following 0 = .ok (.lload_n 2, 1) := by decide +kernel
theorem d_Mod_following_1 : decode b_Mod_following 1 = .ok (.ldc2_w 62, 3) := by decide +kernel
theorem d_Mod_following_4 : decode b_Mod_following 4 = .ok (.lcmp, 1) := by decide +kernel
theorem d_Mod_following_5 : decode b_Mod_following 5 = .ok (.ifCond .ne 28, 3) := by decide +kernel
theorem d_Mod_following_8 : decode b_Mod_following 8 = .ok (.aload_n 0, 1) := by decide +kernel
theorem d_Mod_following_9 : decode b_Mod_following 9 = .ok (.getfield 32, 3) := by decide +kernel
theorem d_Mod_following_12 : decode b_Mod_following 12 = .ok (.iload_n 1, 1) := by decide +kernel
theorem d_Mod_following_13 : decode b_Mod_following 13 = .ok (.iaload, 1) := by decide +kernel
theorem d_Mod_following_14 : decode b_Mod_following 14 = .ok (.ifCond .le 15, 3) := by decide +kernel
theorem d_Mod_following_17 : decode b_Mod_following 17 = .ok (.aload_n 0, 1) := by decide +kernel
theorem d_Mod_following_18 : decode b_Mod_following 18 = .ok (.getfield 38, 3) := by decide +kernel
theorem d_Mod_following_21 : decode b_Mod_following 21 = .ok (.iload_n 1, 1) := by decide +kernel
theorem d_Mod_following_22 : decode b_Mod_following 22 = .ok (.bipush 6, 2) := by decide +kernel
theorem d_Mod_following_24 : decode b_Mod_following 24 = .ok (.imul, 1) := by decide +kernel
theorem d_Mod_following_25 : decode b_Mod_following 25 = .ok (.laload, 1) := by decide +kernel
theorem d_Mod_following_26 : decode b_Mod_following 26 = .ok (.goto 6, 3) := by decide +kernel
theorem d_Mod_following_29 : decode b_Mod_following 29 = .ok (.ldc2_w 62, 3) := by decide +kernel
theorem d_Mod_following_32 : decode b_Mod_following 32 = .ok (.lreturn, 1) := by decide +kernel
theorem d_Mod_following_33 : decode b_Mod_following 33 = .ok (.aload_n 0, 1) := by decide +kernel
theorem d_Mod_following_34 : decode b_Mod_following 34 = .ok (.iload_n 1, 1) := by decide +kernel
theorem d_Mod_following_35 : decode b_Mod_following 35 = .ok (.lload_n 2, 1) := by decide +kernel
theorem d_Mod_following_36 : decode b_Mod_following 36 = .ok (.invokevirtual 131, 3) := by decide +kernel
theorem d_Mod_following_39 : decode b_Mod_following 39 = .ok (.istore 4, 2) := by decide +kernel
theorem d_Mod_following_41 : decode b_Mod_following 41 = .ok (.iload 4, 2) := by decide +kernel
theorem d_Mod_following_43 : decode b_Mod_following 43 = .ok (.ifCond .ge 8, 3) := by decide +kernel
theorem d_Mod_following_46 : decode b_Mod_following 46 = .ok (.aload_n 0, 1) := by decide +kernel
theorem d_Mod_following_47 : decode b_Mod_following 47 = .ok (.iconst 3, 1) := by decide +kernel
theorem d_Mod_following_48 : decode b_Mod_following 48 = .ok (.putfield 141, 3) := by decide +kernel
theorem d_Mod_following_51 : decode b_Mod_following 51 = .ok (.iload 4, 2) := by decide +kernel
theorem d_Mod_following_53 : decode b_Mod_following 53 = .ok (.ifCond .lt 16, 3) := by decide +kernel
theorem d_Mod_following_56 : decode b_Mod_following 56 = .ok (.iload 4, 2) := by decide +kernel
theorem d_Mod_following_58 : decode b_Mod_following 58 = .ok (.iconst 1, 1) := by decide +kernel
theorem d_Mod_following_59 : decode b_Mod_following 59 = .ok (.iadd, 1) := by decide +kernel
theorem d_Mod_following_60 : decode b_Mod_following 60 = .ok (.aload_n 0, 1) := by decide +kernel
theorem d_Mod_following_61 : decode b_Mod_following 61 = .ok (.getfield 32, 3) := by decide +kernel
theorem d_Mod_following_64 : decode b_Mod_following 64 = .ok (.iload_n 1, 1) := by decide +kernel
theorem d_Mod_following_65 : decode b_Mod_following 65 = .ok (.iaload, 1) := by decide +kernel
theorem d_Mod_following_66 : decode b_Mod_following 66 = .ok (.if_icmp .lt 9, 3) := by decide +kernel
theorem d_Mod_following_69 : decode b_Mod_following 69 = .ok (.ldc2_w 62, 3) := by decide +kernel
theorem d_Mod_following_72 : decode b_Mod_following 72 = .ok (.goto 17, 3) := by decide +kernel
theorem d_Mod_following_75 : decode b_Mod_following 75 = .ok (.aload_n 0, 1) := by decide +kernel
theorem d_Mod_following_76 : decode b_Mod_following 76 = .ok (.getfield 38, 3) := by decide +kernel
theorem d_Mod_following_79 : decode b_Mod_following 79 = .ok (.iload_n 1, 1) := by decide +kernel
theorem d_Mod_following_80 : decode b_Mod_following 80 = .ok (.bipush 6, 2) := by decide +kernel
theorem d_Mod_following_82 : decode b_Mod_following 82 = .ok (.imul, 1) := by decide +kernel
theorem d_Mod_following_83 : decode b_Mod_following 83 = .ok (.iload 4, 2) := by decide +kernel
theorem d_Mod_following_85 : decode b_Mod_following 85 = .ok (.iadd, 1) := by decide +kernel
theorem d_Mod_following_86 : decode b_Mod_following 86 = .ok (.iconst 1, 1) := by decide +kernel
theorem d_Mod_following_87 : decode b_Mod_following 87 = .ok (.iadd, 1) := by decide +kernel
theorem d_Mod_following_88 : decode b_Mod_following 88 = .ok (.laload, 1) := by decide +kernel
theorem d_Mod_following_89 : decode b_Mod_following 89 = .ok (.lreturn, 1) := by decide +kernel
theorem d_Mod_collect_0 : decode b_Mod_collect 0 = .ok (.aload_n 0, 1) := by decide +kernel
theorem d_Mod_collect_1 : decode b_Mod_collect 1 = .ok (.iload_n 1, 1) := by decide +kernel
theorem d_Mod_collect_2 : decode b_Mod_collect 2 = .ok (.iconst 1, 1) := by decide +kernel
theorem d_Mod_collect_3 : decode b_Mod_collect 3 = .ok (.if_icmp .lt 9, 3) := by decide +kernel
theorem d_Mod_collect_6 : decode b_Mod_collect 6 = .ok (.iload_n 1, 1) := by decide +kernel
theorem d_Mod_collect_7 : decode b_Mod_collect 7 = .ok (.bipush 100, 2) := by decide +kernel
theorem d_Mod_collect_9 : decode b_Mod_collect 9 = .ok (.if_icmp .le 7, 3) := by decide +kernel
theorem d_Mod_collect_12 : decode b_Mod_collect 12 = .ok (.iconst 1, 1) := by decide +kernel
theorem d_Mod_collect_13 : decode b_Mod_collect 13 = .ok (.goto 4, 3) := by decide +kernel
theorem d_Mod_collect_16 : decode b_Mod_collect 16 = .ok (.iconst 0, 1) := by decide +kernel
theorem d_Mod_collect_17 : decode b_Mod_collect 17 = .ok (.putfield 64, 3) := by decide +kernel
theorem d_Mod_collect_20 : decode b_Mod_collect 20 = .ok (.iconst 0, 1) := by decide +kernel
theorem d_Mod_collect_21 : decode b_Mod_collect 21 = .ok (.istore_n 2, 1) := by decide +kernel
theorem d_Mod_collect_22 : decode b_Mod_collect 22 = .ok (.iconst 0, 1) := by decide +kernel
theorem d_Mod_collect_23 : decode b_Mod_collect 23 = .ok (.istore_n 3, 1) := by decide +kernel
theorem d_Mod_collect_24 : decode b_Mod_collect 24 = .ok (.iload_n 3, 1) := by decide +kernel
theorem d_Mod_collect_25 : decode b_Mod_collect 25 = .ok (.iload_n 1, 1) := by decide +kernel
theorem d_Mod_collect_26 : decode b_Mod_collect 26 = .ok (.if_icmp .ge 23, 3) := by decide +kernel
theorem d_Mod_collect_29 : decode b_Mod_collect 29 = .ok (.aload_n 0, 1) := by decide +kernel
theorem d_Mod_collect_30 : decode b_Mod_collect 30 = .ok (.getfield 64, 3) := by decide +kernel
theorem d_Mod_collect_33 : decode b_Mod_collect 33 = .ok (.ifCond .ne 16, 3) := by decide +kernel
theorem d_Mod_collect_36 : decode b_Mod_collect 36 = .ok (.iload_n 2, 1) := by decide +kernel
theorem d_Mod_collect_37 : decode b_Mod_collect 37 = .ok (.aload_n 0, 1) := by decide +kernel
theorem d_Mod_collect_38 : decode b_Mod_collect 38 = .ok (.invokevirtual 115, 3) := by decide +kernel
theorem d_Mod_collect_41 : decode b_Mod_collect 41 = .ok (.iadd, 1) := by decide +kernel
theorem d_Mod_collect_42 : decode b_Mod_collect 42 = .ok (.istore_n 2, 1) := by decide +kernel
theorem d_Mod_collect_43 : decode b_Mod_collect 43 = .ok (.iinc 3 1, 3) := by decide +kernel
theorem d_Mod_collect_46 : decode b_Mod_collect 46 = .ok (.goto (-22), 3) := by decide +kernel
theorem d_Mod_collect_49 : decode b_Mod_collect 49 = .ok (.iload_n 2, 1) := by decide +kernel
theorem d_Mod_collect_50 : decode b_Mod_collect 50 = .ok (.ireturn, 1) := by decide +kernel
theorem d_Mod_full_0 : decode b_Mod_full 0 = .ok (.aload_n 0, 1) := by decide +kernel
theorem d_Mod_full_1 : decode b_Mod_full 1 = .ok (.iconst 0, 1) := by decide +kernel
theorem d_Mod_full_2 : decode b_Mod_full 2 = .ok (.putfield 64, 3) := by decide +kernel
theorem d_Mod_full_5 : decode b_Mod_full 5 = .ok (.aload_n 0, 1) := by decide +kernel
theorem d_Mod_full_6 : decode b_Mod_full 6 = .ok (.invokevirtual 121, 3) := by decide +kernel
theorem d_Mod_full_9 : decode b_Mod_full 9 = .ok (.ireturn, 1) := by decide +kernel
theorem d_Mod_global_0 : decode b_Mod_global 0 = .ok (.aload_n 0, 1) := by decide +kernel
theorem d_Mod_global_1 : decode b_Mod_global 1 = .ok (.aload_n 0, 1) := by decide +kernel
theorem d_Mod_global_2 : decode b_Mod_global 2 = .ok (.iload_n 1, 1) := by decide +kernel
theorem d_Mod_global_3 : decode b_Mod_global 3 = .ok (.invokevirtual 78, 3) := by decide +kernel
theorem d_Mod_global_6 : decode b_Mod_global 6 = .ok (.ifCond .eq 7, 3) := by decide +kernel
theorem d_Mod_global_9 : decode b_Mod_global 9 = .ok (.iconst 1, 1) := by decide +kernel
theorem d_Mod_global_10 : decode b_Mod_global 10 = .ok (.goto 4, 3) := by decide +kernel
theorem d_Mod_global_13 : decode b_Mod_global 13 = .ok (.iconst 0, 1) := by decide +kernel
theorem d_Mod_global_14 : decode b_Mod_global 14 = .ok (.putfield 64, 3) := by decide +kernel
theorem d_Mod_global_17 : decode b_Mod_global 17 = .ok (.aload_n 0, 1) := by decide +kernel
theorem d_Mod_global_18 : decode b_Mod_global 18 = .ok (.getfield 64, 3) := by decide +kernel
theorem d_Mod_global_21 : decode b_Mod_global 21 = .ok (.ifCond .ne 12, 3) := by decide +kernel
theorem d_Mod_global_24 : decode b_Mod_global 24 = .ok (.aload_n 0, 1) := by decide +kernel
theorem d_Mod_global_25 : decode b_Mod_global 25 = .ok (.getfield 22, 3) := by decide +kernel
theorem d_Mod_global_28 : decode b_Mod_global 28 = .ok (.iload_n 1, 1) := by decide +kernel
theorem d_Mod_global_29 : decode b_Mod_global 29 = .ok (.laload, 1) := by decide +kernel
theorem d_Mod_global_30 : decode b_Mod_global 30 = .ok (.goto 4, 3) := by decide +kernel
theorem d_Mod_global_33 : decode b_Mod_global 33 = .ok (.lconst 0, 1) := by decide +kernel
theorem d_Mod_global_34 : decode b_Mod_global 34 = .ok (.lreturn, 1) := by decide +kernel
theorem d_Mod_object_0 : decode b_Mod_object 0 = .ok (.aload_n 0, 1) := by decide +kernel
theorem d_Mod_object_1 : decode b_Mod_object 1 = .ok (.iload_n 1, 1) := by decide +kernel
theorem d_Mod_object_2 : decode b_Mod_object 2 = .ok (.ifCond .lt 18, 3) := by decide +kernel
theorem d_Mod_object_5 : decode b_Mod_object 5 = .ok (.iload_n 1, 1) := by decide +kernel
theorem d_Mod_object_6 : decode b_Mod_object 6 = .ok (.bipush 15, 2) := by decide +kernel
theorem d_Mod_object_8 : decode b_Mod_object 8 = .ok (.if_icmp .gt 12, 3) := by decide +kernel
theorem d_Mod_object_11 : decode b_Mod_object 11 = .ok (.iload_n 2, 1) := by decide +kernel
theorem d_Mod_object_12 : decode b_Mod_object 12 = .ok (.ifCond .lt 8, 3) := by decide +kernel
theorem d_Mod_object_15 : decode b_Mod_object 15 = .ok (.iload_n 2, 1) := by decide +kernel
theorem d_Mod_object_16 : decode b_Mod_object 16 = .ok (.iconst 3, 1) := by decide +kernel
theorem d_Mod_object_17 : decode b_Mod_object 17 = .ok (.if_icmp .le 7, 3) := by decide +kernel
theorem d_Mod_object_20 : decode b_Mod_object 20 = .ok (.iconst 1, 1) := by decide +kernel
theorem d_Mod_object_21 : decode b_Mod_object 21 = .ok (.goto 21, 3) := by decide +kernel
theorem d_Mod_object_24 : decode b_Mod_object 24 = .ok (.iload_n 2, 1) := by decide +kernel
theorem d_Mod_object_25 : decode b_Mod_object 25 = .ok (.ifCond .le 16, 3) := by decide +kernel
theorem d_Mod_object_28 : decode b_Mod_object 28 = .ok (.aload_n 0, 1) := by decide +kernel
theorem d_Mod_object_29 : decode b_Mod_object 29 = .ok (.getfield 26, 3) := by decide +kernel
theorem d_Mod_object_32 : decode b_Mod_object 32 = .ok (.iload_n 1, 1) := by decide +kernel
theorem d_Mod_object_33 : decode b_Mod_object 33 = .ok (.iaload, 1) := by decide +kernel
theorem d_Mod_object_34 : decode b_Mod_object 34 = .ok (.ifCond .ne 7, 3) := by decide +kernel
theorem d_Mod_object_37 : decode b_Mod_object 37 = .ok (.iconst 2, 1) := by decide +kernel
theorem d_Mod_object_38 : decode b_Mod_object 38 = .ok (.goto 4, 3) := by decide +kernel
theorem d_Mod_object_41 : decode b_Mod_object 41 = .ok (.iconst 0, 1) := by decide +kernel
theorem d_Mod_object_42 : decode b_Mod_object 42 = .ok (.putfield 64, 3) := by decide +kernel
theorem d_Mod_object_45 : decode b_Mod_object 45 = .ok (.aload_n 0, 1) := by decide +kernel
theorem d_Mod_object_46 : decode b_Mod_object 46 = .ok (.getfield 64, 3) := by decide +kernel
theorem d_Mod_object_49 : decode b_Mod_object 49 = .ok (.ifCond .eq 5, 3) := by decide +kernel
theorem d_Mod_object_52 : decode b_Mod_object 52 = .ok (.iconst 0, 1) := by decide +kernel
theorem d_Mod_object_53 : decode b_Mod_object 53 = .ok (.ireturn, 1) := by decide +kernel
theorem d_Mod_object_54 : decode b_Mod_object 54 = .ok (.iload_n 2, 1) := by decide +kernel
theorem d_Mod_object_55 : decode b_Mod_object 55 = .ok (.ifCond .ne 10, 3) := by decide +kernel
theorem d_Mod_object_58 : decode b_Mod_object 58 = .ok (.aload_n 0, 1) := by decide +kernel
theorem d_Mod_object_59 : decode b_Mod_object 59 = .ok (.getfield 26, 3) := by decide +kernel
theorem d_Mod_object_62 : decode b_Mod_object 62 = .ok (.iload_n 1, 1) := by decide +kernel
theorem d_Mod_object_63 : decode b_Mod_object 63 = .ok (.iaload, 1) := by decide +kernel
theorem d_Mod_object_64 : decode b_Mod_object 64 = .ok (.ireturn, 1) := by decide +kernel
theorem d_Mod_object_65 : decode b_Mod_object 65 = .ok (.iload_n 2, 1) := by decide +kernel
theorem d_Mod_object_66 : decode b_Mod_object 66 = .ok (.iconst 1, 1) := by decide +kernel
theorem d_Mod_object_67 : decode b_Mod_object 67 = .ok (.if_icmp .ne 10, 3) := by decide +kernel
theorem d_Mod_object_70 : decode b_Mod_object 70 = .ok (.aload_n 0, 1) := by decide +kernel
theorem d_Mod_object_71 : decode b_Mod_object 71 = .ok (.getfield 29, 3) := by decide +kernel
theorem d_Mod_object_74 : decode b_Mod_object 74 = .ok (.iload_n 1, 1) := by decide +kernel
theorem d_Mod_object_75 : decode b_Mod_object 75 = .ok (.iaload, 1) := by decide +kernel
theorem d_Mod_object_76 : decode b_Mod_object 76 = .ok (.ireturn, 1) := by decide +kernel
theorem d_Mod_object_77 : decode b_Mod_object 77 = .ok (.iload_n 2, 1) := by decide +kernel
theorem d_Mod_object_78 : decode b_Mod_object 78 = .ok (.iconst 2, 1) := by decide +kernel
theorem d_Mod_object_79 : decode b_Mod_object 79 = .ok (.if_icmp .ne 29, 3) := by decide +kernel
theorem d_Mod_object_82 : decode b_Mod_object 82 = .ok (.aload_n 0, 1) := by decide +kernel
theorem d_Mod_object_83 : decode b_Mod_object 83 = .ok (.getfield 26, 3) := by decide +kernel
theorem d_Mod_object_86 : decode b_Mod_object 86 = .ok (.iload_n 1, 1) := by decide +kernel
theorem d_Mod_object_87 : decode b_Mod_object 87 = .ok (.iaload, 1) := by decide +kernel
theorem d_Mod_object_88 : decode b_Mod_object 88 = .ok (.iconst 1, 1) := by decide +kernel
theorem d_Mod_object_89 : decode b_Mod_object 89 = .ok (.if_icmp .ne 12, 3) := by decide +kernel
theorem d_Mod_object_92 : decode b_Mod_object 92 = .ok (.aload_n 0, 1) := by decide +kernel
theorem d_Mod_object_93 : decode b_Mod_object 93 = .ok (.getfield 32, 3) := by decide +kernel
theorem d_Mod_object_96 : decode b_Mod_object 96 = .ok (.iload_n 1, 1) := by decide +kernel
theorem d_Mod_object_97 : decode b_Mod_object 97 = .ok (.iaload, 1) := by decide +kernel
theorem d_Mod_object_98 : decode b_Mod_object 98 = .ok (.goto 9, 3) := by decide +kernel
theorem d_Mod_object_101 : decode b_Mod_object 101 = .ok (.aload_n 0, 1) := by decide +kernel
theorem d_Mod_object_102 : decode b_Mod_object 102 = .ok (.getfield 50, 3) := by decide +kernel
theorem d_Mod_object_105 : decode b_Mod_object 105 = .ok (.iload_n 1, 1) := by decide +kernel
theorem d_Mod_object_106 : decode b_Mod_object 106 = .ok (.iaload, 1) := by decide +kernel
theorem d_Mod_object_107 : decode b_Mod_object 107 = .ok (.ireturn, 1) := by decide +kernel
theorem d_Mod_object_108 : decode b_Mod_object 108 = .ok (.aload_n 0, 1) := by decide +kernel
theorem d_Mod_object_109 : decode b_Mod_object 109 = .ok (.getfield 26, 3) := by decide +kernel
theorem d_Mod_object_112 : decode b_Mod_object 112 = .ok (.iload_n 1, 1) := by decide +kernel
theorem d_Mod_object_113 : decode b_Mod_object 113 = .ok (.iaload, 1) := by decide +kernel
theorem d_Mod_object_114 : decode b_Mod_object 114 = .ok (.iconst 1, 1) := by decide +kernel
theorem d_Mod_object_115 : decode b_Mod_object 115 = .ok (.if_icmp .ne 12, 3) := by decide +kernel
theorem d_Mod_object_118 : decode b_Mod_object 118 = .ok (.aload_n 0, 1) := by decide +kernel
theorem d_Mod_object_119 : decode b_Mod_object 119 = .ok (.getfield 35, 3) := by decide +kernel
theorem d_Mod_object_122 : decode b_Mod_object 122 = .ok (.iload_n 1, 1) := by decide +kernel
theorem d_Mod_object_123 : decode b_Mod_object 123 = .ok (.iaload, 1) := by decide +kernel
theorem d_Mod_object_124 : decode b_Mod_object 124 = .ok (.goto 9, 3) := by decide +kernel
theorem d_Mod_object_127 : decode b_Mod_object 127 = .ok (.aload_n 0, 1) := by decide +kernel
theorem d_Mod_object_128 : decode b_Mod_object 128 = .ok (.getfield 53, 3) := by decide +kernel
theorem d_Mod_object_131 : decode b_Mod_object 131 = .ok (.iload_n 1, 1) := by decide +kernel
theorem d_Mod_object_132 : decode b_Mod_object 132 = .ok (.iaload, 1) := by decide +kernel
theorem d_Mod_object_133 : decode b_Mod_object 133 = .ok (.ireturn, 1) := by decide +kernel
theorem d_Mod_inside_0 : decode b_Mod_inside 0 = .ok (.aload_n 0, 1) := by decide +kernel
theorem d_Mod_inside_1 : decode b_Mod_inside 1 = .ok (.iload_n 1, 1) := by decide +kernel
theorem d_Mod_inside_2 : decode b_Mod_inside 2 = .ok (.ifCond .lt 9, 3) := by decide +kernel
theorem d_Mod_inside_5 : decode b_Mod_inside 5 = .ok (.iload_n 1, 1) := by decide +kernel
theorem d_Mod_inside_6 : decode b_Mod_inside 6 = .ok (.bipush 15, 2) := by decide +kernel
theorem d_Mod_inside_8 : decode b_Mod_inside 8 = .ok (.if_icmp .le 7, 3) := by decide +kernel
theorem d_Mod_inside_11 : decode b_Mod_inside 11 = .ok (.iconst 1, 1) := by decide +kernel
theorem d_Mod_inside_12 : decode b_Mod_inside 12 = .ok (.goto 57, 3) := by decide +kernel
theorem d_Mod_inside_15 : decode b_Mod_inside 15 = .ok (.iload_n 2, 1) := by decide +kernel
theorem d_Mod_inside_16 : decode b_Mod_inside 16 = .ok (.ifCond .lt 48, 3) := by decide +kernel
theorem d_Mod_inside_19 : decode b_Mod_inside 19 = .ok (.iload_n 2, 1) := by decide +kernel
theorem d_Mod_inside_20 : decode b_Mod_inside 20 = .ok (.aload_n 0, 1) := by decide +kernel
theorem d_Mod_inside_21 : decode b_Mod_inside 21 = .ok (.getfield 26, 3) := by decide +kernel
theorem d_Mod_inside_24 : decode b_Mod_inside 24 = .ok (.iload_n 1, 1) := by decide +kernel
theorem d_Mod_inside_25 : decode b_Mod_inside 25 = .ok (.iaload, 1) := by decide +kernel
theorem d_Mod_inside_26 : decode b_Mod_inside 26 = .ok (.ifCond .ne 7, 3) := by decide +kernel
theorem d_Mod_inside_29 : decode b_Mod_inside 29 = .ok (.iconst 0, 1) := by decide +kernel
theorem d_Mod_inside_30 : decode b_Mod_inside 30 = .ok (.goto 31, 3) := by decide +kernel
theorem d_Mod_inside_33 : decode b_Mod_inside 33 = .ok (.aload_n 0, 1) := by decide +kernel
theorem d_Mod_inside_34 : decode b_Mod_inside 34 = .ok (.getfield 26, 3) := by decide +kernel
theorem d_Mod_inside_37 : decode b_Mod_inside 37 = .ok (.iload_n 1, 1) := by decide +kernel
theorem d_Mod_inside_38 : decode b_Mod_inside 38 = .ok (.iaload, 1) := by decide +kernel
theorem d_Mod_inside_39 : decode b_Mod_inside 39 = .ok (.iconst 1, 1) := by decide +kernel
theorem d_Mod_inside_40 : decode b_Mod_inside 40 = .ok (.if_icmp .ne 12, 3) := by decide +kernel
theorem d_Mod_inside_43 : decode b_Mod_inside 43 = .ok (.aload_n 0, 1) := by decide +kernel
theorem d_Mod_inside_44 : decode b_Mod_inside 44 = .ok (.getfield 32, 3) := by decide +kernel
theorem d_Mod_inside_47 : decode b_Mod_inside 47 = .ok (.iload_n 1, 1) := by decide +kernel
theorem d_Mod_inside_48 : decode b_Mod_inside 48 = .ok (.iaload, 1) := by decide +kernel
theorem d_Mod_inside_49 : decode b_Mod_inside 49 = .ok (.goto 12, 3) := by decide +kernel
theorem d_Mod_inside_52 : decode b_Mod_inside 52 = .ok (.iload_n 3, 1) := by decide +kernel
theorem d_Mod_inside_53 : decode b_Mod_inside 53 = .ok (.ifCond .eq 7, 3) := by decide +kernel
theorem d_Mod_inside_56 : decode b_Mod_inside 56 = .ok (.iconst 0, 1) := by decide +kernel
theorem d_Mod_inside_57 : decode b_Mod_inside 57 = .ok (.goto 4, 3) := by decide +kernel
theorem d_Mod_inside_60 : decode b_Mod_inside 60 = .ok (.iconst 4, 1) := by decide +kernel
theorem d_Mod_inside_61 : decode b_Mod_inside 61 = .ok (.if_icmp .lt 7, 3) := by decide +kernel
theorem d_Mod_inside_64 : decode b_Mod_inside 64 = .ok (.iconst 2, 1) := by decide +kernel
theorem d_Mod_inside_65 : decode b_Mod_inside 65 = .ok (.goto 4, 3) := by decide +kernel
theorem d_Mod_inside_68 : decode b_Mod_inside 68 = .ok (.iconst 0, 1) := by decide +kernel
theorem d_Mod_inside_69 : decode b_Mod_inside 69 = .ok (.putfield 64, 3) := by decide +kernel
theorem d_Mod_inside_72 : decode b_Mod_inside 72 = .ok (.aload_n 0, 1) := by decide +kernel
theorem d_Mod_inside_73 : decode b_Mod_inside 73 = .ok (.getfield 64, 3) := by decide +kernel
theorem d_Mod_inside_76 : decode b_Mod_inside 76 = .ok (.ifCond .eq 5, 3) := by decide +kernel
theorem d_Mod_inside_79 : decode b_Mod_inside 79 = .ok (.lconst 0, 1) := by decide +kernel
theorem d_Mod_inside_80 : decode b_Mod_inside 80 = .ok (.lreturn, 1) := by decide +kernel
theorem d_Mod_inside_81 : decode b_Mod_inside 81 = .ok (.aload_n 0, 1) := by decide +kernel
theorem d_Mod_inside_82 : decode b_Mod_inside 82 = .ok (.getfield 26, 3) := by decide +kernel
theorem d_Mod_inside_85 : decode b_Mod_inside 85 = .ok (.iload_n 1, 1) := by decide +kernel
theorem d_Mod_inside_86 : decode b_Mod_inside 86 = .ok (.iaload, 1) := by decide +kernel
theorem d_Mod_inside_87 : decode b_Mod_inside 87 = .ok (.iconst 2, 1) := by decide +kernel
theorem d_Mod_inside_88 : decode b_Mod_inside 88 = .ok (.if_icmp .ne 14, 3) := by decide +kernel
theorem d_Mod_inside_91 : decode b_Mod_inside 91 = .ok (.aload_n 0, 1) := by decide +kernel
theorem d_Mod_inside_92 : decode b_Mod_inside 92 = .ok (.getfield 44, 3) := by decide +kernel
theorem d_Mod_inside_95 : decode b_Mod_inside 95 = .ok (.iload_n 1, 1) := by decide +kernel
theorem d_Mod_inside_96 : decode b_Mod_inside 96 = .ok (.iconst 4, 1) := by decide +kernel
theorem d_Mod_inside_97 : decode b_Mod_inside 97 = .ok (.imul, 1) := by decide +kernel
theorem d_Mod_inside_98 : decode b_Mod_inside 98 = .ok (.iload_n 2, 1) := by decide +kernel
theorem d_Mod_inside_99 : decode b_Mod_inside 99 = .ok (.iadd, 1) := by decide +kernel
theorem d_Mod_inside_100 : decode b_Mod_inside 100 = .ok (.laload, 1) := by decide +kernel
theorem d_Mod_inside_101 : decode b_Mod_inside 101 = .ok (.lreturn, 1) := by decide +kernel
theorem d_Mod_inside_102 : decode b_Mod_inside 102 = .ok (.iload_n 3, 1) := by decide +kernel
theorem d_Mod_inside_103 : decode b_Mod_inside 103 = .ok (.ifCond .eq 17, 3) := by decide +kernel
theorem d_Mod_inside_106 : decode b_Mod_inside 106 = .ok (.aload_n 0, 1) := by decide +kernel
theorem d_Mod_inside_107 : decode b_Mod_inside 107 = .ok (.getfield 41, 3) := by decide +kernel
theorem d_Mod_inside_110 : decode b_Mod_inside 110 = .ok (.iload_n 1, 1) := by decide +kernel
theorem d_Mod_inside_111 : decode b_Mod_inside 111 = .ok (.bipush 6, 2) := by decide +kernel
theorem d_Mod_inside_113 : decode b_Mod_inside 113 = .ok (.imul, 1) := by decide +kernel
theorem d_Mod_inside_114 : decode b_Mod_inside 114 = .ok (.iload_n 2, 1) := by decide +kernel
theorem d_Mod_inside_115 : decode b_Mod_inside 115 = .ok (.iadd, 1) := by decide +kernel
theorem d_Mod_inside_116 : decode b_Mod_inside 116 = .ok (.laload, 1) := by decide +kernel
theorem d_Mod_inside_117 : decode b_Mod_inside 117 = .ok (.goto 14, 3) := by decide +kernel
theorem d_Mod_inside_120 : decode b_Mod_inside 120 = .ok (.aload_n 0, 1) := by decide +kernel
theorem d_Mod_inside_121 : decode b_Mod_inside 121 = .ok (.getfield 38, 3) := by decide +kernel
theorem d_Mod_inside_124 : decode b_Mod_inside 124 = .ok (.iload_n 1, 1) := by decide +kernel
theorem d_Mod_inside_125 : decode b_Mod_inside 125 = .ok (.bipush 6, 2) := by decide +kernel
theorem d_Mod_inside_127 : decode b_Mod_inside 127 = .ok (.imul, 1) := by decide +kernel
theorem d_Mod_inside_128 : decode b_Mod_inside 128 = .ok (.iload_n 2, 1) := by decide +kernel
theorem d_Mod_inside_129 : decode b_Mod_inside 129 = .ok (.iadd, 1) := by decide +kernel
theorem d_Mod_inside_130 : decode b_Mod_inside 130 = .ok (.laload, 1) := by decide +kernel
theorem d_Mod_inside_131 : decode b_Mod_inside 131 = .ok (.lreturn, 1) := by decide +kernel
theorem d_Mod_count_0 : decode b_Mod_count 0 = .ok (.aload_n 0, 1) := by decide +kernel
theorem d_Mod_count_1 : decode b_Mod_count 1 = .ok (.iconst 0, 1) := by decide +kernel
theorem d_Mod_count_2 : decode b_Mod_count 2 = .ok (.putfield 64, 3) := by decide +kernel
theorem d_Mod_count_5 : decode b_Mod_count 5 = .ok (.iconst 0, 1) := by decide +kernel
theorem d_Mod_count_6 : decode b_Mod_count 6 = .ok (.istore_n 2, 1) := by decide +kernel
theorem d_Mod_count_7 : decode b_Mod_count 7 = .ok (.iconst 0, 1) := by decide +kernel
theorem d_Mod_count_8 : decode b_Mod_count 8 = .ok (.istore_n 3, 1) := by decide +kernel
theorem d_Mod_count_9 : decode b_Mod_count 9 = .ok (.iconst 0, 1) := by decide +kernel
theorem d_Mod_count_10 : decode b_Mod_count 10 = .ok (.istore 4, 2) := by decide +kernel
theorem d_Mod_count_12 : decode b_Mod_count 12 = .ok (.iload 4, 2) := by decide +kernel
theorem d_Mod_count_14 : decode b_Mod_count 14 = .ok (.bipush 16, 2) := by decide +kernel
theorem d_Mod_count_16 : decode b_Mod_count 16 = .ok (.if_icmp .ge 46, 3) := by decide +kernel
theorem d_Mod_count_19 : decode b_Mod_count 19 = .ok (.aload_n 0, 1) := by decide +kernel
theorem d_Mod_count_20 : decode b_Mod_count 20 = .ok (.getfield 26, 3) := by decide +kernel
theorem d_Mod_count_23 : decode b_Mod_count 23 = .ok (.iload 4, 2) := by decide +kernel
theorem d_Mod_count_25 : decode b_Mod_count 25 = .ok (.iaload, 1) := by decide +kernel
theorem d_Mod_count_26 : decode b_Mod_count 26 = .ok (.ifCond .eq 6, 3) := by decide +kernel
theorem d_Mod_count_29 : decode b_Mod_count 29 = .ok (.iinc 2 1, 3) := by decide +kernel
theorem d_Mod_count_32 : decode b_Mod_count 32 = .ok (.aload_n 0, 1) := by decide +kernel
theorem d_Mod_count_33 : decode b_Mod_count 33 = .ok (.getfield 26, 3) := by decide +kernel
theorem d_Mod_count_36 : decode b_Mod_count 36 = .ok (.iload 4, 2) := by decide +kernel
theorem d_Mod_count_38 : decode b_Mod_count 38 = .ok (.iaload, 1) := by decide +kernel
theorem d_Mod_count_39 : decode b_Mod_count 39 = .ok (.ifCond .eq 17, 3) := by decide +kernel
theorem d_Mod_count_42 : decode b_Mod_count 42 = .ok (.aload_n 0, 1) := by decide +kernel
theorem d_Mod_count_43 : decode b_Mod_count 43 = .ok (.getfield 29, 3) := by decide +kernel
theorem d_Mod_count_46 : decode b_Mod_count 46 = .ok (.iload 4, 2) := by decide +kernel
theorem d_Mod_count_48 : decode b_Mod_count 48 = .ok (.iaload, 1) := by decide +kernel
theorem d_Mod_count_49 : decode b_Mod_count 49 = .ok (.iconst 1, 1) := by decide +kernel
theorem d_Mod_count_50 : decode b_Mod_count 50 = .ok (.if_icmp .ne 6, 3) := by decide +kernel
theorem d_Mod_count_53 : decode b_Mod_count 53 = .ok (.iinc 3 1, 3) := by decide +kernel
theorem d_Mod_count_56 : decode b_Mod_count 56 = .ok (.iinc 4 1, 3) := by decide +kernel
theorem d_Mod_count_59 : decode b_Mod_count 59 = .ok (.goto (-47), 3) := by decide +kernel
theorem d_Mod_count_62 : decode b_Mod_count 62 = .ok (.iload_n 1, 1) := by decide +kernel
theorem d_Mod_count_63 : decode b_Mod_count 63 = .ok (.tableswitch 88 0 8 #[49, 51, 56, 61, 66, 71, 76, 78, 83], 49) := by decide +kernel
theorem d_Mod_count_112 : decode b_Mod_count 112 = .ok (.iload_n 2, 1) := by decide +kernel
theorem d_Mod_count_113 : decode b_Mod_count 113 = .ok (.ireturn, 1) := by decide +kernel
theorem d_Mod_count_114 : decode b_Mod_count 114 = .ok (.aload_n 0, 1) := by decide +kernel
theorem d_Mod_count_115 : decode b_Mod_count 115 = .ok (.getfield 92, 3) := by decide +kernel
theorem d_Mod_count_118 : decode b_Mod_count 118 = .ok (.ireturn, 1) := by decide +kernel
theorem d_Mod_count_119 : decode b_Mod_count 119 = .ok (.aload_n 0, 1) := by decide +kernel
theorem d_Mod_count_120 : decode b_Mod_count 120 = .ok (.getfield 106, 3) := by decide +kernel
theorem d_Mod_count_123 : decode b_Mod_count 123 = .ok (.ireturn, 1) := by decide +kernel
theorem d_Mod_count_124 : decode b_Mod_count 124 = .ok (.aload_n 0, 1) := by decide +kernel
theorem d_Mod_count_125 : decode b_Mod_count 125 = .ok (.getfield 124, 3) := by decide +kernel
theorem d_Mod_count_128 : decode b_Mod_count 128 = .ok (.ireturn, 1) := by decide +kernel
theorem d_Mod_count_129 : decode b_Mod_count 129 = .ok (.aload_n 0, 1) := by decide +kernel
theorem d_Mod_count_130 : decode b_Mod_count 130 = .ok (.getfield 109, 3) := by decide +kernel
theorem d_Mod_count_133 : decode b_Mod_count 133 = .ok (.ireturn, 1) := by decide +kernel
theorem d_Mod_count_134 : decode b_Mod_count 134 = .ok (.aload_n 0, 1) := by decide +kernel
theorem d_Mod_count_135 : decode b_Mod_count 135 = .ok (.getfield 170, 3) := by decide +kernel
theorem d_Mod_count_138 : decode b_Mod_count 138 = .ok (.ireturn, 1) := by decide +kernel
theorem d_Mod_count_139 : decode b_Mod_count 139 = .ok (.iload_n 3, 1) := by decide +kernel
theorem d_Mod_count_140 : decode b_Mod_count 140 = .ok (.ireturn, 1) := by decide +kernel
theorem d_Mod_count_141 : decode b_Mod_count 141 = .ok (.aload_n 0, 1) := by decide +kernel
theorem d_Mod_count_142 : decode b_Mod_count 142 = .ok (.getfield 89, 3) := by decide +kernel
theorem d_Mod_count_145 : decode b_Mod_count 145 = .ok (.ireturn, 1) := by decide +kernel
theorem d_Mod_count_146 : decode b_Mod_count 146 = .ok (.aload_n 0, 1) := by decide +kernel
theorem d_Mod_count_147 : decode b_Mod_count 147 = .ok (.getfield 112, 3) := by decide +kernel
theorem d_Mod_count_150 : decode b_Mod_count 150 = .ok (.ireturn, 1) := by decide +kernel
theorem d_Mod_count_151 : decode b_Mod_count 151 = .ok (.iconst (-1), 1) := by decide +kernel
theorem d_Mod_count_152 : decode b_Mod_count 152 = .ok (.ireturn, 1) := by decide +kernel
