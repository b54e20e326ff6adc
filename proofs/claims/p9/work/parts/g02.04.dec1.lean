theorem d_Heap_init_0 : decode b_Heap_init 0 = .ok (.aload_n 0, 1) := by decide +kernel
theorem d_Heap_init_1 : decode b_Heap_init 1 = .ok (.invokespecial 3, 3) := by decide +kernel
theorem d_Heap_init_4 : decode b_Heap_init 4 = .ok (.aload_n 0, 1) := by decide +kernel
theorem d_Heap_init_5 : decode b_Heap_init 5 = .ok (.bipush 6, 2) := by decide +kernel
theorem d_Heap_init_7 : decode b_Heap_init 7 = .ok (.newarray .long, 2) := by decide +kernel
theorem d_Heap_init_9 : decode b_Heap_init 9 = .ok (.putfield 9, 3) := by decide +kernel
theorem d_Heap_init_12 : decode b_Heap_init 12 = .ok (.aload_n 0, 1) := by decide +kernel
theorem d_Heap_init_13 : decode b_Heap_init 13 = .ok (.bipush 16, 2) := by decide +kernel
theorem d_Heap_init_15 : decode b_Heap_init 15 = .ok (.anewarray 15, 3) := by decide +kernel
theorem d_Heap_init_18 : decode b_Heap_init 18 = .ok (.putfield 17, 3) := by decide +kernel
theorem d_Heap_init_21 : decode b_Heap_init 21 = .ok (.aload_n 0, 1) := by decide +kernel
theorem d_Heap_init_22 : decode b_Heap_init 22 = .ok (.iconst 0, 1) := by decide +kernel
theorem d_Heap_init_23 : decode b_Heap_init 23 = .ok (.putfield 21, 3) := by decide +kernel
theorem d_Heap_init_26 : decode b_Heap_init 26 = .ok (.aload_n 0, 1) := by decide +kernel
theorem d_Heap_init_27 : decode b_Heap_init 27 = .ok (.iconst 0, 1) := by decide +kernel
theorem d_Heap_init_28 : decode b_Heap_init 28 = .ok (.putfield 25, 3) := by decide +kernel
theorem d_Heap_init_31 : decode b_Heap_init 31 = .ok (.aload_n 0, 1) := by decide +kernel
theorem d_Heap_init_32 : decode b_Heap_init 32 = .ok (.iconst 0, 1) := by decide +kernel
theorem d_Heap_init_33 : decode b_Heap_init 33 = .ok (.putfield 28, 3) := by decide +kernel
theorem d_Heap_init_36 : decode b_Heap_init 36 = .ok (.aload_n 0, 1) := by decide +kernel
theorem d_Heap_init_37 : decode b_Heap_init 37 = .ok (.iconst 0, 1) := by decide +kernel
theorem d_Heap_init_38 : decode b_Heap_init 38 = .ok (.putfield 31, 3) := by decide +kernel
theorem d_Heap_init_41 : decode b_Heap_init 41 = .ok (.aload_n 0, 1) := by decide +kernel
theorem d_Heap_init_42 : decode b_Heap_init 42 = .ok (.iconst 0, 1) := by decide +kernel
theorem d_Heap_init_43 : decode b_Heap_init 43 = .ok (.putfield 34, 3) := by decide +kernel
theorem d_Heap_init_46 : decode b_Heap_init 46 = .ok (.aload_n 0, 1) := by decide +kernel
theorem d_Heap_init_47 : decode b_Heap_init 47 = .ok (.iconst 0, 1) := by decide +kernel
theorem d_Heap_init_48 : decode b_Heap_init 48 = .ok (.putfield 37, 3) := by decide +kernel
theorem d_Heap_init_51 : decode b_Heap_init 51 = .ok (.aload_n 0, 1) := by decide +kernel
theorem d_Heap_init_52 : decode b_Heap_init 52 = .ok (.ldc2_w 40, 3) := by decide +kernel
theorem d_Heap_init_55 : decode b_Heap_init 55 = .ok (.putfield 42, 3) := by decide +kernel
theorem d_Heap_init_58 : decode b_Heap_init 58 = .ok (.aload_n 0, 1) := by decide +kernel
theorem d_Heap_init_59 : decode b_Heap_init 59 = .ok (.getfield 9, 3) := by decide +kernel
theorem d_Heap_init_62 : decode b_Heap_init 62 = .ok (.ldc2_w 40, 3) := by decide +kernel
theorem d_Heap_init_65 : decode b_Heap_init 65 = .ok (.invokestatic 46, 3) := by decide +kernel
theorem d_Heap_init_68 : decode b_Heap_init 68 = .ok (.iconst 0, 1) := by decide +kernel
theorem d_Heap_init_69 : decode b_Heap_init 69 = .ok (.istore_n 1, 1) := by decide +kernel
theorem d_Heap_init_70 : decode b_Heap_init 70 = .ok (.iload_n 1, 1) := by decide +kernel
theorem d_Heap_init_71 : decode b_Heap_init 71 = .ok (.bipush 16, 2) := by decide +kernel
theorem d_Heap_init_73 : decode b_Heap_init 73 = .ok (.if_icmp .ge 22, 3) := by decide +kernel
theorem d_Heap_init_76 : decode b_Heap_init 76 = .ok (.aload_n 0, 1) := by decide +kernel
theorem d_Heap_init_77 : decode b_Heap_init 77 = .ok (.getfield 17, 3) := by decide +kernel
theorem d_Heap_init_80 : decode b_Heap_init 80 = .ok (.iload_n 1, 1) := by decide +kernel
theorem d_Heap_init_81 : decode b_Heap_init 81 = .ok (.new 15, 3) := by decide +kernel
theorem d_Heap_init_84 : decode b_Heap_init 84 = .ok (.dup, 1) := by decide +kernel
theorem d_Heap_init_85 : decode b_Heap_init 85 = .ok (.invokespecial 52, 3) := by decide +kernel
theorem d_Heap_init_88 : decode b_Heap_init 88 = .ok (.aastore, 1) := by decide +kernel
theorem d_Heap_init_89 : decode b_Heap_init 89 = .ok (.iinc 1 1, 3) := by decide +kernel
theorem d_Heap_init_92 : decode b_Heap_init 92 = .ok (.goto (-22), 3) := by decide +kernel
theorem d_Heap_init_95 : decode b_Heap_init 95 = .ok (.return_, 1) := by decide +kernel
theorem d_Cell_init_0 : decode b_Cell_init 0 = .ok (.aload_n 0, 1) := by decide +kernel
theorem d_Cell_init_1 : decode b_Cell_init 1 = .ok (.invokespecial 3, 3) := by decide +kernel
theorem d_Cell_init_4 : decode b_Cell_init 4 = .ok (.aload_n 0, 1) := by decide +kernel
theorem d_Cell_init_5 : decode b_Cell_init 5 = .ok (.new 9, 3) := by decide +kernel
theorem d_Cell_init_8 : decode b_Cell_init 8 = .ok (.dup, 1) := by decide +kernel
theorem d_Cell_init_9 : decode b_Cell_init 9 = .ok (.invokespecial 11, 3) := by decide +kernel
theorem d_Cell_init_12 : decode b_Cell_init 12 = .ok (.putfield 12, 3) := by decide +kernel
theorem d_Cell_init_15 : decode b_Cell_init 15 = .ok (.aload_n 0, 1) := by decide +kernel
theorem d_Cell_init_16 : decode b_Cell_init 16 = .ok (.new 18, 3) := by decide +kernel
theorem d_Cell_init_19 : decode b_Cell_init 19 = .ok (.dup, 1) := by decide +kernel
theorem d_Cell_init_20 : decode b_Cell_init 20 = .ok (.invokespecial 20, 3) := by decide +kernel
theorem d_Cell_init_23 : decode b_Cell_init 23 = .ok (.putfield 21, 3) := by decide +kernel
theorem d_Cell_init_26 : decode b_Cell_init 26 = .ok (.aload_n 0, 1) := by decide +kernel
theorem d_Cell_init_27 : decode b_Cell_init 27 = .ok (.iconst 0, 1) := by decide +kernel
theorem d_Cell_init_28 : decode b_Cell_init 28 = .ok (.putfield 25, 3) := by decide +kernel
theorem d_Cell_init_31 : decode b_Cell_init 31 = .ok (.aload_n 0, 1) := by decide +kernel
theorem d_Cell_init_32 : decode b_Cell_init 32 = .ok (.iconst 0, 1) := by decide +kernel
theorem d_Cell_init_33 : decode b_Cell_init 33 = .ok (.putfield 29, 3) := by decide +kernel
theorem d_Cell_init_36 : decode b_Cell_init 36 = .ok (.return_, 1) := by decide +kernel
theorem d_Tab_init_0 : decode b_Tab_init 0 = .ok (.aload_n 0, 1) := by decide +kernel
theorem d_Tab_init_1 : decode b_Tab_init 1 = .ok (.invokespecial 3, 3) := by decide +kernel
theorem d_Tab_init_4 : decode b_Tab_init 4 = .ok (.aload_n 0, 1) := by decide +kernel
theorem d_Tab_init_5 : decode b_Tab_init 5 = .ok (.bipush 6, 2) := by decide +kernel
theorem d_Tab_init_7 : decode b_Tab_init 7 = .ok (.newarray .long, 2) := by decide +kernel
theorem d_Tab_init_9 : decode b_Tab_init 9 = .ok (.putfield 9, 3) := by decide +kernel
theorem d_Tab_init_12 : decode b_Tab_init 12 = .ok (.aload_n 0, 1) := by decide +kernel
theorem d_Tab_init_13 : decode b_Tab_init 13 = .ok (.bipush 6, 2) := by decide +kernel
theorem d_Tab_init_15 : decode b_Tab_init 15 = .ok (.newarray .long, 2) := by decide +kernel
theorem d_Tab_init_17 : decode b_Tab_init 17 = .ok (.putfield 15, 3) := by decide +kernel
theorem d_Tab_init_20 : decode b_Tab_init 20 = .ok (.aload_n 0, 1) := by decide +kernel
theorem d_Tab_init_21 : decode b_Tab_init 21 = .ok (.iconst 0, 1) := by decide +kernel
theorem d_Tab_init_22 : decode b_Tab_init 22 = .ok (.putfield 18, 3) := by decide +kernel
theorem d_Tab_init_25 : decode b_Tab_init 25 = .ok (.aload_n 0, 1) := by decide +kernel
theorem d_Tab_init_26 : decode b_Tab_init 26 = .ok (.iconst (-1), 1) := by decide +kernel
theorem d_Tab_init_27 : decode b_Tab_init 27 = .ok (.putfield 22, 3) := by decide +kernel
theorem d_Tab_init_30 : decode b_Tab_init 30 = .ok (.return_, 1) := by decide +kernel
theorem d_Cor_init_0 : decode b_Cor_init 0 = .ok (.aload_n 0, 1) := by decide +kernel
theorem d_Cor_init_1 : decode b_Cor_init 1 = .ok (.invokespecial 3, 3) := by decide +kernel
theorem d_Cor_init_4 : decode b_Cor_init 4 = .ok (.aload_n 0, 1) := by decide +kernel
theorem d_Cor_init_5 : decode b_Cor_init 5 = .ok (.iconst 4, 1) := by decide +kernel
theorem d_Cor_init_6 : decode b_Cor_init 6 = .ok (.newarray .long, 2) := by decide +kernel
theorem d_Cor_init_8 : decode b_Cor_init 8 = .ok (.putfield 9, 3) := by decide +kernel
theorem d_Cor_init_11 : decode b_Cor_init 11 = .ok (.aload_n 0, 1) := by decide +kernel
theorem d_Cor_init_12 : decode b_Cor_init 12 = .ok (.iconst 0, 1) := by decide +kernel
theorem d_Cor_init_13 : decode b_Cor_init 13 = .ok (.putfield 15, 3) := by decide +kernel
theorem d_Cor_init_16 : decode b_Cor_init 16 = .ok (.aload_n 0, 1) := by decide +kernel
theorem d_Cor_init_17 : decode b_Cor_init 17 = .ok (.iconst 0, 1) := by decide +kernel
theorem d_Cor_init_18 : decode b_Cor_init 18 = .ok (.putfield 19, 3) := by decide +kernel
theorem d_Cor_init_21 : decode b_Cor_init 21 = .ok (.aload_n 0, 1) := by decide +kernel
theorem d_Cor_init_22 : decode b_Cor_init 22 = .ok (.iconst 0, 1) := by decide +kernel
theorem d_Cor_init_23 : decode b_Cor_init 23 = .ok (.putfield 22, 3) := by decide +kernel
theorem d_Cor_init_26 : decode b_Cor_init 26 = .ok (.aload_n 0, 1) := by decide +kernel
theorem d_Cor_init_27 : decode b_Cor_init 27 = .ok (.iconst 0, 1) := by decide +kernel
theorem d_Cor_init_28 : decode b_Cor_init 28 = .ok (.putfield 25, 3) := by decide +kernel
theorem d_Cor_init_31 : decode b_Cor_init 31 = .ok (.aload_n 0, 1) := by decide +kernel
theorem d_Cor_init_32 : decode b_Cor_init 32 = .ok (.iconst 0, 1) := by decide +kernel
theorem d_Cor_init_33 : decode b_Cor_init 33 = .ok (.putfield 28, 3) := by decide +kernel
theorem d_Cor_init_36 : decode b_Cor_init 36 = .ok (.return_, 1) := by decide +kernel
theorem d_Ins_init_0 : decode b_Ins_init 0 = .ok (.aload_n 0, 1) := by decide +kernel
theorem d_Ins_init_1 : decode b_Ins_init 1 = .ok (.invokespecial 3, 3) := by decide +kernel
theorem d_Ins_init_4 : decode b_Ins_init 4 = .ok (.aload_n 0, 1) := by decide +kernel
theorem d_Ins_init_5 : decode b_Ins_init 5 = .ok (.iconst (-1), 1) := by decide +kernel
theorem d_Ins_init_6 : decode b_Ins_init 6 = .ok (.putfield 9, 3) := by decide +kernel
theorem d_Ins_init_9 : decode b_Ins_init 9 = .ok (.aload_n 0, 1) := by decide +kernel
theorem d_Ins_init_10 : decode b_Ins_init 10 = .ok (.iconst 0, 1) := by decide +kernel
theorem d_Ins_init_11 : decode b_Ins_init 11 = .ok (.putfield 15, 3) := by decide +kernel
theorem d_Ins_init_14 : decode b_Ins_init 14 = .ok (.aload_n 0, 1) := by decide +kernel
theorem d_Ins_init_15 : decode b_Ins_init 15 = .ok (.iconst 0, 1) := by decide +kernel
theorem d_Ins_init_16 : decode b_Ins_init 16 = .ok (.putfield 18, 3) := by decide +kernel
theorem d_Ins_init_19 : decode b_Ins_init 19 = .ok (.aload_n 0, 1) := by decide +kernel
theorem d_Ins_init_20 : decode b_Ins_init 20 = .ok (.iconst 0, 1) := by decide +kernel
theorem d_Ins_init_21 : decode b_Ins_init 21 = .ok (.putfield 21, 3) := by decide +kernel
theorem d_Ins_init_24 : decode b_Ins_init 24 = .ok (.return_, 1) := by decide +kernel
theorem d_Heap_fullCollection_0 : decode b_Heap_fullCollection 0 = .ok (.aload_n 0, 1) := by decide +kernel
theorem d_Heap_fullCollection_1 : decode b_Heap_fullCollection 1 = .ok (.dup, 1) := by decide +kernel
theorem d_Heap_fullCollection_2 : decode b_Heap_fullCollection 2 = .ok (.getfield 37, 3) := by decide +kernel
theorem d_Heap_fullCollection_5 : decode b_Heap_fullCollection 5 = .ok (.iconst 1, 1) := by decide +kernel
theorem d_Heap_fullCollection_6 : decode b_Heap_fullCollection 6 = .ok (.iadd, 1) := by decide +kernel
theorem d_Heap_fullCollection_7 : decode b_Heap_fullCollection 7 = .ok (.putfield 37, 3) := by decide +kernel
theorem d_Heap_fullCollection_10 : decode b_Heap_fullCollection 10 = .ok (.iconst 0, 1) := by decide +kernel
theorem d_Heap_fullCollection_11 : decode b_Heap_fullCollection 11 = .ok (.istore_n 1, 1) := by decide +kernel
theorem d_Heap_fullCollection_12 : decode b_Heap_fullCollection 12 = .ok (.iload_n 1, 1) := by decide +kernel
theorem d_Heap_fullCollection_13 : decode b_Heap_fullCollection 13 = .ok (.sipush 1000, 3) := by decide +kernel
theorem d_Heap_fullCollection_16 : decode b_Heap_fullCollection 16 = .ok (.if_icmp .ge 20, 3) := by decide +kernel
theorem d_Heap_fullCollection_19 : decode b_Heap_fullCollection 19 = .ok (.aload_n 0, 1) := by decide +kernel
theorem d_Heap_fullCollection_20 : decode b_Heap_fullCollection 20 = .ok (.getfield 21, 3) := by decide +kernel
theorem d_Heap_fullCollection_23 : decode b_Heap_fullCollection 23 = .ok (.ifCond .eq 13, 3) := by decide +kernel
theorem d_Heap_fullCollection_26 : decode b_Heap_fullCollection 26 = .ok (.aload_n 0, 1) := by decide +kernel
theorem d_Heap_fullCollection_27 : decode b_Heap_fullCollection 27 = .ok (.invokevirtual 131, 3) := by decide +kernel
theorem d_Heap_fullCollection_30 : decode b_Heap_fullCollection 30 = .ok (.iinc 1 1, 3) := by decide +kernel
theorem d_Heap_fullCollection_33 : decode b_Heap_fullCollection 33 = .ok (.goto (-21), 3) := by decide +kernel
theorem d_Heap_fullCollection_36 : decode b_Heap_fullCollection 36 = .ok (.aload_n 0, 1) := by decide +kernel
theorem d_Heap_fullCollection_37 : decode b_Heap_fullCollection 37 = .ok (.invokevirtual 131, 3) := by decide +kernel
theorem d_Heap_fullCollection_40 : decode b_Heap_fullCollection 40 = .ok (.iconst 0, 1) := by decide +kernel
theorem d_Heap_fullCollection_41 : decode b_Heap_fullCollection 41 = .ok (.istore_n 1, 1) := by decide +kernel
theorem d_Heap_fullCollection_42 : decode b_Heap_fullCollection 42 = .ok (.iload_n 1, 1) := by decide +kernel
theorem d_Heap_fullCollection_43 : decode b_Heap_fullCollection 43 = .ok (.sipush 1000, 3) := by decide +kernel
theorem d_Heap_fullCollection_46 : decode b_Heap_fullCollection 46 = .ok (.if_icmp .ge 20, 3) := by decide +kernel
theorem d_Heap_fullCollection_49 : decode b_Heap_fullCollection 49 = .ok (.aload_n 0, 1) := by decide +kernel
theorem d_Heap_fullCollection_50 : decode b_Heap_fullCollection 50 = .ok (.getfield 21, 3) := by decide +kernel
theorem d_Heap_fullCollection_53 : decode b_Heap_fullCollection 53 = .ok (.ifCond .eq 13, 3) := by decide +kernel
theorem d_Heap_fullCollection_56 : decode b_Heap_fullCollection 56 = .ok (.aload_n 0, 1) := by decide +kernel
theorem d_Heap_fullCollection_57 : decode b_Heap_fullCollection 57 = .ok (.invokevirtual 131, 3) := by decide +kernel
theorem d_Heap_fullCollection_60 : decode b_Heap_fullCollection 60 = .ok (.iinc 1 1, 3) := by decide +kernel
theorem d_Heap_fullCollection_63 : decode b_Heap_fullCollection 63 = .ok (.goto (-21), 3) := by decide +kernel
theorem d_Heap_fullCollection_66 : decode b_Heap_fullCollection 66 = .ok (.return_, 1) := by decide +kernel
theorem d_Heap_unit_0 : decode b_Heap_unit 0 = .ok (.aload_n 0, 1) := by decide +kernel
theorem d_Heap_unit_1 : decode b_Heap_unit 1 = .ok (.dup, 1) := by decide +kernel
theorem d_Heap_unit_2 : decode b_Heap_unit 2 = .ok (.getfield 34, 3) := by decide +kernel
theorem d_Heap_unit_5 : decode b_Heap_unit 5 = .ok (.iconst 1, 1) := by decide +kernel
theorem d_Heap_unit_6 : decode b_Heap_unit 6 = .ok (.iadd, 1) := by decide +kernel
theorem d_Heap_unit_7 : decode b_Heap_unit 7 = .ok (.putfield 34, 3) := by decide +kernel
theorem d_Heap_unit_10 : decode b_Heap_unit 10 = .ok (.aload_n 0, 1) := by decide +kernel
theorem d_Heap_unit_11 : decode b_Heap_unit 11 = .ok (.getfield 21, 3) := by decide +kernel
theorem d_Heap_unit_14 : decode b_Heap_unit 14 = .ok (.iconst 2, 1) := by decide +kernel
theorem d_Heap_unit_15 : decode b_Heap_unit 15 = .ok (.if_icmp .ne 8, 3) := by decide +kernel
theorem d_Heap_unit_18 : decode b_Heap_unit 18 = .ok (.aload_n 0, 1) := by decide +kernel
theorem d_Heap_unit_19 : decode b_Heap_unit 19 = .ok (.invokevirtual 134, 3) := by decide +kernel
theorem d_Heap_unit_22 : decode b_Heap_unit 22 = .ok (.return_, 1) := by decide +kernel
theorem d_Heap_unit_23 : decode b_Heap_unit 23 = .ok (.aload_n 0, 1) := by decide +kernel
theorem d_Heap_unit_24 : decode b_Heap_unit 24 = .ok (.invokevirtual 137, 3) := by decide +kernel
theorem d_Heap_unit_27 : decode b_Heap_unit 27 = .ok (.istore_n 1, 1) := by decide +kernel
theorem d_Heap_unit_28 : decode b_Heap_unit 28 = .ok (.iload_n 1, 1) := by decide +kernel
theorem d_Heap_unit_29 : decode b_Heap_unit 29 = .ok (.ifCond .lt 14, 3) := by decide +kernel
theorem d_Heap_unit_32 : decode b_Heap_unit 32 = .ok (.aload_n 0, 1) := by decide +kernel
theorem d_Heap_unit_33 : decode b_Heap_unit 33 = .ok (.aload_n 0, 1) := by decide +kernel
theorem d_Heap_unit_34 : decode b_Heap_unit 34 = .ok (.getfield 17, 3) := by decide +kernel
theorem d_Heap_unit_37 : decode b_Heap_unit 37 = .ok (.iload_n 1, 1) := by decide +kernel
theorem d_Heap_unit_38 : decode b_Heap_unit 38 = .ok (.aaload, 1) := by decide +kernel
theorem d_Heap_unit_39 : decode b_Heap_unit 39 = .ok (.invokevirtual 140, 3) := by decide +kernel
theorem d_Heap_unit_42 : decode b_Heap_unit 42 = .ok (.return_, 1) := by decide +kernel
theorem d_Heap_unit_43 : decode b_Heap_unit 43 = .ok (.aload_n 0, 1) := by decide +kernel
theorem d_Heap_unit_44 : decode b_Heap_unit 44 = .ok (.invokevirtual 144, 3) := by decide +kernel
theorem d_Heap_unit_47 : decode b_Heap_unit 47 = .ok (.ifCond .le 7, 3) := by decide +kernel
theorem d_Heap_unit_50 : decode b_Heap_unit 50 = .ok (.iconst 1, 1) := by decide +kernel
theorem d_Heap_unit_51 : decode b_Heap_unit 51 = .ok (.goto 4, 3) := by decide +kernel
theorem d_Heap_unit_54 : decode b_Heap_unit 54 = .ok (.iconst 0, 1) := by decide +kernel
theorem d_Heap_unit_55 : decode b_Heap_unit 55 = .ok (.istore_n 2, 1) := by decide +kernel
theorem d_Heap_unit_56 : decode b_Heap_unit 56 = .ok (.aload_n 0, 1) := by decide +kernel
theorem d_Heap_unit_57 : decode b_Heap_unit 57 = .ok (.aload_n 0, 1) := by decide +kernel
theorem d_Heap_unit_58 : decode b_Heap_unit 58 = .ok (.getfield 21, 3) := by decide +kernel
theorem d_Heap_unit_61 : decode b_Heap_unit 61 = .ok (.ifCond .eq 7, 3) := by decide +kernel
theorem d_Heap_unit_64 : decode b_Heap_unit 64 = .ok (.iload_n 2, 1) := by decide +kernel
theorem d_Heap_unit_65 : decode b_Heap_unit 65 = .ok (.ifCond .eq 7, 3) := by decide +kernel
theorem d_Heap_unit_68 : decode b_Heap_unit 68 = .ok (.iconst 1, 1) := by decide +kernel
theorem d_Heap_unit_69 : decode b_Heap_unit 69 = .ok (.goto 4, 3) := by decide +kernel
theorem d_Heap_unit_72 : decode b_Heap_unit 72 = .ok (.iconst 2, 1) := by decide +kernel
theorem d_Heap_unit_73 : decode b_Heap_unit 73 = .ok (.putfield 21, 3) := by decide +kernel
theorem d_Heap_unit_76 : decode b_Heap_unit 76 = .ok (.return_, 1) := by decide +kernel
theorem d_Heap_sweepOne_0 : decode b_Heap_sweepOne 0 = .ok (.aload_n 0, 1) := by decide +kernel
theorem d_Heap_sweepOne_1 : decode b_Heap_sweepOne 1 = .ok (.getfield 17, 3) := by decide +kernel
theorem d_Heap_sweepOne_4 : decode b_Heap_sweepOne 4 = .ok (.aload_n 0, 1) := by decide +kernel
theorem d_Heap_sweepOne_5 : decode b_Heap_sweepOne 5 = .ok (.getfield 25, 3) := by decide +kernel
theorem d_Heap_sweepOne_8 : decode b_Heap_sweepOne 8 = .ok (.aaload, 1) := by decide +kernel
theorem d_Heap_sweepOne_9 : decode b_Heap_sweepOne 9 = .ok (.astore_n 1, 1) := by decide +kernel
theorem d_Heap_sweepOne_10 : decode b_Heap_sweepOne 10 = .ok (.aload_n 1, 1) := by decide +kernel
theorem d_Heap_sweepOne_11 : decode b_Heap_sweepOne 11 = .ok (.getfield 59, 3) := by decide +kernel
theorem d_Heap_sweepOne_14 : decode b_Heap_sweepOne 14 = .ok (.ifCond .eq 25, 3) := by decide +kernel
theorem d_Heap_sweepOne_17 : decode b_Heap_sweepOne 17 = .ok (.aload_n 1, 1) := by decide +kernel
theorem d_Heap_sweepOne_18 : decode b_Heap_sweepOne 18 = .ok (.getfield 73, 3) := by decide +kernel
theorem d_Heap_sweepOne_21 : decode b_Heap_sweepOne 21 = .ok (.ifCond .ne 18, 3) := by decide +kernel
theorem d_Heap_sweepOne_24 : decode b_Heap_sweepOne 24 = .ok (.aload_n 1, 1) := by decide +kernel
theorem d_Heap_sweepOne_25 : decode b_Heap_sweepOne 25 = .ok (.iconst 0, 1) := by decide +kernel
theorem d_Heap_sweepOne_26 : decode b_Heap_sweepOne 26 = .ok (.putfield 59, 3) := by decide +kernel
theorem d_Heap_sweepOne_29 : decode b_Heap_sweepOne 29 = .ok (.aload_n 0, 1) := by decide +kernel
theorem d_Heap_sweepOne_30 : decode b_Heap_sweepOne 30 = .ok (.dup, 1) := by decide +kernel
theorem d_Heap_sweepOne_31 : decode b_Heap_sweepOne 31 = .ok (.getfield 31, 3) := by decide +kernel
theorem d_Heap_sweepOne_34 : decode b_Heap_sweepOne 34 = .ok (.iconst 1, 1) := by decide +kernel
theorem d_Heap_sweepOne_35 : decode b_Heap_sweepOne 35 = .ok (.iadd, 1) := by decide +kernel
theorem d_Heap_sweepOne_36 : decode b_Heap_sweepOne 36 = .ok (.putfield 31, 3) := by decide +kernel
theorem d_Heap_sweepOne_39 : decode b_Heap_sweepOne 39 = .ok (.aload_n 1, 1) := by decide +kernel
theorem d_Heap_sweepOne_40 : decode b_Heap_sweepOne 40 = .ok (.iconst 0, 1) := by decide +kernel
theorem d_Heap_sweepOne_41 : decode b_Heap_sweepOne 41 = .ok (.putfield 73, 3) := by decide +kernel
theorem d_Heap_sweepOne_44 : decode b_Heap_sweepOne 44 = .ok (.aload_n 0, 1) := by decide +kernel
theorem d_Heap_sweepOne_45 : decode b_Heap_sweepOne 45 = .ok (.dup, 1) := by decide +kernel
theorem d_Heap_sweepOne_46 : decode b_Heap_sweepOne 46 = .ok (.getfield 25, 3) := by decide +kernel
theorem d_Heap_sweepOne_49 : decode b_Heap_sweepOne 49 = .ok (.iconst 1, 1) := by decide +kernel
theorem d_Heap_sweepOne_50 : decode b_Heap_sweepOne 50 = .ok (.iadd, 1) := by decide +kernel
theorem d_Heap_sweepOne_51 : decode b_Heap_sweepOne 51 = .ok (.putfield 25, 3) := by decide +kernel
theorem d_Heap_sweepOne_54 : decode b_Heap_sweepOne 54 = .ok (.aload_n 0, 1) := by decide +kernel
theorem d_Heap_sweepOne_55 : decode b_Heap_sweepOne 55 = .ok (.getfield 25, 3) := by decide +kernel
theorem d_Heap_sweepOne_58 : decode b_Heap_sweepOne 58 = .ok (.bipush 16, 2) := by decide +kernel
theorem d_Heap_sweepOne_60 : decode b_Heap_sweepOne 60 = .ok (.if_icmp .ne 13, 3) := by decide +kernel
theorem d_Heap_sweepOne_63 : decode b_Heap_sweepOne 63 = .ok (.aload_n 0, 1) := by decide +kernel
theorem d_Heap_sweepOne_64 : decode b_Heap_sweepOne 64 = .ok (.iconst 0, 1) := by decide +kernel
theorem d_Heap_sweepOne_65 : decode b_Heap_sweepOne 65 = .ok (.putfield 25, 3) := by decide +kernel
theorem d_Heap_sweepOne_68 : decode b_Heap_sweepOne 68 = .ok (.aload_n 0, 1) := by decide +kernel
theorem d_Heap_sweepOne_69 : decode b_Heap_sweepOne 69 = .ok (.iconst 0, 1) := by decide +kernel
theorem d_Heap_sweepOne_70 : decode b_Heap_sweepOne 70 = .ok (.putfield 21, 3) := by decide +kernel
theorem d_Heap_sweepOne_73 : decode b_Heap_sweepOne 73 = .ok (.return_, 1) := by decide +kernel
theorem d_Heap_leastGray_0 : decode b_Heap_leastGray 0 = .ok (.iconst 0, 1) := by decide +kernel
theorem d_Heap_leastGray_1 : decode b_Heap_leastGray 1 = .ok (.istore_n 1, 1) := by decide +kernel
theorem d_Heap_leastGray_2 : decode b_Heap_leastGray 2 = .ok (.iload_n 1, 1) := by decide +kernel
theorem d_Heap_leastGray_3 : decode b_Heap_leastGray 3 = .ok (.bipush 16, 2) := by decide +kernel
theorem d_Heap_leastGray_5 : decode b_Heap_leastGray 5 = .ok (.if_icmp .ge 24, 3) := by decide +kernel
theorem d_Heap_leastGray_8 : decode b_Heap_leastGray 8 = .ok (.aload_n 0, 1) := by decide +kernel
theorem d_Heap_leastGray_9 : decode b_Heap_leastGray 9 = .ok (.getfield 17, 3) := by decide +kernel
theorem d_Heap_leastGray_12 : decode b_Heap_leastGray 12 = .ok (.iload_n 1, 1) := by decide +kernel
theorem d_Heap_leastGray_13 : decode b_Heap_leastGray 13 = .ok (.aaload, 1) := by decide +kernel
theorem d_Heap_leastGray_14 : decode b_Heap_leastGray 14 = .ok (.getfield 73, 3) := by decide +kernel
theorem d_Heap_leastGray_17 : decode b_Heap_leastGray 17 = .ok (.iconst 1, 1) := by decide +kernel
theorem d_Heap_leastGray_18 : decode b_Heap_leastGray 18 = .ok (.if_icmp .ne 5, 3) := by decide +kernel
theorem d_Heap_leastGray_21 : decode b_Heap_leastGray 21 = .ok (.iload_n 1, 1) := by decide +kernel
theorem d_Heap_leastGray_22 : decode b_Heap_leastGray 22 = .ok (.ireturn, 1) := by decide +kernel
theorem d_Heap_leastGray_23 : decode b_Heap_leastGray 23 = .ok (.iinc 1 1, 3) := by decide +kernel
theorem d_Heap_leastGray_26 : decode b_Heap_leastGray 26 = .ok (.goto (-24), 3) := by decide +kernel
theorem d_Heap_leastGray_29 : decode b_Heap_leastGray 29 = .ok (.iconst (-1), 1) := by decide +kernel
theorem d_Heap_leastGray_30 : decode b_Heap_leastGray 30 = .ok (.ireturn, 1) := by decide +kernel
theorem d_Heap_blacken_0 : decode b_Heap_blacken 0 = .ok (.aload_n 1, 1) := by decide +kernel
theorem d_Heap_blacken_1 : decode b_Heap_blacken 1 = .ok (.iconst 2, 1) := by decide +kernel
theorem d_Heap_blacken_2 : decode b_Heap_blacken 2 = .ok (.putfield 73, 3) := by decide +kernel
theorem d_Heap_blacken_5 : decode b_Heap_blacken 5 = .ok (.aload_n 1, 1) := by decide +kernel
theorem d_Heap_blacken_6 : decode b_Heap_blacken 6 = .ok (.getfield 59, 3) := by decide +kernel
theorem d_Heap_blacken_9 : decode b_Heap_blacken 9 = .ok (.iconst 2, 1) := by decide +kernel
theorem d_Heap_blacken_10 : decode b_Heap_blacken 10 = .ok (.if_icmp .ne 17, 3) := by decide +kernel
theorem d_Heap_blacken_13 : decode b_Heap_blacken 13 = .ok (.aload_n 0, 1) := by decide +kernel
theorem d_Heap_blacken_14 : decode b_Heap_blacken 14 = .ok (.aload_n 1, 1) := by decide +kernel
theorem d_Heap_blacken_15 : decode b_Heap_blacken 15 = .ok (.getfield 85, 3) := by decide +kernel
theorem d_Heap_blacken_18 : decode b_Heap_blacken 18 = .ok (.getfield 147, 3) := by decide +kernel
theorem d_Heap_blacken_21 : decode b_Heap_blacken 21 = .ok (.iconst 4, 1) := by decide +kernel
theorem d_Heap_blacken_22 : decode b_Heap_blacken 22 = .ok (.invokevirtual 150, 3) := by decide +kernel
theorem d_Heap_blacken_25 : decode b_Heap_blacken 25 = .ok (.pop, 1) := by decide +kernel
theorem d_Heap_blacken_26 : decode b_Heap_blacken 26 = .ok (.return_, 1) := by decide +kernel
theorem d_Heap_blacken_27 : decode b_Heap_blacken 27 = .ok (.aload_n 0, 1) := by decide +kernel
theorem d_Heap_blacken_28 : decode b_Heap_blacken 28 = .ok (.aload_n 1, 1) := by decide +kernel
theorem d_Heap_blacken_29 : decode b_Heap_blacken 29 = .ok (.getfield 76, 3) := by decide +kernel
theorem d_Heap_blacken_32 : decode b_Heap_blacken 32 = .ok (.getfield 128, 3) := by decide +kernel
theorem d_Heap_blacken_35 : decode b_Heap_blacken 35 = .ok (.aload_n 1, 1) := by decide +kernel
theorem d_Heap_blacken_36 : decode b_Heap_blacken 36 = .ok (.getfield 76, 3) := by decide +kernel
theorem d_Heap_blacken_39 : decode b_Heap_blacken 39 = .ok (.getfield 108, 3) := by decide +kernel
theorem d_Heap_blacken_42 : decode b_Heap_blacken 42 = .ok (.invokevirtual 150, 3) := by decide +kernel
theorem d_Heap_blacken_45 : decode b_Heap_blacken 45 = .ok (.pop, 1) := by decide +kernel
theorem d_Heap_blacken_46 : decode b_Heap_blacken 46 = .ok (.aload_n 0, 1) := by decide +kernel
theorem d_Heap_blacken_47 : decode b_Heap_blacken 47 = .ok (.aload_n 1, 1) := by decide +kernel
theorem d_Heap_blacken_48 : decode b_Heap_blacken 48 = .ok (.getfield 76, 3) := by decide +kernel
theorem d_Heap_blacken_51 : decode b_Heap_blacken 51 = .ok (.getfield 105, 3) := by decide +kernel
theorem d_Heap_blacken_54 : decode b_Heap_blacken 54 = .ok (.aload_n 1, 1) := by decide +kernel
theorem d_Heap_blacken_55 : decode b_Heap_blacken 55 = .ok (.getfield 76, 3) := by decide +kernel
theorem d_Heap_blacken_58 : decode b_Heap_blacken 58 = .ok (.getfield 108, 3) := by decide +kernel
theorem d_Heap_blacken_61 : decode b_Heap_blacken 61 = .ok (.invokevirtual 150, 3) := by decide +kernel
theorem d_Heap_blacken_64 : decode b_Heap_blacken 64 = .ok (.pop, 1) := by decide +kernel
theorem d_Heap_blacken_65 : decode b_Heap_blacken 65 = .ok (.aload_n 1, 1) := by decide +kernel
theorem d_Heap_blacken_66 : decode b_Heap_blacken 66 = .ok (.getfield 76, 3) := by decide +kernel
theorem d_Heap_blacken_69 : decode b_Heap_blacken 69 = .ok (.getfield 121, 3) := by decide +kernel
theorem d_Heap_blacken_72 : decode b_Heap_blacken 72 = .ok (.ifCond .lt 19, 3) := by decide +kernel
theorem d_Heap_blacken_75 : decode b_Heap_blacken 75 = .ok (.aload_n 0, 1) := by decide +kernel
theorem d_Heap_blacken_76 : decode b_Heap_blacken 76 = .ok (.getfield 17, 3) := by decide +kernel
theorem d_Heap_blacken_79 : decode b_Heap_blacken 79 = .ok (.aload_n 1, 1) := by decide +kernel
theorem d_Heap_blacken_80 : decode b_Heap_blacken 80 = .ok (.getfield 76, 3) := by decide +kernel
theorem d_Heap_blacken_83 : decode b_Heap_blacken 83 = .ok (.getfield 121, 3) := by decide +kernel
theorem d_Heap_blacken_86 : decode b_Heap_blacken 86 = .ok (.aaload, 1) := by decide +kernel
theorem d_Heap_blacken_87 : decode b_Heap_blacken 87 = .ok (.invokestatic 154, 3) := by decide +kernel
theorem d_Heap_blacken_90 : decode b_Heap_blacken 90 = .ok (.pop, 1) := by decide +kernel
theorem d_Heap_blacken_91 : decode b_Heap_blacken 91 = .ok (.return_, 1) := by decide +kernel
theorem d_Heap_shadeRow_0 : decode b_Heap_shadeRow 0 = .ok (.iconst 0, 1) := by decide +kernel
theorem d_Heap_shadeRow_1 : decode b_Heap_shadeRow 1 = .ok (.istore_n 3, 1) := by decide +kernel
theorem d_Heap_shadeRow_2 : decode b_Heap_shadeRow 2 = .ok (.iconst 0, 1) := by decide +kernel
theorem d_Heap_shadeRow_3 : decode b_Heap_shadeRow 3 = .ok (.istore 4, 2) := by decide +kernel
theorem d_Heap_shadeRow_5 : decode b_Heap_shadeRow 5 = .ok (.iload 4, 2) := by decide +kernel
theorem d_Heap_shadeRow_7 : decode b_Heap_shadeRow 7 = .ok (.iload_n 2, 1) := by decide +kernel
theorem d_Heap_shadeRow_8 : decode b_Heap_shadeRow 8 = .ok (.if_icmp .ge 67, 3) := by decide +kernel
theorem d_Heap_shadeRow_11 : decode b_Heap_shadeRow 11 = .ok (.aload_n 1, 1) := by decide +kernel
theorem d_Heap_shadeRow_12 : decode b_Heap_shadeRow 12 = .ok (.iload 4, 2) := by decide +kernel
theorem d_Heap_shadeRow_14 : decode b_Heap_shadeRow 14 = .ok (.laload, 1) := by decide +kernel
theorem d_Heap_shadeRow_15 : decode b_Heap_shadeRow 15 = .ok (.ldc2_w 53, 3) := by decide +kernel
theorem d_Heap_shadeRow_18 : decode b_Heap_shadeRow 18 = .ok (.lcmp, 1) := by decide +kernel
theorem d_Heap_shadeRow_19 : decode b_Heap_shadeRow 19 = .ok (.ifCond .lt 15, 3) := by decide +kernel
theorem d_Heap_shadeRow_22 : decode b_Heap_shadeRow 22 = .ok (.aload_n 1, 1) := by decide +kernel
theorem d_Heap_shadeRow_23 : decode b_Heap_shadeRow 23 = .ok (.iload 4, 2) := by decide +kernel
theorem d_Heap_shadeRow_25 : decode b_Heap_shadeRow 25 = .ok (.laload, 1) := by decide +kernel
theorem d_Heap_shadeRow_26 : decode b_Heap_shadeRow 26 = .ok (.ldc2_w 53, 3) := by decide +kernel
theorem d_Heap_shadeRow_29 : decode b_Heap_shadeRow 29 = .ok (.lsub, 1) := by decide +kernel
theorem d_Heap_shadeRow_30 : decode b_Heap_shadeRow 30 = .ok (.l2i, 1) := by decide +kernel
theorem d_Heap_shadeRow_31 : decode b_Heap_shadeRow 31 = .ok (.goto 4, 3) := by decide +kernel
theorem d_Heap_shadeRow_34 : decode b_Heap_shadeRow 34 = .ok (.iconst (-1), 1) := by decide +kernel
theorem d_Heap_shadeRow_35 : decode b_Heap_shadeRow 35 = .ok (.istore 5, 2) := by decide +kernel
theorem d_Heap_shadeRow_37 : decode b_Heap_shadeRow 37 = .ok (.iload 5, 2) := by decide +kernel
theorem d_Heap_shadeRow_39 : decode b_Heap_shadeRow 39 = .ok (.ifCond .lt 30, 3) := by decide +kernel
theorem d_Heap_shadeRow_42 : decode b_Heap_shadeRow 42 = .ok (.aload_n 0, 1) := by decide +kernel
theorem d_Heap_shadeRow_43 : decode b_Heap_shadeRow 43 = .ok (.getfield 17, 3) := by decide +kernel
theorem d_Heap_shadeRow_46 : decode b_Heap_shadeRow 46 = .ok (.iload 5, 2) := by decide +kernel
theorem d_Heap_shadeRow_48 : decode b_Heap_shadeRow 48 = .ok (.aaload, 1) := by decide +kernel
theorem d_Heap_shadeRow_49 : decode b_Heap_shadeRow 49 = .ok (.getfield 73, 3) := by decide +kernel
theorem d_Heap_shadeRow_52 : decode b_Heap_shadeRow 52 = .ok (.ifCond .ne 17, 3) := by decide +kernel
theorem d_Heap_shadeRow_55 : decode b_Heap_shadeRow 55 = .ok (.aload_n 0, 1) := by decide +kernel
theorem d_Heap_shadeRow_56 : decode b_Heap_shadeRow 56 = .ok (.getfield 17, 3) := by decide +kernel
theorem d_Heap_shadeRow_59 : decode b_Heap_shadeRow 59 = .ok (.iload 5, 2) := by decide +kernel
theorem d_Heap_shadeRow_61 : decode b_Heap_shadeRow 61 = .ok (.aaload, 1) := by decide +kernel
theorem d_Heap_shadeRow_62 : decode b_Heap_shadeRow 62 = .ok (.iconst 1, 1) := by decide +kernel
theorem d_Heap_shadeRow_63 : decode b_Heap_shadeRow 63 = .ok (.putfield 73, 3) := by decide +kernel
theorem d_Heap_shadeRow_66 : decode b_Heap_shadeRow 66 = .ok (.iinc 3 1, 3) := by decide +kernel
theorem d_Heap_shadeRow_69 : decode b_Heap_shadeRow 69 = .ok (.iinc 4 1, 3) := by decide +kernel
theorem d_Heap_shadeRow_72 : decode b_Heap_shadeRow 72 = .ok (.goto (-67), 3) := by decide +kernel
theorem d_Heap_shadeRow_75 : decode b_Heap_shadeRow 75 = .ok (.iload_n 3, 1) := by decide +kernel
theorem d_Heap_shadeRow_76 : decode b_Heap_shadeRow 76 = .ok (.ireturn, 1) := by decide +kernel
theorem d_Heap_shade_0 : decode b_Heap_shade 0 = .ok (.aload_n 0, 1) := by decide +kernel
theorem d_Heap_shade_1 : decode b_Heap_shade 1 = .ok (.getfield 73, 3) := by decide +kernel
theorem d_Heap_shade_4 : decode b_Heap_shade 4 = .ok (.ifCond .eq 5, 3) := by decide +kernel
theorem d_Heap_shade_7 : decode b_Heap_shade 7 = .ok (.iconst 0, 1) := by decide +kernel
theorem d_Heap_shade_8 : decode b_Heap_shade 8 = .ok (.ireturn, 1) := by decide +kernel
theorem d_Heap_shade_9 : decode b_Heap_shade 9 = .ok (.aload_n 0, 1) := by decide +kernel
theorem d_Heap_shade_10 : decode b_Heap_shade 10 = .ok (.iconst 1, 1) := by decide +kernel
theorem d_Heap_shade_11 : decode b_Heap_shade 11 = .ok (.putfield 73, 3) := by decide +kernel
theorem d_Heap_shade_14 : decode b_Heap_shade 14 = .ok (.iconst 1, 1) := by decide +kernel
theorem d_Heap_shade_15 : decode b_Heap_shade 15 = .ok (.ireturn, 1) := by decide +kernel
theorem d_Heap_shadeRoots_0 : decode b_Heap_shadeRoots 0 = .ok (.aload_n 0, 1) := by decide +kernel
theorem d_Heap_shadeRoots_1 : decode b_Heap_shadeRoots 1 = .ok (.aload_n 0, 1) := by decide +kernel
theorem d_Heap_shadeRoots_2 : decode b_Heap_shadeRoots 2 = .ok (.getfield 9, 3) := by decide +kernel
theorem d_Heap_shadeRoots_5 : decode b_Heap_shadeRoots 5 = .ok (.bipush 6, 2) := by decide +kernel
theorem d_Heap_shadeRoots_7 : decode b_Heap_shadeRoots 7 = .ok (.invokevirtual 150, 3) := by decide +kernel
theorem d_Heap_shadeRoots_10 : decode b_Heap_shadeRoots 10 = .ok (.istore_n 1, 1) := by decide +kernel
theorem d_Heap_shadeRoots_11 : decode b_Heap_shadeRoots 11 = .ok (.iconst 0, 1) := by decide +kernel
theorem d_Heap_shadeRoots_12 : decode b_Heap_shadeRoots 12 = .ok (.istore_n 2, 1) := by decide +kernel
theorem d_Heap_shadeRoots_13 : decode b_Heap_shadeRoots 13 = .ok (.iload_n 2, 1) := by decide +kernel
theorem d_Heap_shadeRoots_14 : decode b_Heap_shadeRoots 14 = .ok (.bipush 16, 2) := by decide +kernel
theorem d_Heap_shadeRoots_16 : decode b_Heap_shadeRoots 16 = .ok (.if_icmp .ge 53, 3) := by decide +kernel
theorem d_Heap_shadeRoots_19 : decode b_Heap_shadeRoots 19 = .ok (.aload_n 0, 1) := by decide +kernel
theorem d_Heap_shadeRoots_20 : decode b_Heap_shadeRoots 20 = .ok (.getfield 17, 3) := by decide +kernel
theorem d_Heap_shadeRoots_23 : decode b_Heap_shadeRoots 23 = .ok (.iload_n 2, 1) := by decide +kernel
theorem d_Heap_shadeRoots_24 : decode b_Heap_shadeRoots 24 = .ok (.aaload, 1) := by decide +kernel
theorem d_Heap_shadeRoots_25 : decode b_Heap_shadeRoots 25 = .ok (.invokevirtual 158, 3) := by decide +kernel
theorem d_Heap_shadeRoots_28 : decode b_Heap_shadeRoots 28 = .ok (.ifCond .eq 35, 3) := by decide +kernel
theorem d_Heap_shadeRoots_31 : decode b_Heap_shadeRoots 31 = .ok (.iload_n 1, 1) := by decide +kernel
theorem d_Heap_shadeRoots_32 : decode b_Heap_shadeRoots 32 = .ok (.aload_n 0, 1) := by decide +kernel
theorem d_Heap_shadeRoots_33 : decode b_Heap_shadeRoots 33 = .ok (.getfield 17, 3) := by decide +kernel
theorem d_Heap_shadeRoots_36 : decode b_Heap_shadeRoots 36 = .ok (.iload_n 2, 1) := by decide +kernel
theorem d_Heap_shadeRoots_37 : decode b_Heap_shadeRoots 37 = .ok (.aaload, 1) := by decide +kernel
theorem d_Heap_shadeRoots_38 : decode b_Heap_shadeRoots 38 = .ok (.invokestatic 154, 3) := by decide +kernel
theorem d_Heap_shadeRoots_41 : decode b_Heap_shadeRoots 41 = .ok (.iadd, 1) := by decide +kernel
theorem d_Heap_shadeRoots_42 : decode b_Heap_shadeRoots 42 = .ok (.istore_n 1, 1) := by decide +kernel
theorem d_Heap_shadeRoots_43 : decode b_Heap_shadeRoots 43 = .ok (.iload_n 1, 1) := by decide +kernel
theorem d_Heap_shadeRoots_44 : decode b_Heap_shadeRoots 44 = .ok (.aload_n 0, 1) := by decide +kernel
theorem d_Heap_shadeRoots_45 : decode b_Heap_shadeRoots 45 = .ok (.aload_n 0, 1) := by decide +kernel
theorem d_Heap_shadeRoots_46 : decode b_Heap_shadeRoots 46 = .ok (.getfield 17, 3) := by decide +kernel
theorem d_Heap_shadeRoots_49 : decode b_Heap_shadeRoots 49 = .ok (.iload_n 2, 1) := by decide +kernel
theorem d_Heap_shadeRoots_50 : decode b_Heap_shadeRoots 50 = .ok (.aaload, 1) := by decide +kernel
theorem d_Heap_shadeRoots_51 : decode b_Heap_shadeRoots 51 = .ok (.getfield 85, 3) := by decide +kernel
theorem d_Heap_shadeRoots_54 : decode b_Heap_shadeRoots 54 = .ok (.getfield 147, 3) := by decide +kernel
theorem d_Heap_shadeRoots_57 : decode b_Heap_shadeRoots 57 = .ok (.iconst 4, 1) := by decide +kernel
theorem d_Heap_shadeRoots_58 : decode b_Heap_shadeRoots 58 = .ok (.invokevirtual 150, 3) := by decide +kernel
theorem d_Heap_shadeRoots_61 : decode b_Heap_shadeRoots 61 = .ok (.iadd, 1) := by decide +kernel
theorem d_Heap_shadeRoots_62 : decode b_Heap_shadeRoots 62 = .ok (.istore_n 1, 1) := by decide +kernel
theorem d_Heap_shadeRoots_63 : decode b_Heap_shadeRoots 63 = .ok (.iinc 2 1, 3) := by decide +kernel
theorem d_Heap_shadeRoots_66 : decode b_Heap_shadeRoots 66 = .ok (.goto (-53), 3) := by decide +kernel
theorem d_Heap_shadeRoots_69 : decode b_Heap_shadeRoots 69 = .ok (.iload_n 1, 1) := by decide +kernel
theorem d_Heap_shadeRoots_70 : decode b_Heap_shadeRoots 70 = .ok (.ireturn, 1) := by decide +kernel
theorem d_Cell_isActive_0 : decode b_Cell_isActive 0 = .ok (.aload_n 0, 1) := by decide +kernel
theorem d_Cell_isActive_1 : decode b_Cell_isActive 1 = .ok (.getfield 25, 3) := by decide +kernel
theorem d_Cell_isActive_4 : decode b_Cell_isActive 4 = .ok (.iconst 2, 1) := by decide +kernel
theorem d_Cell_isActive_5 : decode b_Cell_isActive 5 = .ok (.if_icmp .ne 18, 3) := by decide +kernel
theorem d_Cell_isActive_8 : decode b_Cell_isActive 8 = .ok (.aload_n 0, 1) := by decide +kernel
theorem d_Cell_isActive_9 : decode b_Cell_isActive 9 = .ok (.getfield 21, 3) := by decide +kernel
theorem d_Cell_isActive_12 : decode b_Cell_isActive 12 = .ok (.getfield 32, 3) := by decide +kernel
theorem d_Cell_isActive_15 : decode b_Cell_isActive 15 = .ok (.iconst 2, 1) := by decide +kernel
theorem d_Cell_isActive_16 : decode b_Cell_isActive 16 = .ok (.if_icmp .ne 7, 3) := by decide +kernel
theorem d_Cell_isActive_19 : decode b_Cell_isActive 19 = .ok (.iconst 1, 1) := by decide +kernel
theorem d_Cell_isActive_20 : decode b_Cell_isActive 20 = .ok (.goto 4, 3) := by decide +kernel
theorem d_Cell_isActive_23 : decode b_Cell_isActive 23 = .ok (.iconst 0, 1) := by decide +kernel
theorem d_Cell_isActive_24 : decode b_Cell_isActive 24 = .ok (.ireturn, 1) := by decide +kernel
theorem d_Heap_grayOnes_0 : decode b_Heap_grayOnes 0 = .ok (.iconst 0, 1) := by decide +kernel
theorem d_Heap_grayOnes_1 : decode b_Heap_grayOnes 1 = .ok (.istore_n 1, 1) := by decide +kernel
theorem d_Heap_grayOnes_2 : decode b_Heap_grayOnes 2 = .ok (.iconst 0, 1) := by decide +kernel
theorem d_Heap_grayOnes_3 : decode b_Heap_grayOnes 3 = .ok (.istore_n 2, 1) := by decide +kernel
theorem d_Heap_grayOnes_4 : decode b_Heap_grayOnes 4 = .ok (.iload_n 2, 1) := by decide +kernel
theorem d_Heap_grayOnes_5 : decode b_Heap_grayOnes 5 = .ok (.bipush 16, 2) := by decide +kernel
theorem d_Heap_grayOnes_7 : decode b_Heap_grayOnes 7 = .ok (.if_icmp .ge 25, 3) := by decide +kernel
theorem d_Heap_grayOnes_10 : decode b_Heap_grayOnes 10 = .ok (.aload_n 0, 1) := by decide +kernel
theorem d_Heap_grayOnes_11 : decode b_Heap_grayOnes 11 = .ok (.getfield 17, 3) := by decide +kernel
theorem d_Heap_grayOnes_14 : decode b_Heap_grayOnes 14 = .ok (.iload_n 2, 1) := by decide +kernel
theorem d_Heap_grayOnes_15 : decode b_Heap_grayOnes 15 = .ok (.aaload, 1) := by decide +kernel
theorem d_Heap_grayOnes_16 : decode b_Heap_grayOnes 16 = .ok (.getfield 73, 3) := by decide +kernel
theorem d_Heap_grayOnes_19 : decode b_Heap_grayOnes 19 = .ok (.iconst 1, 1) := by decide +kernel
theorem d_Heap_grayOnes_20 : decode b_Heap_grayOnes 20 = .ok (.if_icmp .ne 6, 3) := by decide +kernel
theorem d_Heap_grayOnes_23 : decode b_Heap_grayOnes 23 = .ok (.iinc 1 1, 3) := by decide +kernel
theorem d_Heap_grayOnes_26 : decode b_Heap_grayOnes 26 = .ok (.iinc 2 1, 3) := by decide +kernel
theorem d_Heap_grayOnes_29 : decode b_Heap_grayOnes 29 = .ok (.goto (-25), 3) := by decide +kernel
theorem d_Heap_grayOnes_32 : decode b_Heap_grayOnes 32 = .ok (.iload_n 1, 1) := by decide +kernel
theorem d_Heap_grayOnes_33 : decode b_Heap_grayOnes 33 = .ok (.ireturn, 1) := by decide +kernel
theorem d_Heap_create_0 : decode b_Heap_create 0 = .ok (.aload_n 0, 1) := by decide +kernel
theorem d_Heap_create_1 : decode b_Heap_create 1 = .ok (.invokevirtual 62, 3) := by decide +kernel
theorem d_Heap_create_4 : decode b_Heap_create 4 = .ok (.istore_n 3, 1) := by decide +kernel
theorem d_Heap_create_5 : decode b_Heap_create 5 = .ok (.iload_n 3, 1) := by decide +kernel
theorem d_Heap_create_6 : decode b_Heap_create 6 = .ok (.ifCond .ge 12, 3) := by decide +kernel
theorem d_Heap_create_9 : decode b_Heap_create 9 = .ok (.aload_n 0, 1) := by decide +kernel
theorem d_Heap_create_10 : decode b_Heap_create 10 = .ok (.invokevirtual 66, 3) := by decide +kernel
theorem d_Heap_create_13 : decode b_Heap_create 13 = .ok (.aload_n 0, 1) := by decide +kernel
theorem d_Heap_create_14 : decode b_Heap_create 14 = .ok (.invokevirtual 62, 3) := by decide +kernel
theorem d_Heap_create_17 : decode b_Heap_create 17 = .ok (.istore_n 3, 1) := by decide +kernel
theorem d_Heap_create_18 : decode b_Heap_create 18 = .ok (.iload_n 3, 1) := by decide +kernel
theorem d_Heap_create_19 : decode b_Heap_create 19 = .ok (.ifCond .ge 5, 3) := by decide +kernel
theorem d_Heap_create_22 : decode b_Heap_create 22 = .ok (.iconst 3, 1) := by decide +kernel
theorem d_Heap_create_23 : decode b_Heap_create 23 = .ok (.ireturn, 1) := by decide +kernel
theorem d_Heap_create_24 : decode b_Heap_create 24 = .ok (.aload_n 0, 1) := by decide +kernel
theorem d_Heap_create_25 : decode b_Heap_create 25 = .ok (.getfield 17, 3) := by decide +kernel
theorem d_Heap_create_28 : decode b_Heap_create 28 = .ok (.iload_n 3, 1) := by decide +kernel
theorem d_Heap_create_29 : decode b_Heap_create 29 = .ok (.aaload, 1) := by decide +kernel
theorem d_Heap_create_30 : decode b_Heap_create 30 = .ok (.astore 4, 2) := by decide +kernel
theorem d_Heap_create_32 : decode b_Heap_create 32 = .ok (.aload 4, 2) := by decide +kernel
theorem d_Heap_create_34 : decode b_Heap_create 34 = .ok (.iload_n 1, 1) := by decide +kernel
theorem d_Heap_create_35 : decode b_Heap_create 35 = .ok (.putfield 59, 3) := by decide +kernel
theorem d_Heap_create_38 : decode b_Heap_create 38 = .ok (.aload 4, 2) := by decide +kernel
theorem d_Heap_create_40 : decode b_Heap_create 40 = .ok (.aload_n 0, 1) := by decide +kernel
theorem d_Heap_create_41 : decode b_Heap_create 41 = .ok (.iload_n 3, 1) := by decide +kernel
theorem d_Heap_create_42 : decode b_Heap_create 42 = .ok (.invokevirtual 69, 3) := by decide +kernel
theorem d_Heap_create_45 : decode b_Heap_create 45 = .ok (.putfield 73, 3) := by decide +kernel
theorem d_Heap_create_48 : decode b_Heap_create 48 = .ok (.iload_n 1, 1) := by decide +kernel
theorem d_Heap_create_49 : decode b_Heap_create 49 = .ok (.iconst 1, 1) := by decide +kernel
theorem d_Heap_create_50 : decode b_Heap_create 50 = .ok (.if_icmp .ne 14, 3) := by decide +kernel
theorem d_Heap_create_53 : decode b_Heap_create 53 = .ok (.aload 4, 2) := by decide +kernel
theorem d_Heap_create_55 : decode b_Heap_create 55 = .ok (.getfield 76, 3) := by decide +kernel
theorem d_Heap_create_58 : decode b_Heap_create 58 = .ok (.invokevirtual 80, 3) := by decide +kernel
theorem d_Heap_create_61 : decode b_Heap_create 61 = .ok (.goto 12, 3) := by decide +kernel
theorem d_Heap_create_64 : decode b_Heap_create 64 = .ok (.aload 4, 2) := by decide +kernel
theorem d_Heap_create_66 : decode b_Heap_create 66 = .ok (.getfield 85, 3) := by decide +kernel
theorem d_Heap_create_69 : decode b_Heap_create 69 = .ok (.iload_n 2, 1) := by decide +kernel
theorem d_Heap_create_70 : decode b_Heap_create 70 = .ok (.invokevirtual 89, 3) := by decide +kernel
theorem d_Heap_create_73 : decode b_Heap_create 73 = .ok (.aload_n 0, 1) := by decide +kernel
theorem d_Heap_create_74 : decode b_Heap_create 74 = .ok (.dup, 1) := by decide +kernel
theorem d_Heap_create_75 : decode b_Heap_create 75 = .ok (.getfield 28, 3) := by decide +kernel
theorem d_Heap_create_78 : decode b_Heap_create 78 = .ok (.iconst 1, 1) := by decide +kernel
theorem d_Heap_create_79 : decode b_Heap_create 79 = .ok (.iadd, 1) := by decide +kernel
theorem d_Heap_create_80 : decode b_Heap_create 80 = .ok (.putfield 28, 3) := by decide +kernel
theorem d_Heap_create_83 : decode b_Heap_create 83 = .ok (.aload_n 0, 1) := by decide +kernel
theorem d_Heap_create_84 : decode b_Heap_create 84 = .ok (.ldc2_w 53, 3) := by decide +kernel
theorem d_Heap_create_87 : decode b_Heap_create 87 = .ok (.iload_n 3, 1) := by decide +kernel
theorem d_Heap_create_88 : decode b_Heap_create 88 = .ok (.i2l, 1) := by decide +kernel
theorem d_Heap_create_89 : decode b_Heap_create 89 = .ok (.ladd, 1) := by decide +kernel
theorem d_Heap_create_90 : decode b_Heap_create 90 = .ok (.putfield 42, 3) := by decide +kernel
theorem d_Heap_create_93 : decode b_Heap_create 93 = .ok (.iconst 0, 1) := by decide +kernel
theorem d_Heap_create_94 : decode b_Heap_create 94 = .ok (.ireturn, 1) := by decide +kernel
theorem d_Heap_leastFree_0 : decode b_Heap_leastFree 0 = .ok (.iconst 0, 1) := by decide +kernel
theorem d_Heap_leastFree_1 : decode b_Heap_leastFree 1 = .ok (.istore_n 1, 1) := by decide +kernel
theorem d_Heap_leastFree_2 : decode b_Heap_leastFree 2 = .ok (.iload_n 1, 1) := by decide +kernel
theorem d_Heap_leastFree_3 : decode b_Heap_leastFree 3 = .ok (.bipush 16, 2) := by decide +kernel
theorem d_Heap_leastFree_5 : decode b_Heap_leastFree 5 = .ok (.if_icmp .ge 23, 3) := by decide +kernel
theorem d_Heap_leastFree_8 : decode b_Heap_leastFree 8 = .ok (.aload_n 0, 1) := by decide +kernel
theorem d_Heap_leastFree_9 : decode b_Heap_leastFree 9 = .ok (.getfield 17, 3) := by decide +kernel
theorem d_Heap_leastFree_12 : decode b_Heap_leastFree 12 = .ok (.iload_n 1, 1) := by decide +kernel
theorem d_Heap_leastFree_13 : decode b_Heap_leastFree 13 = .ok (.aaload, 1) := by decide +kernel
theorem d_Heap_leastFree_14 : decode b_Heap_leastFree 14 = .ok (.getfield 59, 3) := by decide +kernel
theorem d_Heap_leastFree_17 : decode b_Heap_leastFree 17 = .ok (.ifCond .ne 5, 3) := by decide +kernel
theorem d_Heap_leastFree_20 : decode b_Heap_leastFree 20 = .ok (.iload_n 1, 1) := by decide +kernel
theorem d_Heap_leastFree_21 : decode b_Heap_leastFree 21 = .ok (.ireturn, 1) := by decide +kernel
theorem d_Heap_leastFree_22 : decode b_Heap_leastFree 22 = .ok (.iinc 1 1, 3) := by decide +kernel
theorem d_Heap_leastFree_25 : decode b_Heap_leastFree 25 = .ok (.goto (-23), 3) := by decide +kernel
theorem d_Heap_leastFree_28 : decode b_Heap_leastFree 28 = .ok (.iconst (-1), 1) := by decide +kernel
theorem d_Heap_leastFree_29 : decode b_Heap_leastFree 29 = .ok (.ireturn, 1) := by decide +kernel
theorem d_Heap_birthColour_0 : decode b_Heap_birthColour 0 = .ok (.aload_n 0, 1) := by decide +kernel
theorem d_Heap_birthColour_1 : decode b_Heap_birthColour 1 = .ok (.getfield 21, 3) := by decide +kernel
theorem d_Heap_birthColour_4 : decode b_Heap_birthColour 4 = .ok (.iconst 1, 1) := by decide +kernel
theorem d_Heap_birthColour_5 : decode b_Heap_birthColour 5 = .ok (.if_icmp .eq 19, 3) := by decide +kernel
theorem d_Heap_birthColour_8 : decode b_Heap_birthColour 8 = .ok (.aload_n 0, 1) := by decide +kernel
theorem d_Heap_birthColour_9 : decode b_Heap_birthColour 9 = .ok (.getfield 21, 3) := by decide +kernel
theorem d_Heap_birthColour_12 : decode b_Heap_birthColour 12 = .ok (.iconst 2, 1) := by decide +kernel
theorem d_Heap_birthColour_13 : decode b_Heap_birthColour 13 = .ok (.if_icmp .ne 13, 3) := by decide +kernel
theorem d_Heap_birthColour_16 : decode b_Heap_birthColour 16 = .ok (.iload_n 1, 1) := by decide +kernel
theorem d_Heap_birthColour_17 : decode b_Heap_birthColour 17 = .ok (.aload_n 0, 1) := by decide +kernel
theorem d_Heap_birthColour_18 : decode b_Heap_birthColour 18 = .ok (.getfield 25, 3) := by decide +kernel
theorem d_Heap_birthColour_21 : decode b_Heap_birthColour 21 = .ok (.if_icmp .lt 5, 3) := by decide +kernel
theorem d_Heap_birthColour_24 : decode b_Heap_birthColour 24 = .ok (.iconst 2, 1) := by decide +kernel
theorem d_Heap_birthColour_25 : decode b_Heap_birthColour 25 = .ok (.ireturn, 1) := by decide +kernel
theorem d_Heap_birthColour_26 : decode b_Heap_birthColour 26 = .ok (.iconst 0, 1) := by decide +kernel
theorem d_Heap_birthColour_27 : decode b_Heap_birthColour 27 = .ok (.ireturn, 1) := by decide +kernel
theorem d_Tab_clear_0 : decode b_Tab_clear 0 = .ok (.aload_n 0, 1) := by decide +kernel
theorem d_Tab_clear_1 : decode b_Tab_clear 1 = .ok (.iconst 0, 1) := by decide +kernel
theorem d_Tab_clear_2 : decode b_Tab_clear 2 = .ok (.putfield 18, 3) := by decide +kernel
theorem d_Tab_clear_5 : decode b_Tab_clear 5 = .ok (.aload_n 0, 1) := by decide +kernel
theorem d_Tab_clear_6 : decode b_Tab_clear 6 = .ok (.iconst (-1), 1) := by decide +kernel
theorem d_Tab_clear_7 : decode b_Tab_clear 7 = .ok (.putfield 22, 3) := by decide +kernel
theorem d_Tab_clear_10 : decode b_Tab_clear 10 = .ok (.return_, 1) := by decide +kernel
theorem d_Cor_clear_0 : decode b_Cor_clear 0 = .ok (.aload_n 0, 1) := by decide +kernel
theorem d_Cor_clear_1 : decode b_Cor_clear 1 = .ok (.getfield 9, 3) := by decide +kernel
theorem d_Cor_clear_4 : decode b_Cor_clear 4 = .ok (.ldc2_w 31, 3) := by decide +kernel
theorem d_Cor_clear_7 : decode b_Cor_clear 7 = .ok (.invokestatic 33, 3) := by decide +kernel
theorem d_Cor_clear_10 : decode b_Cor_clear 10 = .ok (.aload_n 0, 1) := by decide +kernel
theorem d_Cor_clear_11 : decode b_Cor_clear 11 = .ok (.iload_n 1, 1) := by decide +kernel
theorem d_Cor_clear_12 : decode b_Cor_clear 12 = .ok (.putfield 15, 3) := by decide +kernel
theorem d_Cor_clear_15 : decode b_Cor_clear 15 = .ok (.aload_n 0, 1) := by decide +kernel
theorem d_Cor_clear_16 : decode b_Cor_clear 16 = .ok (.iconst 0, 1) := by decide +kernel
theorem d_Cor_clear_17 : decode b_Cor_clear 17 = .ok (.putfield 19, 3) := by decide +kernel
theorem d_Cor_clear_20 : decode b_Cor_clear 20 = .ok (.aload_n 0, 1) := by decide +kernel
theorem d_Cor_clear_21 : decode b_Cor_clear 21 = .ok (.iconst 0, 1) := by decide +kernel
theorem d_Cor_clear_22 : decode b_Cor_clear 22 = .ok (.putfield 22, 3) := by decide +kernel
theorem d_Cor_clear_25 : decode b_Cor_clear 25 = .ok (.aload_n 0, 1) := by decide +kernel
theorem d_Cor_clear_26 : decode b_Cor_clear 26 = .ok (.iconst 0, 1) := by decide +kernel
theorem d_Cor_clear_27 : decode b_Cor_clear 27 = .ok (.putfield 25, 3) := by decide +kernel
theorem d_Cor_clear_30 : decode b_Cor_clear 30 = .ok (.return_, 1) := by decide +kernel
theorem d_Heap_setting_0 : decode b_Heap_setting 0 = .ok (.aload_n 0, 1) := by decide +kernel
theorem d_Heap_setting_1 : decode b_Heap_setting 1 = .ok (.iconst 1, 1) := by decide +kernel
theorem d_Heap_setting_2 : decode b_Heap_setting 2 = .ok (.lload_n 1, 1) := by decide +kernel
theorem d_Heap_setting_3 : decode b_Heap_setting 3 = .ok (.invokevirtual 94, 3) := by decide +kernel
theorem d_Heap_setting_6 : decode b_Heap_setting 6 = .ok (.ifCond .eq 11, 3) := by decide +kernel
theorem d_Heap_setting_9 : decode b_Heap_setting 9 = .ok (.lload_n 3, 1) := by decide +kernel
theorem d_Heap_setting_10 : decode b_Heap_setting 10 = .ok (.ldc2_w 40, 3) := by decide +kernel
theorem d_Heap_setting_13 : decode b_Heap_setting 13 = .ok (.lcmp, 1) := by decide +kernel
theorem d_Heap_setting_14 : decode b_Heap_setting 14 = .ok (.ifCond .ne 5, 3) := by decide +kernel
theorem d_Heap_setting_17 : decode b_Heap_setting 17 = .ok (.iconst 1, 1) := by decide +kernel
theorem d_Heap_setting_18 : decode b_Heap_setting 18 = .ok (.ireturn, 1) := by decide +kernel
theorem d_Heap_setting_19 : decode b_Heap_setting 19 = .ok (.aload_n 0, 1) := by decide +kernel
theorem d_Heap_setting_20 : decode b_Heap_setting 20 = .ok (.lload_n 1, 1) := by decide +kernel
theorem d_Heap_setting_21 : decode b_Heap_setting 21 = .ok (.invokestatic 55, 3) := by decide +kernel
theorem d_Heap_setting_24 : decode b_Heap_setting 24 = .ok (.lload_n 3, 1) := by decide +kernel
theorem d_Heap_setting_25 : decode b_Heap_setting 25 = .ok (.lconst 1, 1) := by decide +kernel
theorem d_Heap_setting_26 : decode b_Heap_setting 26 = .ok (.invokevirtual 98, 3) := by decide +kernel
theorem d_Heap_setting_29 : decode b_Heap_setting 29 = .ok (.istore 7, 2) := by decide +kernel
theorem d_Heap_setting_31 : decode b_Heap_setting 31 = .ok (.iload 7, 2) := by decide +kernel
theorem d_Heap_setting_33 : decode b_Heap_setting 33 = .ok (.ifCond .ge 5, 3) := by decide +kernel
theorem d_Heap_setting_36 : decode b_Heap_setting 36 = .ok (.iconst 2, 1) := by decide +kernel
theorem d_Heap_setting_37 : decode b_Heap_setting 37 = .ok (.ireturn, 1) := by decide +kernel
theorem d_Heap_setting_38 : decode b_Heap_setting 38 = .ok (.aload_n 0, 1) := by decide +kernel
theorem d_Heap_setting_39 : decode b_Heap_setting 39 = .ok (.getfield 17, 3) := by decide +kernel
theorem d_Heap_setting_42 : decode b_Heap_setting 42 = .ok (.iload 7, 2) := by decide +kernel
theorem d_Heap_setting_44 : decode b_Heap_setting 44 = .ok (.aaload, 1) := by decide +kernel
theorem d_Heap_setting_45 : decode b_Heap_setting 45 = .ok (.getfield 76, 3) := by decide +kernel
theorem d_Heap_setting_48 : decode b_Heap_setting 48 = .ok (.astore 8, 2) := by decide +kernel
theorem d_Heap_setting_50 : decode b_Heap_setting 50 = .ok (.aload 8, 2) := by decide +kernel
theorem d_Heap_setting_52 : decode b_Heap_setting 52 = .ok (.lload_n 3, 1) := by decide +kernel
theorem d_Heap_setting_53 : decode b_Heap_setting 53 = .ok (.invokevirtual 102, 3) := by decide +kernel
theorem d_Heap_setting_56 : decode b_Heap_setting 56 = .ok (.istore 9, 2) := by decide +kernel
theorem d_Heap_setting_58 : decode b_Heap_setting 58 = .ok (.iload 9, 2) := by decide +kernel
theorem d_Heap_setting_60 : decode b_Heap_setting 60 = .ok (.ifCond .ge 14, 3) := by decide +kernel
theorem d_Heap_setting_63 : decode b_Heap_setting 63 = .ok (.lload 5, 2) := by decide +kernel
theorem d_Heap_setting_65 : decode b_Heap_setting 65 = .ok (.ldc2_w 40, 3) := by decide +kernel
theorem d_Heap_setting_68 : decode b_Heap_setting 68 = .ok (.lcmp, 1) := by decide +kernel
theorem d_Heap_setting_69 : decode b_Heap_setting 69 = .ok (.ifCond .ne 5, 3) := by decide +kernel
theorem d_Heap_setting_72 : decode b_Heap_setting 72 = .ok (.iconst 0, 1) := by decide +kernel
theorem d_Heap_setting_73 : decode b_Heap_setting 73 = .ok (.ireturn, 1) := by decide +kernel
theorem d_Heap_setting_74 : decode b_Heap_setting 74 = .ok (.iload 9, 2) := by decide +kernel
theorem d_Heap_setting_76 : decode b_Heap_setting 76 = .ok (.ifCond .ge 15, 3) := by decide +kernel
theorem d_Heap_setting_79 : decode b_Heap_setting 79 = .ok (.aload 8, 2) := by decide +kernel
theorem d_Heap_setting_81 : decode b_Heap_setting 81 = .ok (.getfield 108, 3) := by decide +kernel
theorem d_Heap_setting_84 : decode b_Heap_setting 84 = .ok (.bipush 6, 2) := by decide +kernel
theorem d_Heap_setting_86 : decode b_Heap_setting 86 = .ok (.if_icmp .ne 5, 3) := by decide +kernel
theorem d_Heap_setting_89 : decode b_Heap_setting 89 = .ok (.iconst 3, 1) := by decide +kernel
theorem d_Heap_setting_90 : decode b_Heap_setting 90 = .ok (.ireturn, 1) := by decide +kernel
theorem d_Heap_setting_91 : decode b_Heap_setting 91 = .ok (.iload 9, 2) := by decide +kernel
theorem d_Heap_setting_93 : decode b_Heap_setting 93 = .ok (.ifCond .ge 14, 3) := by decide +kernel
theorem d_Heap_setting_96 : decode b_Heap_setting 96 = .ok (.aload 8, 2) := by decide +kernel
theorem d_Heap_setting_98 : decode b_Heap_setting 98 = .ok (.lload_n 3, 1) := by decide +kernel
theorem d_Heap_setting_99 : decode b_Heap_setting 99 = .ok (.lload 5, 2) := by decide +kernel
theorem d_Heap_setting_101 : decode b_Heap_setting 101 = .ok (.invokevirtual 111, 3) := by decide +kernel
theorem d_Heap_setting_104 : decode b_Heap_setting 104 = .ok (.goto 32, 3) := by decide +kernel
theorem d_Heap_setting_107 : decode b_Heap_setting 107 = .ok (.lload 5, 2) := by decide +kernel
theorem d_Heap_setting_109 : decode b_Heap_setting 109 = .ok (.ldc2_w 40, 3) := by decide +kernel
theorem d_Heap_setting_112 : decode b_Heap_setting 112 = .ok (.lcmp, 1) := by decide +kernel
theorem d_Heap_setting_113 : decode b_Heap_setting 113 = .ok (.ifCond .ne 13, 3) := by decide +kernel
theorem d_Heap_setting_116 : decode b_Heap_setting 116 = .ok (.aload 8, 2) := by decide +kernel
theorem d_Heap_setting_118 : decode b_Heap_setting 118 = .ok (.iload 9, 2) := by decide +kernel
theorem d_Heap_setting_120 : decode b_Heap_setting 120 = .ok (.invokevirtual 115, 3) := by decide +kernel
theorem d_Heap_setting_123 : decode b_Heap_setting 123 = .ok (.goto 13, 3) := by decide +kernel
theorem d_Heap_setting_126 : decode b_Heap_setting 126 = .ok (.aload 8, 2) := by decide +kernel
theorem d_Heap_setting_128 : decode b_Heap_setting 128 = .ok (.getfield 105, 3) := by decide +kernel
theorem d_Heap_setting_131 : decode b_Heap_setting 131 = .ok (.iload 9, 2) := by decide +kernel
theorem d_Heap_setting_133 : decode b_Heap_setting 133 = .ok (.lload 5, 2) := by decide +kernel
theorem d_Heap_setting_135 : decode b_Heap_setting 135 = .ok (.lastore, 1) := by decide +kernel
theorem d_Heap_setting_136 : decode b_Heap_setting 136 = .ok (.aload_n 0, 1) := by decide +kernel
theorem d_Heap_setting_137 : decode b_Heap_setting 137 = .ok (.iload 7, 2) := by decide +kernel
theorem d_Heap_setting_139 : decode b_Heap_setting 139 = .ok (.invokevirtual 118, 3) := by decide +kernel
theorem d_Heap_setting_142 : decode b_Heap_setting 142 = .ok (.iconst 0, 1) := by decide +kernel
theorem d_Heap_setting_143 : decode b_Heap_setting 143 = .ok (.ireturn, 1) := by decide +kernel
theorem d_Heap_isA_0 : decode b_Heap_isA 0 = .ok (.lload_n 2, 1) := by decide +kernel
theorem d_Heap_isA_1 : decode b_Heap_isA 1 = .ok (.ldc2_w 53, 3) := by decide +kernel
theorem d_Heap_isA_4 : decode b_Heap_isA 4 = .ok (.lcmp, 1) := by decide +kernel
theorem d_Heap_isA_5 : decode b_Heap_isA 5 = .ok (.ifCond .lt 23, 3) := by decide +kernel
theorem d_Heap_isA_8 : decode b_Heap_isA 8 = .ok (.aload_n 0, 1) := by decide +kernel
theorem d_Heap_isA_9 : decode b_Heap_isA 9 = .ok (.getfield 17, 3) := by decide +kernel
theorem d_Heap_isA_12 : decode b_Heap_isA 12 = .ok (.lload_n 2, 1) := by decide +kernel
theorem d_Heap_isA_13 : decode b_Heap_isA 13 = .ok (.invokestatic 55, 3) := by decide +kernel
theorem d_Heap_isA_16 : decode b_Heap_isA 16 = .ok (.aaload, 1) := by decide +kernel
theorem d_Heap_isA_17 : decode b_Heap_isA 17 = .ok (.getfield 59, 3) := by decide +kernel
theorem d_Heap_isA_20 : decode b_Heap_isA 20 = .ok (.iload_n 1, 1) := by decide +kernel
theorem d_Heap_isA_21 : decode b_Heap_isA 21 = .ok (.if_icmp .ne 7, 3) := by decide +kernel
theorem d_Heap_isA_24 : decode b_Heap_isA 24 = .ok (.iconst 1, 1) := by decide +kernel
theorem d_Heap_isA_25 : decode b_Heap_isA 25 = .ok (.goto 4, 3) := by decide +kernel
theorem d_Heap_isA_28 : decode b_Heap_isA 28 = .ok (.iconst 0, 1) := by decide +kernel
theorem d_Heap_isA_29 : decode b_Heap_isA 29 = .ok (.ireturn, 1) := by decide +kernel
theorem d_Heap_lastTable_0 : decode b_Heap_lastTable 0 = .ok (.iload_n 1, 1) := by decide +kernel
theorem d_Heap_lastTable_1 : decode b_Heap_lastTable 1 = .ok (.istore 6, 2) := by decide +kernel
theorem d_Heap_lastTable_3 : decode b_Heap_lastTable 3 = .ok (.iconst 0, 1) := by decide +kernel
theorem d_Heap_lastTable_4 : decode b_Heap_lastTable 4 = .ok (.istore 7, 2) := by decide +kernel
theorem d_Heap_lastTable_6 : decode b_Heap_lastTable 6 = .ok (.iload 7, 2) := by decide +kernel
theorem d_Heap_lastTable_8 : decode b_Heap_lastTable 8 = .ok (.iconst 5, 1) := by decide +kernel
theorem d_Heap_lastTable_9 : decode b_Heap_lastTable 9 = .ok (.if_icmp .ge 59, 3) := by decide +kernel
theorem d_Heap_lastTable_12 : decode b_Heap_lastTable 12 = .ok (.aload_n 0, 1) := by decide +kernel
theorem d_Heap_lastTable_13 : decode b_Heap_lastTable 13 = .ok (.getfield 17, 3) := by decide +kernel
theorem d_Heap_lastTable_16 : decode b_Heap_lastTable 16 = .ok (.iload 6, 2) := by decide +kernel
theorem d_Heap_lastTable_18 : decode b_Heap_lastTable 18 = .ok (.aaload, 1) := by decide +kernel
theorem d_Heap_lastTable_19 : decode b_Heap_lastTable 19 = .ok (.getfield 76, 3) := by decide +kernel
theorem d_Heap_lastTable_22 : decode b_Heap_lastTable 22 = .ok (.astore 8, 2) := by decide +kernel
theorem d_Heap_lastTable_24 : decode b_Heap_lastTable 24 = .ok (.aload 8, 2) := by decide +kernel
theorem d_Heap_lastTable_26 : decode b_Heap_lastTable 26 = .ok (.lload_n 2, 1) := by decide +kernel
theorem d_Heap_lastTable_27 : decode b_Heap_lastTable 27 = .ok (.invokevirtual 102, 3) := by decide +kernel
theorem d_Heap_lastTable_30 : decode b_Heap_lastTable 30 = .ok (.ifCond .lt 7, 3) := by decide +kernel
theorem d_Heap_lastTable_33 : decode b_Heap_lastTable 33 = .ok (.iconst (-1), 1) := by decide +kernel
theorem d_Heap_lastTable_34 : decode b_Heap_lastTable 34 = .ok (.goto 14, 3) := by decide +kernel
theorem d_Heap_lastTable_37 : decode b_Heap_lastTable 37 = .ok (.aload_n 0, 1) := by decide +kernel
theorem d_Heap_lastTable_38 : decode b_Heap_lastTable 38 = .ok (.aload 8, 2) := by decide +kernel
theorem d_Heap_lastTable_40 : decode b_Heap_lastTable 40 = .ok (.getfield 121, 3) := by decide +kernel
theorem d_Heap_lastTable_43 : decode b_Heap_lastTable 43 = .ok (.lload 4, 2) := by decide +kernel
theorem d_Heap_lastTable_45 : decode b_Heap_lastTable 45 = .ok (.invokevirtual 124, 3) := by decide +kernel
theorem d_Heap_lastTable_48 : decode b_Heap_lastTable 48 = .ok (.istore 9, 2) := by decide +kernel
theorem d_Heap_lastTable_50 : decode b_Heap_lastTable 50 = .ok (.iload 9, 2) := by decide +kernel
theorem d_Heap_lastTable_52 : decode b_Heap_lastTable 52 = .ok (.ifCond .ge 6, 3) := by decide +kernel
theorem d_Heap_lastTable_55 : decode b_Heap_lastTable 55 = .ok (.iload 6, 2) := by decide +kernel
theorem d_Heap_lastTable_57 : decode b_Heap_lastTable 57 = .ok (.ireturn, 1) := by decide +kernel
theorem d_Heap_lastTable_58 : decode b_Heap_lastTable 58 = .ok (.iload 9, 2) := by decide +kernel
theorem d_Heap_lastTable_60 : decode b_Heap_lastTable 60 = .ok (.istore 6, 2) := by decide +kernel
theorem d_Heap_lastTable_62 : decode b_Heap_lastTable 62 = .ok (.iinc 7 1, 3) := by decide +kernel
theorem d_Heap_lastTable_65 : decode b_Heap_lastTable 65 = .ok (.goto (-59), 3) := by decide +kernel
theorem d_Heap_lastTable_68 : decode b_Heap_lastTable 68 = .ok (.iconst (-1), 1) := by decide +kernel
theorem d_Heap_lastTable_69 : decode b_Heap_lastTable 69 = .ok (.ireturn, 1) := by decide +kernel
theorem d_Tab_find_0 : decode b_Tab_find 0 = .ok (.iconst 0, 1) := by decide +kernel
theorem d_Tab_find_1 : decode b_Tab_find 1 = .ok (.istore_n 3, 1) := by decide +kernel
theorem d_Tab_find_2 : decode b_Tab_find 2 = .ok (.iload_n 3, 1) := by decide +kernel
theorem d_Tab_find_3 : decode b_Tab_find 3 = .ok (.aload_n 0, 1) := by decide +kernel
theorem d_Tab_find_4 : decode b_Tab_find 4 = .ok (.getfield 18, 3) := by decide +kernel
theorem d_Tab_find_7 : decode b_Tab_find 7 = .ok (.if_icmp .ge 22, 3) := by decide +kernel
theorem d_Tab_find_10 : decode b_Tab_find 10 = .ok (.aload_n 0, 1) := by decide +kernel
theorem d_Tab_find_11 : decode b_Tab_find 11 = .ok (.getfield 9, 3) := by decide +kernel
theorem d_Tab_find_14 : decode b_Tab_find 14 = .ok (.iload_n 3, 1) := by decide +kernel
theorem d_Tab_find_15 : decode b_Tab_find 15 = .ok (.laload, 1) := by decide +kernel
theorem d_Tab_find_16 : decode b_Tab_find 16 = .ok (.lload_n 1, 1) := by decide +kernel
theorem d_Tab_find_17 : decode b_Tab_find 17 = .ok (.lcmp, 1) := by decide +kernel
theorem d_Tab_find_18 : decode b_Tab_find 18 = .ok (.ifCond .ne 5, 3) := by decide +kernel
theorem d_Tab_find_21 : decode b_Tab_find 21 = .ok (.iload_n 3, 1) := by decide +kernel
theorem d_Tab_find_22 : decode b_Tab_find 22 = .ok (.ireturn, 1) := by decide +kernel
theorem d_Tab_find_23 : decode b_Tab_find 23 = .ok (.iinc 3 1, 3) := by decide +kernel
theorem d_Tab_find_26 : decode b_Tab_find 26 = .ok (.goto (-24), 3) := by decide +kernel
theorem d_Tab_find_29 : decode b_Tab_find 29 = .ok (.iconst (-1), 1) := by decide +kernel
theorem d_Tab_find_30 : decode b_Tab_find 30 = .ok (.ireturn, 1) := by decide +kernel
theorem d_Heap_linked_0 : decode b_Heap_linked 0 = .ok (.iload_n 1, 1) := by decide +kernel
theorem d_Heap_linked_1 : decode b_Heap_linked 1 = .ok (.ifCond .ge 5, 3) := by decide +kernel
theorem d_Heap_linked_4 : decode b_Heap_linked 4 = .ok (.iconst (-1), 1) := by decide +kernel
theorem d_Heap_linked_5 : decode b_Heap_linked 5 = .ok (.ireturn, 1) := by decide +kernel
theorem d_Heap_linked_6 : decode b_Heap_linked 6 = .ok (.aload_n 0, 1) := by decide +kernel
theorem d_Heap_linked_7 : decode b_Heap_linked 7 = .ok (.getfield 17, 3) := by decide +kernel
theorem d_Heap_linked_10 : decode b_Heap_linked 10 = .ok (.iload_n 1, 1) := by decide +kernel
theorem d_Heap_linked_11 : decode b_Heap_linked 11 = .ok (.aaload, 1) := by decide +kernel
theorem d_Heap_linked_12 : decode b_Heap_linked 12 = .ok (.getfield 76, 3) := by decide +kernel
theorem d_Heap_linked_15 : decode b_Heap_linked 15 = .ok (.astore 4, 2) := by decide +kernel
theorem d_Heap_linked_17 : decode b_Heap_linked 17 = .ok (.aload 4, 2) := by decide +kernel
theorem d_Heap_linked_19 : decode b_Heap_linked 19 = .ok (.lload_n 2, 1) := by decide +kernel
theorem d_Heap_linked_20 : decode b_Heap_linked 20 = .ok (.invokevirtual 102, 3) := by decide +kernel
theorem d_Heap_linked_23 : decode b_Heap_linked 23 = .ok (.istore 5, 2) := by decide +kernel
theorem d_Heap_linked_25 : decode b_Heap_linked 25 = .ok (.iload 5, 2) := by decide +kernel
theorem d_Heap_linked_27 : decode b_Heap_linked 27 = .ok (.ifCond .lt 19, 3) := by decide +kernel
theorem d_Heap_linked_30 : decode b_Heap_linked 30 = .ok (.aload_n 0, 1) := by decide +kernel
theorem d_Heap_linked_31 : decode b_Heap_linked 31 = .ok (.iconst 1, 1) := by decide +kernel
theorem d_Heap_linked_32 : decode b_Heap_linked 32 = .ok (.aload 4, 2) := by decide +kernel
theorem d_Heap_linked_34 : decode b_Heap_linked 34 = .ok (.getfield 105, 3) := by decide +kernel
theorem d_Heap_linked_37 : decode b_Heap_linked 37 = .ok (.iload 5, 2) := by decide +kernel
theorem d_Heap_linked_39 : decode b_Heap_linked 39 = .ok (.laload, 1) := by decide +kernel
theorem d_Heap_linked_40 : decode b_Heap_linked 40 = .ok (.invokevirtual 94, 3) := by decide +kernel
theorem d_Heap_linked_43 : decode b_Heap_linked 43 = .ok (.ifCond .ne 5, 3) := by decide +kernel
theorem d_Heap_linked_46 : decode b_Heap_linked 46 = .ok (.iconst (-1), 1) := by decide +kernel
theorem d_Heap_linked_47 : decode b_Heap_linked 47 = .ok (.ireturn, 1) := by decide +kernel
theorem d_Heap_linked_48 : decode b_Heap_linked 48 = .ok (.aload 4, 2) := by decide +kernel
theorem d_Heap_linked_50 : decode b_Heap_linked 50 = .ok (.getfield 105, 3) := by decide +kernel
theorem d_Heap_linked_53 : decode b_Heap_linked 53 = .ok (.iload 5, 2) := by decide +kernel
theorem d_Heap_linked_55 : decode b_Heap_linked 55 = .ok (.laload, 1) := by decide +kernel
theorem d_Heap_linked_56 : decode b_Heap_linked 56 = .ok (.invokestatic 55, 3) := by decide +kernel
theorem d_Heap_linked_59 : decode b_Heap_linked 59 = .ok (.ireturn, 1) := by decide +kernel
theorem d_Tab_append_0 : decode b_Tab_append 0 = .ok (.aload_n 0, 1) := by decide +kernel
theorem d_Tab_append_1 : decode b_Tab_append 1 = .ok (.getfield 9, 3) := by decide +kernel
theorem d_Tab_append_4 : decode b_Tab_append 4 = .ok (.aload_n 0, 1) := by decide +kernel
theorem d_Tab_append_5 : decode b_Tab_append 5 = .ok (.getfield 18, 3) := by decide +kernel
theorem d_Tab_append_8 : decode b_Tab_append 8 = .ok (.lload_n 1, 1) := by decide +kernel
theorem d_Tab_append_9 : decode b_Tab_append 9 = .ok (.lastore, 1) := by decide +kernel
theorem d_Tab_append_10 : decode b_Tab_append 10 = .ok (.aload_n 0, 1) := by decide +kernel
theorem d_Tab_append_11 : decode b_Tab_append 11 = .ok (.getfield 15, 3) := by decide +kernel
theorem d_Tab_append_14 : decode b_Tab_append 14 = .ok (.aload_n 0, 1) := by decide +kernel
theorem d_Tab_append_15 : decode b_Tab_append 15 = .ok (.getfield 18, 3) := by decide +kernel
theorem d_Tab_append_18 : decode b_Tab_append 18 = .ok (.lload_n 3, 1) := by decide +kernel
theorem d_Tab_append_19 : decode b_Tab_append 19 = .ok (.lastore, 1) := by decide +kernel
theorem d_Tab_append_20 : decode b_Tab_append 20 = .ok (.aload_n 0, 1) := by decide +kernel
theorem d_Tab_append_21 : decode b_Tab_append 21 = .ok (.dup, 1) := by decide +kernel
theorem d_Tab_append_22 : decode b_Tab_append 22 = .ok (.getfield 18, 3) := by decide +kernel
theorem d_Tab_append_25 : decode b_Tab_append 25 = .ok (.iconst 1, 1) := by decide +kernel
theorem d_Tab_append_26 : decode b_Tab_append 26 = .ok (.iadd, 1) := by decide +kernel
theorem d_Tab_append_27 : decode b_Tab_append 27 = .ok (.putfield 18, 3) := by decide +kernel
theorem d_Tab_append_30 : decode b_Tab_append 30 = .ok (.return_, 1) := by decide +kernel
theorem d_Tab_takeAway_0 : decode b_Tab_takeAway 0 = .ok (.aload_n 0, 1) := by decide +kernel
theorem d_Tab_takeAway_1 : decode b_Tab_takeAway 1 = .ok (.getfield 18, 3) := by decide +kernel
theorem d_Tab_takeAway_4 : decode b_Tab_takeAway 4 = .ok (.iload_n 1, 1) := by decide +kernel
theorem d_Tab_takeAway_5 : decode b_Tab_takeAway 5 = .ok (.isub, 1) := by decide +kernel
theorem d_Tab_takeAway_6 : decode b_Tab_takeAway 6 = .ok (.iconst 1, 1) := by decide +kernel
theorem d_Tab_takeAway_7 : decode b_Tab_takeAway 7 = .ok (.isub, 1) := by decide +kernel
theorem d_Tab_takeAway_8 : decode b_Tab_takeAway 8 = .ok (.istore_n 2, 1) := by decide +kernel
theorem d_Tab_takeAway_9 : decode b_Tab_takeAway 9 = .ok (.aload_n 0, 1) := by decide +kernel
theorem d_Tab_takeAway_10 : decode b_Tab_takeAway 10 = .ok (.getfield 9, 3) := by decide +kernel
theorem d_Tab_takeAway_13 : decode b_Tab_takeAway 13 = .ok (.iload_n 1, 1) := by decide +kernel
theorem d_Tab_takeAway_14 : decode b_Tab_takeAway 14 = .ok (.iconst 1, 1) := by decide +kernel
theorem d_Tab_takeAway_15 : decode b_Tab_takeAway 15 = .ok (.iadd, 1) := by decide +kernel
theorem d_Tab_takeAway_16 : decode b_Tab_takeAway 16 = .ok (.aload_n 0, 1) := by decide +kernel
theorem d_Tab_takeAway_17 : decode b_Tab_takeAway 17 = .ok (.getfield 9, 3) := by decide +kernel
theorem d_Tab_takeAway_20 : decode b_Tab_takeAway 20 = .ok (.iload_n 1, 1) := by decide +kernel
theorem d_Tab_takeAway_21 : decode b_Tab_takeAway 21 = .ok (.iload_n 2, 1) := by decide +kernel
theorem d_Tab_takeAway_22 : decode b_Tab_takeAway 22 = .ok (.invokestatic 25, 3) := by decide +kernel
theorem d_Tab_takeAway_25 : decode b_Tab_takeAway 25 = .ok (.aload_n 0, 1) := by decide +kernel
theorem d_Tab_takeAway_26 : decode b_Tab_takeAway 26 = .ok (.getfield 15, 3) := by decide +kernel
theorem d_Tab_takeAway_29 : decode b_Tab_takeAway 29 = .ok (.iload_n 1, 1) := by decide +kernel
theorem d_Tab_takeAway_30 : decode b_Tab_takeAway 30 = .ok (.iconst 1, 1) := by decide +kernel
theorem d_Tab_takeAway_31 : decode b_Tab_takeAway 31 = .ok (.iadd, 1) := by decide +kernel
theorem d_Tab_takeAway_32 : decode b_Tab_takeAway 32 = .ok (.aload_n 0, 1) := by decide +kernel
theorem d_Tab_takeAway_33 : decode b_Tab_takeAway 33 = .ok (.getfield 15, 3) := by decide +kernel
theorem d_Tab_takeAway_36 : decode b_Tab_takeAway 36 = .ok (.iload_n 1, 1) := by decide +kernel
theorem d_Tab_takeAway_37 : decode b_Tab_takeAway 37 = .ok (.iload_n 2, 1) := by decide +kernel
theorem d_Tab_takeAway_38 : decode b_Tab_takeAway 38 = .ok (.invokestatic 25, 3) := by decide +kernel
theorem d_Tab_takeAway_41 : decode b_Tab_takeAway 41 = .ok (.aload_n 0, 1) := by decide +kernel
theorem d_Tab_takeAway_42 : decode b_Tab_takeAway 42 = .ok (.dup, 1) := by decide +kernel
theorem d_Tab_takeAway_43 : decode b_Tab_takeAway 43 = .ok (.getfield 18, 3) := by decide +kernel
theorem d_Tab_takeAway_46 : decode b_Tab_takeAway 46 = .ok (.iconst 1, 1) := by decide +kernel
theorem d_Tab_takeAway_47 : decode b_Tab_takeAway 47 = .ok (.isub, 1) := by decide +kernel
theorem d_Tab_takeAway_48 : decode b_Tab_takeAway 48 = .ok (.putfield 18, 3) := by decide +kernel
theorem d_Tab_takeAway_51 : decode b_Tab_takeAway 51 = .ok (.return_, 1) := by decide +kernel
theorem d_Heap_touch_0 : decode b_Heap_touch 0 = .ok (.aload_n 0, 1) := by decide +kernel
theorem d_Heap_touch_1 : decode b_Heap_touch 1 = .ok (.getfield 21, 3) := by decide +kernel
theorem d_Heap_touch_4 : decode b_Heap_touch 4 = .ok (.iconst 1, 1) := by decide +kernel
theorem d_Heap_touch_5 : decode b_Heap_touch 5 = .ok (.if_icmp .ne 26, 3) := by decide +kernel
theorem d_Heap_touch_8 : decode b_Heap_touch 8 = .ok (.aload_n 0, 1) := by decide +kernel
theorem d_Heap_touch_9 : decode b_Heap_touch 9 = .ok (.getfield 17, 3) := by decide +kernel
theorem d_Heap_touch_12 : decode b_Heap_touch 12 = .ok (.iload_n 1, 1) := by decide +kernel
theorem d_Heap_touch_13 : decode b_Heap_touch 13 = .ok (.aaload, 1) := by decide +kernel
theorem d_Heap_touch_14 : decode b_Heap_touch 14 = .ok (.getfield 73, 3) := by decide +kernel
theorem d_Heap_touch_17 : decode b_Heap_touch 17 = .ok (.iconst 2, 1) := by decide +kernel
theorem d_Heap_touch_18 : decode b_Heap_touch 18 = .ok (.if_icmp .ne 13, 3) := by decide +kernel
theorem d_Heap_touch_21 : decode b_Heap_touch 21 = .ok (.aload_n 0, 1) := by decide +kernel
theorem d_Heap_touch_22 : decode b_Heap_touch 22 = .ok (.getfield 17, 3) := by decide +kernel
theorem d_Heap_touch_25 : decode b_Heap_touch 25 = .ok (.iload_n 1, 1) := by decide +kernel
theorem d_Heap_touch_26 : decode b_Heap_touch 26 = .ok (.aaload, 1) := by decide +kernel
theorem d_Heap_touch_27 : decode b_Heap_touch 27 = .ok (.iconst 1, 1) := by decide +kernel
theorem d_Heap_touch_28 : decode b_Heap_touch 28 = .ok (.putfield 73, 3) := by decide +kernel
theorem d_Heap_touch_31 : decode b_Heap_touch 31 = .ok (.return_, 1) := by decide +kernel
theorem d_Heap_getting_0 : decode b_Heap_getting 0 = .ok (.aload_n 0, 1) := by decide +kernel
theorem d_Heap_getting_1 : decode b_Heap_getting 1 = .ok (.iconst 1, 1) := by decide +kernel
theorem d_Heap_getting_2 : decode b_Heap_getting 2 = .ok (.lload_n 1, 1) := by decide +kernel
theorem d_Heap_getting_3 : decode b_Heap_getting 3 = .ok (.invokevirtual 94, 3) := by decide +kernel
theorem d_Heap_getting_6 : decode b_Heap_getting 6 = .ok (.ifCond .ne 5, 3) := by decide +kernel
theorem d_Heap_getting_9 : decode b_Heap_getting 9 = .ok (.iconst 1, 1) := by decide +kernel
theorem d_Heap_getting_10 : decode b_Heap_getting 10 = .ok (.ireturn, 1) := by decide +kernel
theorem d_Heap_getting_11 : decode b_Heap_getting 11 = .ok (.aload_n 0, 1) := by decide +kernel
theorem d_Heap_getting_12 : decode b_Heap_getting 12 = .ok (.ldc2_w 40, 3) := by decide +kernel
theorem d_Heap_getting_15 : decode b_Heap_getting 15 = .ok (.putfield 42, 3) := by decide +kernel
theorem d_Heap_getting_18 : decode b_Heap_getting 18 = .ok (.lload_n 3, 1) := by decide +kernel
theorem d_Heap_getting_19 : decode b_Heap_getting 19 = .ok (.ldc2_w 40, 3) := by decide +kernel
theorem d_Heap_getting_22 : decode b_Heap_getting 22 = .ok (.lcmp, 1) := by decide +kernel
theorem d_Heap_getting_23 : decode b_Heap_getting 23 = .ok (.ifCond .ne 5, 3) := by decide +kernel
theorem d_Heap_getting_26 : decode b_Heap_getting 26 = .ok (.iconst 0, 1) := by decide +kernel
theorem d_Heap_getting_27 : decode b_Heap_getting 27 = .ok (.ireturn, 1) := by decide +kernel
theorem d_Heap_getting_28 : decode b_Heap_getting 28 = .ok (.aload_n 0, 1) := by decide +kernel
theorem d_Heap_getting_29 : decode b_Heap_getting 29 = .ok (.lload_n 1, 1) := by decide +kernel
theorem d_Heap_getting_30 : decode b_Heap_getting 30 = .ok (.invokestatic 55, 3) := by decide +kernel
theorem d_Heap_getting_33 : decode b_Heap_getting 33 = .ok (.lload_n 3, 1) := by decide +kernel
theorem d_Heap_getting_34 : decode b_Heap_getting 34 = .ok (.lconst 0, 1) := by decide +kernel
theorem d_Heap_getting_35 : decode b_Heap_getting 35 = .ok (.invokevirtual 98, 3) := by decide +kernel
theorem d_Heap_getting_38 : decode b_Heap_getting 38 = .ok (.istore 5, 2) := by decide +kernel
theorem d_Heap_getting_40 : decode b_Heap_getting 40 = .ok (.iload 5, 2) := by decide +kernel
theorem d_Heap_getting_42 : decode b_Heap_getting 42 = .ok (.ifCond .ge 5, 3) := by decide +kernel
theorem d_Heap_getting_45 : decode b_Heap_getting 45 = .ok (.iconst 2, 1) := by decide +kernel
theorem d_Heap_getting_46 : decode b_Heap_getting 46 = .ok (.ireturn, 1) := by decide +kernel
theorem d_Heap_getting_47 : decode b_Heap_getting 47 = .ok (.aload_n 0, 1) := by decide +kernel
theorem d_Heap_getting_48 : decode b_Heap_getting 48 = .ok (.getfield 17, 3) := by decide +kernel
theorem d_Heap_getting_51 : decode b_Heap_getting 51 = .ok (.iload 5, 2) := by decide +kernel
theorem d_Heap_getting_53 : decode b_Heap_getting 53 = .ok (.aaload, 1) := by decide +kernel
theorem d_Heap_getting_54 : decode b_Heap_getting 54 = .ok (.getfield 76, 3) := by decide +kernel
theorem d_Heap_getting_57 : decode b_Heap_getting 57 = .ok (.astore 6, 2) := by decide +kernel
theorem d_Heap_getting_59 : decode b_Heap_getting 59 = .ok (.aload 6, 2) := by decide +kernel
theorem d_Heap_getting_61 : decode b_Heap_getting 61 = .ok (.lload_n 3, 1) := by decide +kernel
theorem d_Heap_getting_62 : decode b_Heap_getting 62 = .ok (.invokevirtual 102, 3) := by decide +kernel
theorem d_Heap_getting_65 : decode b_Heap_getting 65 = .ok (.istore 7, 2) := by decide +kernel
theorem d_Heap_getting_67 : decode b_Heap_getting 67 = .ok (.iload 7, 2) := by decide +kernel
theorem d_Heap_getting_69 : decode b_Heap_getting 69 = .ok (.ifCond .lt 15, 3) := by decide +kernel
theorem d_Heap_getting_72 : decode b_Heap_getting 72 = .ok (.aload_n 0, 1) := by decide +kernel
theorem d_Heap_getting_73 : decode b_Heap_getting 73 = .ok (.aload 6, 2) := by decide +kernel
theorem d_Heap_getting_75 : decode b_Heap_getting 75 = .ok (.getfield 105, 3) := by decide +kernel
theorem d_Heap_getting_78 : decode b_Heap_getting 78 = .ok (.iload 7, 2) := by decide +kernel
theorem d_Heap_getting_80 : decode b_Heap_getting 80 = .ok (.laload, 1) := by decide +kernel
theorem d_Heap_getting_81 : decode b_Heap_getting 81 = .ok (.putfield 42, 3) := by decide +kernel
theorem d_Heap_getting_84 : decode b_Heap_getting 84 = .ok (.iconst 0, 1) := by decide +kernel
theorem d_Heap_getting_85 : decode b_Heap_getting 85 = .ok (.ireturn, 1) := by decide +kernel
theorem d_Heap_settingMeta_0 : decode b_Heap_settingMeta 0 = .ok (.aload_n 0, 1) := by decide +kernel
theorem d_Heap_settingMeta_1 : decode b_Heap_settingMeta 1 = .ok (.iconst 1, 1) := by decide +kernel
theorem d_Heap_settingMeta_2 : decode b_Heap_settingMeta 2 = .ok (.lload_n 1, 1) := by decide +kernel
theorem d_Heap_settingMeta_3 : decode b_Heap_settingMeta 3 = .ok (.invokevirtual 94, 3) := by decide +kernel
theorem d_Heap_settingMeta_6 : decode b_Heap_settingMeta 6 = .ok (.ifCond .eq 20, 3) := by decide +kernel
theorem d_Heap_settingMeta_9 : decode b_Heap_settingMeta 9 = .ok (.lload_n 3, 1) := by decide +kernel
theorem d_Heap_settingMeta_10 : decode b_Heap_settingMeta 10 = .ok (.ldc2_w 40, 3) := by decide +kernel
theorem d_Heap_settingMeta_13 : decode b_Heap_settingMeta 13 = .ok (.lcmp, 1) := by decide +kernel
theorem d_Heap_settingMeta_14 : decode b_Heap_settingMeta 14 = .ok (.ifCond .eq 14, 3) := by decide +kernel
theorem d_Heap_settingMeta_17 : decode b_Heap_settingMeta 17 = .ok (.aload_n 0, 1) := by decide +kernel
theorem d_Heap_settingMeta_18 : decode b_Heap_settingMeta 18 = .ok (.iconst 1, 1) := by decide +kernel
theorem d_Heap_settingMeta_19 : decode b_Heap_settingMeta 19 = .ok (.lload_n 3, 1) := by decide +kernel
theorem d_Heap_settingMeta_20 : decode b_Heap_settingMeta 20 = .ok (.invokevirtual 94, 3) := by decide +kernel
theorem d_Heap_settingMeta_23 : decode b_Heap_settingMeta 23 = .ok (.ifCond .ne 5, 3) := by decide +kernel
theorem d_Heap_settingMeta_26 : decode b_Heap_settingMeta 26 = .ok (.iconst 1, 1) := by decide +kernel
theorem d_Heap_settingMeta_27 : decode b_Heap_settingMeta 27 = .ok (.ireturn, 1) := by decide +kernel
theorem d_Heap_settingMeta_28 : decode b_Heap_settingMeta 28 = .ok (.lload_n 1, 1) := by decide +kernel
theorem d_Heap_settingMeta_29 : decode b_Heap_settingMeta 29 = .ok (.invokestatic 55, 3) := by decide +kernel
theorem d_Heap_settingMeta_32 : decode b_Heap_settingMeta 32 = .ok (.istore 5, 2) := by decide +kernel
theorem d_Heap_settingMeta_34 : decode b_Heap_settingMeta 34 = .ok (.aload_n 0, 1) := by decide +kernel
theorem d_Heap_settingMeta_35 : decode b_Heap_settingMeta 35 = .ok (.getfield 17, 3) := by decide +kernel
theorem d_Heap_settingMeta_38 : decode b_Heap_settingMeta 38 = .ok (.iload 5, 2) := by decide +kernel
theorem d_Heap_settingMeta_40 : decode b_Heap_settingMeta 40 = .ok (.aaload, 1) := by decide +kernel
theorem d_Heap_settingMeta_41 : decode b_Heap_settingMeta 41 = .ok (.getfield 76, 3) := by decide +kernel
theorem d_Heap_settingMeta_44 : decode b_Heap_settingMeta 44 = .ok (.lload_n 3, 1) := by decide +kernel
theorem d_Heap_settingMeta_45 : decode b_Heap_settingMeta 45 = .ok (.ldc2_w 40, 3) := by decide +kernel
theorem d_Heap_settingMeta_48 : decode b_Heap_settingMeta 48 = .ok (.lcmp, 1) := by decide +kernel
theorem d_Heap_settingMeta_49 : decode b_Heap_settingMeta 49 = .ok (.ifCond .ne 7, 3) := by decide +kernel
theorem d_Heap_settingMeta_52 : decode b_Heap_settingMeta 52 = .ok (.iconst (-1), 1) := by decide +kernel
theorem d_Heap_settingMeta_53 : decode b_Heap_settingMeta 53 = .ok (.goto 7, 3) := by decide +kernel
theorem d_Heap_settingMeta_56 : decode b_Heap_settingMeta 56 = .ok (.lload_n 3, 1) := by decide +kernel
theorem d_Heap_settingMeta_57 : decode b_Heap_settingMeta 57 = .ok (.invokestatic 55, 3) := by decide +kernel
theorem d_Heap_settingMeta_60 : decode b_Heap_settingMeta 60 = .ok (.putfield 121, 3) := by decide +kernel
theorem d_Heap_settingMeta_63 : decode b_Heap_settingMeta 63 = .ok (.aload_n 0, 1) := by decide +kernel
theorem d_Heap_settingMeta_64 : decode b_Heap_settingMeta 64 = .ok (.iload 5, 2) := by decide +kernel
theorem d_Heap_settingMeta_66 : decode b_Heap_settingMeta 66 = .ok (.invokevirtual 118, 3) := by decide +kernel
theorem d_Heap_settingMeta_69 : decode b_Heap_settingMeta 69 = .ok (.iconst 0, 1) := by decide +kernel
theorem d_Heap_settingMeta_70 : decode b_Heap_settingMeta 70 = .ok (.ireturn, 1) := by decide +kernel
theorem d_Heap_keyAfter_0 : decode b_Heap_keyAfter 0 = .ok (.aload_n 0, 1) := by decide +kernel
theorem d_Heap_keyAfter_1 : decode b_Heap_keyAfter 1 = .ok (.iconst 1, 1) := by decide +kernel
theorem d_Heap_keyAfter_2 : decode b_Heap_keyAfter 2 = .ok (.lload_n 1, 1) := by decide +kernel
theorem d_Heap_keyAfter_3 : decode b_Heap_keyAfter 3 = .ok (.invokevirtual 94, 3) := by decide +kernel
theorem d_Heap_keyAfter_6 : decode b_Heap_keyAfter 6 = .ok (.ifCond .ne 5, 3) := by decide +kernel
theorem d_Heap_keyAfter_9 : decode b_Heap_keyAfter 9 = .ok (.iconst 1, 1) := by decide +kernel
theorem d_Heap_keyAfter_10 : decode b_Heap_keyAfter 10 = .ok (.ireturn, 1) := by decide +kernel
theorem d_Heap_keyAfter_11 : decode b_Heap_keyAfter 11 = .ok (.aload_n 0, 1) := by decide +kernel
theorem d_Heap_keyAfter_12 : decode b_Heap_keyAfter 12 = .ok (.getfield 17, 3) := by decide +kernel
theorem d_Heap_keyAfter_15 : decode b_Heap_keyAfter 15 = .ok (.lload_n 1, 1) := by decide +kernel
theorem d_Heap_keyAfter_16 : decode b_Heap_keyAfter 16 = .ok (.invokestatic 55, 3) := by decide +kernel
theorem d_Heap_keyAfter_19 : decode b_Heap_keyAfter 19 = .ok (.aaload, 1) := by decide +kernel
theorem d_Heap_keyAfter_20 : decode b_Heap_keyAfter 20 = .ok (.getfield 76, 3) := by decide +kernel
theorem d_Heap_keyAfter_23 : decode b_Heap_keyAfter 23 = .ok (.astore 5, 2) := by decide +kernel
theorem d_Heap_keyAfter_25 : decode b_Heap_keyAfter 25 = .ok (.lload_n 3, 1) := by decide +kernel
theorem d_Heap_keyAfter_26 : decode b_Heap_keyAfter 26 = .ok (.ldc2_w 40, 3) := by decide +kernel
theorem d_Heap_keyAfter_29 : decode b_Heap_keyAfter 29 = .ok (.lcmp, 1) := by decide +kernel
theorem d_Heap_keyAfter_30 : decode b_Heap_keyAfter 30 = .ok (.ifCond .ne 7, 3) := by decide +kernel
theorem d_Heap_keyAfter_33 : decode b_Heap_keyAfter 33 = .ok (.iconst (-1), 1) := by decide +kernel
theorem d_Heap_keyAfter_34 : decode b_Heap_keyAfter 34 = .ok (.goto 9, 3) := by decide +kernel
theorem d_Heap_keyAfter_37 : decode b_Heap_keyAfter 37 = .ok (.aload 5, 2) := by decide +kernel
theorem d_Heap_keyAfter_39 : decode b_Heap_keyAfter 39 = .ok (.lload_n 3, 1) := by decide +kernel
theorem d_Heap_keyAfter_40 : decode b_Heap_keyAfter 40 = .ok (.invokevirtual 102, 3) := by decide +kernel
theorem d_Heap_keyAfter_43 : decode b_Heap_keyAfter 43 = .ok (.istore 6, 2) := by decide +kernel
theorem d_Heap_keyAfter_45 : decode b_Heap_keyAfter 45 = .ok (.iload 6, 2) := by decide +kernel
theorem d_Heap_keyAfter_47 : decode b_Heap_keyAfter 47 = .ok (.ifCond .ge 13, 3) := by decide +kernel
theorem d_Heap_keyAfter_50 : decode b_Heap_keyAfter 50 = .ok (.lload_n 3, 1) := by decide +kernel
theorem d_Heap_keyAfter_51 : decode b_Heap_keyAfter 51 = .ok (.ldc2_w 40, 3) := by decide +kernel
theorem d_Heap_keyAfter_54 : decode b_Heap_keyAfter 54 = .ok (.lcmp, 1) := by decide +kernel
theorem d_Heap_keyAfter_55 : decode b_Heap_keyAfter 55 = .ok (.ifCond .eq 5, 3) := by decide +kernel
theorem d_Heap_keyAfter_58 : decode b_Heap_keyAfter 58 = .ok (.iconst 1, 1) := by decide +kernel
theorem d_Heap_keyAfter_59 : decode b_Heap_keyAfter 59 = .ok (.ireturn, 1) := by decide +kernel
theorem d_Heap_keyAfter_60 : decode b_Heap_keyAfter 60 = .ok (.aload_n 0, 1) := by decide +kernel
theorem d_Heap_keyAfter_61 : decode b_Heap_keyAfter 61 = .ok (.iload 6, 2) := by decide +kernel
theorem d_Heap_keyAfter_63 : decode b_Heap_keyAfter 63 = .ok (.iconst 1, 1) := by decide +kernel
theorem d_Heap_keyAfter_64 : decode b_Heap_keyAfter 64 = .ok (.iadd, 1) := by decide +kernel
theorem d_Heap_keyAfter_65 : decode b_Heap_keyAfter 65 = .ok (.aload 5, 2) := by decide +kernel
theorem d_Heap_keyAfter_67 : decode b_Heap_keyAfter 67 = .ok (.getfield 108, 3) := by decide +kernel
theorem d_Heap_keyAfter_70 : decode b_Heap_keyAfter 70 = .ok (.if_icmp .ge 16, 3) := by decide +kernel
theorem d_Heap_keyAfter_73 : decode b_Heap_keyAfter 73 = .ok (.aload 5, 2) := by decide +kernel
theorem d_Heap_keyAfter_75 : decode b_Heap_keyAfter 75 = .ok (.getfield 128, 3) := by decide +kernel
theorem d_Heap_keyAfter_78 : decode b_Heap_keyAfter 78 = .ok (.iload 6, 2) := by decide +kernel
theorem d_Heap_keyAfter_80 : decode b_Heap_keyAfter 80 = .ok (.iconst 1, 1) := by decide +kernel
theorem d_Heap_keyAfter_81 : decode b_Heap_keyAfter 81 = .ok (.iadd, 1) := by decide +kernel
theorem d_Heap_keyAfter_82 : decode b_Heap_keyAfter 82 = .ok (.laload, 1) := by decide +kernel
theorem d_Heap_keyAfter_83 : decode b_Heap_keyAfter 83 = .ok (.goto 6, 3) := by decide +kernel
theorem d_Heap_keyAfter_86 : decode b_Heap_keyAfter 86 = .ok (.ldc2_w 40, 3) := by decide +kernel
theorem d_Heap_keyAfter_89 : decode b_Heap_keyAfter 89 = .ok (.putfield 42, 3) := by decide +kernel
theorem d_Heap_keyAfter_92 : decode b_Heap_keyAfter 92 = .ok (.iconst 0, 1) := by decide +kernel
theorem d_Heap_keyAfter_93 : decode b_Heap_keyAfter 93 = .ok (.ireturn, 1) := by decide +kernel
theorem d_Heap_howMany_0 : decode b_Heap_howMany 0 = .ok (.aload_n 0, 1) := by decide +kernel
theorem d_Heap_howMany_1 : decode b_Heap_howMany 1 = .ok (.iconst 1, 1) := by decide +kernel
theorem d_Heap_howMany_2 : decode b_Heap_howMany 2 = .ok (.lload_n 1, 1) := by decide +kernel
theorem d_Heap_howMany_3 : decode b_Heap_howMany 3 = .ok (.invokevirtual 94, 3) := by decide +kernel
theorem d_Heap_howMany_6 : decode b_Heap_howMany 6 = .ok (.ifCond .ne 5, 3) := by decide +kernel
theorem d_Heap_howMany_9 : decode b_Heap_howMany 9 = .ok (.iconst 1, 1) := by decide +kernel
theorem d_Heap_howMany_10 : decode b_Heap_howMany 10 = .ok (.ireturn, 1) := by decide +kernel
theorem d_Heap_howMany_11 : decode b_Heap_howMany 11 = .ok (.aload_n 0, 1) := by decide +kernel
theorem d_Heap_howMany_12 : decode b_Heap_howMany 12 = .ok (.aload_n 0, 1) := by decide +kernel
theorem d_Heap_howMany_13 : decode b_Heap_howMany 13 = .ok (.getfield 17, 3) := by decide +kernel
theorem d_Heap_howMany_16 : decode b_Heap_howMany 16 = .ok (.lload_n 1, 1) := by decide +kernel
theorem d_Heap_howMany_17 : decode b_Heap_howMany 17 = .ok (.invokestatic 55, 3) := by decide +kernel
theorem d_Heap_howMany_20 : decode b_Heap_howMany 20 = .ok (.aaload, 1) := by decide +kernel
theorem d_Heap_howMany_21 : decode b_Heap_howMany 21 = .ok (.getfield 76, 3) := by decide +kernel
theorem d_Heap_howMany_24 : decode b_Heap_howMany 24 = .ok (.getfield 108, 3) := by decide +kernel
theorem d_Heap_howMany_27 : decode b_Heap_howMany 27 = .ok (.i2l, 1) := by decide +kernel
theorem d_Heap_howMany_28 : decode b_Heap_howMany 28 = .ok (.putfield 42, 3) := by decide +kernel
theorem d_Heap_howMany_31 : decode b_Heap_howMany 31 = .ok (.iconst 0, 1) := by decide +kernel
theorem d_Heap_howMany_32 : decode b_Heap_howMany 32 = .ok (.ireturn, 1) := by decide +kernel
theorem d_Cell_rows_0 : decode b_Cell_rows 0 = .ok (.aload_n 0, 1) := by decide +kernel
theorem d_Cell_rows_1 : decode b_Cell_rows 1 = .ok (.getfield 25, 3) := by decide +kernel
theorem d_Cell_rows_4 : decode b_Cell_rows 4 = .ok (.iconst 1, 1) := by decide +kernel
theorem d_Cell_rows_5 : decode b_Cell_rows 5 = .ok (.if_icmp .ne 11, 3) := by decide +kernel
theorem d_Cell_rows_8 : decode b_Cell_rows 8 = .ok (.aload_n 0, 1) := by decide +kernel
theorem d_Cell_rows_9 : decode b_Cell_rows 9 = .ok (.getfield 12, 3) := by decide +kernel
theorem d_Cell_rows_12 : decode b_Cell_rows 12 = .ok (.getfield 35, 3) := by decide +kernel
theorem d_Cell_rows_15 : decode b_Cell_rows 15 = .ok (.ireturn, 1) := by decide +kernel
theorem d_Cell_rows_16 : decode b_Cell_rows 16 = .ok (.aload_n 0, 1) := by decide +kernel
theorem d_Cell_rows_17 : decode b_Cell_rows 17 = .ok (.getfield 25, 3) := by decide +kernel
theorem d_Cell_rows_20 : decode b_Cell_rows 20 = .ok (.iconst 2, 1) := by decide +kernel
theorem d_Cell_rows_21 : decode b_Cell_rows 21 = .ok (.if_icmp .ne 11, 3) := by decide +kernel
theorem d_Cell_rows_24 : decode b_Cell_rows 24 = .ok (.iload_n 1, 1) := by decide +kernel
theorem d_Cell_rows_25 : decode b_Cell_rows 25 = .ok (.ifCond .ne 7, 3) := by decide +kernel
theorem d_Cell_rows_28 : decode b_Cell_rows 28 = .ok (.iconst 4, 1) := by decide +kernel
theorem d_Cell_rows_29 : decode b_Cell_rows 29 = .ok (.goto 4, 3) := by decide +kernel
theorem d_Cell_rows_32 : decode b_Cell_rows 32 = .ok (.iconst 0, 1) := by decide +kernel
theorem d_Cell_rows_33 : decode b_Cell_rows 33 = .ok (.ireturn, 1) := by decide +kernel
theorem d_Math_floorMod_0 : decode b_Math_floorMod 0 = .ok (.iload_n 0, 1) := by decide +kernel
theorem d_Math_floorMod_1 : decode b_Math_floorMod 1 = .ok (.iload_n 1, 1) := by decide +kernel
theorem d_Math_floorMod_2 : decode b_Math_floorMod 2 = .ok (.irem, 1) := by decide +kernel
theorem d_Math_floorMod_3 : decode b_Math_floorMod 3 = .ok (.istore_n 2, 1) := by decide +kernel
theorem d_Math_floorMod_4 : decode b_Math_floorMod 4 = .ok (.iload_n 0, 1) := by decide +kernel
theorem d_Math_floorMod_5 : decode b_Math_floorMod 5 = .ok (.iload_n 1, 1) := by decide +kernel
theorem d_Math_floorMod_6 : decode b_Math_floorMod 6 = .ok (.ixor, 1) := by decide +kernel
theorem d_Math_floorMod_7 : decode b_Math_floorMod 7 = .ok (.ifCond .ge 11, 3) := by decide +kernel
theorem d_Math_floorMod_10 : decode b_Math_floorMod 10 = .ok (.iload_n 2, 1) := by decide +kernel
theorem d_Math_floorMod_11 : decode b_Math_floorMod 11 = .ok (.ifCond .eq 7, 3) := by decide +kernel
theorem d_Math_floorMod_14 : decode b_Math_floorMod 14 = .ok (.iload_n 2, 1) := by decide +kernel
theorem d_Math_floorMod_15 : decode b_Math_floorMod 15 = .ok (.iload_n 1, 1) := by decide +kernel
theorem d_Math_floorMod_16 : decode b_Math_floorMod 16 = .ok (.iadd, 1) := by decide +kernel
theorem d_Math_floorMod_17 : decode b_Math_floorMod 17 = .ok (.ireturn, 1) := by decide +kernel
theorem d_Math_floorMod_18 : decode b_Math_floorMod 18 = .ok (.iload_n 2, 1) := by decide +kernel
theorem d_Math_floorMod_19 : decode b_Math_floorMod 19 = .ok (.ireturn, 1) := by decide +kernel
theorem d_Arr_fill_0 : decode b_Arr_fill 0 = .ok (.iconst 0, 1) := by decide +kernel
theorem d_Arr_fill_1 : decode b_Arr_fill 1 = .ok (.istore_n 3, 1) := by decide +kernel
theorem d_Arr_fill_2 : decode b_Arr_fill 2 = .ok (.aload_n 0, 1) := by decide +kernel
theorem d_Arr_fill_3 : decode b_Arr_fill 3 = .ok (.arraylength, 1) := by decide +kernel
theorem d_Arr_fill_4 : decode b_Arr_fill 4 = .ok (.istore 4, 2) := by decide +kernel
theorem d_Arr_fill_6 : decode b_Arr_fill 6 = .ok (.iload_n 3, 1) := by decide +kernel
theorem d_Arr_fill_7 : decode b_Arr_fill 7 = .ok (.iload 4, 2) := by decide +kernel
theorem d_Arr_fill_9 : decode b_Arr_fill 9 = .ok (.if_icmp .ge 13, 3) := by decide +kernel
theorem d_Arr_fill_12 : decode b_Arr_fill 12 = .ok (.aload_n 0, 1) := by decide +kernel
theorem d_Arr_fill_13 : decode b_Arr_fill 13 = .ok (.iload_n 3, 1) := by decide +kernel
theorem d_Arr_fill_14 : decode b_Arr_fill 14 = .ok (.lload_n 1, 1) := by decide +kernel
theorem d_Arr_fill_15 : decode b_Arr_fill 15 = .ok (.lastore, 1) := by decide +kernel
theorem d_Arr_fill_16 : decode b_Arr_fill 16 = .ok (.iinc 3 1, 3) := by decide +kernel
theorem d_Arr_fill_19 : decode b_Arr_fill 19 = .ok (.goto (-13), 3) := by decide +kernel
theorem d_Arr_fill_22 : decode b_Arr_fill 22 = .ok (.return_, 1) := by decide +kernel
