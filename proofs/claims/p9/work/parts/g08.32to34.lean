-- part 32.decM2
section
theorem d_Mod_init_0 : decode b_Mod_init 0 = .ok (.aload_n 0, 1) := by decide +kernel
theorem d_Mod_init_1 : decode b_Mod_init 1 = .ok (.invokespecial 1, 3) := by decide +kernel
theorem d_Mod_init_4 : decode b_Mod_init 4 = .ok (.aload_n 0, 1) := by decide +kernel
theorem d_Mod_init_5 : decode b_Mod_init 5 = .ok (.bipush 64, 2) := by decide +kernel
theorem d_Mod_init_7 : decode b_Mod_init 7 = .ok (.newarray .int, 2) := by decide +kernel
theorem d_Mod_init_9 : decode b_Mod_init 9 = .ok (.putfield 7, 3) := by decide +kernel
theorem d_Mod_init_12 : decode b_Mod_init 12 = .ok (.aload_n 0, 1) := by decide +kernel
theorem d_Mod_init_13 : decode b_Mod_init 13 = .ok (.bipush 64, 2) := by decide +kernel
theorem d_Mod_init_15 : decode b_Mod_init 15 = .ok (.newarray .int, 2) := by decide +kernel
theorem d_Mod_init_17 : decode b_Mod_init 17 = .ok (.putfield 13, 3) := by decide +kernel
theorem d_Mod_init_20 : decode b_Mod_init 20 = .ok (.aload_n 0, 1) := by decide +kernel
theorem d_Mod_init_21 : decode b_Mod_init 21 = .ok (.bipush 64, 2) := by decide +kernel
theorem d_Mod_init_23 : decode b_Mod_init 23 = .ok (.newarray .int, 2) := by decide +kernel
theorem d_Mod_init_25 : decode b_Mod_init 25 = .ok (.putfield 16, 3) := by decide +kernel
theorem d_Mod_init_28 : decode b_Mod_init 28 = .ok (.aload_n 0, 1) := by decide +kernel
theorem d_Mod_init_29 : decode b_Mod_init 29 = .ok (.bipush 64, 2) := by decide +kernel
theorem d_Mod_init_31 : decode b_Mod_init 31 = .ok (.newarray .int, 2) := by decide +kernel
theorem d_Mod_init_33 : decode b_Mod_init 33 = .ok (.putfield 19, 3) := by decide +kernel
theorem d_Mod_init_36 : decode b_Mod_init 36 = .ok (.aload_n 0, 1) := by decide +kernel
theorem d_Mod_init_37 : decode b_Mod_init 37 = .ok (.bipush 6, 2) := by decide +kernel
theorem d_Mod_init_39 : decode b_Mod_init 39 = .ok (.newarray .long, 2) := by decide +kernel
theorem d_Mod_init_41 : decode b_Mod_init 41 = .ok (.putfield 22, 3) := by decide +kernel
theorem d_Mod_init_44 : decode b_Mod_init 44 = .ok (.aload_n 0, 1) := by decide +kernel
theorem d_Mod_init_45 : decode b_Mod_init 45 = .ok (.bipush 16, 2) := by decide +kernel
theorem d_Mod_init_47 : decode b_Mod_init 47 = .ok (.newarray .int, 2) := by decide +kernel
theorem d_Mod_init_49 : decode b_Mod_init 49 = .ok (.putfield 26, 3) := by decide +kernel
theorem d_Mod_init_52 : decode b_Mod_init 52 = .ok (.aload_n 0, 1) := by decide +kernel
theorem d_Mod_init_53 : decode b_Mod_init 53 = .ok (.bipush 16, 2) := by decide +kernel
theorem d_Mod_init_55 : decode b_Mod_init 55 = .ok (.newarray .int, 2) := by decide +kernel
theorem d_Mod_init_57 : decode b_Mod_init 57 = .ok (.putfield 29, 3) := by decide +kernel
theorem d_Mod_init_60 : decode b_Mod_init 60 = .ok (.aload_n 0, 1) := by decide +kernel
theorem d_Mod_init_61 : decode b_Mod_init 61 = .ok (.bipush 16, 2) := by decide +kernel
theorem d_Mod_init_63 : decode b_Mod_init 63 = .ok (.newarray .int, 2) := by decide +kernel
theorem d_Mod_init_65 : decode b_Mod_init 65 = .ok (.putfield 32, 3) := by decide +kernel
theorem d_Mod_init_68 : decode b_Mod_init 68 = .ok (.aload_n 0, 1) := by decide +kernel
theorem d_Mod_init_69 : decode b_Mod_init 69 = .ok (.bipush 16, 2) := by decide +kernel
theorem d_Mod_init_71 : decode b_Mod_init 71 = .ok (.newarray .int, 2) := by decide +kernel
theorem d_Mod_init_73 : decode b_Mod_init 73 = .ok (.putfield 35, 3) := by decide +kernel
theorem d_Mod_init_76 : decode b_Mod_init 76 = .ok (.aload_n 0, 1) := by decide +kernel
theorem d_Mod_init_77 : decode b_Mod_init 77 = .ok (.bipush 96, 2) := by decide +kernel
theorem d_Mod_init_79 : decode b_Mod_init 79 = .ok (.newarray .long, 2) := by decide +kernel
theorem d_Mod_init_81 : decode b_Mod_init 81 = .ok (.putfield 38, 3) := by decide +kernel
theorem d_Mod_init_84 : decode b_Mod_init 84 = .ok (.aload_n 0, 1) := by decide +kernel
theorem d_Mod_init_85 : decode b_Mod_init 85 = .ok (.bipush 96, 2) := by decide +kernel
theorem d_Mod_init_87 : decode b_Mod_init 87 = .ok (.newarray .long, 2) := by decide +kernel
theorem d_Mod_init_89 : decode b_Mod_init 89 = .ok (.putfield 41, 3) := by decide +kernel
theorem d_Mod_init_92 : decode b_Mod_init 92 = .ok (.aload_n 0, 1) := by decide +kernel
theorem d_Mod_init_93 : decode b_Mod_init 93 = .ok (.bipush 64, 2) := by decide +kernel
theorem d_Mod_init_95 : decode b_Mod_init 95 = .ok (.newarray .long, 2) := by decide +kernel
theorem d_Mod_init_97 : decode b_Mod_init 97 = .ok (.putfield 44, 3) := by decide +kernel
theorem d_Mod_init_100 : decode b_Mod_init 100 = .ok (.aload_n 0, 1) := by decide +kernel
theorem d_Mod_init_101 : decode b_Mod_init 101 = .ok (.bipush 16, 2) := by decide +kernel
theorem d_Mod_init_103 : decode b_Mod_init 103 = .ok (.newarray .int, 2) := by decide +kernel
theorem d_Mod_init_105 : decode b_Mod_init 105 = .ok (.putfield 47, 3) := by decide +kernel
theorem d_Mod_init_108 : decode b_Mod_init 108 = .ok (.aload_n 0, 1) := by decide +kernel
theorem d_Mod_init_109 : decode b_Mod_init 109 = .ok (.bipush 16, 2) := by decide +kernel
theorem d_Mod_init_111 : decode b_Mod_init 111 = .ok (.newarray .int, 2) := by decide +kernel
theorem d_Mod_init_113 : decode b_Mod_init 113 = .ok (.putfield 50, 3) := by decide +kernel
theorem d_Mod_init_116 : decode b_Mod_init 116 = .ok (.aload_n 0, 1) := by decide +kernel
theorem d_Mod_init_117 : decode b_Mod_init 117 = .ok (.bipush 16, 2) := by decide +kernel
theorem d_Mod_init_119 : decode b_Mod_init 119 = .ok (.newarray .int, 2) := by decide +kernel
theorem d_Mod_init_121 : decode b_Mod_init 121 = .ok (.putfield 53, 3) := by decide +kernel
theorem d_Mod_init_124 : decode b_Mod_init 124 = .ok (.aload_n 0, 1) := by decide +kernel
theorem d_Mod_init_125 : decode b_Mod_init 125 = .ok (.bipush 16, 2) := by decide +kernel
theorem d_Mod_init_127 : decode b_Mod_init 127 = .ok (.newarray .int, 2) := by decide +kernel
theorem d_Mod_init_129 : decode b_Mod_init 129 = .ok (.putfield 56, 3) := by decide +kernel
theorem d_Mod_init_132 : decode b_Mod_init 132 = .ok (.aload_n 0, 1) := by decide +kernel
theorem d_Mod_init_133 : decode b_Mod_init 133 = .ok (.bipush 6, 2) := by decide +kernel
theorem d_Mod_init_135 : decode b_Mod_init 135 = .ok (.newarray .int, 2) := by decide +kernel
theorem d_Mod_init_137 : decode b_Mod_init 137 = .ok (.putfield 59, 3) := by decide +kernel
theorem d_Mod_init_140 : decode b_Mod_init 140 = .ok (.iconst 0, 1) := by decide +kernel
theorem d_Mod_init_141 : decode b_Mod_init 141 = .ok (.istore_n 1, 1) := by decide +kernel
theorem d_Mod_init_142 : decode b_Mod_init 142 = .ok (.iload_n 1, 1) := by decide +kernel
theorem d_Mod_init_143 : decode b_Mod_init 143 = .ok (.bipush 64, 2) := by decide +kernel
theorem d_Mod_init_145 : decode b_Mod_init 145 = .ok (.if_icmp .ge 16, 3) := by decide +kernel
theorem d_Mod_init_148 : decode b_Mod_init 148 = .ok (.aload_n 0, 1) := by decide +kernel
theorem d_Mod_init_149 : decode b_Mod_init 149 = .ok (.getfield 7, 3) := by decide +kernel
theorem d_Mod_init_152 : decode b_Mod_init 152 = .ok (.iload_n 1, 1) := by decide +kernel
theorem d_Mod_init_153 : decode b_Mod_init 153 = .ok (.iconst (-1), 1) := by decide +kernel
theorem d_Mod_init_154 : decode b_Mod_init 154 = .ok (.iastore, 1) := by decide +kernel
theorem d_Mod_init_155 : decode b_Mod_init 155 = .ok (.iinc 1 1, 3) := by decide +kernel
theorem d_Mod_init_158 : decode b_Mod_init 158 = .ok (.goto (-16), 3) := by decide +kernel
theorem d_Mod_init_161 : decode b_Mod_init 161 = .ok (.iconst 0, 1) := by decide +kernel
theorem d_Mod_init_162 : decode b_Mod_init 162 = .ok (.istore_n 1, 1) := by decide +kernel
theorem d_Mod_init_163 : decode b_Mod_init 163 = .ok (.iload_n 1, 1) := by decide +kernel
theorem d_Mod_init_164 : decode b_Mod_init 164 = .ok (.bipush 6, 2) := by decide +kernel
theorem d_Mod_init_166 : decode b_Mod_init 166 = .ok (.if_icmp .ge 18, 3) := by decide +kernel
theorem d_Mod_init_169 : decode b_Mod_init 169 = .ok (.aload_n 0, 1) := by decide +kernel
theorem d_Mod_init_170 : decode b_Mod_init 170 = .ok (.getfield 22, 3) := by decide +kernel
theorem d_Mod_init_173 : decode b_Mod_init 173 = .ok (.iload_n 1, 1) := by decide +kernel
theorem d_Mod_init_174 : decode b_Mod_init 174 = .ok (.ldc2_w 62, 3) := by decide +kernel
theorem d_Mod_init_177 : decode b_Mod_init 177 = .ok (.lastore, 1) := by decide +kernel
theorem d_Mod_init_178 : decode b_Mod_init 178 = .ok (.iinc 1 1, 3) := by decide +kernel
theorem d_Mod_init_181 : decode b_Mod_init 181 = .ok (.goto (-18), 3) := by decide +kernel
theorem d_Mod_init_184 : decode b_Mod_init 184 = .ok (.return_, 1) := by decide +kernel
theorem d_Mod_create_0 : decode b_Mod_create 0 = .ok (.aload_n 0, 1) := by decide +kernel
theorem d_Mod_create_1 : decode b_Mod_create 1 = .ok (.invokevirtual 118, 3) := by decide +kernel
theorem d_Mod_create_4 : decode b_Mod_create 4 = .ok (.istore_n 3, 1) := by decide +kernel
theorem d_Mod_create_5 : decode b_Mod_create 5 = .ok (.iload_n 3, 1) := by decide +kernel
theorem d_Mod_create_6 : decode b_Mod_create 6 = .ok (.ifCond .ge 14, 3) := by decide +kernel
theorem d_Mod_create_9 : decode b_Mod_create 9 = .ok (.aload_n 0, 1) := by decide +kernel
theorem d_Mod_create_10 : decode b_Mod_create 10 = .ok (.invokevirtual 121, 3) := by decide +kernel
theorem d_Mod_create_13 : decode b_Mod_create 13 = .ok (.istore 4, 2) := by decide +kernel
theorem d_Mod_create_15 : decode b_Mod_create 15 = .ok (.aload_n 0, 1) := by decide +kernel
theorem d_Mod_create_16 : decode b_Mod_create 16 = .ok (.invokevirtual 118, 3) := by decide +kernel
theorem d_Mod_create_19 : decode b_Mod_create 19 = .ok (.istore_n 3, 1) := by decide +kernel
theorem d_Mod_create_20 : decode b_Mod_create 20 = .ok (.iload_n 3, 1) := by decide +kernel
theorem d_Mod_create_21 : decode b_Mod_create 21 = .ok (.ifCond .ge 5, 3) := by decide +kernel
theorem d_Mod_create_24 : decode b_Mod_create 24 = .ok (.iconst (-1), 1) := by decide +kernel
theorem d_Mod_create_25 : decode b_Mod_create 25 = .ok (.ireturn, 1) := by decide +kernel
theorem d_Mod_create_26 : decode b_Mod_create 26 = .ok (.aload_n 0, 1) := by decide +kernel
theorem d_Mod_create_27 : decode b_Mod_create 27 = .ok (.getfield 26, 3) := by decide +kernel
theorem d_Mod_create_30 : decode b_Mod_create 30 = .ok (.iload_n 3, 1) := by decide +kernel
theorem d_Mod_create_31 : decode b_Mod_create 31 = .ok (.iload_n 1, 1) := by decide +kernel
theorem d_Mod_create_32 : decode b_Mod_create 32 = .ok (.iastore, 1) := by decide +kernel
theorem d_Mod_create_33 : decode b_Mod_create 33 = .ok (.aload_n 0, 1) := by decide +kernel
theorem d_Mod_create_34 : decode b_Mod_create 34 = .ok (.getfield 29, 3) := by decide +kernel
theorem d_Mod_create_37 : decode b_Mod_create 37 = .ok (.iload_n 3, 1) := by decide +kernel
theorem d_Mod_create_38 : decode b_Mod_create 38 = .ok (.aload_n 0, 1) := by decide +kernel
theorem d_Mod_create_39 : decode b_Mod_create 39 = .ok (.getfield 92, 3) := by decide +kernel
theorem d_Mod_create_42 : decode b_Mod_create 42 = .ok (.iconst 1, 1) := by decide +kernel
theorem d_Mod_create_43 : decode b_Mod_create 43 = .ok (.if_icmp .eq 19, 3) := by decide +kernel
theorem d_Mod_create_46 : decode b_Mod_create 46 = .ok (.aload_n 0, 1) := by decide +kernel
theorem d_Mod_create_47 : decode b_Mod_create 47 = .ok (.getfield 92, 3) := by decide +kernel
theorem d_Mod_create_50 : decode b_Mod_create 50 = .ok (.iconst 2, 1) := by decide +kernel
theorem d_Mod_create_51 : decode b_Mod_create 51 = .ok (.if_icmp .ne 15, 3) := by decide +kernel
theorem d_Mod_create_54 : decode b_Mod_create 54 = .ok (.iload_n 3, 1) := by decide +kernel
theorem d_Mod_create_55 : decode b_Mod_create 55 = .ok (.aload_n 0, 1) := by decide +kernel
theorem d_Mod_create_56 : decode b_Mod_create 56 = .ok (.getfield 106, 3) := by decide +kernel
theorem d_Mod_create_59 : decode b_Mod_create 59 = .ok (.if_icmp .lt 7, 3) := by decide +kernel
theorem d_Mod_create_62 : decode b_Mod_create 62 = .ok (.iconst 2, 1) := by decide +kernel
theorem d_Mod_create_63 : decode b_Mod_create 63 = .ok (.goto 4, 3) := by decide +kernel
theorem d_Mod_create_66 : decode b_Mod_create 66 = .ok (.iconst 0, 1) := by decide +kernel
theorem d_Mod_create_67 : decode b_Mod_create 67 = .ok (.iastore, 1) := by decide +kernel
theorem d_Mod_create_68 : decode b_Mod_create 68 = .ok (.aload_n 0, 1) := by decide +kernel
theorem d_Mod_create_69 : decode b_Mod_create 69 = .ok (.getfield 32, 3) := by decide +kernel
theorem d_Mod_create_72 : decode b_Mod_create 72 = .ok (.iload_n 3, 1) := by decide +kernel
theorem d_Mod_create_73 : decode b_Mod_create 73 = .ok (.iconst 0, 1) := by decide +kernel
theorem d_Mod_create_74 : decode b_Mod_create 74 = .ok (.iastore, 1) := by decide +kernel
theorem d_Mod_create_75 : decode b_Mod_create 75 = .ok (.aload_n 0, 1) := by decide +kernel
theorem d_Mod_create_76 : decode b_Mod_create 76 = .ok (.getfield 35, 3) := by decide +kernel
theorem d_Mod_create_79 : decode b_Mod_create 79 = .ok (.iload_n 3, 1) := by decide +kernel
theorem d_Mod_create_80 : decode b_Mod_create 80 = .ok (.iconst (-1), 1) := by decide +kernel
theorem d_Mod_create_81 : decode b_Mod_create 81 = .ok (.iastore, 1) := by decide +kernel
theorem d_Mod_create_82 : decode b_Mod_create 82 = .ok (.aload_n 0, 1) := by decide +kernel
theorem d_Mod_create_83 : decode b_Mod_create 83 = .ok (.getfield 47, 3) := by decide +kernel
theorem d_Mod_create_86 : decode b_Mod_create 86 = .ok (.iload_n 3, 1) := by decide +kernel
theorem d_Mod_create_87 : decode b_Mod_create 87 = .ok (.iload_n 2, 1) := by decide +kernel
theorem d_Mod_create_88 : decode b_Mod_create 88 = .ok (.iastore, 1) := by decide +kernel
theorem d_Mod_create_89 : decode b_Mod_create 89 = .ok (.aload_n 0, 1) := by decide +kernel
theorem d_Mod_create_90 : decode b_Mod_create 90 = .ok (.getfield 50, 3) := by decide +kernel
theorem d_Mod_create_93 : decode b_Mod_create 93 = .ok (.iload_n 3, 1) := by decide +kernel
theorem d_Mod_create_94 : decode b_Mod_create 94 = .ok (.iconst 0, 1) := by decide +kernel
theorem d_Mod_create_95 : decode b_Mod_create 95 = .ok (.iastore, 1) := by decide +kernel
theorem d_Mod_create_96 : decode b_Mod_create 96 = .ok (.aload_n 0, 1) := by decide +kernel
theorem d_Mod_create_97 : decode b_Mod_create 97 = .ok (.getfield 53, 3) := by decide +kernel
theorem d_Mod_create_100 : decode b_Mod_create 100 = .ok (.iload_n 3, 1) := by decide +kernel
theorem d_Mod_create_101 : decode b_Mod_create 101 = .ok (.iconst 0, 1) := by decide +kernel
theorem d_Mod_create_102 : decode b_Mod_create 102 = .ok (.iastore, 1) := by decide +kernel
theorem d_Mod_create_103 : decode b_Mod_create 103 = .ok (.iconst 0, 1) := by decide +kernel
theorem d_Mod_create_104 : decode b_Mod_create 104 = .ok (.istore 4, 2) := by decide +kernel
theorem d_Mod_create_106 : decode b_Mod_create 106 = .ok (.iload 4, 2) := by decide +kernel
theorem d_Mod_create_108 : decode b_Mod_create 108 = .ok (.iconst 4, 1) := by decide +kernel
theorem d_Mod_create_109 : decode b_Mod_create 109 = .ok (.if_icmp .ge 23, 3) := by decide +kernel
theorem d_Mod_create_112 : decode b_Mod_create 112 = .ok (.aload_n 0, 1) := by decide +kernel
theorem d_Mod_create_113 : decode b_Mod_create 113 = .ok (.getfield 44, 3) := by decide +kernel
theorem d_Mod_create_116 : decode b_Mod_create 116 = .ok (.iload_n 3, 1) := by decide +kernel
theorem d_Mod_create_117 : decode b_Mod_create 117 = .ok (.iconst 4, 1) := by decide +kernel
theorem d_Mod_create_118 : decode b_Mod_create 118 = .ok (.imul, 1) := by decide +kernel
theorem d_Mod_create_119 : decode b_Mod_create 119 = .ok (.iload 4, 2) := by decide +kernel
theorem d_Mod_create_121 : decode b_Mod_create 121 = .ok (.iadd, 1) := by decide +kernel
theorem d_Mod_create_122 : decode b_Mod_create 122 = .ok (.ldc2_w 62, 3) := by decide +kernel
theorem d_Mod_create_125 : decode b_Mod_create 125 = .ok (.lastore, 1) := by decide +kernel
theorem d_Mod_create_126 : decode b_Mod_create 126 = .ok (.iinc 4 1, 3) := by decide +kernel
theorem d_Mod_create_129 : decode b_Mod_create 129 = .ok (.goto (-23), 3) := by decide +kernel
theorem d_Mod_create_132 : decode b_Mod_create 132 = .ok (.aload_n 0, 1) := by decide +kernel
theorem d_Mod_create_133 : decode b_Mod_create 133 = .ok (.dup, 1) := by decide +kernel
theorem d_Mod_create_134 : decode b_Mod_create 134 = .ok (.getfield 124, 3) := by decide +kernel
theorem d_Mod_create_137 : decode b_Mod_create 137 = .ok (.iconst 1, 1) := by decide +kernel
theorem d_Mod_create_138 : decode b_Mod_create 138 = .ok (.iadd, 1) := by decide +kernel
theorem d_Mod_create_139 : decode b_Mod_create 139 = .ok (.putfield 124, 3) := by decide +kernel
theorem d_Mod_create_142 : decode b_Mod_create 142 = .ok (.iload_n 3, 1) := by decide +kernel
theorem d_Mod_create_143 : decode b_Mod_create 143 = .ok (.ireturn, 1) := by decide +kernel
theorem d_Mod_unit_0 : decode b_Mod_unit 0 = .ok (.aload_n 0, 1) := by decide +kernel
theorem d_Mod_unit_1 : decode b_Mod_unit 1 = .ok (.dup, 1) := by decide +kernel
theorem d_Mod_unit_2 : decode b_Mod_unit 2 = .ok (.getfield 89, 3) := by decide +kernel
theorem d_Mod_unit_5 : decode b_Mod_unit 5 = .ok (.iconst 1, 1) := by decide +kernel
theorem d_Mod_unit_6 : decode b_Mod_unit 6 = .ok (.iadd, 1) := by decide +kernel
theorem d_Mod_unit_7 : decode b_Mod_unit 7 = .ok (.putfield 89, 3) := by decide +kernel
theorem d_Mod_unit_10 : decode b_Mod_unit 10 = .ok (.iconst 0, 1) := by decide +kernel
theorem d_Mod_unit_11 : decode b_Mod_unit 11 = .ok (.istore_n 1, 1) := by decide +kernel
theorem d_Mod_unit_12 : decode b_Mod_unit 12 = .ok (.aload_n 0, 1) := by decide +kernel
theorem d_Mod_unit_13 : decode b_Mod_unit 13 = .ok (.getfield 92, 3) := by decide +kernel
theorem d_Mod_unit_16 : decode b_Mod_unit 16 = .ok (.ifCond .ne 15, 3) := by decide +kernel
theorem d_Mod_unit_19 : decode b_Mod_unit 19 = .ok (.aload_n 0, 1) := by decide +kernel
theorem d_Mod_unit_20 : decode b_Mod_unit 20 = .ok (.invokevirtual 95, 3) := by decide +kernel
theorem d_Mod_unit_23 : decode b_Mod_unit 23 = .ok (.aload_n 0, 1) := by decide +kernel
theorem d_Mod_unit_24 : decode b_Mod_unit 24 = .ok (.iconst 1, 1) := by decide +kernel
theorem d_Mod_unit_25 : decode b_Mod_unit 25 = .ok (.putfield 92, 3) := by decide +kernel
theorem d_Mod_unit_28 : decode b_Mod_unit 28 = .ok (.goto 141, 3) := by decide +kernel
theorem d_Mod_unit_31 : decode b_Mod_unit 31 = .ok (.aload_n 0, 1) := by decide +kernel
theorem d_Mod_unit_32 : decode b_Mod_unit 32 = .ok (.getfield 92, 3) := by decide +kernel
theorem d_Mod_unit_35 : decode b_Mod_unit 35 = .ok (.iconst 1, 1) := by decide +kernel
theorem d_Mod_unit_36 : decode b_Mod_unit 36 = .ok (.if_icmp .ne 48, 3) := by decide +kernel
theorem d_Mod_unit_39 : decode b_Mod_unit 39 = .ok (.aload_n 0, 1) := by decide +kernel
theorem d_Mod_unit_40 : decode b_Mod_unit 40 = .ok (.invokevirtual 98, 3) := by decide +kernel
theorem d_Mod_unit_43 : decode b_Mod_unit 43 = .ok (.istore_n 2, 1) := by decide +kernel
theorem d_Mod_unit_44 : decode b_Mod_unit 44 = .ok (.iload_n 2, 1) := by decide +kernel
theorem d_Mod_unit_45 : decode b_Mod_unit 45 = .ok (.ifCond .lt 11, 3) := by decide +kernel
theorem d_Mod_unit_48 : decode b_Mod_unit 48 = .ok (.aload_n 0, 1) := by decide +kernel
theorem d_Mod_unit_49 : decode b_Mod_unit 49 = .ok (.iload_n 2, 1) := by decide +kernel
theorem d_Mod_unit_50 : decode b_Mod_unit 50 = .ok (.invokevirtual 102, 3) := by decide +kernel
theorem d_Mod_unit_53 : decode b_Mod_unit 53 = .ok (.goto 7, 3) := by decide +kernel
theorem d_Mod_unit_56 : decode b_Mod_unit 56 = .ok (.aload_n 0, 1) := by decide +kernel
theorem d_Mod_unit_57 : decode b_Mod_unit 57 = .ok (.invokevirtual 95, 3) := by decide +kernel
theorem d_Mod_unit_60 : decode b_Mod_unit 60 = .ok (.iload_n 2, 1) := by decide +kernel
theorem d_Mod_unit_61 : decode b_Mod_unit 61 = .ok (.ifCond .ge 20, 3) := by decide +kernel
theorem d_Mod_unit_64 : decode b_Mod_unit 64 = .ok (.aload_n 0, 1) := by decide +kernel
theorem d_Mod_unit_65 : decode b_Mod_unit 65 = .ok (.invokevirtual 98, 3) := by decide +kernel
theorem d_Mod_unit_68 : decode b_Mod_unit 68 = .ok (.ifCond .ge 13, 3) := by decide +kernel
theorem d_Mod_unit_71 : decode b_Mod_unit 71 = .ok (.aload_n 0, 1) := by decide +kernel
theorem d_Mod_unit_72 : decode b_Mod_unit 72 = .ok (.iconst 2, 1) := by decide +kernel
theorem d_Mod_unit_73 : decode b_Mod_unit 73 = .ok (.putfield 92, 3) := by decide +kernel
theorem d_Mod_unit_76 : decode b_Mod_unit 76 = .ok (.aload_n 0, 1) := by decide +kernel
theorem d_Mod_unit_77 : decode b_Mod_unit 77 = .ok (.iconst 0, 1) := by decide +kernel
theorem d_Mod_unit_78 : decode b_Mod_unit 78 = .ok (.putfield 106, 3) := by decide +kernel
theorem d_Mod_unit_81 : decode b_Mod_unit 81 = .ok (.goto 88, 3) := by decide +kernel
theorem d_Mod_unit_84 : decode b_Mod_unit 84 = .ok (.aload_n 0, 1) := by decide +kernel
theorem d_Mod_unit_85 : decode b_Mod_unit 85 = .ok (.getfield 26, 3) := by decide +kernel
theorem d_Mod_unit_88 : decode b_Mod_unit 88 = .ok (.aload_n 0, 1) := by decide +kernel
theorem d_Mod_unit_89 : decode b_Mod_unit 89 = .ok (.getfield 106, 3) := by decide +kernel
theorem d_Mod_unit_92 : decode b_Mod_unit 92 = .ok (.iaload, 1) := by decide +kernel
theorem d_Mod_unit_93 : decode b_Mod_unit 93 = .ok (.ifCond .eq 37, 3) := by decide +kernel
theorem d_Mod_unit_96 : decode b_Mod_unit 96 = .ok (.aload_n 0, 1) := by decide +kernel
theorem d_Mod_unit_97 : decode b_Mod_unit 97 = .ok (.getfield 29, 3) := by decide +kernel
theorem d_Mod_unit_100 : decode b_Mod_unit 100 = .ok (.aload_n 0, 1) := by decide +kernel
theorem d_Mod_unit_101 : decode b_Mod_unit 101 = .ok (.getfield 106, 3) := by decide +kernel
theorem d_Mod_unit_104 : decode b_Mod_unit 104 = .ok (.iaload, 1) := by decide +kernel
theorem d_Mod_unit_105 : decode b_Mod_unit 105 = .ok (.ifCond .ne 25, 3) := by decide +kernel
theorem d_Mod_unit_108 : decode b_Mod_unit 108 = .ok (.aload_n 0, 1) := by decide +kernel
theorem d_Mod_unit_109 : decode b_Mod_unit 109 = .ok (.getfield 26, 3) := by decide +kernel
theorem d_Mod_unit_112 : decode b_Mod_unit 112 = .ok (.aload_n 0, 1) := by decide +kernel
theorem d_Mod_unit_113 : decode b_Mod_unit 113 = .ok (.getfield 106, 3) := by decide +kernel
theorem d_Mod_unit_116 : decode b_Mod_unit 116 = .ok (.iconst 0, 1) := by decide +kernel
theorem d_Mod_unit_117 : decode b_Mod_unit 117 = .ok (.iastore, 1) := by decide +kernel
theorem d_Mod_unit_118 : decode b_Mod_unit 118 = .ok (.aload_n 0, 1) := by decide +kernel
theorem d_Mod_unit_119 : decode b_Mod_unit 119 = .ok (.dup, 1) := by decide +kernel
theorem d_Mod_unit_120 : decode b_Mod_unit 120 = .ok (.getfield 109, 3) := by decide +kernel
theorem d_Mod_unit_123 : decode b_Mod_unit 123 = .ok (.iconst 1, 1) := by decide +kernel
theorem d_Mod_unit_124 : decode b_Mod_unit 124 = .ok (.iadd, 1) := by decide +kernel
theorem d_Mod_unit_125 : decode b_Mod_unit 125 = .ok (.putfield 109, 3) := by decide +kernel
theorem d_Mod_unit_128 : decode b_Mod_unit 128 = .ok (.iconst 1, 1) := by decide +kernel
theorem d_Mod_unit_129 : decode b_Mod_unit 129 = .ok (.istore_n 1, 1) := by decide +kernel
theorem d_Mod_unit_130 : decode b_Mod_unit 130 = .ok (.aload_n 0, 1) := by decide +kernel
theorem d_Mod_unit_131 : decode b_Mod_unit 131 = .ok (.getfield 29, 3) := by decide +kernel
theorem d_Mod_unit_134 : decode b_Mod_unit 134 = .ok (.aload_n 0, 1) := by decide +kernel
theorem d_Mod_unit_135 : decode b_Mod_unit 135 = .ok (.getfield 106, 3) := by decide +kernel
theorem d_Mod_unit_138 : decode b_Mod_unit 138 = .ok (.iconst 0, 1) := by decide +kernel
theorem d_Mod_unit_139 : decode b_Mod_unit 139 = .ok (.iastore, 1) := by decide +kernel
theorem d_Mod_unit_140 : decode b_Mod_unit 140 = .ok (.aload_n 0, 1) := by decide +kernel
theorem d_Mod_unit_141 : decode b_Mod_unit 141 = .ok (.dup, 1) := by decide +kernel
theorem d_Mod_unit_142 : decode b_Mod_unit 142 = .ok (.getfield 106, 3) := by decide +kernel
theorem d_Mod_unit_145 : decode b_Mod_unit 145 = .ok (.iconst 1, 1) := by decide +kernel
theorem d_Mod_unit_146 : decode b_Mod_unit 146 = .ok (.iadd, 1) := by decide +kernel
theorem d_Mod_unit_147 : decode b_Mod_unit 147 = .ok (.putfield 106, 3) := by decide +kernel
theorem d_Mod_unit_150 : decode b_Mod_unit 150 = .ok (.aload_n 0, 1) := by decide +kernel
theorem d_Mod_unit_151 : decode b_Mod_unit 151 = .ok (.getfield 106, 3) := by decide +kernel
theorem d_Mod_unit_154 : decode b_Mod_unit 154 = .ok (.bipush 16, 2) := by decide +kernel
theorem d_Mod_unit_156 : decode b_Mod_unit 156 = .ok (.if_icmp .ne 13, 3) := by decide +kernel
theorem d_Mod_unit_159 : decode b_Mod_unit 159 = .ok (.aload_n 0, 1) := by decide +kernel
theorem d_Mod_unit_160 : decode b_Mod_unit 160 = .ok (.iconst 0, 1) := by decide +kernel
theorem d_Mod_unit_161 : decode b_Mod_unit 161 = .ok (.putfield 106, 3) := by decide +kernel
theorem d_Mod_unit_164 : decode b_Mod_unit 164 = .ok (.aload_n 0, 1) := by decide +kernel
theorem d_Mod_unit_165 : decode b_Mod_unit 165 = .ok (.iconst 0, 1) := by decide +kernel
theorem d_Mod_unit_166 : decode b_Mod_unit 166 = .ok (.putfield 92, 3) := by decide +kernel
theorem d_Mod_unit_169 : decode b_Mod_unit 169 = .ok (.iload_n 1, 1) := by decide +kernel
theorem d_Mod_unit_170 : decode b_Mod_unit 170 = .ok (.ireturn, 1) := by decide +kernel
theorem d_Mod_setting_0 : decode b_Mod_setting 0 = .ok (.lload_n 2, 1) := by decide +kernel
theorem d_Mod_setting_1 : decode b_Mod_setting 1 = .ok (.ldc2_w 62, 3) := by decide +kernel
theorem d_Mod_setting_4 : decode b_Mod_setting 4 = .ok (.lcmp, 1) := by decide +kernel
theorem d_Mod_setting_5 : decode b_Mod_setting 5 = .ok (.ifCond .ne 9, 3) := by decide +kernel
theorem d_Mod_setting_8 : decode b_Mod_setting 8 = .ok (.aload_n 0, 1) := by decide +kernel
theorem d_Mod_setting_9 : decode b_Mod_setting 9 = .ok (.iconst 3, 1) := by decide +kernel
theorem d_Mod_setting_10 : decode b_Mod_setting 10 = .ok (.putfield 141, 3) := by decide +kernel
theorem d_Mod_setting_13 : decode b_Mod_setting 13 = .ok (.return_, 1) := by decide +kernel
theorem d_Mod_setting_14 : decode b_Mod_setting 14 = .ok (.iload_n 1, 1) := by decide +kernel
theorem d_Mod_setting_15 : decode b_Mod_setting 15 = .ok (.istore 6, 2) := by decide +kernel
theorem d_Mod_setting_17 : decode b_Mod_setting 17 = .ok (.iconst 1, 1) := by decide +kernel
theorem d_Mod_setting_18 : decode b_Mod_setting 18 = .ok (.istore 7, 2) := by decide +kernel
theorem d_Mod_setting_20 : decode b_Mod_setting 20 = .ok (.aload_n 0, 1) := by decide +kernel
theorem d_Mod_setting_21 : decode b_Mod_setting 21 = .ok (.iload 6, 2) := by decide +kernel
theorem d_Mod_setting_23 : decode b_Mod_setting 23 = .ok (.lload_n 2, 1) := by decide +kernel
theorem d_Mod_setting_24 : decode b_Mod_setting 24 = .ok (.invokevirtual 131, 3) := by decide +kernel
theorem d_Mod_setting_27 : decode b_Mod_setting 27 = .ok (.ifCond .ge 37, 3) := by decide +kernel
theorem d_Mod_setting_30 : decode b_Mod_setting 30 = .ok (.aload_n 0, 1) := by decide +kernel
theorem d_Mod_setting_31 : decode b_Mod_setting 31 = .ok (.iload 6, 2) := by decide +kernel
theorem d_Mod_setting_33 : decode b_Mod_setting 33 = .ok (.lconst 1, 1) := by decide +kernel
theorem d_Mod_setting_34 : decode b_Mod_setting 34 = .ok (.invokevirtual 138, 3) := by decide +kernel
theorem d_Mod_setting_37 : decode b_Mod_setting 37 = .ok (.ifCond .lt 27, 3) := by decide +kernel
theorem d_Mod_setting_40 : decode b_Mod_setting 40 = .ok (.aload_n 0, 1) := by decide +kernel
theorem d_Mod_setting_41 : decode b_Mod_setting 41 = .ok (.iload 6, 2) := by decide +kernel
theorem d_Mod_setting_43 : decode b_Mod_setting 43 = .ok (.lconst 1, 1) := by decide +kernel
theorem d_Mod_setting_44 : decode b_Mod_setting 44 = .ok (.invokevirtual 138, 3) := by decide +kernel
theorem d_Mod_setting_47 : decode b_Mod_setting 47 = .ok (.istore 6, 2) := by decide +kernel
theorem d_Mod_setting_49 : decode b_Mod_setting 49 = .ok (.iinc 7 1, 3) := by decide +kernel
theorem d_Mod_setting_52 : decode b_Mod_setting 52 = .ok (.iload 7, 2) := by decide +kernel
theorem d_Mod_setting_54 : decode b_Mod_setting 54 = .ok (.iconst 5, 1) := by decide +kernel
theorem d_Mod_setting_55 : decode b_Mod_setting 55 = .ok (.if_icmp .le (-35), 3) := by decide +kernel
theorem d_Mod_setting_58 : decode b_Mod_setting 58 = .ok (.aload_n 0, 1) := by decide +kernel
theorem d_Mod_setting_59 : decode b_Mod_setting 59 = .ok (.iconst 2, 1) := by decide +kernel
theorem d_Mod_setting_60 : decode b_Mod_setting 60 = .ok (.putfield 141, 3) := by decide +kernel
theorem d_Mod_setting_63 : decode b_Mod_setting 63 = .ok (.return_, 1) := by decide +kernel
theorem d_Mod_setting_64 : decode b_Mod_setting 64 = .ok (.aload_n 0, 1) := by decide +kernel
theorem d_Mod_setting_65 : decode b_Mod_setting 65 = .ok (.iload 6, 2) := by decide +kernel
theorem d_Mod_setting_67 : decode b_Mod_setting 67 = .ok (.lload_n 2, 1) := by decide +kernel
theorem d_Mod_setting_68 : decode b_Mod_setting 68 = .ok (.invokevirtual 131, 3) := by decide +kernel
theorem d_Mod_setting_71 : decode b_Mod_setting 71 = .ok (.istore 8, 2) := by decide +kernel
theorem d_Mod_setting_73 : decode b_Mod_setting 73 = .ok (.lload 4, 2) := by decide +kernel
theorem d_Mod_setting_75 : decode b_Mod_setting 75 = .ok (.ldc2_w 62, 3) := by decide +kernel
theorem d_Mod_setting_78 : decode b_Mod_setting 78 = .ok (.lcmp, 1) := by decide +kernel
theorem d_Mod_setting_79 : decode b_Mod_setting 79 = .ok (.ifCond .ne 101, 3) := by decide +kernel
theorem d_Mod_setting_82 : decode b_Mod_setting 82 = .ok (.iload 8, 2) := by decide +kernel
theorem d_Mod_setting_84 : decode b_Mod_setting 84 = .ok (.ifCond .ge 4, 3) := by decide +kernel
theorem d_Mod_setting_87 : decode b_Mod_setting 87 = .ok (.return_, 1) := by decide +kernel
theorem d_Mod_setting_88 : decode b_Mod_setting 88 = .ok (.aload_n 0, 1) := by decide +kernel
theorem d_Mod_setting_89 : decode b_Mod_setting 89 = .ok (.getfield 32, 3) := by decide +kernel
theorem d_Mod_setting_92 : decode b_Mod_setting 92 = .ok (.iload 6, 2) := by decide +kernel
theorem d_Mod_setting_94 : decode b_Mod_setting 94 = .ok (.dup2, 1) := by decide +kernel
theorem d_Mod_setting_95 : decode b_Mod_setting 95 = .ok (.iaload, 1) := by decide +kernel
theorem d_Mod_setting_96 : decode b_Mod_setting 96 = .ok (.iconst 1, 1) := by decide +kernel
theorem d_Mod_setting_97 : decode b_Mod_setting 97 = .ok (.isub, 1) := by decide +kernel
theorem d_Mod_setting_98 : decode b_Mod_setting 98 = .ok (.iastore, 1) := by decide +kernel
theorem d_Mod_setting_99 : decode b_Mod_setting 99 = .ok (.iload 8, 2) := by decide +kernel
theorem d_Mod_setting_101 : decode b_Mod_setting 101 = .ok (.istore 9, 2) := by decide +kernel
theorem d_Mod_setting_103 : decode b_Mod_setting 103 = .ok (.iload 9, 2) := by decide +kernel
theorem d_Mod_setting_105 : decode b_Mod_setting 105 = .ok (.aload_n 0, 1) := by decide +kernel
theorem d_Mod_setting_106 : decode b_Mod_setting 106 = .ok (.getfield 32, 3) := by decide +kernel
theorem d_Mod_setting_109 : decode b_Mod_setting 109 = .ok (.iload 6, 2) := by decide +kernel
theorem d_Mod_setting_111 : decode b_Mod_setting 111 = .ok (.iaload, 1) := by decide +kernel
theorem d_Mod_setting_112 : decode b_Mod_setting 112 = .ok (.if_icmp .ge 65, 3) := by decide +kernel
theorem d_Mod_setting_115 : decode b_Mod_setting 115 = .ok (.aload_n 0, 1) := by decide +kernel
theorem d_Mod_setting_116 : decode b_Mod_setting 116 = .ok (.getfield 38, 3) := by decide +kernel
theorem d_Mod_setting_119 : decode b_Mod_setting 119 = .ok (.iload 6, 2) := by decide +kernel
theorem d_Mod_setting_121 : decode b_Mod_setting 121 = .ok (.bipush 6, 2) := by decide +kernel
theorem d_Mod_setting_123 : decode b_Mod_setting 123 = .ok (.imul, 1) := by decide +kernel
theorem d_Mod_setting_124 : decode b_Mod_setting 124 = .ok (.iload 9, 2) := by decide +kernel
theorem d_Mod_setting_126 : decode b_Mod_setting 126 = .ok (.iadd, 1) := by decide +kernel
theorem d_Mod_setting_127 : decode b_Mod_setting 127 = .ok (.aload_n 0, 1) := by decide +kernel
theorem d_Mod_setting_128 : decode b_Mod_setting 128 = .ok (.getfield 38, 3) := by decide +kernel
theorem d_Mod_setting_131 : decode b_Mod_setting 131 = .ok (.iload 6, 2) := by decide +kernel
theorem d_Mod_setting_133 : decode b_Mod_setting 133 = .ok (.bipush 6, 2) := by decide +kernel
theorem d_Mod_setting_135 : decode b_Mod_setting 135 = .ok (.imul, 1) := by decide +kernel
theorem d_Mod_setting_136 : decode b_Mod_setting 136 = .ok (.iload 9, 2) := by decide +kernel
theorem d_Mod_setting_138 : decode b_Mod_setting 138 = .ok (.iadd, 1) := by decide +kernel
theorem d_Mod_setting_139 : decode b_Mod_setting 139 = .ok (.iconst 1, 1) := by decide +kernel
theorem d_Mod_setting_140 : decode b_Mod_setting 140 = .ok (.iadd, 1) := by decide +kernel
theorem d_Mod_setting_141 : decode b_Mod_setting 141 = .ok (.laload, 1) := by decide +kernel
theorem d_Mod_setting_142 : decode b_Mod_setting 142 = .ok (.lastore, 1) := by decide +kernel
theorem d_Mod_setting_143 : decode b_Mod_setting 143 = .ok (.aload_n 0, 1) := by decide +kernel
theorem d_Mod_setting_144 : decode b_Mod_setting 144 = .ok (.getfield 41, 3) := by decide +kernel
theorem d_Mod_setting_147 : decode b_Mod_setting 147 = .ok (.iload 6, 2) := by decide +kernel
theorem d_Mod_setting_149 : decode b_Mod_setting 149 = .ok (.bipush 6, 2) := by decide +kernel
theorem d_Mod_setting_151 : decode b_Mod_setting 151 = .ok (.imul, 1) := by decide +kernel
theorem d_Mod_setting_152 : decode b_Mod_setting 152 = .ok (.iload 9, 2) := by decide +kernel
theorem d_Mod_setting_154 : decode b_Mod_setting 154 = .ok (.iadd, 1) := by decide +kernel
theorem d_Mod_setting_155 : decode b_Mod_setting 155 = .ok (.aload_n 0, 1) := by decide +kernel
theorem d_Mod_setting_156 : decode b_Mod_setting 156 = .ok (.getfield 41, 3) := by decide +kernel
theorem d_Mod_setting_159 : decode b_Mod_setting 159 = .ok (.iload 6, 2) := by decide +kernel
theorem d_Mod_setting_161 : decode b_Mod_setting 161 = .ok (.bipush 6, 2) := by decide +kernel
theorem d_Mod_setting_163 : decode b_Mod_setting 163 = .ok (.imul, 1) := by decide +kernel
theorem d_Mod_setting_164 : decode b_Mod_setting 164 = .ok (.iload 9, 2) := by decide +kernel
theorem d_Mod_setting_166 : decode b_Mod_setting 166 = .ok (.iadd, 1) := by decide +kernel
theorem d_Mod_setting_167 : decode b_Mod_setting 167 = .ok (.iconst 1, 1) := by decide +kernel
theorem d_Mod_setting_168 : decode b_Mod_setting 168 = .ok (.iadd, 1) := by decide +kernel
theorem d_Mod_setting_169 : decode b_Mod_setting 169 = .ok (.laload, 1) := by decide +kernel
theorem d_Mod_setting_170 : decode b_Mod_setting 170 = .ok (.lastore, 1) := by decide +kernel
theorem d_Mod_setting_171 : decode b_Mod_setting 171 = .ok (.iinc 9 1, 3) := by decide +kernel
theorem d_Mod_setting_174 : decode b_Mod_setting 174 = .ok (.goto (-71), 3) := by decide +kernel
theorem d_Mod_setting_177 : decode b_Mod_setting 177 = .ok (.goto 94, 3) := by decide +kernel
theorem d_Mod_setting_180 : decode b_Mod_setting 180 = .ok (.iload 8, 2) := by decide +kernel
theorem d_Mod_setting_182 : decode b_Mod_setting 182 = .ok (.ifCond .lt 21, 3) := by decide +kernel
theorem d_Mod_setting_185 : decode b_Mod_setting 185 = .ok (.aload_n 0, 1) := by decide +kernel
theorem d_Mod_setting_186 : decode b_Mod_setting 186 = .ok (.getfield 41, 3) := by decide +kernel
theorem d_Mod_setting_189 : decode b_Mod_setting 189 = .ok (.iload 6, 2) := by decide +kernel
theorem d_Mod_setting_191 : decode b_Mod_setting 191 = .ok (.bipush 6, 2) := by decide +kernel
theorem d_Mod_setting_193 : decode b_Mod_setting 193 = .ok (.imul, 1) := by decide +kernel
theorem d_Mod_setting_194 : decode b_Mod_setting 194 = .ok (.iload 8, 2) := by decide +kernel
theorem d_Mod_setting_196 : decode b_Mod_setting 196 = .ok (.iadd, 1) := by decide +kernel
theorem d_Mod_setting_197 : decode b_Mod_setting 197 = .ok (.lload 4, 2) := by decide +kernel
theorem d_Mod_setting_199 : decode b_Mod_setting 199 = .ok (.lastore, 1) := by decide +kernel
theorem d_Mod_setting_200 : decode b_Mod_setting 200 = .ok (.goto 71, 3) := by decide +kernel
theorem d_Mod_setting_203 : decode b_Mod_setting 203 = .ok (.aload_n 0, 1) := by decide +kernel
theorem d_Mod_setting_204 : decode b_Mod_setting 204 = .ok (.getfield 32, 3) := by decide +kernel
theorem d_Mod_setting_207 : decode b_Mod_setting 207 = .ok (.iload 6, 2) := by decide +kernel
theorem d_Mod_setting_209 : decode b_Mod_setting 209 = .ok (.iaload, 1) := by decide +kernel
theorem d_Mod_setting_210 : decode b_Mod_setting 210 = .ok (.bipush 6, 2) := by decide +kernel
theorem d_Mod_setting_212 : decode b_Mod_setting 212 = .ok (.if_icmp .ne 9, 3) := by decide +kernel
theorem d_Mod_setting_215 : decode b_Mod_setting 215 = .ok (.aload_n 0, 1) := by decide +kernel
theorem d_Mod_setting_216 : decode b_Mod_setting 216 = .ok (.iconst 2, 1) := by decide +kernel
theorem d_Mod_setting_217 : decode b_Mod_setting 217 = .ok (.putfield 141, 3) := by decide +kernel
theorem d_Mod_setting_220 : decode b_Mod_setting 220 = .ok (.return_, 1) := by decide +kernel
theorem d_Mod_setting_221 : decode b_Mod_setting 221 = .ok (.aload_n 0, 1) := by decide +kernel
theorem d_Mod_setting_222 : decode b_Mod_setting 222 = .ok (.getfield 38, 3) := by decide +kernel
theorem d_Mod_setting_225 : decode b_Mod_setting 225 = .ok (.iload 6, 2) := by decide +kernel
theorem d_Mod_setting_227 : decode b_Mod_setting 227 = .ok (.bipush 6, 2) := by decide +kernel
theorem d_Mod_setting_229 : decode b_Mod_setting 229 = .ok (.imul, 1) := by decide +kernel
theorem d_Mod_setting_230 : decode b_Mod_setting 230 = .ok (.aload_n 0, 1) := by decide +kernel
theorem d_Mod_setting_231 : decode b_Mod_setting 231 = .ok (.getfield 32, 3) := by decide +kernel
theorem d_Mod_setting_234 : decode b_Mod_setting 234 = .ok (.iload 6, 2) := by decide +kernel
theorem d_Mod_setting_236 : decode b_Mod_setting 236 = .ok (.iaload, 1) := by decide +kernel
theorem d_Mod_setting_237 : decode b_Mod_setting 237 = .ok (.iadd, 1) := by decide +kernel
theorem d_Mod_setting_238 : decode b_Mod_setting 238 = .ok (.lload_n 2, 1) := by decide +kernel
theorem d_Mod_setting_239 : decode b_Mod_setting 239 = .ok (.lastore, 1) := by decide +kernel
theorem d_Mod_setting_240 : decode b_Mod_setting 240 = .ok (.aload_n 0, 1) := by decide +kernel
theorem d_Mod_setting_241 : decode b_Mod_setting 241 = .ok (.getfield 41, 3) := by decide +kernel
theorem d_Mod_setting_244 : decode b_Mod_setting 244 = .ok (.iload 6, 2) := by decide +kernel
theorem d_Mod_setting_246 : decode b_Mod_setting 246 = .ok (.bipush 6, 2) := by decide +kernel
theorem d_Mod_setting_248 : decode b_Mod_setting 248 = .ok (.imul, 1) := by decide +kernel
theorem d_Mod_setting_249 : decode b_Mod_setting 249 = .ok (.aload_n 0, 1) := by decide +kernel
theorem d_Mod_setting_250 : decode b_Mod_setting 250 = .ok (.getfield 32, 3) := by decide +kernel
theorem d_Mod_setting_253 : decode b_Mod_setting 253 = .ok (.iload 6, 2) := by decide +kernel
theorem d_Mod_setting_255 : decode b_Mod_setting 255 = .ok (.iaload, 1) := by decide +kernel
theorem d_Mod_setting_256 : decode b_Mod_setting 256 = .ok (.iadd, 1) := by decide +kernel
theorem d_Mod_setting_257 : decode b_Mod_setting 257 = .ok (.lload 4, 2) := by decide +kernel
theorem d_Mod_setting_259 : decode b_Mod_setting 259 = .ok (.lastore, 1) := by decide +kernel
theorem d_Mod_setting_260 : decode b_Mod_setting 260 = .ok (.aload_n 0, 1) := by decide +kernel
theorem d_Mod_setting_261 : decode b_Mod_setting 261 = .ok (.getfield 32, 3) := by decide +kernel
theorem d_Mod_setting_264 : decode b_Mod_setting 264 = .ok (.iload 6, 2) := by decide +kernel
theorem d_Mod_setting_266 : decode b_Mod_setting 266 = .ok (.dup2, 1) := by decide +kernel
theorem d_Mod_setting_267 : decode b_Mod_setting 267 = .ok (.iaload, 1) := by decide +kernel
theorem d_Mod_setting_268 : decode b_Mod_setting 268 = .ok (.iconst 1, 1) := by decide +kernel
theorem d_Mod_setting_269 : decode b_Mod_setting 269 = .ok (.iadd, 1) := by decide +kernel
theorem d_Mod_setting_270 : decode b_Mod_setting 270 = .ok (.iastore, 1) := by decide +kernel
theorem d_Mod_setting_271 : decode b_Mod_setting 271 = .ok (.aload_n 0, 1) := by decide +kernel
theorem d_Mod_setting_272 : decode b_Mod_setting 272 = .ok (.iload 6, 2) := by decide +kernel
theorem d_Mod_setting_274 : decode b_Mod_setting 274 = .ok (.invokevirtual 144, 3) := by decide +kernel
theorem d_Mod_setting_277 : decode b_Mod_setting 277 = .ok (.return_, 1) := by decide +kernel
theorem d_Mod_resume_0 : decode b_Mod_resume 0 = .ok (.aload_n 0, 1) := by decide +kernel
theorem d_Mod_resume_1 : decode b_Mod_resume 1 = .ok (.aload_n 0, 1) := by decide +kernel
theorem d_Mod_resume_2 : decode b_Mod_resume 2 = .ok (.iload_n 1, 1) := by decide +kernel
theorem d_Mod_resume_3 : decode b_Mod_resume 3 = .ok (.invokevirtual 78, 3) := by decide +kernel
theorem d_Mod_resume_6 : decode b_Mod_resume 6 = .ok (.ifCond .ne 19, 3) := by decide +kernel
theorem d_Mod_resume_9 : decode b_Mod_resume 9 = .ok (.aload_n 0, 1) := by decide +kernel
theorem d_Mod_resume_10 : decode b_Mod_resume 10 = .ok (.iload_n 2, 1) := by decide +kernel
theorem d_Mod_resume_11 : decode b_Mod_resume 11 = .ok (.invokevirtual 78, 3) := by decide +kernel
theorem d_Mod_resume_14 : decode b_Mod_resume 14 = .ok (.ifCond .ne 11, 3) := by decide +kernel
theorem d_Mod_resume_17 : decode b_Mod_resume 17 = .ok (.aload_n 0, 1) := by decide +kernel
theorem d_Mod_resume_18 : decode b_Mod_resume 18 = .ok (.iload_n 3, 1) := by decide +kernel
theorem d_Mod_resume_19 : decode b_Mod_resume 19 = .ok (.invokevirtual 78, 3) := by decide +kernel
theorem d_Mod_resume_22 : decode b_Mod_resume 22 = .ok (.ifCond .eq 7, 3) := by decide +kernel
theorem d_Mod_resume_25 : decode b_Mod_resume 25 = .ok (.iconst 1, 1) := by decide +kernel
theorem d_Mod_resume_26 : decode b_Mod_resume 26 = .ok (.goto 4, 3) := by decide +kernel
theorem d_Mod_resume_29 : decode b_Mod_resume 29 = .ok (.iconst 0, 1) := by decide +kernel
theorem d_Mod_resume_30 : decode b_Mod_resume 30 = .ok (.putfield 64, 3) := by decide +kernel
theorem d_Mod_resume_33 : decode b_Mod_resume 33 = .ok (.aload_n 0, 1) := by decide +kernel
theorem d_Mod_resume_34 : decode b_Mod_resume 34 = .ok (.getfield 64, 3) := by decide +kernel
theorem d_Mod_resume_37 : decode b_Mod_resume 37 = .ok (.ifCond .eq 5, 3) := by decide +kernel
theorem d_Mod_resume_40 : decode b_Mod_resume 40 = .ok (.lconst 0, 1) := by decide +kernel
theorem d_Mod_resume_41 : decode b_Mod_resume 41 = .ok (.lreturn, 1) := by decide +kernel
theorem d_Mod_resume_42 : decode b_Mod_resume 42 = .ok (.aload_n 0, 1) := by decide +kernel
theorem d_Mod_resume_43 : decode b_Mod_resume 43 = .ok (.iconst 0, 1) := by decide +kernel
theorem d_Mod_resume_44 : decode b_Mod_resume 44 = .ok (.putfield 141, 3) := by decide +kernel
theorem d_Mod_resume_47 : decode b_Mod_resume 47 = .ok (.aload_n 0, 1) := by decide +kernel
theorem d_Mod_resume_48 : decode b_Mod_resume 48 = .ok (.iconst 0, 1) := by decide +kernel
theorem d_Mod_resume_49 : decode b_Mod_resume 49 = .ok (.putfield 86, 3) := by decide +kernel
theorem d_Mod_resume_52 : decode b_Mod_resume 52 = .ok (.aload_n 0, 1) := by decide +kernel
theorem d_Mod_resume_53 : decode b_Mod_resume 53 = .ok (.aload_n 0, 1) := by decide +kernel
theorem d_Mod_resume_54 : decode b_Mod_resume 54 = .ok (.getfield 22, 3) := by decide +kernel
theorem d_Mod_resume_57 : decode b_Mod_resume 57 = .ok (.iload_n 1, 1) := by decide +kernel
theorem d_Mod_resume_58 : decode b_Mod_resume 58 = .ok (.laload, 1) := by decide +kernel
theorem d_Mod_resume_59 : decode b_Mod_resume 59 = .ok (.aload_n 0, 1) := by decide +kernel
theorem d_Mod_resume_60 : decode b_Mod_resume 60 = .ok (.getfield 22, 3) := by decide +kernel
theorem d_Mod_resume_63 : decode b_Mod_resume 63 = .ok (.iload_n 2, 1) := by decide +kernel
theorem d_Mod_resume_64 : decode b_Mod_resume 64 = .ok (.laload, 1) := by decide +kernel
theorem d_Mod_resume_65 : decode b_Mod_resume 65 = .ok (.invokevirtual 173, 3) := by decide +kernel
theorem d_Mod_resume_68 : decode b_Mod_resume 68 = .ok (.iconst 0, 1) := by decide +kernel
theorem d_Mod_resume_69 : decode b_Mod_resume 69 = .ok (.istore 4, 2) := by decide +kernel
theorem d_Mod_resume_71 : decode b_Mod_resume 71 = .ok (.aload_n 0, 1) := by decide +kernel
theorem d_Mod_resume_72 : decode b_Mod_resume 72 = .ok (.getfield 141, 3) := by decide +kernel
theorem d_Mod_resume_75 : decode b_Mod_resume 75 = .ok (.ifCond .ne 36, 3) := by decide +kernel
theorem d_Mod_resume_78 : decode b_Mod_resume 78 = .ok (.aload_n 0, 1) := by decide +kernel
theorem d_Mod_resume_79 : decode b_Mod_resume 79 = .ok (.getfield 86, 3) := by decide +kernel
theorem d_Mod_resume_82 : decode b_Mod_resume 82 = .ok (.ifCond .le 29, 3) := by decide +kernel
theorem d_Mod_resume_85 : decode b_Mod_resume 85 = .ok (.iload 4, 2) := by decide +kernel
theorem d_Mod_resume_87 : decode b_Mod_resume 87 = .ok (.sipush 200, 3) := by decide +kernel
theorem d_Mod_resume_90 : decode b_Mod_resume 90 = .ok (.if_icmp .ne 11, 3) := by decide +kernel
theorem d_Mod_resume_93 : decode b_Mod_resume 93 = .ok (.aload_n 0, 1) := by decide +kernel
theorem d_Mod_resume_94 : decode b_Mod_resume 94 = .ok (.iconst 2, 1) := by decide +kernel
theorem d_Mod_resume_95 : decode b_Mod_resume 95 = .ok (.putfield 141, 3) := by decide +kernel
theorem d_Mod_resume_98 : decode b_Mod_resume 98 = .ok (.goto 7, 3) := by decide +kernel
theorem d_Mod_resume_101 : decode b_Mod_resume 101 = .ok (.aload_n 0, 1) := by decide +kernel
theorem d_Mod_resume_102 : decode b_Mod_resume 102 = .ok (.invokevirtual 191, 3) := by decide +kernel
theorem d_Mod_resume_105 : decode b_Mod_resume 105 = .ok (.iinc 4 1, 3) := by decide +kernel
theorem d_Mod_resume_108 : decode b_Mod_resume 108 = .ok (.goto (-37), 3) := by decide +kernel
theorem d_Mod_resume_111 : decode b_Mod_resume 111 = .ok (.aload_n 0, 1) := by decide +kernel
theorem d_Mod_resume_112 : decode b_Mod_resume 112 = .ok (.aload_n 0, 1) := by decide +kernel
theorem d_Mod_resume_113 : decode b_Mod_resume 113 = .ok (.getfield 141, 3) := by decide +kernel
theorem d_Mod_resume_116 : decode b_Mod_resume 116 = .ok (.putfield 64, 3) := by decide +kernel
theorem d_Mod_resume_119 : decode b_Mod_resume 119 = .ok (.iconst 0, 1) := by decide +kernel
theorem d_Mod_resume_120 : decode b_Mod_resume 120 = .ok (.istore 5, 2) := by decide +kernel
theorem d_Mod_resume_122 : decode b_Mod_resume 122 = .ok (.iload 5, 2) := by decide +kernel
theorem d_Mod_resume_124 : decode b_Mod_resume 124 = .ok (.aload_n 0, 1) := by decide +kernel
theorem d_Mod_resume_125 : decode b_Mod_resume 125 = .ok (.getfield 86, 3) := by decide +kernel
theorem d_Mod_resume_128 : decode b_Mod_resume 128 = .ok (.if_icmp .ge 22, 3) := by decide +kernel
theorem d_Mod_resume_131 : decode b_Mod_resume 131 = .ok (.aload_n 0, 1) := by decide +kernel
theorem d_Mod_resume_132 : decode b_Mod_resume 132 = .ok (.getfield 53, 3) := by decide +kernel
theorem d_Mod_resume_135 : decode b_Mod_resume 135 = .ok (.aload_n 0, 1) := by decide +kernel
theorem d_Mod_resume_136 : decode b_Mod_resume 136 = .ok (.getfield 59, 3) := by decide +kernel
theorem d_Mod_resume_139 : decode b_Mod_resume 139 = .ok (.iload 5, 2) := by decide +kernel
theorem d_Mod_resume_141 : decode b_Mod_resume 141 = .ok (.iaload, 1) := by decide +kernel
theorem d_Mod_resume_142 : decode b_Mod_resume 142 = .ok (.iconst 3, 1) := by decide +kernel
theorem d_Mod_resume_143 : decode b_Mod_resume 143 = .ok (.iastore, 1) := by decide +kernel
theorem d_Mod_resume_144 : decode b_Mod_resume 144 = .ok (.iinc 5 1, 3) := by decide +kernel
theorem d_Mod_resume_147 : decode b_Mod_resume 147 = .ok (.goto (-25), 3) := by decide +kernel
theorem d_Mod_resume_150 : decode b_Mod_resume 150 = .ok (.aload_n 0, 1) := by decide +kernel
theorem d_Mod_resume_151 : decode b_Mod_resume 151 = .ok (.iconst 0, 1) := by decide +kernel
theorem d_Mod_resume_152 : decode b_Mod_resume 152 = .ok (.putfield 86, 3) := by decide +kernel
theorem d_Mod_resume_155 : decode b_Mod_resume 155 = .ok (.aload_n 0, 1) := by decide +kernel
theorem d_Mod_resume_156 : decode b_Mod_resume 156 = .ok (.getfield 64, 3) := by decide +kernel
theorem d_Mod_resume_159 : decode b_Mod_resume 159 = .ok (.ifCond .eq 5, 3) := by decide +kernel
theorem d_Mod_resume_162 : decode b_Mod_resume 162 = .ok (.lconst 0, 1) := by decide +kernel
theorem d_Mod_resume_163 : decode b_Mod_resume 163 = .ok (.lreturn, 1) := by decide +kernel
theorem d_Mod_resume_164 : decode b_Mod_resume 164 = .ok (.aload_n 0, 1) := by decide +kernel
theorem d_Mod_resume_165 : decode b_Mod_resume 165 = .ok (.getfield 22, 3) := by decide +kernel
theorem d_Mod_resume_168 : decode b_Mod_resume 168 = .ok (.iload_n 3, 1) := by decide +kernel
theorem d_Mod_resume_169 : decode b_Mod_resume 169 = .ok (.aload_n 0, 1) := by decide +kernel
theorem d_Mod_resume_170 : decode b_Mod_resume 170 = .ok (.getfield 162, 3) := by decide +kernel
theorem d_Mod_resume_173 : decode b_Mod_resume 173 = .ok (.lastore, 1) := by decide +kernel
theorem d_Mod_resume_174 : decode b_Mod_resume 174 = .ok (.aload_n 0, 1) := by decide +kernel
theorem d_Mod_resume_175 : decode b_Mod_resume 175 = .ok (.getfield 162, 3) := by decide +kernel
theorem d_Mod_resume_178 : decode b_Mod_resume 178 = .ok (.lreturn, 1) := by decide +kernel
theorem d_Mod_step_0 : decode b_Mod_step 0 = .ok (.aload_n 0, 1) := by decide +kernel
theorem d_Mod_step_1 : decode b_Mod_step 1 = .ok (.getfield 59, 3) := by decide +kernel
theorem d_Mod_step_4 : decode b_Mod_step 4 = .ok (.aload_n 0, 1) := by decide +kernel
theorem d_Mod_step_5 : decode b_Mod_step 5 = .ok (.getfield 86, 3) := by decide +kernel
theorem d_Mod_step_8 : decode b_Mod_step 8 = .ok (.iconst 1, 1) := by decide +kernel
theorem d_Mod_step_9 : decode b_Mod_step 9 = .ok (.isub, 1) := by decide +kernel
theorem d_Mod_step_10 : decode b_Mod_step 10 = .ok (.iaload, 1) := by decide +kernel
theorem d_Mod_step_11 : decode b_Mod_step 11 = .ok (.istore_n 1, 1) := by decide +kernel
theorem d_Mod_step_12 : decode b_Mod_step 12 = .ok (.aload_n 0, 1) := by decide +kernel
theorem d_Mod_step_13 : decode b_Mod_step 13 = .ok (.getfield 47, 3) := by decide +kernel
theorem d_Mod_step_16 : decode b_Mod_step 16 = .ok (.iload_n 1, 1) := by decide +kernel
theorem d_Mod_step_17 : decode b_Mod_step 17 = .ok (.iaload, 1) := by decide +kernel
theorem d_Mod_step_18 : decode b_Mod_step 18 = .ok (.bipush 16, 2) := by decide +kernel
theorem d_Mod_step_20 : decode b_Mod_step 20 = .ok (.imul, 1) := by decide +kernel
theorem d_Mod_step_21 : decode b_Mod_step 21 = .ok (.aload_n 0, 1) := by decide +kernel
theorem d_Mod_step_22 : decode b_Mod_step 22 = .ok (.getfield 50, 3) := by decide +kernel
theorem d_Mod_step_25 : decode b_Mod_step 25 = .ok (.iload_n 1, 1) := by decide +kernel
theorem d_Mod_step_26 : decode b_Mod_step 26 = .ok (.iaload, 1) := by decide +kernel
theorem d_Mod_step_27 : decode b_Mod_step 27 = .ok (.iadd, 1) := by decide +kernel
theorem d_Mod_step_28 : decode b_Mod_step 28 = .ok (.istore_n 2, 1) := by decide +kernel
theorem d_Mod_step_29 : decode b_Mod_step 29 = .ok (.aload_n 0, 1) := by decide +kernel
theorem d_Mod_step_30 : decode b_Mod_step 30 = .ok (.getfield 50, 3) := by decide +kernel
theorem d_Mod_step_33 : decode b_Mod_step 33 = .ok (.iload_n 1, 1) := by decide +kernel
theorem d_Mod_step_34 : decode b_Mod_step 34 = .ok (.iaload, 1) := by decide +kernel
theorem d_Mod_step_35 : decode b_Mod_step 35 = .ok (.bipush 15, 2) := by decide +kernel
theorem d_Mod_step_37 : decode b_Mod_step 37 = .ok (.if_icmp .gt 12, 3) := by decide +kernel
theorem d_Mod_step_40 : decode b_Mod_step 40 = .ok (.aload_n 0, 1) := by decide +kernel
theorem d_Mod_step_41 : decode b_Mod_step 41 = .ok (.getfield 7, 3) := by decide +kernel
theorem d_Mod_step_44 : decode b_Mod_step 44 = .ok (.iload_n 2, 1) := by decide +kernel
theorem d_Mod_step_45 : decode b_Mod_step 45 = .ok (.iaload, 1) := by decide +kernel
theorem d_Mod_step_46 : decode b_Mod_step 46 = .ok (.ifCond .ge 9, 3) := by decide +kernel
theorem d_Mod_step_49 : decode b_Mod_step 49 = .ok (.aload_n 0, 1) := by decide +kernel
theorem d_Mod_step_50 : decode b_Mod_step 50 = .ok (.iconst 3, 1) := by decide +kernel
theorem d_Mod_step_51 : decode b_Mod_step 51 = .ok (.putfield 141, 3) := by decide +kernel
theorem d_Mod_step_54 : decode b_Mod_step 54 = .ok (.return_, 1) := by decide +kernel
theorem d_Mod_step_55 : decode b_Mod_step 55 = .ok (.aload_n 0, 1) := by decide +kernel
theorem d_Mod_step_56 : decode b_Mod_step 56 = .ok (.dup, 1) := by decide +kernel
theorem d_Mod_step_57 : decode b_Mod_step 57 = .ok (.getfield 170, 3) := by decide +kernel
theorem d_Mod_step_60 : decode b_Mod_step 60 = .ok (.iconst 1, 1) := by decide +kernel
theorem d_Mod_step_61 : decode b_Mod_step 61 = .ok (.iadd, 1) := by decide +kernel
theorem d_Mod_step_62 : decode b_Mod_step 62 = .ok (.putfield 170, 3) := by decide +kernel
theorem d_Mod_step_65 : decode b_Mod_step 65 = .ok (.aload_n 0, 1) := by decide +kernel
theorem d_Mod_step_66 : decode b_Mod_step 66 = .ok (.getfield 7, 3) := by decide +kernel
theorem d_Mod_step_69 : decode b_Mod_step 69 = .ok (.iload_n 2, 1) := by decide +kernel
theorem d_Mod_step_70 : decode b_Mod_step 70 = .ok (.iaload, 1) := by decide +kernel
theorem d_Mod_step_71 : decode b_Mod_step 71 = .ok (.istore_n 3, 1) := by decide +kernel
theorem d_Mod_step_72 : decode b_Mod_step 72 = .ok (.iload_n 1, 1) := by decide +kernel
theorem d_Mod_step_73 : decode b_Mod_step 73 = .ok (.iconst 4, 1) := by decide +kernel
theorem d_Mod_step_74 : decode b_Mod_step 74 = .ok (.imul, 1) := by decide +kernel
theorem d_Mod_step_75 : decode b_Mod_step 75 = .ok (.aload_n 0, 1) := by decide +kernel
theorem d_Mod_step_76 : decode b_Mod_step 76 = .ok (.getfield 13, 3) := by decide +kernel
theorem d_Mod_step_79 : decode b_Mod_step 79 = .ok (.iload_n 2, 1) := by decide +kernel
theorem d_Mod_step_80 : decode b_Mod_step 80 = .ok (.iaload, 1) := by decide +kernel
theorem d_Mod_step_81 : decode b_Mod_step 81 = .ok (.iconst 3, 1) := by decide +kernel
theorem d_Mod_step_82 : decode b_Mod_step 82 = .ok (.iand, 1) := by decide +kernel
theorem d_Mod_step_83 : decode b_Mod_step 83 = .ok (.iadd, 1) := by decide +kernel
theorem d_Mod_step_84 : decode b_Mod_step 84 = .ok (.istore 4, 2) := by decide +kernel
theorem d_Mod_step_86 : decode b_Mod_step 86 = .ok (.aload_n 0, 1) := by decide +kernel
theorem d_Mod_step_87 : decode b_Mod_step 87 = .ok (.getfield 44, 3) := by decide +kernel
theorem d_Mod_step_90 : decode b_Mod_step 90 = .ok (.iload 4, 2) := by decide +kernel
theorem d_Mod_step_92 : decode b_Mod_step 92 = .ok (.laload, 1) := by decide +kernel
theorem d_Mod_step_93 : decode b_Mod_step 93 = .ok (.lstore 5, 2) := by decide +kernel
theorem d_Mod_step_95 : decode b_Mod_step 95 = .ok (.aload_n 0, 1) := by decide +kernel
theorem d_Mod_step_96 : decode b_Mod_step 96 = .ok (.getfield 44, 3) := by decide +kernel
theorem d_Mod_step_99 : decode b_Mod_step 99 = .ok (.iload_n 1, 1) := by decide +kernel
theorem d_Mod_step_100 : decode b_Mod_step 100 = .ok (.iconst 4, 1) := by decide +kernel
theorem d_Mod_step_101 : decode b_Mod_step 101 = .ok (.imul, 1) := by decide +kernel
theorem d_Mod_step_102 : decode b_Mod_step 102 = .ok (.aload_n 0, 1) := by decide +kernel
theorem d_Mod_step_103 : decode b_Mod_step 103 = .ok (.getfield 16, 3) := by decide +kernel
theorem d_Mod_step_106 : decode b_Mod_step 106 = .ok (.iload_n 2, 1) := by decide +kernel
theorem d_Mod_step_107 : decode b_Mod_step 107 = .ok (.iaload, 1) := by decide +kernel
theorem d_Mod_step_108 : decode b_Mod_step 108 = .ok (.iconst 3, 1) := by decide +kernel
theorem d_Mod_step_109 : decode b_Mod_step 109 = .ok (.iand, 1) := by decide +kernel
theorem d_Mod_step_110 : decode b_Mod_step 110 = .ok (.iadd, 1) := by decide +kernel
theorem d_Mod_step_111 : decode b_Mod_step 111 = .ok (.laload, 1) := by decide +kernel
theorem d_Mod_step_112 : decode b_Mod_step 112 = .ok (.lstore 7, 2) := by decide +kernel
theorem d_Mod_step_114 : decode b_Mod_step 114 = .ok (.aload_n 0, 1) := by decide +kernel
theorem d_Mod_step_115 : decode b_Mod_step 115 = .ok (.getfield 44, 3) := by decide +kernel
theorem d_Mod_step_118 : decode b_Mod_step 118 = .ok (.iload_n 1, 1) := by decide +kernel
theorem d_Mod_step_119 : decode b_Mod_step 119 = .ok (.iconst 4, 1) := by decide +kernel
theorem d_Mod_step_120 : decode b_Mod_step 120 = .ok (.imul, 1) := by decide +kernel
theorem d_Mod_step_121 : decode b_Mod_step 121 = .ok (.aload_n 0, 1) := by decide +kernel
theorem d_Mod_step_122 : decode b_Mod_step 122 = .ok (.getfield 19, 3) := by decide +kernel
theorem d_Mod_step_125 : decode b_Mod_step 125 = .ok (.iload_n 2, 1) := by decide +kernel
theorem d_Mod_step_126 : decode b_Mod_step 126 = .ok (.iaload, 1) := by decide +kernel
theorem d_Mod_step_127 : decode b_Mod_step 127 = .ok (.iconst 3, 1) := by decide +kernel
theorem d_Mod_step_128 : decode b_Mod_step 128 = .ok (.iand, 1) := by decide +kernel
theorem d_Mod_step_129 : decode b_Mod_step 129 = .ok (.iadd, 1) := by decide +kernel
theorem d_Mod_step_130 : decode b_Mod_step 130 = .ok (.laload, 1) := by decide +kernel
theorem d_Mod_step_131 : decode b_Mod_step 131 = .ok (.lstore 9, 2) := by decide +kernel
theorem d_Mod_step_133 : decode b_Mod_step 133 = .ok (.aload_n 0, 1) := by decide +kernel
theorem d_Mod_step_134 : decode b_Mod_step 134 = .ok (.getfield 19, 3) := by decide +kernel
theorem d_Mod_step_137 : decode b_Mod_step 137 = .ok (.iload_n 2, 1) := by decide +kernel
theorem d_Mod_step_138 : decode b_Mod_step 138 = .ok (.iaload, 1) := by decide +kernel
theorem d_Mod_step_139 : decode b_Mod_step 139 = .ok (.bipush 6, 2) := by decide +kernel
theorem d_Mod_step_141 : decode b_Mod_step 141 = .ok (.irem, 1) := by decide +kernel
theorem d_Mod_step_142 : decode b_Mod_step 142 = .ok (.ifCond .ge 18, 3) := by decide +kernel
theorem d_Mod_step_145 : decode b_Mod_step 145 = .ok (.aload_n 0, 1) := by decide +kernel
theorem d_Mod_step_146 : decode b_Mod_step 146 = .ok (.getfield 19, 3) := by decide +kernel
theorem d_Mod_step_149 : decode b_Mod_step 149 = .ok (.iload_n 2, 1) := by decide +kernel
theorem d_Mod_step_150 : decode b_Mod_step 150 = .ok (.iaload, 1) := by decide +kernel
theorem d_Mod_step_151 : decode b_Mod_step 151 = .ok (.bipush 6, 2) := by decide +kernel
theorem d_Mod_step_153 : decode b_Mod_step 153 = .ok (.irem, 1) := by decide +kernel
theorem d_Mod_step_154 : decode b_Mod_step 154 = .ok (.bipush 6, 2) := by decide +kernel
theorem d_Mod_step_156 : decode b_Mod_step 156 = .ok (.iadd, 1) := by decide +kernel
theorem d_Mod_step_157 : decode b_Mod_step 157 = .ok (.goto 12, 3) := by decide +kernel
theorem d_Mod_step_160 : decode b_Mod_step 160 = .ok (.aload_n 0, 1) := by decide +kernel
theorem d_Mod_step_161 : decode b_Mod_step 161 = .ok (.getfield 19, 3) := by decide +kernel
theorem d_Mod_step_164 : decode b_Mod_step 164 = .ok (.iload_n 2, 1) := by decide +kernel
theorem d_Mod_step_165 : decode b_Mod_step 165 = .ok (.iaload, 1) := by decide +kernel
theorem d_Mod_step_166 : decode b_Mod_step 166 = .ok (.bipush 6, 2) := by decide +kernel
theorem d_Mod_step_168 : decode b_Mod_step 168 = .ok (.irem, 1) := by decide +kernel
theorem d_Mod_step_169 : decode b_Mod_step 169 = .ok (.istore 11, 2) := by decide +kernel
theorem d_Mod_step_171 : decode b_Mod_step 171 = .ok (.iload_n 3, 1) := by decide +kernel
theorem d_Mod_step_172 : decode b_Mod_step 172 = .ok (.bipush 17, 2) := by decide +kernel
theorem d_Mod_step_174 : decode b_Mod_step 174 = .ok (.if_icmp .ne 12, 3) := by decide +kernel
theorem d_Mod_step_177 : decode b_Mod_step 177 = .ok (.aload_n 0, 1) := by decide +kernel
theorem d_Mod_step_178 : decode b_Mod_step 178 = .ok (.lload 7, 2) := by decide +kernel
theorem d_Mod_step_180 : decode b_Mod_step 180 = .ok (.lload 9, 2) := by decide +kernel
theorem d_Mod_step_182 : decode b_Mod_step 182 = .ok (.invokevirtual 173, 3) := by decide +kernel
theorem d_Mod_step_185 : decode b_Mod_step 185 = .ok (.return_, 1) := by decide +kernel
theorem d_Mod_step_186 : decode b_Mod_step 186 = .ok (.iload_n 3, 1) := by decide +kernel
theorem d_Mod_step_187 : decode b_Mod_step 187 = .ok (.bipush 18, 2) := by decide +kernel
theorem d_Mod_step_189 : decode b_Mod_step 189 = .ok (.if_icmp .eq 9, 3) := by decide +kernel
theorem d_Mod_step_192 : decode b_Mod_step 192 = .ok (.iload_n 3, 1) := by decide +kernel
theorem d_Mod_step_193 : decode b_Mod_step 193 = .ok (.bipush 19, 2) := by decide +kernel
theorem d_Mod_step_195 : decode b_Mod_step 195 = .ok (.if_icmp .ne 45, 3) := by decide +kernel
theorem d_Mod_step_198 : decode b_Mod_step 198 = .ok (.aload_n 0, 1) := by decide +kernel
theorem d_Mod_step_199 : decode b_Mod_step 199 = .ok (.getfield 56, 3) := by decide +kernel
theorem d_Mod_step_202 : decode b_Mod_step 202 = .ok (.iload_n 1, 1) := by decide +kernel
theorem d_Mod_step_203 : decode b_Mod_step 203 = .ok (.aload_n 0, 1) := by decide +kernel
theorem d_Mod_step_204 : decode b_Mod_step 204 = .ok (.getfield 13, 3) := by decide +kernel
theorem d_Mod_step_207 : decode b_Mod_step 207 = .ok (.iload_n 2, 1) := by decide +kernel
theorem d_Mod_step_208 : decode b_Mod_step 208 = .ok (.iaload, 1) := by decide +kernel
theorem d_Mod_step_209 : decode b_Mod_step 209 = .ok (.iconst 3, 1) := by decide +kernel
theorem d_Mod_step_210 : decode b_Mod_step 210 = .ok (.iand, 1) := by decide +kernel
theorem d_Mod_step_211 : decode b_Mod_step 211 = .ok (.iastore, 1) := by decide +kernel
theorem d_Mod_step_212 : decode b_Mod_step 212 = .ok (.aload_n 0, 1) := by decide +kernel
theorem d_Mod_step_213 : decode b_Mod_step 213 = .ok (.getfield 50, 3) := by decide +kernel
theorem d_Mod_step_216 : decode b_Mod_step 216 = .ok (.iload_n 1, 1) := by decide +kernel
theorem d_Mod_step_217 : decode b_Mod_step 217 = .ok (.dup2, 1) := by decide +kernel
theorem d_Mod_step_218 : decode b_Mod_step 218 = .ok (.iaload, 1) := by decide +kernel
theorem d_Mod_step_219 : decode b_Mod_step 219 = .ok (.iconst 1, 1) := by decide +kernel
theorem d_Mod_step_220 : decode b_Mod_step 220 = .ok (.iadd, 1) := by decide +kernel
theorem d_Mod_step_221 : decode b_Mod_step 221 = .ok (.iastore, 1) := by decide +kernel
theorem d_Mod_step_222 : decode b_Mod_step 222 = .ok (.aload_n 0, 1) := by decide +kernel
theorem d_Mod_step_223 : decode b_Mod_step 223 = .ok (.iload_n 3, 1) := by decide +kernel
theorem d_Mod_step_224 : decode b_Mod_step 224 = .ok (.bipush 18, 2) := by decide +kernel
theorem d_Mod_step_226 : decode b_Mod_step 226 = .ok (.if_icmp .ne 7, 3) := by decide +kernel
theorem d_Mod_step_229 : decode b_Mod_step 229 = .ok (.iconst 1, 1) := by decide +kernel
theorem d_Mod_step_230 : decode b_Mod_step 230 = .ok (.goto 4, 3) := by decide +kernel
theorem d_Mod_step_233 : decode b_Mod_step 233 = .ok (.iconst 3, 1) := by decide +kernel
theorem d_Mod_step_234 : decode b_Mod_step 234 = .ok (.lload 5, 2) := by decide +kernel
theorem d_Mod_step_236 : decode b_Mod_step 236 = .ok (.invokevirtual 176, 3) := by decide +kernel
theorem d_Mod_step_239 : decode b_Mod_step 239 = .ok (.return_, 1) := by decide +kernel
theorem d_Mod_step_240 : decode b_Mod_step 240 = .ok (.iload_n 3, 1) := by decide +kernel
theorem d_Mod_step_241 : decode b_Mod_step 241 = .ok (.bipush 11, 2) := by decide +kernel
theorem d_Mod_step_243 : decode b_Mod_step 243 = .ok (.if_icmp .lt 59, 3) := by decide +kernel
theorem d_Mod_step_246 : decode b_Mod_step 246 = .ok (.iload_n 3, 1) := by decide +kernel
theorem d_Mod_step_247 : decode b_Mod_step 247 = .ok (.bipush 14, 2) := by decide +kernel
theorem d_Mod_step_249 : decode b_Mod_step 249 = .ok (.if_icmp .gt 53, 3) := by decide +kernel
theorem d_Mod_step_252 : decode b_Mod_step 252 = .ok (.aload_n 0, 1) := by decide +kernel
theorem d_Mod_step_253 : decode b_Mod_step 253 = .ok (.iload_n 3, 1) := by decide +kernel
theorem d_Mod_step_254 : decode b_Mod_step 254 = .ok (.lload 5, 2) := by decide +kernel
theorem d_Mod_step_256 : decode b_Mod_step 256 = .ok (.lload 7, 2) := by decide +kernel
theorem d_Mod_step_258 : decode b_Mod_step 258 = .ok (.invokevirtual 180, 3) := by decide +kernel
theorem d_Mod_step_261 : decode b_Mod_step 261 = .ok (.istore 12, 2) := by decide +kernel
theorem d_Mod_step_263 : decode b_Mod_step 263 = .ok (.aload_n 0, 1) := by decide +kernel
theorem d_Mod_step_264 : decode b_Mod_step 264 = .ok (.getfield 141, 3) := by decide +kernel
theorem d_Mod_step_267 : decode b_Mod_step 267 = .ok (.ifCond .ne 34, 3) := by decide +kernel
theorem d_Mod_step_270 : decode b_Mod_step 270 = .ok (.aload_n 0, 1) := by decide +kernel
theorem d_Mod_step_271 : decode b_Mod_step 271 = .ok (.getfield 50, 3) := by decide +kernel
theorem d_Mod_step_274 : decode b_Mod_step 274 = .ok (.iload_n 1, 1) := by decide +kernel
theorem d_Mod_step_275 : decode b_Mod_step 275 = .ok (.iload 12, 2) := by decide +kernel
theorem d_Mod_step_277 : decode b_Mod_step 277 = .ok (.ifCond .eq 15, 3) := by decide +kernel
theorem d_Mod_step_280 : decode b_Mod_step 280 = .ok (.aload_n 0, 1) := by decide +kernel
theorem d_Mod_step_281 : decode b_Mod_step 281 = .ok (.getfield 19, 3) := by decide +kernel
theorem d_Mod_step_284 : decode b_Mod_step 284 = .ok (.iload_n 2, 1) := by decide +kernel
theorem d_Mod_step_285 : decode b_Mod_step 285 = .ok (.iaload, 1) := by decide +kernel
theorem d_Mod_step_286 : decode b_Mod_step 286 = .ok (.bipush 15, 2) := by decide +kernel
theorem d_Mod_step_288 : decode b_Mod_step 288 = .ok (.iand, 1) := by decide +kernel
theorem d_Mod_step_289 : decode b_Mod_step 289 = .ok (.goto 11, 3) := by decide +kernel
theorem d_Mod_step_292 : decode b_Mod_step 292 = .ok (.aload_n 0, 1) := by decide +kernel
theorem d_Mod_step_293 : decode b_Mod_step 293 = .ok (.getfield 50, 3) := by decide +kernel
theorem d_Mod_step_296 : decode b_Mod_step 296 = .ok (.iload_n 1, 1) := by decide +kernel
theorem d_Mod_step_297 : decode b_Mod_step 297 = .ok (.iaload, 1) := by decide +kernel
theorem d_Mod_step_298 : decode b_Mod_step 298 = .ok (.iconst 1, 1) := by decide +kernel
theorem d_Mod_step_299 : decode b_Mod_step 299 = .ok (.iadd, 1) := by decide +kernel
theorem d_Mod_step_300 : decode b_Mod_step 300 = .ok (.iastore, 1) := by decide +kernel
theorem d_Mod_step_301 : decode b_Mod_step 301 = .ok (.return_, 1) := by decide +kernel
theorem d_Mod_step_302 : decode b_Mod_step 302 = .ok (.aload_n 0, 1) := by decide +kernel
theorem d_Mod_step_303 : decode b_Mod_step 303 = .ok (.iload_n 3, 1) := by decide +kernel
theorem d_Mod_step_304 : decode b_Mod_step 304 = .ok (.bipush 7, 2) := by decide +kernel
theorem d_Mod_step_306 : decode b_Mod_step 306 = .ok (.if_icmp .ne 8, 3) := by decide +kernel
theorem d_Mod_step_309 : decode b_Mod_step 309 = .ok (.lload 5, 2) := by decide +kernel
theorem d_Mod_step_311 : decode b_Mod_step 311 = .ok (.goto 5, 3) := by decide +kernel
theorem d_Mod_step_314 : decode b_Mod_step 314 = .ok (.lload 7, 2) := by decide +kernel
theorem d_Mod_step_316 : decode b_Mod_step 316 = .ok (.invokevirtual 135, 3) := by decide +kernel
theorem d_Mod_step_319 : decode b_Mod_step 319 = .ok (.istore 12, 2) := by decide +kernel
theorem d_Mod_step_321 : decode b_Mod_step 321 = .ok (.iload_n 3, 1) := by decide +kernel
theorem d_Mod_step_322 : decode b_Mod_step 322 = .ok (.bipush 6, 2) := by decide +kernel
theorem d_Mod_step_324 : decode b_Mod_step 324 = .ok (.if_icmp .eq 15, 3) := by decide +kernel
theorem d_Mod_step_327 : decode b_Mod_step 327 = .ok (.iload_n 3, 1) := by decide +kernel
theorem d_Mod_step_328 : decode b_Mod_step 328 = .ok (.bipush 7, 2) := by decide +kernel
theorem d_Mod_step_330 : decode b_Mod_step 330 = .ok (.if_icmp .eq 9, 3) := by decide +kernel
theorem d_Mod_step_333 : decode b_Mod_step 333 = .ok (.iload_n 3, 1) := by decide +kernel
theorem d_Mod_step_334 : decode b_Mod_step 334 = .ok (.bipush 19, 2) := by decide +kernel
theorem d_Mod_step_336 : decode b_Mod_step 336 = .ok (.if_icmp .le 16, 3) := by decide +kernel
theorem d_Mod_step_339 : decode b_Mod_step 339 = .ok (.iload 12, 2) := by decide +kernel
theorem d_Mod_step_341 : decode b_Mod_step 341 = .ok (.ifCond .ge 11, 3) := by decide +kernel
theorem d_Mod_step_344 : decode b_Mod_step 344 = .ok (.aload_n 0, 1) := by decide +kernel
theorem d_Mod_step_345 : decode b_Mod_step 345 = .ok (.iconst 3, 1) := by decide +kernel
theorem d_Mod_step_346 : decode b_Mod_step 346 = .ok (.putfield 141, 3) := by decide +kernel
theorem d_Mod_step_349 : decode b_Mod_step 349 = .ok (.goto 305, 3) := by decide +kernel
theorem d_Mod_step_352 : decode b_Mod_step 352 = .ok (.iload_n 3, 1) := by decide +kernel
theorem d_Mod_step_353 : decode b_Mod_step 353 = .ok (.ifCond .ne 16, 3) := by decide +kernel
theorem d_Mod_step_356 : decode b_Mod_step 356 = .ok (.aload_n 0, 1) := by decide +kernel
theorem d_Mod_step_357 : decode b_Mod_step 357 = .ok (.getfield 44, 3) := by decide +kernel
theorem d_Mod_step_360 : decode b_Mod_step 360 = .ok (.iload 4, 2) := by decide +kernel
theorem d_Mod_step_362 : decode b_Mod_step 362 = .ok (.ldc2_w 62, 3) := by decide +kernel
theorem d_Mod_step_365 : decode b_Mod_step 365 = .ok (.lastore, 1) := by decide +kernel
theorem d_Mod_step_366 : decode b_Mod_step 366 = .ok (.goto 288, 3) := by decide +kernel
theorem d_Mod_step_369 : decode b_Mod_step 369 = .ok (.iload_n 3, 1) := by decide +kernel
theorem d_Mod_step_370 : decode b_Mod_step 370 = .ok (.iconst 1, 1) := by decide +kernel
theorem d_Mod_step_371 : decode b_Mod_step 371 = .ok (.if_icmp .ne 20, 3) := by decide +kernel
theorem d_Mod_step_374 : decode b_Mod_step 374 = .ok (.aload_n 0, 1) := by decide +kernel
theorem d_Mod_step_375 : decode b_Mod_step 375 = .ok (.getfield 44, 3) := by decide +kernel
theorem d_Mod_step_378 : decode b_Mod_step 378 = .ok (.iload 4, 2) := by decide +kernel
theorem d_Mod_step_380 : decode b_Mod_step 380 = .ok (.aload_n 0, 1) := by decide +kernel
theorem d_Mod_step_381 : decode b_Mod_step 381 = .ok (.getfield 19, 3) := by decide +kernel
theorem d_Mod_step_384 : decode b_Mod_step 384 = .ok (.iload_n 2, 1) := by decide +kernel
theorem d_Mod_step_385 : decode b_Mod_step 385 = .ok (.iaload, 1) := by decide +kernel
theorem d_Mod_step_386 : decode b_Mod_step 386 = .ok (.i2l, 1) := by decide +kernel
theorem d_Mod_step_387 : decode b_Mod_step 387 = .ok (.lastore, 1) := by decide +kernel
theorem d_Mod_step_388 : decode b_Mod_step 388 = .ok (.goto 266, 3) := by decide +kernel
theorem d_Mod_step_391 : decode b_Mod_step 391 = .ok (.iload_n 3, 1) := by decide +kernel
theorem d_Mod_step_392 : decode b_Mod_step 392 = .ok (.iconst 2, 1) := by decide +kernel
theorem d_Mod_step_393 : decode b_Mod_step 393 = .ok (.if_icmp .ne 15, 3) := by decide +kernel
theorem d_Mod_step_396 : decode b_Mod_step 396 = .ok (.aload_n 0, 1) := by decide +kernel
theorem d_Mod_step_397 : decode b_Mod_step 397 = .ok (.getfield 44, 3) := by decide +kernel
theorem d_Mod_step_400 : decode b_Mod_step 400 = .ok (.iload 4, 2) := by decide +kernel
theorem d_Mod_step_402 : decode b_Mod_step 402 = .ok (.lload 7, 2) := by decide +kernel
theorem d_Mod_step_404 : decode b_Mod_step 404 = .ok (.lastore, 1) := by decide +kernel
theorem d_Mod_step_405 : decode b_Mod_step 405 = .ok (.goto 249, 3) := by decide +kernel
theorem d_Mod_step_408 : decode b_Mod_step 408 = .ok (.iload_n 3, 1) := by decide +kernel
theorem d_Mod_step_409 : decode b_Mod_step 409 = .ok (.iconst 3, 1) := by decide +kernel
theorem d_Mod_step_410 : decode b_Mod_step 410 = .ok (.if_icmp .ne 20, 3) := by decide +kernel
theorem d_Mod_step_413 : decode b_Mod_step 413 = .ok (.aload_n 0, 1) := by decide +kernel
theorem d_Mod_step_414 : decode b_Mod_step 414 = .ok (.getfield 44, 3) := by decide +kernel
theorem d_Mod_step_417 : decode b_Mod_step 417 = .ok (.iload 4, 2) := by decide +kernel
theorem d_Mod_step_419 : decode b_Mod_step 419 = .ok (.aload_n 0, 1) := by decide +kernel
theorem d_Mod_step_420 : decode b_Mod_step 420 = .ok (.getfield 22, 3) := by decide +kernel
theorem d_Mod_step_423 : decode b_Mod_step 423 = .ok (.iload 11, 2) := by decide +kernel
theorem d_Mod_step_425 : decode b_Mod_step 425 = .ok (.laload, 1) := by decide +kernel
theorem d_Mod_step_426 : decode b_Mod_step 426 = .ok (.lastore, 1) := by decide +kernel
theorem d_Mod_step_427 : decode b_Mod_step 427 = .ok (.goto 227, 3) := by decide +kernel
theorem d_Mod_step_430 : decode b_Mod_step 430 = .ok (.iload_n 3, 1) := by decide +kernel
theorem d_Mod_step_431 : decode b_Mod_step 431 = .ok (.iconst 4, 1) := by decide +kernel
theorem d_Mod_step_432 : decode b_Mod_step 432 = .ok (.if_icmp .ne 15, 3) := by decide +kernel
theorem d_Mod_step_435 : decode b_Mod_step 435 = .ok (.aload_n 0, 1) := by decide +kernel
theorem d_Mod_step_436 : decode b_Mod_step 436 = .ok (.getfield 22, 3) := by decide +kernel
theorem d_Mod_step_439 : decode b_Mod_step 439 = .ok (.iload 11, 2) := by decide +kernel
theorem d_Mod_step_441 : decode b_Mod_step 441 = .ok (.lload 5, 2) := by decide +kernel
theorem d_Mod_step_443 : decode b_Mod_step 443 = .ok (.lastore, 1) := by decide +kernel
theorem d_Mod_step_444 : decode b_Mod_step 444 = .ok (.goto 210, 3) := by decide +kernel
theorem d_Mod_step_447 : decode b_Mod_step 447 = .ok (.iload_n 3, 1) := by decide +kernel
theorem d_Mod_step_448 : decode b_Mod_step 448 = .ok (.iconst 5, 1) := by decide +kernel
theorem d_Mod_step_449 : decode b_Mod_step 449 = .ok (.if_icmp .eq 9, 3) := by decide +kernel
theorem d_Mod_step_452 : decode b_Mod_step 452 = .ok (.iload_n 3, 1) := by decide +kernel
theorem d_Mod_step_453 : decode b_Mod_step 453 = .ok (.bipush 16, 2) := by decide +kernel
theorem d_Mod_step_455 : decode b_Mod_step 455 = .ok (.if_icmp .ne 57, 3) := by decide +kernel
theorem d_Mod_step_458 : decode b_Mod_step 458 = .ok (.aload_n 0, 1) := by decide +kernel
theorem d_Mod_step_459 : decode b_Mod_step 459 = .ok (.iload_n 3, 1) := by decide +kernel
theorem d_Mod_step_460 : decode b_Mod_step 460 = .ok (.iconst 5, 1) := by decide +kernel
theorem d_Mod_step_461 : decode b_Mod_step 461 = .ok (.if_icmp .ne 7, 3) := by decide +kernel
theorem d_Mod_step_464 : decode b_Mod_step 464 = .ok (.iconst 1, 1) := by decide +kernel
theorem d_Mod_step_465 : decode b_Mod_step 465 = .ok (.goto 4, 3) := by decide +kernel
theorem d_Mod_step_468 : decode b_Mod_step 468 = .ok (.iconst 2, 1) := by decide +kernel
theorem d_Mod_step_469 : decode b_Mod_step 469 = .ok (.aload_n 0, 1) := by decide +kernel
theorem d_Mod_step_470 : decode b_Mod_step 470 = .ok (.getfield 19, 3) := by decide +kernel
theorem d_Mod_step_473 : decode b_Mod_step 473 = .ok (.iload_n 2, 1) := by decide +kernel
theorem d_Mod_step_474 : decode b_Mod_step 474 = .ok (.iaload, 1) := by decide +kernel
theorem d_Mod_step_475 : decode b_Mod_step 475 = .ok (.iconst 3, 1) := by decide +kernel
theorem d_Mod_step_476 : decode b_Mod_step 476 = .ok (.iand, 1) := by decide +kernel
theorem d_Mod_step_477 : decode b_Mod_step 477 = .ok (.invokevirtual 127, 3) := by decide +kernel
theorem d_Mod_step_480 : decode b_Mod_step 480 = .ok (.istore 13, 2) := by decide +kernel
theorem d_Mod_step_482 : decode b_Mod_step 482 = .ok (.iload 13, 2) := by decide +kernel
theorem d_Mod_step_484 : decode b_Mod_step 484 = .ok (.ifCond .ge 11, 3) := by decide +kernel
theorem d_Mod_step_487 : decode b_Mod_step 487 = .ok (.aload_n 0, 1) := by decide +kernel
theorem d_Mod_step_488 : decode b_Mod_step 488 = .ok (.iconst 2, 1) := by decide +kernel
theorem d_Mod_step_489 : decode b_Mod_step 489 = .ok (.putfield 141, 3) := by decide +kernel
theorem d_Mod_step_492 : decode b_Mod_step 492 = .ok (.goto 17, 3) := by decide +kernel
theorem d_Mod_step_495 : decode b_Mod_step 495 = .ok (.aload_n 0, 1) := by decide +kernel
theorem d_Mod_step_496 : decode b_Mod_step 496 = .ok (.getfield 44, 3) := by decide +kernel
theorem d_Mod_step_499 : decode b_Mod_step 499 = .ok (.iload 4, 2) := by decide +kernel
theorem d_Mod_step_501 : decode b_Mod_step 501 = .ok (.ldc2_w 72, 3) := by decide +kernel
theorem d_Mod_step_504 : decode b_Mod_step 504 = .ok (.iload 13, 2) := by decide +kernel
theorem d_Mod_step_506 : decode b_Mod_step 506 = .ok (.i2l, 1) := by decide +kernel
theorem d_Mod_step_507 : decode b_Mod_step 507 = .ok (.ladd, 1) := by decide +kernel
theorem d_Mod_step_508 : decode b_Mod_step 508 = .ok (.lastore, 1) := by decide +kernel
theorem d_Mod_step_509 : decode b_Mod_step 509 = .ok (.goto 145, 3) := by decide +kernel
theorem d_Mod_step_512 : decode b_Mod_step 512 = .ok (.iload_n 3, 1) := by decide +kernel
theorem d_Mod_step_513 : decode b_Mod_step 513 = .ok (.bipush 6, 2) := by decide +kernel
theorem d_Mod_step_515 : decode b_Mod_step 515 = .ok (.if_icmp .ne 32, 3) := by decide +kernel
theorem d_Mod_step_518 : decode b_Mod_step 518 = .ok (.aload_n 0, 1) := by decide +kernel
theorem d_Mod_step_519 : decode b_Mod_step 519 = .ok (.iload 12, 2) := by decide +kernel
theorem d_Mod_step_521 : decode b_Mod_step 521 = .ok (.lload 9, 2) := by decide +kernel
theorem d_Mod_step_523 : decode b_Mod_step 523 = .ok (.invokevirtual 151, 3) := by decide +kernel
theorem d_Mod_step_526 : decode b_Mod_step 526 = .ok (.lstore 13, 2) := by decide +kernel
theorem d_Mod_step_528 : decode b_Mod_step 528 = .ok (.aload_n 0, 1) := by decide +kernel
theorem d_Mod_step_529 : decode b_Mod_step 529 = .ok (.getfield 141, 3) := by decide +kernel
theorem d_Mod_step_532 : decode b_Mod_step 532 = .ok (.ifCond .ne 12, 3) := by decide +kernel
theorem d_Mod_step_535 : decode b_Mod_step 535 = .ok (.aload_n 0, 1) := by decide +kernel
theorem d_Mod_step_536 : decode b_Mod_step 536 = .ok (.getfield 44, 3) := by decide +kernel
theorem d_Mod_step_539 : decode b_Mod_step 539 = .ok (.iload 4, 2) := by decide +kernel
theorem d_Mod_step_541 : decode b_Mod_step 541 = .ok (.lload 13, 2) := by decide +kernel
theorem d_Mod_step_543 : decode b_Mod_step 543 = .ok (.lastore, 1) := by decide +kernel
theorem d_Mod_step_544 : decode b_Mod_step 544 = .ok (.goto 110, 3) := by decide +kernel
theorem d_Mod_step_547 : decode b_Mod_step 547 = .ok (.iload_n 3, 1) := by decide +kernel
theorem d_Mod_step_548 : decode b_Mod_step 548 = .ok (.bipush 7, 2) := by decide +kernel
theorem d_Mod_step_550 : decode b_Mod_step 550 = .ok (.if_icmp .ne 16, 3) := by decide +kernel
theorem d_Mod_step_553 : decode b_Mod_step 553 = .ok (.aload_n 0, 1) := by decide +kernel
theorem d_Mod_step_554 : decode b_Mod_step 554 = .ok (.iload 12, 2) := by decide +kernel
theorem d_Mod_step_556 : decode b_Mod_step 556 = .ok (.lload 7, 2) := by decide +kernel
theorem d_Mod_step_558 : decode b_Mod_step 558 = .ok (.lload 9, 2) := by decide +kernel
theorem d_Mod_step_560 : decode b_Mod_step 560 = .ok (.invokevirtual 147, 3) := by decide +kernel
theorem d_Mod_step_563 : decode b_Mod_step 563 = .ok (.goto 91, 3) := by decide +kernel
theorem d_Mod_step_566 : decode b_Mod_step 566 = .ok (.iload_n 3, 1) := by decide +kernel
theorem d_Mod_step_567 : decode b_Mod_step 567 = .ok (.bipush 11, 2) := by decide +kernel
theorem d_Mod_step_569 : decode b_Mod_step 569 = .ok (.if_icmp .ge 18, 3) := by decide +kernel
theorem d_Mod_step_572 : decode b_Mod_step 572 = .ok (.aload_n 0, 1) := by decide +kernel
theorem d_Mod_step_573 : decode b_Mod_step 573 = .ok (.iload_n 1, 1) := by decide +kernel
theorem d_Mod_step_574 : decode b_Mod_step 574 = .ok (.iload_n 3, 1) := by decide +kernel
theorem d_Mod_step_575 : decode b_Mod_step 575 = .ok (.iload 4, 2) := by decide +kernel
theorem d_Mod_step_577 : decode b_Mod_step 577 = .ok (.lload 7, 2) := by decide +kernel
theorem d_Mod_step_579 : decode b_Mod_step 579 = .ok (.lload 9, 2) := by decide +kernel
theorem d_Mod_step_581 : decode b_Mod_step 581 = .ok (.invokevirtual 184, 3) := by decide +kernel
theorem d_Mod_step_584 : decode b_Mod_step 584 = .ok (.goto 70, 3) := by decide +kernel
theorem d_Mod_step_587 : decode b_Mod_step 587 = .ok (.iload_n 3, 1) := by decide +kernel
theorem d_Mod_step_588 : decode b_Mod_step 588 = .ok (.bipush 15, 2) := by decide +kernel
theorem d_Mod_step_590 : decode b_Mod_step 590 = .ok (.if_icmp .ne 14, 3) := by decide +kernel
theorem d_Mod_step_593 : decode b_Mod_step 593 = .ok (.aload_n 0, 1) := by decide +kernel
theorem d_Mod_step_594 : decode b_Mod_step 594 = .ok (.lload 5, 2) := by decide +kernel
theorem d_Mod_step_596 : decode b_Mod_step 596 = .ok (.lload 7, 2) := by decide +kernel
theorem d_Mod_step_598 : decode b_Mod_step 598 = .ok (.invokevirtual 155, 3) := by decide +kernel
theorem d_Mod_step_601 : decode b_Mod_step 601 = .ok (.goto 53, 3) := by decide +kernel
theorem d_Mod_step_604 : decode b_Mod_step 604 = .ok (.iload_n 3, 1) := by decide +kernel
theorem d_Mod_step_605 : decode b_Mod_step 605 = .ok (.bipush 20, 2) := by decide +kernel
theorem d_Mod_step_607 : decode b_Mod_step 607 = .ok (.if_icmp .ne 32, 3) := by decide +kernel
theorem d_Mod_step_610 : decode b_Mod_step 610 = .ok (.aload_n 0, 1) := by decide +kernel
theorem d_Mod_step_611 : decode b_Mod_step 611 = .ok (.iload 12, 2) := by decide +kernel
theorem d_Mod_step_613 : decode b_Mod_step 613 = .ok (.lload 9, 2) := by decide +kernel
theorem d_Mod_step_615 : decode b_Mod_step 615 = .ok (.invokevirtual 188, 3) := by decide +kernel
theorem d_Mod_step_618 : decode b_Mod_step 618 = .ok (.lstore 13, 2) := by decide +kernel
theorem d_Mod_step_620 : decode b_Mod_step 620 = .ok (.aload_n 0, 1) := by decide +kernel
theorem d_Mod_step_621 : decode b_Mod_step 621 = .ok (.getfield 141, 3) := by decide +kernel
theorem d_Mod_step_624 : decode b_Mod_step 624 = .ok (.ifCond .ne 12, 3) := by decide +kernel
theorem d_Mod_step_627 : decode b_Mod_step 627 = .ok (.aload_n 0, 1) := by decide +kernel
theorem d_Mod_step_628 : decode b_Mod_step 628 = .ok (.getfield 44, 3) := by decide +kernel
theorem d_Mod_step_631 : decode b_Mod_step 631 = .ok (.iload 4, 2) := by decide +kernel
theorem d_Mod_step_633 : decode b_Mod_step 633 = .ok (.lload 13, 2) := by decide +kernel
theorem d_Mod_step_635 : decode b_Mod_step 635 = .ok (.lastore, 1) := by decide +kernel
theorem d_Mod_step_636 : decode b_Mod_step 636 = .ok (.goto 18, 3) := by decide +kernel
theorem d_Mod_step_639 : decode b_Mod_step 639 = .ok (.aload_n 0, 1) := by decide +kernel
theorem d_Mod_step_640 : decode b_Mod_step 640 = .ok (.getfield 44, 3) := by decide +kernel
theorem d_Mod_step_643 : decode b_Mod_step 643 = .ok (.iload 4, 2) := by decide +kernel
theorem d_Mod_step_645 : decode b_Mod_step 645 = .ok (.aload_n 0, 1) := by decide +kernel
theorem d_Mod_step_646 : decode b_Mod_step 646 = .ok (.getfield 32, 3) := by decide +kernel
theorem d_Mod_step_649 : decode b_Mod_step 649 = .ok (.iload 12, 2) := by decide +kernel
theorem d_Mod_step_651 : decode b_Mod_step 651 = .ok (.iaload, 1) := by decide +kernel
theorem d_Mod_step_652 : decode b_Mod_step 652 = .ok (.i2l, 1) := by decide +kernel
theorem d_Mod_step_653 : decode b_Mod_step 653 = .ok (.lastore, 1) := by decide +kernel
theorem d_Mod_step_654 : decode b_Mod_step 654 = .ok (.aload_n 0, 1) := by decide +kernel
theorem d_Mod_step_655 : decode b_Mod_step 655 = .ok (.getfield 141, 3) := by decide +kernel
theorem d_Mod_step_658 : decode b_Mod_step 658 = .ok (.ifCond .ne 13, 3) := by decide +kernel
theorem d_Mod_step_661 : decode b_Mod_step 661 = .ok (.aload_n 0, 1) := by decide +kernel
theorem d_Mod_step_662 : decode b_Mod_step 662 = .ok (.getfield 50, 3) := by decide +kernel
theorem d_Mod_step_665 : decode b_Mod_step 665 = .ok (.iload_n 1, 1) := by decide +kernel
theorem d_Mod_step_666 : decode b_Mod_step 666 = .ok (.dup2, 1) := by decide +kernel
theorem d_Mod_step_667 : decode b_Mod_step 667 = .ok (.iaload, 1) := by decide +kernel
theorem d_Mod_step_668 : decode b_Mod_step 668 = .ok (.iconst 1, 1) := by decide +kernel
theorem d_Mod_step_669 : decode b_Mod_step 669 = .ok (.iadd, 1) := by decide +kernel
theorem d_Mod_step_670 : decode b_Mod_step 670 = .ok (.iastore, 1) := by decide +kernel
theorem d_Mod_step_671 : decode b_Mod_step 671 = .ok (.return_, 1) := by decide +kernel
end

-- part 33.stateM
section
/-! THE REFERENCE'S WORLD: 18 cells; ints of arrays by (array, place), of fields by (field, 0); longs by (array, 0, place) -/
def mob (ad : Nat → Nat) (u : Nat → ClassId) (M : CS) (k : Nat) : va_E := match k with
  | 0 => .inr (7, [.ref (ad 1), .ref (ad 2), .ref (ad 3), .ref (ad 4), .ref (ad 5), .ref (ad 6), .ref (ad 7), .ref (ad 8), .ref (ad 9), .ref (ad 10), .ref (ad 11), .ref (ad 12), .ref (ad 13), .ref (ad 14), .ref (ad 15), .ref (ad 16), .ref (ad 17), .int (M.1 13 0), .int (M.1 14 0), .int (M.1 15 0), .int (M.1 16 0), .int (M.1 17 0), .int (M.1 18 0), .int (M.1 19 0), .int (M.1 20 0), .int (M.1 21 0), .int (M.1 22 0), .long (M.2.1 4 0 0)])
  | 1 => .inl (u 0, 64, .inl (M.1 0))
  | 2 => .inl (u 0, 64, .inl (M.1 1))
  | 3 => .inl (u 0, 64, .inl (M.1 2))
  | 4 => .inl (u 0, 64, .inl (M.1 3))
  | 5 => .inl (u 1, 6, .inr (.inl (M.2.1 0 0)))
  | 6 => .inl (u 0, 16, .inl (M.1 4))
  | 7 => .inl (u 0, 16, .inl (M.1 5))
  | 8 => .inl (u 0, 16, .inl (M.1 6))
  | 9 => .inl (u 0, 16, .inl (M.1 7))
  | 10 => .inl (u 1, 96, .inr (.inl (M.2.1 1 0)))
  | 11 => .inl (u 1, 96, .inr (.inl (M.2.1 2 0)))
  | 12 => .inl (u 1, 64, .inr (.inl (M.2.1 3 0)))
  | 13 => .inl (u 0, 16, .inl (M.1 8))
  | 14 => .inl (u 0, 16, .inl (M.1 9))
  | 15 => .inl (u 0, 16, .inl (M.1 10))
  | 16 => .inl (u 0, 16, .inl (M.1 11))
  | 17 => .inl (u 0, 6, .inl (M.1 12))
  | _ => .inr (7, [])
abbrev tym (u : Nat → ClassId) : List (ClassId × FieldType) := [(u 0, .int), (u 1, .long)]
/-- which cell holds an int field or array, a row of longs -/
def mI (f : Nat) : Nat := if f < 4 then f + 1 else if f < 8 then f + 2 else if f < 13 then f + 5 else 0
def mJ (f : Nat) : Nat := if f = 0 then 5 else if f < 4 then f + 9 else 0
section StateM
variable {ad : Nat → Nat} {u : Nat → ClassId} {M : CS} {f i k : Nat}
theorem mob_same {M' : CS} (k : Nat) (h1 : ∀ g, mI g = k → M'.1 g = M.1 g) (h2 : ∀ g, mJ g = k → M'.2.1 g 0 = M.2.1 g 0) : mob ad u M' k = mob ad u M k := by
  unfold mob
  split
  · rw [h1 13 rfl, h1 14 rfl, h1 15 rfl, h1 16 rfl, h1 17 rfl, h1 18 rfl, h1 19 rfl, h1 20 rfl, h1 21 rfl, h1 22 rfl, h2 4 rfl]
  · rw [h1 0 rfl]
  · rw [h1 1 rfl]
  · rw [h1 2 rfl]
  · rw [h1 3 rfl]
  · rw [h2 0 rfl]
  · rw [h1 4 rfl]
  · rw [h1 5 rfl]
  · rw [h1 6 rfl]
  · rw [h1 7 rfl]
  · rw [h2 1 rfl]
  · rw [h2 2 rfl]
  · rw [h2 3 rfl]
  · rw [h1 8 rfl]
  · rw [h1 9 rfl]
  · rw [h1 10 rfl]
  · rw [h1 11 rfl]
  · rw [h1 12 rfl]
  · rfl
theorem wm_up {M' : CS} {e : va_E} {q : Nat} (he : mob ad u M' q = e) (hne : ∀ k, k ≠ q → mob ad u M' k = mob ad u M k) : ∀ k, k < 18 → va_up (mob ad u M) q e k = mob ad u M' k := by
  intro k _
  by_cases hq : k = q
  · subst hq; rw [he]; simp [va_up]
  · simp only [va_up, if_neg hq]; exact (hne k hq).symm
theorem wm_sI {v : Int32} {e : va_E} {q : Nat} (hf : mI f = q) (he : mob ad u (sI M f i v) q = e) : ∀ k, k < 18 → va_up (mob ad u M) q e k = mob ad u (sI M f i v) k := by
  refine wm_up he (fun k hk => mob_same k (fun g hg => ?_) (fun g hg => rfl))
  funext b
  rw [sI_1, if_neg]
  rintro ⟨rfl, -⟩
  exact hk (hg.symm.trans hf)
theorem wm_sJ {v : Int64} {e : va_E} {q : Nat} (hf : mJ f = q) (he : mob ad u (sJ M f 0 i v) q = e) : ∀ k, k < 18 → va_up (mob ad u M) q e k = mob ad u (sJ M f 0 i v) k := by
  refine wm_up he (fun k hk => mob_same k (fun g hg => rfl) (fun g hg => ?_))
  funext c
  rw [sJ_2, if_neg]
  rintro ⟨rfl, -⟩
  exact hk (hg.symm.trans hf)
end StateM
section RowsM
variable {Γ : GT} {cc : ByteArray} {own : String} {rm : Room} {nl : List (String × Nat × MethodName × String)} {kc ks pc index : Nat} {ad : Nat → Nat} {u : Nat → ClassId} {M : CS} {L : List (Option Value)} {st : List Value}
theorem gf_Mod_ops (h : Cx Γ cc own rm TB CL (tym u) nl) (hlink : Cond.fieldLink own index "TriColourMachineModel" "ops" "[I" ∈ TB) (hd : decode cc pc = .ok (.getfield index, 3)) (k : G Γ kc ks 18 ad (mob ad u M) (pc + 3) L (.ref (ad 1) :: st)) : G Γ kc ks 18 ad (mob ad u M) pc L (.ref (ad 0) :: st) := g_get h i_Mod 0 (by decide) rfl rfl 0 (by decide) hlink rfl hd k
theorem gf_Mod_as (h : Cx Γ cc own rm TB CL (tym u) nl) (hlink : Cond.fieldLink own index "TriColourMachineModel" "as" "[I" ∈ TB) (hd : decode cc pc = .ok (.getfield index, 3)) (k : G Γ kc ks 18 ad (mob ad u M) (pc + 3) L (.ref (ad 2) :: st)) : G Γ kc ks 18 ad (mob ad u M) pc L (.ref (ad 0) :: st) := g_get h i_Mod 0 (by decide) rfl rfl 1 (by decide) hlink rfl hd k
theorem gf_Mod_bs (h : Cx Γ cc own rm TB CL (tym u) nl) (hlink : Cond.fieldLink own index "TriColourMachineModel" "bs" "[I" ∈ TB) (hd : decode cc pc = .ok (.getfield index, 3)) (k : G Γ kc ks 18 ad (mob ad u M) (pc + 3) L (.ref (ad 3) :: st)) : G Γ kc ks 18 ad (mob ad u M) pc L (.ref (ad 0) :: st) := g_get h i_Mod 0 (by decide) rfl rfl 2 (by decide) hlink rfl hd k
theorem gf_Mod_cs (h : Cx Γ cc own rm TB CL (tym u) nl) (hlink : Cond.fieldLink own index "TriColourMachineModel" "cs" "[I" ∈ TB) (hd : decode cc pc = .ok (.getfield index, 3)) (k : G Γ kc ks 18 ad (mob ad u M) (pc + 3) L (.ref (ad 4) :: st)) : G Γ kc ks 18 ad (mob ad u M) pc L (.ref (ad 0) :: st) := g_get h i_Mod 0 (by decide) rfl rfl 3 (by decide) hlink rfl hd k
theorem gf_Mod_globals (h : Cx Γ cc own rm TB CL (tym u) nl) (hlink : Cond.fieldLink own index "TriColourMachineModel" "globals" "[J" ∈ TB) (hd : decode cc pc = .ok (.getfield index, 3)) (k : G Γ kc ks 18 ad (mob ad u M) (pc + 3) L (.ref (ad 5) :: st)) : G Γ kc ks 18 ad (mob ad u M) pc L (.ref (ad 0) :: st) := g_get h i_Mod 0 (by decide) rfl rfl 4 (by decide) hlink rfl hd k
theorem gf_Mod_kind (h : Cx Γ cc own rm TB CL (tym u) nl) (hlink : Cond.fieldLink own index "TriColourMachineModel" "kind" "[I" ∈ TB) (hd : decode cc pc = .ok (.getfield index, 3)) (k : G Γ kc ks 18 ad (mob ad u M) (pc + 3) L (.ref (ad 6) :: st)) : G Γ kc ks 18 ad (mob ad u M) pc L (.ref (ad 0) :: st) := g_get h i_Mod 0 (by decide) rfl rfl 5 (by decide) hlink rfl hd k
theorem gf_Mod_colour (h : Cx Γ cc own rm TB CL (tym u) nl) (hlink : Cond.fieldLink own index "TriColourMachineModel" "colour" "[I" ∈ TB) (hd : decode cc pc = .ok (.getfield index, 3)) (k : G Γ kc ks 18 ad (mob ad u M) (pc + 3) L (.ref (ad 7) :: st)) : G Γ kc ks 18 ad (mob ad u M) pc L (.ref (ad 0) :: st) := g_get h i_Mod 0 (by decide) rfl rfl 6 (by decide) hlink rfl hd k
theorem gf_Mod_size (h : Cx Γ cc own rm TB CL (tym u) nl) (hlink : Cond.fieldLink own index "TriColourMachineModel" "size" "[I" ∈ TB) (hd : decode cc pc = .ok (.getfield index, 3)) (k : G Γ kc ks 18 ad (mob ad u M) (pc + 3) L (.ref (ad 8) :: st)) : G Γ kc ks 18 ad (mob ad u M) pc L (.ref (ad 0) :: st) := g_get h i_Mod 0 (by decide) rfl rfl 7 (by decide) hlink rfl hd k
theorem gf_Mod_metaOf (h : Cx Γ cc own rm TB CL (tym u) nl) (hlink : Cond.fieldLink own index "TriColourMachineModel" "metaOf" "[I" ∈ TB) (hd : decode cc pc = .ok (.getfield index, 3)) (k : G Γ kc ks 18 ad (mob ad u M) (pc + 3) L (.ref (ad 9) :: st)) : G Γ kc ks 18 ad (mob ad u M) pc L (.ref (ad 0) :: st) := g_get h i_Mod 0 (by decide) rfl rfl 8 (by decide) hlink rfl hd k
theorem gf_Mod_keys (h : Cx Γ cc own rm TB CL (tym u) nl) (hlink : Cond.fieldLink own index "TriColourMachineModel" "keys" "[J" ∈ TB) (hd : decode cc pc = .ok (.getfield index, 3)) (k : G Γ kc ks 18 ad (mob ad u M) (pc + 3) L (.ref (ad 10) :: st)) : G Γ kc ks 18 ad (mob ad u M) pc L (.ref (ad 0) :: st) := g_get h i_Mod 0 (by decide) rfl rfl 9 (by decide) hlink rfl hd k
theorem gf_Mod_values (h : Cx Γ cc own rm TB CL (tym u) nl) (hlink : Cond.fieldLink own index "TriColourMachineModel" "values" "[J" ∈ TB) (hd : decode cc pc = .ok (.getfield index, 3)) (k : G Γ kc ks 18 ad (mob ad u M) (pc + 3) L (.ref (ad 11) :: st)) : G Γ kc ks 18 ad (mob ad u M) pc L (.ref (ad 0) :: st) := g_get h i_Mod 0 (by decide) rfl rfl 10 (by decide) hlink rfl hd k
theorem gf_Mod_registers (h : Cx Γ cc own rm TB CL (tym u) nl) (hlink : Cond.fieldLink own index "TriColourMachineModel" "registers" "[J" ∈ TB) (hd : decode cc pc = .ok (.getfield index, 3)) (k : G Γ kc ks 18 ad (mob ad u M) (pc + 3) L (.ref (ad 12) :: st)) : G Γ kc ks 18 ad (mob ad u M) pc L (.ref (ad 0) :: st) := g_get h i_Mod 0 (by decide) rfl rfl 11 (by decide) hlink rfl hd k
theorem gf_Mod_function (h : Cx Γ cc own rm TB CL (tym u) nl) (hlink : Cond.fieldLink own index "TriColourMachineModel" "function" "[I" ∈ TB) (hd : decode cc pc = .ok (.getfield index, 3)) (k : G Γ kc ks 18 ad (mob ad u M) (pc + 3) L (.ref (ad 13) :: st)) : G Γ kc ks 18 ad (mob ad u M) pc L (.ref (ad 0) :: st) := g_get h i_Mod 0 (by decide) rfl rfl 12 (by decide) hlink rfl hd k
theorem gf_Mod_place (h : Cx Γ cc own rm TB CL (tym u) nl) (hlink : Cond.fieldLink own index "TriColourMachineModel" "place" "[I" ∈ TB) (hd : decode cc pc = .ok (.getfield index, 3)) (k : G Γ kc ks 18 ad (mob ad u M) (pc + 3) L (.ref (ad 14) :: st)) : G Γ kc ks 18 ad (mob ad u M) pc L (.ref (ad 0) :: st) := g_get h i_Mod 0 (by decide) rfl rfl 13 (by decide) hlink rfl hd k
theorem gf_Mod_state (h : Cx Γ cc own rm TB CL (tym u) nl) (hlink : Cond.fieldLink own index "TriColourMachineModel" "state" "[I" ∈ TB) (hd : decode cc pc = .ok (.getfield index, 3)) (k : G Γ kc ks 18 ad (mob ad u M) (pc + 3) L (.ref (ad 15) :: st)) : G Γ kc ks 18 ad (mob ad u M) pc L (.ref (ad 0) :: st) := g_get h i_Mod 0 (by decide) rfl rfl 14 (by decide) hlink rfl hd k
theorem gf_Mod_waits (h : Cx Γ cc own rm TB CL (tym u) nl) (hlink : Cond.fieldLink own index "TriColourMachineModel" "waits" "[I" ∈ TB) (hd : decode cc pc = .ok (.getfield index, 3)) (k : G Γ kc ks 18 ad (mob ad u M) (pc + 3) L (.ref (ad 16) :: st)) : G Γ kc ks 18 ad (mob ad u M) pc L (.ref (ad 0) :: st) := g_get h i_Mod 0 (by decide) rfl rfl 15 (by decide) hlink rfl hd k
theorem gf_Mod_active (h : Cx Γ cc own rm TB CL (tym u) nl) (hlink : Cond.fieldLink own index "TriColourMachineModel" "active" "[I" ∈ TB) (hd : decode cc pc = .ok (.getfield index, 3)) (k : G Γ kc ks 18 ad (mob ad u M) (pc + 3) L (.ref (ad 17) :: st)) : G Γ kc ks 18 ad (mob ad u M) pc L (.ref (ad 0) :: st) := g_get h i_Mod 0 (by decide) rfl rfl 16 (by decide) hlink rfl hd k
theorem gf_Mod_depth (h : Cx Γ cc own rm TB CL (tym u) nl) (hlink : Cond.fieldLink own index "TriColourMachineModel" "depth" "I" ∈ TB) (hd : decode cc pc = .ok (.getfield index, 3)) (k : G Γ kc ks 18 ad (mob ad u M) (pc + 3) L (.int (M.1 13 0) :: st)) : G Γ kc ks 18 ad (mob ad u M) pc L (.ref (ad 0) :: st) := g_get h i_Mod 0 (by decide) rfl rfl 17 (by decide) hlink rfl hd k
theorem pf_Mod_depth (h : Cx Γ cc own rm TB CL (tym u) nl) {v : Int32} (hlink : Cond.fieldLink own index "TriColourMachineModel" "depth" "I" ∈ TB) (hd : decode cc pc = .ok (.putfield index, 3)) (k : G Γ kc ks 18 ad (mob ad u (sI M 13 0 v)) (pc + 3) L st) : G Γ kc ks 18 ad (mob ad u M) pc L (.int v :: .ref (ad 0) :: st) := g_put h i_Mod 0 (by decide) rfl rfl 17 (by decide) t_Mod t_Mod_ok n_Mod hlink rfl rfl rfl (Nat.le_of_ble_eq_true rfl) hd (g_world (wm_sI rfl (by simp [mob, sI_1, sI_2])) k)
theorem gf_Mod_phase (h : Cx Γ cc own rm TB CL (tym u) nl) (hlink : Cond.fieldLink own index "TriColourMachineModel" "phase" "I" ∈ TB) (hd : decode cc pc = .ok (.getfield index, 3)) (k : G Γ kc ks 18 ad (mob ad u M) (pc + 3) L (.int (M.1 14 0) :: st)) : G Γ kc ks 18 ad (mob ad u M) pc L (.ref (ad 0) :: st) := g_get h i_Mod 0 (by decide) rfl rfl 18 (by decide) hlink rfl hd k
theorem pf_Mod_phase (h : Cx Γ cc own rm TB CL (tym u) nl) {v : Int32} (hlink : Cond.fieldLink own index "TriColourMachineModel" "phase" "I" ∈ TB) (hd : decode cc pc = .ok (.putfield index, 3)) (k : G Γ kc ks 18 ad (mob ad u (sI M 14 0 v)) (pc + 3) L st) : G Γ kc ks 18 ad (mob ad u M) pc L (.int v :: .ref (ad 0) :: st) := g_put h i_Mod 0 (by decide) rfl rfl 18 (by decide) t_Mod t_Mod_ok n_Mod hlink rfl rfl rfl (Nat.le_of_ble_eq_true rfl) hd (g_world (wm_sI rfl (by simp [mob, sI_1, sI_2])) k)
theorem gf_Mod_sweep (h : Cx Γ cc own rm TB CL (tym u) nl) (hlink : Cond.fieldLink own index "TriColourMachineModel" "sweep" "I" ∈ TB) (hd : decode cc pc = .ok (.getfield index, 3)) (k : G Γ kc ks 18 ad (mob ad u M) (pc + 3) L (.int (M.1 15 0) :: st)) : G Γ kc ks 18 ad (mob ad u M) pc L (.ref (ad 0) :: st) := g_get h i_Mod 0 (by decide) rfl rfl 19 (by decide) hlink rfl hd k
theorem pf_Mod_sweep (h : Cx Γ cc own rm TB CL (tym u) nl) {v : Int32} (hlink : Cond.fieldLink own index "TriColourMachineModel" "sweep" "I" ∈ TB) (hd : decode cc pc = .ok (.putfield index, 3)) (k : G Γ kc ks 18 ad (mob ad u (sI M 15 0 v)) (pc + 3) L st) : G Γ kc ks 18 ad (mob ad u M) pc L (.int v :: .ref (ad 0) :: st) := g_put h i_Mod 0 (by decide) rfl rfl 19 (by decide) t_Mod t_Mod_ok n_Mod hlink rfl rfl rfl (Nat.le_of_ble_eq_true rfl) hd (g_world (wm_sI rfl (by simp [mob, sI_1, sI_2])) k)
theorem gf_Mod_made (h : Cx Γ cc own rm TB CL (tym u) nl) (hlink : Cond.fieldLink own index "TriColourMachineModel" "made" "I" ∈ TB) (hd : decode cc pc = .ok (.getfield index, 3)) (k : G Γ kc ks 18 ad (mob ad u M) (pc + 3) L (.int (M.1 16 0) :: st)) : G Γ kc ks 18 ad (mob ad u M) pc L (.ref (ad 0) :: st) := g_get h i_Mod 0 (by decide) rfl rfl 20 (by decide) hlink rfl hd k
theorem pf_Mod_made (h : Cx Γ cc own rm TB CL (tym u) nl) {v : Int32} (hlink : Cond.fieldLink own index "TriColourMachineModel" "made" "I" ∈ TB) (hd : decode cc pc = .ok (.putfield index, 3)) (k : G Γ kc ks 18 ad (mob ad u (sI M 16 0 v)) (pc + 3) L st) : G Γ kc ks 18 ad (mob ad u M) pc L (.int v :: .ref (ad 0) :: st) := g_put h i_Mod 0 (by decide) rfl rfl 20 (by decide) t_Mod t_Mod_ok n_Mod hlink rfl rfl rfl (Nat.le_of_ble_eq_true rfl) hd (g_world (wm_sI rfl (by simp [mob, sI_1, sI_2])) k)
theorem gf_Mod_gone (h : Cx Γ cc own rm TB CL (tym u) nl) (hlink : Cond.fieldLink own index "TriColourMachineModel" "gone" "I" ∈ TB) (hd : decode cc pc = .ok (.getfield index, 3)) (k : G Γ kc ks 18 ad (mob ad u M) (pc + 3) L (.int (M.1 17 0) :: st)) : G Γ kc ks 18 ad (mob ad u M) pc L (.ref (ad 0) :: st) := g_get h i_Mod 0 (by decide) rfl rfl 21 (by decide) hlink rfl hd k
theorem pf_Mod_gone (h : Cx Γ cc own rm TB CL (tym u) nl) {v : Int32} (hlink : Cond.fieldLink own index "TriColourMachineModel" "gone" "I" ∈ TB) (hd : decode cc pc = .ok (.putfield index, 3)) (k : G Γ kc ks 18 ad (mob ad u (sI M 17 0 v)) (pc + 3) L st) : G Γ kc ks 18 ad (mob ad u M) pc L (.int v :: .ref (ad 0) :: st) := g_put h i_Mod 0 (by decide) rfl rfl 21 (by decide) t_Mod t_Mod_ok n_Mod hlink rfl rfl rfl (Nat.le_of_ble_eq_true rfl) hd (g_world (wm_sI rfl (by simp [mob, sI_1, sI_2])) k)
theorem gf_Mod_done (h : Cx Γ cc own rm TB CL (tym u) nl) (hlink : Cond.fieldLink own index "TriColourMachineModel" "done" "I" ∈ TB) (hd : decode cc pc = .ok (.getfield index, 3)) (k : G Γ kc ks 18 ad (mob ad u M) (pc + 3) L (.int (M.1 18 0) :: st)) : G Γ kc ks 18 ad (mob ad u M) pc L (.ref (ad 0) :: st) := g_get h i_Mod 0 (by decide) rfl rfl 22 (by decide) hlink rfl hd k
theorem pf_Mod_done (h : Cx Γ cc own rm TB CL (tym u) nl) {v : Int32} (hlink : Cond.fieldLink own index "TriColourMachineModel" "done" "I" ∈ TB) (hd : decode cc pc = .ok (.putfield index, 3)) (k : G Γ kc ks 18 ad (mob ad u (sI M 18 0 v)) (pc + 3) L st) : G Γ kc ks 18 ad (mob ad u M) pc L (.int v :: .ref (ad 0) :: st) := g_put h i_Mod 0 (by decide) rfl rfl 22 (by decide) t_Mod t_Mod_ok n_Mod hlink rfl rfl rfl (Nat.le_of_ble_eq_true rfl) hd (g_world (wm_sI rfl (by simp [mob, sI_1, sI_2])) k)
theorem gf_Mod_units (h : Cx Γ cc own rm TB CL (tym u) nl) (hlink : Cond.fieldLink own index "TriColourMachineModel" "units" "I" ∈ TB) (hd : decode cc pc = .ok (.getfield index, 3)) (k : G Γ kc ks 18 ad (mob ad u M) (pc + 3) L (.int (M.1 19 0) :: st)) : G Γ kc ks 18 ad (mob ad u M) pc L (.ref (ad 0) :: st) := g_get h i_Mod 0 (by decide) rfl rfl 23 (by decide) hlink rfl hd k
theorem pf_Mod_units (h : Cx Γ cc own rm TB CL (tym u) nl) {v : Int32} (hlink : Cond.fieldLink own index "TriColourMachineModel" "units" "I" ∈ TB) (hd : decode cc pc = .ok (.putfield index, 3)) (k : G Γ kc ks 18 ad (mob ad u (sI M 19 0 v)) (pc + 3) L st) : G Γ kc ks 18 ad (mob ad u M) pc L (.int v :: .ref (ad 0) :: st) := g_put h i_Mod 0 (by decide) rfl rfl 23 (by decide) t_Mod t_Mod_ok n_Mod hlink rfl rfl rfl (Nat.le_of_ble_eq_true rfl) hd (g_world (wm_sI rfl (by simp [mob, sI_1, sI_2])) k)
theorem gf_Mod_fulls (h : Cx Γ cc own rm TB CL (tym u) nl) (hlink : Cond.fieldLink own index "TriColourMachineModel" "fulls" "I" ∈ TB) (hd : decode cc pc = .ok (.getfield index, 3)) (k : G Γ kc ks 18 ad (mob ad u M) (pc + 3) L (.int (M.1 20 0) :: st)) : G Γ kc ks 18 ad (mob ad u M) pc L (.ref (ad 0) :: st) := g_get h i_Mod 0 (by decide) rfl rfl 24 (by decide) hlink rfl hd k
theorem pf_Mod_fulls (h : Cx Γ cc own rm TB CL (tym u) nl) {v : Int32} (hlink : Cond.fieldLink own index "TriColourMachineModel" "fulls" "I" ∈ TB) (hd : decode cc pc = .ok (.putfield index, 3)) (k : G Γ kc ks 18 ad (mob ad u (sI M 20 0 v)) (pc + 3) L st) : G Γ kc ks 18 ad (mob ad u M) pc L (.int v :: .ref (ad 0) :: st) := g_put h i_Mod 0 (by decide) rfl rfl 24 (by decide) t_Mod t_Mod_ok n_Mod hlink rfl rfl rfl (Nat.le_of_ble_eq_true rfl) hd (g_world (wm_sI rfl (by simp [mob, sI_1, sI_2])) k)
theorem gf_Mod_thrown (h : Cx Γ cc own rm TB CL (tym u) nl) (hlink : Cond.fieldLink own index "TriColourMachineModel" "thrown" "I" ∈ TB) (hd : decode cc pc = .ok (.getfield index, 3)) (k : G Γ kc ks 18 ad (mob ad u M) (pc + 3) L (.int (M.1 21 0) :: st)) : G Γ kc ks 18 ad (mob ad u M) pc L (.ref (ad 0) :: st) := g_get h i_Mod 0 (by decide) rfl rfl 25 (by decide) hlink rfl hd k
theorem pf_Mod_thrown (h : Cx Γ cc own rm TB CL (tym u) nl) {v : Int32} (hlink : Cond.fieldLink own index "TriColourMachineModel" "thrown" "I" ∈ TB) (hd : decode cc pc = .ok (.putfield index, 3)) (k : G Γ kc ks 18 ad (mob ad u (sI M 21 0 v)) (pc + 3) L st) : G Γ kc ks 18 ad (mob ad u M) pc L (.int v :: .ref (ad 0) :: st) := g_put h i_Mod 0 (by decide) rfl rfl 25 (by decide) t_Mod t_Mod_ok n_Mod hlink rfl rfl rfl (Nat.le_of_ble_eq_true rfl) hd (g_world (wm_sI rfl (by simp [mob, sI_1, sI_2])) k)
theorem gf_Mod_trouble (h : Cx Γ cc own rm TB CL (tym u) nl) (hlink : Cond.fieldLink own index "TriColourMachineModel" "trouble" "I" ∈ TB) (hd : decode cc pc = .ok (.getfield index, 3)) (k : G Γ kc ks 18 ad (mob ad u M) (pc + 3) L (.int (M.1 22 0) :: st)) : G Γ kc ks 18 ad (mob ad u M) pc L (.ref (ad 0) :: st) := g_get h i_Mod 0 (by decide) rfl rfl 26 (by decide) hlink rfl hd k
theorem pf_Mod_trouble (h : Cx Γ cc own rm TB CL (tym u) nl) {v : Int32} (hlink : Cond.fieldLink own index "TriColourMachineModel" "trouble" "I" ∈ TB) (hd : decode cc pc = .ok (.putfield index, 3)) (k : G Γ kc ks 18 ad (mob ad u (sI M 22 0 v)) (pc + 3) L st) : G Γ kc ks 18 ad (mob ad u M) pc L (.int v :: .ref (ad 0) :: st) := g_put h i_Mod 0 (by decide) rfl rfl 26 (by decide) t_Mod t_Mod_ok n_Mod hlink rfl rfl rfl (Nat.le_of_ble_eq_true rfl) hd (g_world (wm_sI rfl (by simp [mob, sI_1, sI_2])) k)
theorem gf_Mod_outcome (h : Cx Γ cc own rm TB CL (tym u) nl) (hlink : Cond.fieldLink own index "TriColourMachineModel" "outcome" "J" ∈ TB) (hd : decode cc pc = .ok (.getfield index, 3)) (k : G Γ kc ks 18 ad (mob ad u M) (pc + 3) L (.long (M.2.1 4 0 0) :: st)) : G Γ kc ks 18 ad (mob ad u M) pc L (.ref (ad 0) :: st) := g_get h i_Mod 0 (by decide) rfl rfl 27 (by decide) hlink rfl hd k
theorem pf_Mod_outcome (h : Cx Γ cc own rm TB CL (tym u) nl) {v : Int64} (hlink : Cond.fieldLink own index "TriColourMachineModel" "outcome" "J" ∈ TB) (hd : decode cc pc = .ok (.putfield index, 3)) (k : G Γ kc ks 18 ad (mob ad u (sJ M 4 0 0 v)) (pc + 3) L st) : G Γ kc ks 18 ad (mob ad u M) pc L (.long v :: .ref (ad 0) :: st) := g_put h i_Mod 0 (by decide) rfl rfl 27 (by decide) t_Mod t_Mod_ok n_Mod hlink rfl rfl rfl (Nat.le_of_ble_eq_true rfl) hd (g_world (wm_sJ rfl (by simp [mob, sJ_1, sJ_2])) k)
theorem gi_ops (h : Cx Γ cc own rm TB CL (tym u) nl) {j : Nat} {i : Int32} (hi : i = nI j) (hj : j < 64) (hd : decode cc pc = .ok (.iaload, 1)) (k : G Γ kc ks 18 ad (mob ad u M) (pc + 1) L (.int (M.1 0 j) :: st)) : G Γ kc ks 18 ad (mob ad u M) pc L (.int i :: .ref (ad 1) :: st) := by
  subst hi
  have hc : (nI j).toNatClampNeg = j := nI_clamp (by omega)
  refine g_iaload h 1 0 (by decide) rfl rfl (vp_in_nI hj (by decide)) hd ?_
  rw [hc]; exact k
theorem pi_ops (h : Cx Γ cc own rm TB CL (tym u) nl) {j : Nat} {i v : Int32} (hi : i = nI j) (hj : j < 64) (hd : decode cc pc = .ok (.iastore, 1)) (k : G Γ kc ks 18 ad (mob ad u (sI M 0 j v)) (pc + 1) L st) : G Γ kc ks 18 ad (mob ad u M) pc L (.int v :: .int i :: .ref (ad 1) :: st) := by
  subst hi
  have hc : (nI j).toNatClampNeg = j := nI_clamp (by omega)
  refine g_iastore h 1 0 (by decide) rfl rfl (vp_in_nI hj (by decide)) hd ?_
  rw [hc]
  have e : (sI M 0 j v).1 0 = upd (M.1 0) j v := by
    funext b
    simp [sI_1, upd]
  refine g_world (wm_sI (f := 0) rfl ?_) k
  show Sum.inl (u 0, 64, Sum.inl ((sI M 0 j v).1 0)) = _
  rw [e]
theorem gi_as (h : Cx Γ cc own rm TB CL (tym u) nl) {j : Nat} {i : Int32} (hi : i = nI j) (hj : j < 64) (hd : decode cc pc = .ok (.iaload, 1)) (k : G Γ kc ks 18 ad (mob ad u M) (pc + 1) L (.int (M.1 1 j) :: st)) : G Γ kc ks 18 ad (mob ad u M) pc L (.int i :: .ref (ad 2) :: st) := by
  subst hi
  have hc : (nI j).toNatClampNeg = j := nI_clamp (by omega)
  refine g_iaload h 2 0 (by decide) rfl rfl (vp_in_nI hj (by decide)) hd ?_
  rw [hc]; exact k
theorem pi_as (h : Cx Γ cc own rm TB CL (tym u) nl) {j : Nat} {i v : Int32} (hi : i = nI j) (hj : j < 64) (hd : decode cc pc = .ok (.iastore, 1)) (k : G Γ kc ks 18 ad (mob ad u (sI M 1 j v)) (pc + 1) L st) : G Γ kc ks 18 ad (mob ad u M) pc L (.int v :: .int i :: .ref (ad 2) :: st) := by
  subst hi
  have hc : (nI j).toNatClampNeg = j := nI_clamp (by omega)
  refine g_iastore h 2 0 (by decide) rfl rfl (vp_in_nI hj (by decide)) hd ?_
  rw [hc]
  have e : (sI M 1 j v).1 1 = upd (M.1 1) j v := by
    funext b
    simp [sI_1, upd]
  refine g_world (wm_sI (f := 1) rfl ?_) k
  show Sum.inl (u 0, 64, Sum.inl ((sI M 1 j v).1 1)) = _
  rw [e]
theorem gi_bs (h : Cx Γ cc own rm TB CL (tym u) nl) {j : Nat} {i : Int32} (hi : i = nI j) (hj : j < 64) (hd : decode cc pc = .ok (.iaload, 1)) (k : G Γ kc ks 18 ad (mob ad u M) (pc + 1) L (.int (M.1 2 j) :: st)) : G Γ kc ks 18 ad (mob ad u M) pc L (.int i :: .ref (ad 3) :: st) := by
  subst hi
  have hc : (nI j).toNatClampNeg = j := nI_clamp (by omega)
  refine g_iaload h 3 0 (by decide) rfl rfl (vp_in_nI hj (by decide)) hd ?_
  rw [hc]; exact k
theorem pi_bs (h : Cx Γ cc own rm TB CL (tym u) nl) {j : Nat} {i v : Int32} (hi : i = nI j) (hj : j < 64) (hd : decode cc pc = .ok (.iastore, 1)) (k : G Γ kc ks 18 ad (mob ad u (sI M 2 j v)) (pc + 1) L st) : G Γ kc ks 18 ad (mob ad u M) pc L (.int v :: .int i :: .ref (ad 3) :: st) := by
  subst hi
  have hc : (nI j).toNatClampNeg = j := nI_clamp (by omega)
  refine g_iastore h 3 0 (by decide) rfl rfl (vp_in_nI hj (by decide)) hd ?_
  rw [hc]
  have e : (sI M 2 j v).1 2 = upd (M.1 2) j v := by
    funext b
    simp [sI_1, upd]
  refine g_world (wm_sI (f := 2) rfl ?_) k
  show Sum.inl (u 0, 64, Sum.inl ((sI M 2 j v).1 2)) = _
  rw [e]
theorem gi_cs (h : Cx Γ cc own rm TB CL (tym u) nl) {j : Nat} {i : Int32} (hi : i = nI j) (hj : j < 64) (hd : decode cc pc = .ok (.iaload, 1)) (k : G Γ kc ks 18 ad (mob ad u M) (pc + 1) L (.int (M.1 3 j) :: st)) : G Γ kc ks 18 ad (mob ad u M) pc L (.int i :: .ref (ad 4) :: st) := by
  subst hi
  have hc : (nI j).toNatClampNeg = j := nI_clamp (by omega)
  refine g_iaload h 4 0 (by decide) rfl rfl (vp_in_nI hj (by decide)) hd ?_
  rw [hc]; exact k
theorem pi_cs (h : Cx Γ cc own rm TB CL (tym u) nl) {j : Nat} {i v : Int32} (hi : i = nI j) (hj : j < 64) (hd : decode cc pc = .ok (.iastore, 1)) (k : G Γ kc ks 18 ad (mob ad u (sI M 3 j v)) (pc + 1) L st) : G Γ kc ks 18 ad (mob ad u M) pc L (.int v :: .int i :: .ref (ad 4) :: st) := by
  subst hi
  have hc : (nI j).toNatClampNeg = j := nI_clamp (by omega)
  refine g_iastore h 4 0 (by decide) rfl rfl (vp_in_nI hj (by decide)) hd ?_
  rw [hc]
  have e : (sI M 3 j v).1 3 = upd (M.1 3) j v := by
    funext b
    simp [sI_1, upd]
  refine g_world (wm_sI (f := 3) rfl ?_) k
  show Sum.inl (u 0, 64, Sum.inl ((sI M 3 j v).1 3)) = _
  rw [e]
theorem gi_kind (h : Cx Γ cc own rm TB CL (tym u) nl) {j : Nat} {i : Int32} (hi : i = nI j) (hj : j < 16) (hd : decode cc pc = .ok (.iaload, 1)) (k : G Γ kc ks 18 ad (mob ad u M) (pc + 1) L (.int (M.1 4 j) :: st)) : G Γ kc ks 18 ad (mob ad u M) pc L (.int i :: .ref (ad 6) :: st) := by
  subst hi
  have hc : (nI j).toNatClampNeg = j := nI_clamp (by omega)
  refine g_iaload h 6 0 (by decide) rfl rfl (vp_in_nI hj (by decide)) hd ?_
  rw [hc]; exact k
theorem pi_kind (h : Cx Γ cc own rm TB CL (tym u) nl) {j : Nat} {i v : Int32} (hi : i = nI j) (hj : j < 16) (hd : decode cc pc = .ok (.iastore, 1)) (k : G Γ kc ks 18 ad (mob ad u (sI M 4 j v)) (pc + 1) L st) : G Γ kc ks 18 ad (mob ad u M) pc L (.int v :: .int i :: .ref (ad 6) :: st) := by
  subst hi
  have hc : (nI j).toNatClampNeg = j := nI_clamp (by omega)
  refine g_iastore h 6 0 (by decide) rfl rfl (vp_in_nI hj (by decide)) hd ?_
  rw [hc]
  have e : (sI M 4 j v).1 4 = upd (M.1 4) j v := by
    funext b
    simp [sI_1, upd]
  refine g_world (wm_sI (f := 4) rfl ?_) k
  show Sum.inl (u 0, 16, Sum.inl ((sI M 4 j v).1 4)) = _
  rw [e]
theorem gi_colour (h : Cx Γ cc own rm TB CL (tym u) nl) {j : Nat} {i : Int32} (hi : i = nI j) (hj : j < 16) (hd : decode cc pc = .ok (.iaload, 1)) (k : G Γ kc ks 18 ad (mob ad u M) (pc + 1) L (.int (M.1 5 j) :: st)) : G Γ kc ks 18 ad (mob ad u M) pc L (.int i :: .ref (ad 7) :: st) := by
  subst hi
  have hc : (nI j).toNatClampNeg = j := nI_clamp (by omega)
  refine g_iaload h 7 0 (by decide) rfl rfl (vp_in_nI hj (by decide)) hd ?_
  rw [hc]; exact k
theorem pi_colour (h : Cx Γ cc own rm TB CL (tym u) nl) {j : Nat} {i v : Int32} (hi : i = nI j) (hj : j < 16) (hd : decode cc pc = .ok (.iastore, 1)) (k : G Γ kc ks 18 ad (mob ad u (sI M 5 j v)) (pc + 1) L st) : G Γ kc ks 18 ad (mob ad u M) pc L (.int v :: .int i :: .ref (ad 7) :: st) := by
  subst hi
  have hc : (nI j).toNatClampNeg = j := nI_clamp (by omega)
  refine g_iastore h 7 0 (by decide) rfl rfl (vp_in_nI hj (by decide)) hd ?_
  rw [hc]
  have e : (sI M 5 j v).1 5 = upd (M.1 5) j v := by
    funext b
    simp [sI_1, upd]
  refine g_world (wm_sI (f := 5) rfl ?_) k
  show Sum.inl (u 0, 16, Sum.inl ((sI M 5 j v).1 5)) = _
  rw [e]
theorem gi_size (h : Cx Γ cc own rm TB CL (tym u) nl) {j : Nat} {i : Int32} (hi : i = nI j) (hj : j < 16) (hd : decode cc pc = .ok (.iaload, 1)) (k : G Γ kc ks 18 ad (mob ad u M) (pc + 1) L (.int (M.1 6 j) :: st)) : G Γ kc ks 18 ad (mob ad u M) pc L (.int i :: .ref (ad 8) :: st) := by
  subst hi
  have hc : (nI j).toNatClampNeg = j := nI_clamp (by omega)
  refine g_iaload h 8 0 (by decide) rfl rfl (vp_in_nI hj (by decide)) hd ?_
  rw [hc]; exact k
theorem pi_size (h : Cx Γ cc own rm TB CL (tym u) nl) {j : Nat} {i v : Int32} (hi : i = nI j) (hj : j < 16) (hd : decode cc pc = .ok (.iastore, 1)) (k : G Γ kc ks 18 ad (mob ad u (sI M 6 j v)) (pc + 1) L st) : G Γ kc ks 18 ad (mob ad u M) pc L (.int v :: .int i :: .ref (ad 8) :: st) := by
  subst hi
  have hc : (nI j).toNatClampNeg = j := nI_clamp (by omega)
  refine g_iastore h 8 0 (by decide) rfl rfl (vp_in_nI hj (by decide)) hd ?_
  rw [hc]
  have e : (sI M 6 j v).1 6 = upd (M.1 6) j v := by
    funext b
    simp [sI_1, upd]
  refine g_world (wm_sI (f := 6) rfl ?_) k
  show Sum.inl (u 0, 16, Sum.inl ((sI M 6 j v).1 6)) = _
  rw [e]
theorem gi_metaOf (h : Cx Γ cc own rm TB CL (tym u) nl) {j : Nat} {i : Int32} (hi : i = nI j) (hj : j < 16) (hd : decode cc pc = .ok (.iaload, 1)) (k : G Γ kc ks 18 ad (mob ad u M) (pc + 1) L (.int (M.1 7 j) :: st)) : G Γ kc ks 18 ad (mob ad u M) pc L (.int i :: .ref (ad 9) :: st) := by
  subst hi
  have hc : (nI j).toNatClampNeg = j := nI_clamp (by omega)
  refine g_iaload h 9 0 (by decide) rfl rfl (vp_in_nI hj (by decide)) hd ?_
  rw [hc]; exact k
theorem pi_metaOf (h : Cx Γ cc own rm TB CL (tym u) nl) {j : Nat} {i v : Int32} (hi : i = nI j) (hj : j < 16) (hd : decode cc pc = .ok (.iastore, 1)) (k : G Γ kc ks 18 ad (mob ad u (sI M 7 j v)) (pc + 1) L st) : G Γ kc ks 18 ad (mob ad u M) pc L (.int v :: .int i :: .ref (ad 9) :: st) := by
  subst hi
  have hc : (nI j).toNatClampNeg = j := nI_clamp (by omega)
  refine g_iastore h 9 0 (by decide) rfl rfl (vp_in_nI hj (by decide)) hd ?_
  rw [hc]
  have e : (sI M 7 j v).1 7 = upd (M.1 7) j v := by
    funext b
    simp [sI_1, upd]
  refine g_world (wm_sI (f := 7) rfl ?_) k
  show Sum.inl (u 0, 16, Sum.inl ((sI M 7 j v).1 7)) = _
  rw [e]
theorem gi_function (h : Cx Γ cc own rm TB CL (tym u) nl) {j : Nat} {i : Int32} (hi : i = nI j) (hj : j < 16) (hd : decode cc pc = .ok (.iaload, 1)) (k : G Γ kc ks 18 ad (mob ad u M) (pc + 1) L (.int (M.1 8 j) :: st)) : G Γ kc ks 18 ad (mob ad u M) pc L (.int i :: .ref (ad 13) :: st) := by
  subst hi
  have hc : (nI j).toNatClampNeg = j := nI_clamp (by omega)
  refine g_iaload h 13 0 (by decide) rfl rfl (vp_in_nI hj (by decide)) hd ?_
  rw [hc]; exact k
theorem pi_function (h : Cx Γ cc own rm TB CL (tym u) nl) {j : Nat} {i v : Int32} (hi : i = nI j) (hj : j < 16) (hd : decode cc pc = .ok (.iastore, 1)) (k : G Γ kc ks 18 ad (mob ad u (sI M 8 j v)) (pc + 1) L st) : G Γ kc ks 18 ad (mob ad u M) pc L (.int v :: .int i :: .ref (ad 13) :: st) := by
  subst hi
  have hc : (nI j).toNatClampNeg = j := nI_clamp (by omega)
  refine g_iastore h 13 0 (by decide) rfl rfl (vp_in_nI hj (by decide)) hd ?_
  rw [hc]
  have e : (sI M 8 j v).1 8 = upd (M.1 8) j v := by
    funext b
    simp [sI_1, upd]
  refine g_world (wm_sI (f := 8) rfl ?_) k
  show Sum.inl (u 0, 16, Sum.inl ((sI M 8 j v).1 8)) = _
  rw [e]
theorem gi_place (h : Cx Γ cc own rm TB CL (tym u) nl) {j : Nat} {i : Int32} (hi : i = nI j) (hj : j < 16) (hd : decode cc pc = .ok (.iaload, 1)) (k : G Γ kc ks 18 ad (mob ad u M) (pc + 1) L (.int (M.1 9 j) :: st)) : G Γ kc ks 18 ad (mob ad u M) pc L (.int i :: .ref (ad 14) :: st) := by
  subst hi
  have hc : (nI j).toNatClampNeg = j := nI_clamp (by omega)
  refine g_iaload h 14 0 (by decide) rfl rfl (vp_in_nI hj (by decide)) hd ?_
  rw [hc]; exact k
theorem pi_place (h : Cx Γ cc own rm TB CL (tym u) nl) {j : Nat} {i v : Int32} (hi : i = nI j) (hj : j < 16) (hd : decode cc pc = .ok (.iastore, 1)) (k : G Γ kc ks 18 ad (mob ad u (sI M 9 j v)) (pc + 1) L st) : G Γ kc ks 18 ad (mob ad u M) pc L (.int v :: .int i :: .ref (ad 14) :: st) := by
  subst hi
  have hc : (nI j).toNatClampNeg = j := nI_clamp (by omega)
  refine g_iastore h 14 0 (by decide) rfl rfl (vp_in_nI hj (by decide)) hd ?_
  rw [hc]
  have e : (sI M 9 j v).1 9 = upd (M.1 9) j v := by
    funext b
    simp [sI_1, upd]
  refine g_world (wm_sI (f := 9) rfl ?_) k
  show Sum.inl (u 0, 16, Sum.inl ((sI M 9 j v).1 9)) = _
  rw [e]
theorem gi_state (h : Cx Γ cc own rm TB CL (tym u) nl) {j : Nat} {i : Int32} (hi : i = nI j) (hj : j < 16) (hd : decode cc pc = .ok (.iaload, 1)) (k : G Γ kc ks 18 ad (mob ad u M) (pc + 1) L (.int (M.1 10 j) :: st)) : G Γ kc ks 18 ad (mob ad u M) pc L (.int i :: .ref (ad 15) :: st) := by
  subst hi
  have hc : (nI j).toNatClampNeg = j := nI_clamp (by omega)
  refine g_iaload h 15 0 (by decide) rfl rfl (vp_in_nI hj (by decide)) hd ?_
  rw [hc]; exact k
theorem pi_state (h : Cx Γ cc own rm TB CL (tym u) nl) {j : Nat} {i v : Int32} (hi : i = nI j) (hj : j < 16) (hd : decode cc pc = .ok (.iastore, 1)) (k : G Γ kc ks 18 ad (mob ad u (sI M 10 j v)) (pc + 1) L st) : G Γ kc ks 18 ad (mob ad u M) pc L (.int v :: .int i :: .ref (ad 15) :: st) := by
  subst hi
  have hc : (nI j).toNatClampNeg = j := nI_clamp (by omega)
  refine g_iastore h 15 0 (by decide) rfl rfl (vp_in_nI hj (by decide)) hd ?_
  rw [hc]
  have e : (sI M 10 j v).1 10 = upd (M.1 10) j v := by
    funext b
    simp [sI_1, upd]
  refine g_world (wm_sI (f := 10) rfl ?_) k
  show Sum.inl (u 0, 16, Sum.inl ((sI M 10 j v).1 10)) = _
  rw [e]
theorem gi_waits (h : Cx Γ cc own rm TB CL (tym u) nl) {j : Nat} {i : Int32} (hi : i = nI j) (hj : j < 16) (hd : decode cc pc = .ok (.iaload, 1)) (k : G Γ kc ks 18 ad (mob ad u M) (pc + 1) L (.int (M.1 11 j) :: st)) : G Γ kc ks 18 ad (mob ad u M) pc L (.int i :: .ref (ad 16) :: st) := by
  subst hi
  have hc : (nI j).toNatClampNeg = j := nI_clamp (by omega)
  refine g_iaload h 16 0 (by decide) rfl rfl (vp_in_nI hj (by decide)) hd ?_
  rw [hc]; exact k
theorem pi_waits (h : Cx Γ cc own rm TB CL (tym u) nl) {j : Nat} {i v : Int32} (hi : i = nI j) (hj : j < 16) (hd : decode cc pc = .ok (.iastore, 1)) (k : G Γ kc ks 18 ad (mob ad u (sI M 11 j v)) (pc + 1) L st) : G Γ kc ks 18 ad (mob ad u M) pc L (.int v :: .int i :: .ref (ad 16) :: st) := by
  subst hi
  have hc : (nI j).toNatClampNeg = j := nI_clamp (by omega)
  refine g_iastore h 16 0 (by decide) rfl rfl (vp_in_nI hj (by decide)) hd ?_
  rw [hc]
  have e : (sI M 11 j v).1 11 = upd (M.1 11) j v := by
    funext b
    simp [sI_1, upd]
  refine g_world (wm_sI (f := 11) rfl ?_) k
  show Sum.inl (u 0, 16, Sum.inl ((sI M 11 j v).1 11)) = _
  rw [e]
theorem gi_active (h : Cx Γ cc own rm TB CL (tym u) nl) {j : Nat} {i : Int32} (hi : i = nI j) (hj : j < 6) (hd : decode cc pc = .ok (.iaload, 1)) (k : G Γ kc ks 18 ad (mob ad u M) (pc + 1) L (.int (M.1 12 j) :: st)) : G Γ kc ks 18 ad (mob ad u M) pc L (.int i :: .ref (ad 17) :: st) := by
  subst hi
  have hc : (nI j).toNatClampNeg = j := nI_clamp (by omega)
  refine g_iaload h 17 0 (by decide) rfl rfl (vp_in_nI hj (by decide)) hd ?_
  rw [hc]; exact k
theorem pi_active (h : Cx Γ cc own rm TB CL (tym u) nl) {j : Nat} {i v : Int32} (hi : i = nI j) (hj : j < 6) (hd : decode cc pc = .ok (.iastore, 1)) (k : G Γ kc ks 18 ad (mob ad u (sI M 12 j v)) (pc + 1) L st) : G Γ kc ks 18 ad (mob ad u M) pc L (.int v :: .int i :: .ref (ad 17) :: st) := by
  subst hi
  have hc : (nI j).toNatClampNeg = j := nI_clamp (by omega)
  refine g_iastore h 17 0 (by decide) rfl rfl (vp_in_nI hj (by decide)) hd ?_
  rw [hc]
  have e : (sI M 12 j v).1 12 = upd (M.1 12) j v := by
    funext b
    simp [sI_1, upd]
  refine g_world (wm_sI (f := 12) rfl ?_) k
  show Sum.inl (u 0, 6, Sum.inl ((sI M 12 j v).1 12)) = _
  rw [e]
theorem gj_globals (h : Cx Γ cc own rm TB CL (tym u) nl) {j : Nat} {i : Int32} (hi : i = nI j) (hj : j < 6) (hd : decode cc pc = .ok (.laload, 1)) (k : G Γ kc ks 18 ad (mob ad u M) (pc + 1) L (.long (M.2.1 0 0 j) :: st)) : G Γ kc ks 18 ad (mob ad u M) pc L (.int i :: .ref (ad 5) :: st) := by
  subst hi
  have hc : (nI j).toNatClampNeg = j := nI_clamp (by omega)
  refine g_laload h 5 1 (by decide) rfl rfl (vp_in_nI hj (by decide)) hd ?_
  rw [hc]; exact k
theorem pj_globals (h : Cx Γ cc own rm TB CL (tym u) nl) {j : Nat} {i : Int32} {v : Int64} (hi : i = nI j) (hj : j < 6) (hd : decode cc pc = .ok (.lastore, 1)) (k : G Γ kc ks 18 ad (mob ad u (sJ M 0 0 j v)) (pc + 1) L st) : G Γ kc ks 18 ad (mob ad u M) pc L (.long v :: .int i :: .ref (ad 5) :: st) := by
  subst hi
  have hc : (nI j).toNatClampNeg = j := nI_clamp (by omega)
  refine g_lastore h 5 1 (by decide) rfl rfl (vp_in_nI hj (by decide)) hd ?_
  rw [hc]
  have e : (sJ M 0 0 j v).2.1 0 0 = vp_updL (M.2.1 0 0) j v := by
    funext b
    simp [sJ_2, vp_updL]
  refine g_world (wm_sJ (f := 0) rfl ?_) k
  show Sum.inl (u 1, 6, Sum.inr (Sum.inl ((sJ M 0 0 j v).2.1 0 0))) = _
  rw [e]
theorem gj_keys (h : Cx Γ cc own rm TB CL (tym u) nl) {j : Nat} {i : Int32} (hi : i = nI j) (hj : j < 96) (hd : decode cc pc = .ok (.laload, 1)) (k : G Γ kc ks 18 ad (mob ad u M) (pc + 1) L (.long (M.2.1 1 0 j) :: st)) : G Γ kc ks 18 ad (mob ad u M) pc L (.int i :: .ref (ad 10) :: st) := by
  subst hi
  have hc : (nI j).toNatClampNeg = j := nI_clamp (by omega)
  refine g_laload h 10 1 (by decide) rfl rfl (vp_in_nI hj (by decide)) hd ?_
  rw [hc]; exact k
theorem pj_keys (h : Cx Γ cc own rm TB CL (tym u) nl) {j : Nat} {i : Int32} {v : Int64} (hi : i = nI j) (hj : j < 96) (hd : decode cc pc = .ok (.lastore, 1)) (k : G Γ kc ks 18 ad (mob ad u (sJ M 1 0 j v)) (pc + 1) L st) : G Γ kc ks 18 ad (mob ad u M) pc L (.long v :: .int i :: .ref (ad 10) :: st) := by
  subst hi
  have hc : (nI j).toNatClampNeg = j := nI_clamp (by omega)
  refine g_lastore h 10 1 (by decide) rfl rfl (vp_in_nI hj (by decide)) hd ?_
  rw [hc]
  have e : (sJ M 1 0 j v).2.1 1 0 = vp_updL (M.2.1 1 0) j v := by
    funext b
    simp [sJ_2, vp_updL]
  refine g_world (wm_sJ (f := 1) rfl ?_) k
  show Sum.inl (u 1, 96, Sum.inr (Sum.inl ((sJ M 1 0 j v).2.1 1 0))) = _
  rw [e]
theorem gj_values (h : Cx Γ cc own rm TB CL (tym u) nl) {j : Nat} {i : Int32} (hi : i = nI j) (hj : j < 96) (hd : decode cc pc = .ok (.laload, 1)) (k : G Γ kc ks 18 ad (mob ad u M) (pc + 1) L (.long (M.2.1 2 0 j) :: st)) : G Γ kc ks 18 ad (mob ad u M) pc L (.int i :: .ref (ad 11) :: st) := by
  subst hi
  have hc : (nI j).toNatClampNeg = j := nI_clamp (by omega)
  refine g_laload h 11 1 (by decide) rfl rfl (vp_in_nI hj (by decide)) hd ?_
  rw [hc]; exact k
theorem pj_values (h : Cx Γ cc own rm TB CL (tym u) nl) {j : Nat} {i : Int32} {v : Int64} (hi : i = nI j) (hj : j < 96) (hd : decode cc pc = .ok (.lastore, 1)) (k : G Γ kc ks 18 ad (mob ad u (sJ M 2 0 j v)) (pc + 1) L st) : G Γ kc ks 18 ad (mob ad u M) pc L (.long v :: .int i :: .ref (ad 11) :: st) := by
  subst hi
  have hc : (nI j).toNatClampNeg = j := nI_clamp (by omega)
  refine g_lastore h 11 1 (by decide) rfl rfl (vp_in_nI hj (by decide)) hd ?_
  rw [hc]
  have e : (sJ M 2 0 j v).2.1 2 0 = vp_updL (M.2.1 2 0) j v := by
    funext b
    simp [sJ_2, vp_updL]
  refine g_world (wm_sJ (f := 2) rfl ?_) k
  show Sum.inl (u 1, 96, Sum.inr (Sum.inl ((sJ M 2 0 j v).2.1 2 0))) = _
  rw [e]
theorem gj_registers (h : Cx Γ cc own rm TB CL (tym u) nl) {j : Nat} {i : Int32} (hi : i = nI j) (hj : j < 64) (hd : decode cc pc = .ok (.laload, 1)) (k : G Γ kc ks 18 ad (mob ad u M) (pc + 1) L (.long (M.2.1 3 0 j) :: st)) : G Γ kc ks 18 ad (mob ad u M) pc L (.int i :: .ref (ad 12) :: st) := by
  subst hi
  have hc : (nI j).toNatClampNeg = j := nI_clamp (by omega)
  refine g_laload h 12 1 (by decide) rfl rfl (vp_in_nI hj (by decide)) hd ?_
  rw [hc]; exact k
theorem pj_registers (h : Cx Γ cc own rm TB CL (tym u) nl) {j : Nat} {i : Int32} {v : Int64} (hi : i = nI j) (hj : j < 64) (hd : decode cc pc = .ok (.lastore, 1)) (k : G Γ kc ks 18 ad (mob ad u (sJ M 3 0 j v)) (pc + 1) L st) : G Γ kc ks 18 ad (mob ad u M) pc L (.long v :: .int i :: .ref (ad 12) :: st) := by
  subst hi
  have hc : (nI j).toNatClampNeg = j := nI_clamp (by omega)
  refine g_lastore h 12 1 (by decide) rfl rfl (vp_in_nI hj (by decide)) hd ?_
  rw [hc]
  have e : (sJ M 3 0 j v).2.1 3 0 = vp_updL (M.2.1 3 0) j v := by
    funext b
    simp [sJ_2, vp_updL]
  refine g_world (wm_sJ (f := 3) rfl ?_) k
  show Sum.inl (u 1, 64, Sum.inr (Sum.inl ((sJ M 3 0 j v).2.1 3 0))) = _
  rw [e]
end RowsM
/-- the contract of a method of the reference -/
abbrev Cm (l : Launch) (D : va_G) (u : Nat → ClassId) (ad : Nat → Nat) (y : MethodName) (b : ByteArray) (n : Nat) (ret : Option FieldType) (rm : Room) (As : List Value) (M : CS) (v0 : Option Value) (M2 : CS) : Prop := Ct l D CL (tym u) NL 18 ad y (.code y b n ret :: TB) rm As (mob ad u M) (fun v σ2 => v = v0 ∧ σ2 = mob ad u M2)
end

-- part 34.specM
section
/-! THE REFERENCE AS FUNCTIONS on its own state: ints by (array, place) and (field, 0), longs by (array, 0, place) -/
theorem nI_at6 (a b : Nat) : nI a * 6 + nI b = nI (a * 6 + b) := by
  rw [← nI_add]
  congr 1
  exact (Int32.ofNat_mul a 6).symm
theorem nI_at4 (a b : Nat) : nI a * 4 + nI b = nI (a * 4 + b) := by
  rw [← nI_add]
  congr 1
  exact (Int32.ofNat_mul a 4).symm
theorem nI_at16 (a b : Nat) : nI a * 16 + nI b = nI (a * 16 + b) := by
  rw [← nI_add]
  congr 1
  exact (Int32.ofNat_mul a 16).symm
def mObj (v : Int64) : Option Nat := if v < 10000000000 then none else some (on v)
def mOf (M : CS) (k : Int32) (v : Int64) : Option Nat := if ¬ v < 10000000000 ∧ M.1 4 (on v) = k then some (on v) else none
def mshade (M : CS) (v : Int64) : CS := if ¬ v < 10000000000 ∧ M.1 5 (on v) = 0 then sI M 5 (on v) 1 else M
def mtouch (M : CS) (n : Nat) : CS := if M.1 14 0 = 1 ∧ M.1 5 n = 2 then sI M 5 n 1 else M
def mfree (M : CS) : Option Nat := lst (fun n => M.1 4 n == 0) 16 0
def mgray (M : CS) : Option Nat := lst (fun n => !(M.1 4 n == 0) && M.1 5 n == 1) 16 0
def mSize (M : CS) (n : Nat) : Nat := (M.1 6 n).toNatClampNeg
def mpair (M : CS) (t : Nat) (key : Int64) : Option Nat := lst (fun i => M.2.1 1 0 (t * 6 + i) == key) (mSize M t) 0
def mnext (M : CS) (t : Nat) (key : Int64) : Option Nat :=
  if M.1 7 t < 0 then none else match mpair M (M.1 7 t).toNatClampNeg key with
    | none => none
    | some p => mOf M 1 (M.2.1 2 0 ((M.1 7 t).toNatClampNeg * 6 + p))
/-- what the reference keeps true of its numbers -/
def okM (M : CS) : Prop := (∀ n, n < 16 → (∃ P, P ≤ 6 ∧ M.1 6 n = nI P) ∧ (M.1 7 n = -1 ∨ ∃ j, j < 16 ∧ M.1 7 n = nI j) ∧ (∃ p, p ≤ 16 ∧ M.1 9 n = nI p) ∧ (∃ a, a < 4 ∧ M.1 11 n = nI a)) ∧ (∀ f j, okV (M.2.1 f 0 j)) ∧ (∃ i, i < 16 ∧ M.1 15 0 = nI i) ∧ (∃ d, d ≤ 5 ∧ M.1 13 0 = nI d) ∧ (∀ k, k < 6 → ∃ n, n < 16 ∧ M.1 12 k = nI n)
theorem mSize_eq {M : CS} {n P : Nat} (hp : M.1 6 n = nI P) (hP : P ≤ 6) : mSize M n = P := by unfold mSize; rw [hp]; exact nI_clamp (by omega)
theorem mpair_lt {M : CS} {t P p : Nat} {key : Int64} (hp : M.1 6 t = nI P) (hP : P ≤ 6) (h : mpair M t key = some p) : p < P := by
  unfold mpair at h
  rw [mSize_eq hp hP] at h
  have := (lst_lt _ _ _ h).2.1
  omega
theorem mOf_lt {M : CS} {k : Int32} {v : Int64} {n : Nat} (hv : okV v) (h : mOf M k v = some n) : n < 16 := by
  unfold mOf at h
  split at h
  · rename_i hc
    cases h
    exact (okV_on hv hc.1).1
  · cases h
theorem okV_o {n : Nat} (h : n < 16) : okV (10000000000 + (nI n).toInt64) := .inr ⟨n, h, by rw [nI_l (by omega)]; rfl⟩
/-- all but the colours is as it was -/
def eq5 (M2 M : CS) : Prop := M2.2 = M.2 ∧ ∀ f, f ≠ 5 → ∀ b, M2.1 f b = M.1 f b
theorem eq5_refl (M : CS) : eq5 M M := ⟨rfl, fun _ _ _ => rfl⟩
theorem eq5_sI {M2 M : CS} {n : Nat} {v : Int32} (h : eq5 M2 M) : eq5 (sI M2 5 n v) M := ⟨h.1, fun f hf b => by rw [sI_1, if_neg (fun z => hf z.1)]; exact h.2 f hf b⟩
theorem eq5_shade {M2 M : CS} {v : Int64} (h : eq5 M2 M) : eq5 (mshade M2 v) M := by
  unfold mshade
  split
  · exact eq5_sI h
  · exact h
theorem eq5_trans {A B D : CS} (h : eq5 A B) (g : eq5 B D) : eq5 A D := ⟨h.1.trans g.1, fun f hf b => (h.2 f hf b).trans (g.2 f hf b)⟩
def mshades (row : Nat → Int64) : Nat → Nat → CS → CS
  | 0, _, M => M
  | c + 1, i, M => mshades row c (i + 1) (mshade M (row i))
theorem eq5_shades {row : Nat → Int64} : ∀ (c i : Nat) {M2 M : CS}, eq5 M2 M → eq5 (mshades row c i M2) M
  | 0, _, _, _, h => h
  | c + 1, i, _, _, h => eq5_shades c (i + 1) (eq5_shade h)
def mDepth (M : CS) : Nat := (M.1 13 0).toNatClampNeg
def mAct (M : CS) (k : Nat) : Nat := (M.1 12 k).toNatClampNeg
def mroots : Nat → Nat → CS → CS
  | 0, _, M => M
  | c + 1, k, M => mroots c (k + 1) (mshades (fun r => M.2.1 3 0 (mAct M k * 4 + r)) 4 0 (mshade M (10000000000 + (M.1 12 k).toInt64)))
def mshadeRoots (M : CS) : CS := mroots (mDepth M) 0 (mshades (M.2.1 0 0) 6 0 M)
theorem eq5_roots : ∀ (c k : Nat) {M2 M : CS}, eq5 M2 M → eq5 (mroots c k M2) M
  | 0, _, _, _, h => h
  | c + 1, k, _, _, h => eq5_roots c (k + 1) (eq5_shades 4 0 (eq5_shade h))
theorem eq5_shadeRoots {M2 M : CS} (h : eq5 M2 M) : eq5 (mshadeRoots M2) M := eq5_roots _ _ (eq5_shades 6 0 h)
def mshadeKV (ks vs : Nat → Int64) : Nat → Nat → CS → CS
  | 0, _, M => M
  | c + 1, i, M => mshadeKV ks vs c (i + 1) (mshade (mshade M (ks i)) (vs i))
theorem eq5_shadeKV {ks vs : Nat → Int64} : ∀ (c i : Nat) {M2 M : CS}, eq5 M2 M → eq5 (mshadeKV ks vs c i M2) M
  | 0, _, _, _, h => h
  | c + 1, i, _, _, h => eq5_shadeKV c (i + 1) (eq5_shade (eq5_shade h))
def mblacken (M : CS) (n : Nat) : CS :=
  if M.1 4 n = 2 then mshades (fun r => M.2.1 3 0 (n * 4 + r)) 4 0 (sI M 5 n 2)
  else mshadeKV (fun p => M.2.1 1 0 (n * 6 + p)) (fun p => M.2.1 2 0 (n * 6 + p)) (mSize M n) 0 (if M.1 7 n < 0 then sI M 5 n 2 else mshade (sI M 5 n 2) (10000000000 + (M.1 7 n).toInt64))
theorem eq5_blacken {M2 M : CS} {n : Nat} (h : eq5 M2 M) : eq5 (mblacken M2 n) M := by
  unfold mblacken
  split
  · exact eq5_shades _ _ (eq5_sI h)
  · refine eq5_shadeKV _ _ ?_
    split
    · exact eq5_sI h
    · exact eq5_shade (eq5_sI h)
theorem okM_eq5 {M2 M : CS} (e : eq5 M2 M) (h : okM M) : okM M2 := by
  obtain ⟨h1, h2, h3, h4, h5⟩ := h
  refine ⟨fun n hn => ?_, fun f j => ?_, ?_, ?_, fun k hk => ?_⟩
  · rw [e.2 6 (by decide), e.2 7 (by decide), e.2 9 (by decide), e.2 11 (by decide)]; exact h1 n hn
  · rw [e.1]; exact h2 f j
  · rw [e.2 15 (by decide)]; exact h3
  · rw [e.2 13 (by decide)]; exact h4
  · rw [e.2 12 (by decide)]; exact h5 k hk
theorem okM_keep {M : CS} {f n : Nat} {v : Int32} (hf : f ≠ 6 ∧ f ≠ 7 ∧ f ≠ 9 ∧ f ≠ 11 ∧ f ≠ 12 ∧ f ≠ 13 ∧ f ≠ 15) (h : okM M) : okM (sI M f n v) := by
  obtain ⟨h1, h2, h3, h4, h5⟩ := h
  have e : ∀ g b, g ≠ f → (sI M f n v).1 g b = M.1 g b := fun g b hg => by rw [sI_1, if_neg (fun z => hg z.1)]
  obtain ⟨f6, f7, f9, f11, f12, f13, f15⟩ := hf
  refine ⟨fun n hn => ?_, fun f j => h2 f j, ?_, ?_, fun k hk => ?_⟩
  · rw [e 6 _ f6.symm, e 7 _ f7.symm, e 9 _ f9.symm, e 11 _ f11.symm]; exact h1 n hn
  · rw [e 15 _ f15.symm]; exact h3
  · rw [e 13 _ f13.symm]; exact h4
  · rw [e 12 _ f12.symm]; exact h5 k hk
def munit (M : CS) : Int32 × CS :=
  let M1 := sI M 19 0 (M.1 19 0 + 1)
  if M.1 14 0 = 0 then (0, sI (mshadeRoots M1) 14 0 1)
  else if M.1 14 0 = 1 then match mgray M1 with
    | some n => (0, mblacken M1 n)
    | none => match mgray (mshadeRoots M1) with
      | some _ => (0, mshadeRoots M1)
      | none => (0, sI (sI (mshadeRoots M1) 14 0 2) 15 0 0)
  else
    let i := (M.1 15 0).toNatClampNeg
    let M2 := if ¬ M.1 4 i = 0 ∧ M.1 5 i = 0 then sI (sI M1 4 i 0) 17 0 (M.1 17 0 + 1) else M1
    let M3 := sI (sI M2 5 i 0) 15 0 (M.1 15 0 + 1)
    (if ¬ M.1 4 i = 0 ∧ M.1 5 i = 0 then 1 else 0, if M.1 15 0 + 1 = 16 then sI (sI M3 15 0 0) 14 0 0 else M3)
theorem mgray_lt {M : CS} {n : Nat} (h : mgray M = some n) : n < 16 := by have := (lst_lt _ _ _ h).2.1; omega
theorem mfree_lt {M : CS} {n : Nat} (h : mfree M = some n) : n < 16 := by have := (lst_lt _ _ _ h).2.1; omega
/-- GETTING: its trouble and its value -/
def mgetting (M : CS) (key : Int64) : Nat → Nat → Int64 × CS
  | 0, _ => (-1000000000000, sI M 22 0 2)
  | c + 1, n => if key = -1000000000000 then (-1000000000000, M) else match mpair M n key with
    | some p => (M.2.1 2 0 (n * 6 + p), M)
    | none => match mnext M n 0 with
      | none => (-1000000000000, M)
      | some m => mgetting M key c m
theorem mnext_lt {M : CS} {n m : Nat} {key : Int64} (hok : okM M) (h : mnext M n key = some m) : m < 16 := by
  unfold mnext at h
  split at h
  · cases h
  · split at h
    · cases h
    · exact mOf_lt (hok.2.1 _ _) h
end
