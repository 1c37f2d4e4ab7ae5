theorem dM_init_0 : decode prog_8_method_1_code 0 = .ok (.aload_n 0, 1) := by decide +kernel
theorem dM_init_1 : decode prog_8_method_1_code 1 = .ok (.invokespecial 1, 3) := by decide +kernel
theorem dM_init_4 : decode prog_8_method_1_code 4 = .ok (.aload_n 0, 1) := by decide +kernel
theorem dM_init_5 : decode prog_8_method_1_code 5 = .ok (.bipush 80, 2) := by decide +kernel
theorem dM_init_7 : decode prog_8_method_1_code 7 = .ok (.newarray .int, 2) := by decide +kernel
theorem dM_init_9 : decode prog_8_method_1_code 9 = .ok (.putfield 7, 3) := by decide +kernel
theorem dM_init_12 : decode prog_8_method_1_code 12 = .ok (.aload_n 0, 1) := by decide +kernel
theorem dM_init_13 : decode prog_8_method_1_code 13 = .ok (.bipush 80, 2) := by decide +kernel
theorem dM_init_15 : decode prog_8_method_1_code 15 = .ok (.newarray .int, 2) := by decide +kernel
theorem dM_init_17 : decode prog_8_method_1_code 17 = .ok (.putfield 13, 3) := by decide +kernel
theorem dM_init_20 : decode prog_8_method_1_code 20 = .ok (.aload_n 0, 1) := by decide +kernel
theorem dM_init_21 : decode prog_8_method_1_code 21 = .ok (.bipush 8, 2) := by decide +kernel
theorem dM_init_23 : decode prog_8_method_1_code 23 = .ok (.newarray .int, 2) := by decide +kernel
theorem dM_init_25 : decode prog_8_method_1_code 25 = .ok (.putfield 16, 3) := by decide +kernel
theorem dM_init_28 : decode prog_8_method_1_code 28 = .ok (.aload_n 0, 1) := by decide +kernel
theorem dM_init_29 : decode prog_8_method_1_code 29 = .ok (.bipush 8, 2) := by decide +kernel
theorem dM_init_31 : decode prog_8_method_1_code 31 = .ok (.newarray .int, 2) := by decide +kernel
theorem dM_init_33 : decode prog_8_method_1_code 33 = .ok (.putfield 19, 3) := by decide +kernel
theorem dM_init_36 : decode prog_8_method_1_code 36 = .ok (.aload_n 0, 1) := by decide +kernel
theorem dM_init_37 : decode prog_8_method_1_code 37 = .ok (.bipush 8, 2) := by decide +kernel
theorem dM_init_39 : decode prog_8_method_1_code 39 = .ok (.newarray .boolean, 2) := by decide +kernel
theorem dM_init_41 : decode prog_8_method_1_code 41 = .ok (.putfield 22, 3) := by decide +kernel
theorem dM_init_44 : decode prog_8_method_1_code 44 = .ok (.aload_n 0, 1) := by decide +kernel
theorem dM_init_45 : decode prog_8_method_1_code 45 = .ok (.bipush 8, 2) := by decide +kernel
theorem dM_init_47 : decode prog_8_method_1_code 47 = .ok (.newarray .int, 2) := by decide +kernel
theorem dM_init_49 : decode prog_8_method_1_code 49 = .ok (.putfield 26, 3) := by decide +kernel
theorem dM_init_52 : decode prog_8_method_1_code 52 = .ok (.aload_n 0, 1) := by decide +kernel
theorem dM_init_53 : decode prog_8_method_1_code 53 = .ok (.bipush 8, 2) := by decide +kernel
theorem dM_init_55 : decode prog_8_method_1_code 55 = .ok (.newarray .int, 2) := by decide +kernel
theorem dM_init_57 : decode prog_8_method_1_code 57 = .ok (.putfield 29, 3) := by decide +kernel
theorem dM_init_60 : decode prog_8_method_1_code 60 = .ok (.aload_n 0, 1) := by decide +kernel
theorem dM_init_61 : decode prog_8_method_1_code 61 = .ok (.iconst 1, 1) := by decide +kernel
theorem dM_init_62 : decode prog_8_method_1_code 62 = .ok (.putfield 32, 3) := by decide +kernel
theorem dM_init_65 : decode prog_8_method_1_code 65 = .ok (.aload_n 0, 1) := by decide +kernel
theorem dM_init_66 : decode prog_8_method_1_code 66 = .ok (.bipush 8, 2) := by decide +kernel
theorem dM_init_68 : decode prog_8_method_1_code 68 = .ok (.newarray .int, 2) := by decide +kernel
theorem dM_init_70 : decode prog_8_method_1_code 70 = .ok (.putfield 36, 3) := by decide +kernel
theorem dM_init_73 : decode prog_8_method_1_code 73 = .ok (.aload_n 0, 1) := by decide +kernel
theorem dM_init_74 : decode prog_8_method_1_code 74 = .ok (.bipush 8, 2) := by decide +kernel
theorem dM_init_76 : decode prog_8_method_1_code 76 = .ok (.newarray .int, 2) := by decide +kernel
theorem dM_init_78 : decode prog_8_method_1_code 78 = .ok (.putfield 39, 3) := by decide +kernel
theorem dM_init_81 : decode prog_8_method_1_code 81 = .ok (.aload_n 0, 1) := by decide +kernel
theorem dM_init_82 : decode prog_8_method_1_code 82 = .ok (.bipush 8, 2) := by decide +kernel
theorem dM_init_84 : decode prog_8_method_1_code 84 = .ok (.newarray .boolean, 2) := by decide +kernel
theorem dM_init_86 : decode prog_8_method_1_code 86 = .ok (.putfield 42, 3) := by decide +kernel
theorem dM_init_89 : decode prog_8_method_1_code 89 = .ok (.aload_n 0, 1) := by decide +kernel
theorem dM_init_90 : decode prog_8_method_1_code 90 = .ok (.bipush 8, 2) := by decide +kernel
theorem dM_init_92 : decode prog_8_method_1_code 92 = .ok (.newarray .int, 2) := by decide +kernel
theorem dM_init_94 : decode prog_8_method_1_code 94 = .ok (.putfield 45, 3) := by decide +kernel
theorem dM_init_97 : decode prog_8_method_1_code 97 = .ok (.aload_n 0, 1) := by decide +kernel
theorem dM_init_98 : decode prog_8_method_1_code 98 = .ok (.bipush 26, 2) := by decide +kernel
theorem dM_init_100 : decode prog_8_method_1_code 100 = .ok (.newarray .boolean, 2) := by decide +kernel
theorem dM_init_102 : decode prog_8_method_1_code 102 = .ok (.putfield 48, 3) := by decide +kernel
theorem dM_init_105 : decode prog_8_method_1_code 105 = .ok (.aload_n 0, 1) := by decide +kernel
theorem dM_init_106 : decode prog_8_method_1_code 106 = .ok (.bipush 8, 2) := by decide +kernel
theorem dM_init_108 : decode prog_8_method_1_code 108 = .ok (.newarray .long, 2) := by decide +kernel
theorem dM_init_110 : decode prog_8_method_1_code 110 = .ok (.putfield 51, 3) := by decide +kernel
theorem dM_init_113 : decode prog_8_method_1_code 113 = .ok (.aload_n 0, 1) := by decide +kernel
theorem dM_init_114 : decode prog_8_method_1_code 114 = .ok (.bipush 8, 2) := by decide +kernel
theorem dM_init_116 : decode prog_8_method_1_code 116 = .ok (.newarray .boolean, 2) := by decide +kernel
theorem dM_init_118 : decode prog_8_method_1_code 118 = .ok (.putfield 55, 3) := by decide +kernel
theorem dM_init_121 : decode prog_8_method_1_code 121 = .ok (.aload_n 0, 1) := by decide +kernel
theorem dM_init_122 : decode prog_8_method_1_code 122 = .ok (.bipush 8, 2) := by decide +kernel
theorem dM_init_124 : decode prog_8_method_1_code 124 = .ok (.newarray .int, 2) := by decide +kernel
theorem dM_init_126 : decode prog_8_method_1_code 126 = .ok (.putfield 58, 3) := by decide +kernel
theorem dM_init_129 : decode prog_8_method_1_code 129 = .ok (.aload_n 0, 1) := by decide +kernel
theorem dM_init_130 : decode prog_8_method_1_code 130 = .ok (.bipush 10, 2) := by decide +kernel
theorem dM_init_132 : decode prog_8_method_1_code 132 = .ok (.newarray .boolean, 2) := by decide +kernel
theorem dM_init_134 : decode prog_8_method_1_code 134 = .ok (.putfield 61, 3) := by decide +kernel
theorem dM_init_137 : decode prog_8_method_1_code 137 = .ok (.aload_n 0, 1) := by decide +kernel
theorem dM_init_138 : decode prog_8_method_1_code 138 = .ok (.sipush 8000, 3) := by decide +kernel
theorem dM_init_141 : decode prog_8_method_1_code 141 = .ok (.newarray .int, 2) := by decide +kernel
theorem dM_init_143 : decode prog_8_method_1_code 143 = .ok (.putfield 64, 3) := by decide +kernel
theorem dM_init_146 : decode prog_8_method_1_code 146 = .ok (.aload_n 0, 1) := by decide +kernel
theorem dM_init_147 : decode prog_8_method_1_code 147 = .ok (.iload_n 1, 1) := by decide +kernel
theorem dM_init_148 : decode prog_8_method_1_code 148 = .ok (.iconst 2, 1) := by decide +kernel
theorem dM_init_149 : decode prog_8_method_1_code 149 = .ok (.if_icmp .ge 7, 3) := by decide +kernel
theorem dM_init_152 : decode prog_8_method_1_code 152 = .ok (.iconst 2, 1) := by decide +kernel
theorem dM_init_153 : decode prog_8_method_1_code 153 = .ok (.goto 15, 3) := by decide +kernel
theorem dM_init_156 : decode prog_8_method_1_code 156 = .ok (.iload_n 1, 1) := by decide +kernel
theorem dM_init_157 : decode prog_8_method_1_code 157 = .ok (.bipush 10, 2) := by decide +kernel
theorem dM_init_159 : decode prog_8_method_1_code 159 = .ok (.if_icmp .le 8, 3) := by decide +kernel
theorem dM_init_162 : decode prog_8_method_1_code 162 = .ok (.bipush 10, 2) := by decide +kernel
theorem dM_init_164 : decode prog_8_method_1_code 164 = .ok (.goto 4, 3) := by decide +kernel
theorem dM_init_167 : decode prog_8_method_1_code 167 = .ok (.iload_n 1, 1) := by decide +kernel
theorem dM_init_168 : decode prog_8_method_1_code 168 = .ok (.putfield 67, 3) := by decide +kernel
theorem dM_init_171 : decode prog_8_method_1_code 171 = .ok (.return_, 1) := by decide +kernel
theorem dM_unit_0 : decode prog_8_method_3_code 0 = .ok (.aload_n 0, 1) := by decide +kernel
theorem dM_unit_1 : decode prog_8_method_3_code 1 = .ok (.iconst 0, 1) := by decide +kernel
theorem dM_unit_2 : decode prog_8_method_3_code 2 = .ok (.putfield 71, 3) := by decide +kernel
theorem dM_unit_5 : decode prog_8_method_3_code 5 = .ok (.iload_n 1, 1) := by decide +kernel
theorem dM_unit_6 : decode prog_8_method_3_code 6 = .ok (.ifCond .lt 19, 3) := by decide +kernel
theorem dM_unit_9 : decode prog_8_method_3_code 9 = .ok (.iload_n 1, 1) := by decide +kernel
theorem dM_unit_10 : decode prog_8_method_3_code 10 = .ok (.sipush 255, 3) := by decide +kernel
theorem dM_unit_13 : decode prog_8_method_3_code 13 = .ok (.if_icmp .gt 12, 3) := by decide +kernel
theorem dM_unit_16 : decode prog_8_method_3_code 16 = .ok (.aload_n 0, 1) := by decide +kernel
theorem dM_unit_17 : decode prog_8_method_3_code 17 = .ok (.getfield 74, 3) := by decide +kernel
theorem dM_unit_20 : decode prog_8_method_3_code 20 = .ok (.bipush 80, 2) := by decide +kernel
theorem dM_unit_22 : decode prog_8_method_3_code 22 = .ok (.if_icmp .ne 5, 3) := by decide +kernel
theorem dM_unit_25 : decode prog_8_method_3_code 25 = .ok (.iconst 0, 1) := by decide +kernel
theorem dM_unit_26 : decode prog_8_method_3_code 26 = .ok (.ireturn, 1) := by decide +kernel
theorem dM_unit_27 : decode prog_8_method_3_code 27 = .ok (.aload_n 0, 1) := by decide +kernel
theorem dM_unit_28 : decode prog_8_method_3_code 28 = .ok (.getfield 7, 3) := by decide +kernel
theorem dM_unit_31 : decode prog_8_method_3_code 31 = .ok (.aload_n 0, 1) := by decide +kernel
theorem dM_unit_32 : decode prog_8_method_3_code 32 = .ok (.getfield 74, 3) := by decide +kernel
theorem dM_unit_35 : decode prog_8_method_3_code 35 = .ok (.iload_n 1, 1) := by decide +kernel
theorem dM_unit_36 : decode prog_8_method_3_code 36 = .ok (.iastore, 1) := by decide +kernel
theorem dM_unit_37 : decode prog_8_method_3_code 37 = .ok (.aload_n 0, 1) := by decide +kernel
theorem dM_unit_38 : decode prog_8_method_3_code 38 = .ok (.dup, 1) := by decide +kernel
theorem dM_unit_39 : decode prog_8_method_3_code 39 = .ok (.getfield 74, 3) := by decide +kernel
theorem dM_unit_42 : decode prog_8_method_3_code 42 = .ok (.iconst 1, 1) := by decide +kernel
theorem dM_unit_43 : decode prog_8_method_3_code 43 = .ok (.iadd, 1) := by decide +kernel
theorem dM_unit_44 : decode prog_8_method_3_code 44 = .ok (.putfield 74, 3) := by decide +kernel
theorem dM_unit_47 : decode prog_8_method_3_code 47 = .ok (.iconst 1, 1) := by decide +kernel
theorem dM_unit_48 : decode prog_8_method_3_code 48 = .ok (.ireturn, 1) := by decide +kernel
theorem dM_isLetter_0 : decode prog_8_method_4_code 0 = .ok (.iload_n 0, 1) := by decide +kernel
theorem dM_isLetter_1 : decode prog_8_method_4_code 1 = .ok (.bipush 97, 2) := by decide +kernel
theorem dM_isLetter_3 : decode prog_8_method_4_code 3 = .ok (.if_icmp .lt 13, 3) := by decide +kernel
theorem dM_isLetter_6 : decode prog_8_method_4_code 6 = .ok (.iload_n 0, 1) := by decide +kernel
theorem dM_isLetter_7 : decode prog_8_method_4_code 7 = .ok (.bipush 122, 2) := by decide +kernel
theorem dM_isLetter_9 : decode prog_8_method_4_code 9 = .ok (.if_icmp .gt 7, 3) := by decide +kernel
theorem dM_isLetter_12 : decode prog_8_method_4_code 12 = .ok (.iconst 1, 1) := by decide +kernel
theorem dM_isLetter_13 : decode prog_8_method_4_code 13 = .ok (.goto 4, 3) := by decide +kernel
theorem dM_isLetter_16 : decode prog_8_method_4_code 16 = .ok (.iconst 0, 1) := by decide +kernel
theorem dM_isLetter_17 : decode prog_8_method_4_code 17 = .ok (.ireturn, 1) := by decide +kernel
theorem dM_isSign_0 : decode prog_8_method_5_code 0 = .ok (.iload_n 1, 1) := by decide +kernel
theorem dM_isSign_1 : decode prog_8_method_5_code 1 = .ok (.invokestatic 77, 3) := by decide +kernel
theorem dM_isSign_4 : decode prog_8_method_5_code 4 = .ok (.ifCond .ne 20, 3) := by decide +kernel
theorem dM_isSign_7 : decode prog_8_method_5_code 7 = .ok (.iload_n 1, 1) := by decide +kernel
theorem dM_isSign_8 : decode prog_8_method_5_code 8 = .ok (.bipush 48, 2) := by decide +kernel
theorem dM_isSign_10 : decode prog_8_method_5_code 10 = .ok (.if_icmp .lt 18, 3) := by decide +kernel
theorem dM_isSign_13 : decode prog_8_method_5_code 13 = .ok (.iload_n 1, 1) := by decide +kernel
theorem dM_isSign_14 : decode prog_8_method_5_code 14 = .ok (.bipush 48, 2) := by decide +kernel
theorem dM_isSign_16 : decode prog_8_method_5_code 16 = .ok (.aload_n 0, 1) := by decide +kernel
theorem dM_isSign_17 : decode prog_8_method_5_code 17 = .ok (.getfield 67, 3) := by decide +kernel
theorem dM_isSign_20 : decode prog_8_method_5_code 20 = .ok (.iadd, 1) := by decide +kernel
theorem dM_isSign_21 : decode prog_8_method_5_code 21 = .ok (.if_icmp .ge 7, 3) := by decide +kernel
theorem dM_isSign_24 : decode prog_8_method_5_code 24 = .ok (.iconst 1, 1) := by decide +kernel
theorem dM_isSign_25 : decode prog_8_method_5_code 25 = .ok (.goto 4, 3) := by decide +kernel
theorem dM_isSign_28 : decode prog_8_method_5_code 28 = .ok (.iconst 0, 1) := by decide +kernel
theorem dM_isSign_29 : decode prog_8_method_5_code 29 = .ok (.ireturn, 1) := by decide +kernel
theorem dM_look_0 : decode prog_8_method_6_code 0 = .ok (.iconst 0, 1) := by decide +kernel
theorem dM_look_1 : decode prog_8_method_6_code 1 = .ok (.istore_n 2, 1) := by decide +kernel
theorem dM_look_2 : decode prog_8_method_6_code 2 = .ok (.iconst 0, 1) := by decide +kernel
theorem dM_look_3 : decode prog_8_method_6_code 3 = .ok (.istore_n 3, 1) := by decide +kernel
theorem dM_look_4 : decode prog_8_method_6_code 4 = .ok (.iconst 1, 1) := by decide +kernel
theorem dM_look_5 : decode prog_8_method_6_code 5 = .ok (.istore 4, 2) := by decide +kernel
theorem dM_look_7 : decode prog_8_method_6_code 7 = .ok (.aload_n 0, 1) := by decide +kernel
theorem dM_look_8 : decode prog_8_method_6_code 8 = .ok (.iconst 0, 1) := by decide +kernel
theorem dM_look_9 : decode prog_8_method_6_code 9 = .ok (.putfield 81, 3) := by decide +kernel
theorem dM_look_12 : decode prog_8_method_6_code 12 = .ok (.iconst 0, 1) := by decide +kernel
theorem dM_look_13 : decode prog_8_method_6_code 13 = .ok (.istore 5, 2) := by decide +kernel
theorem dM_look_15 : decode prog_8_method_6_code 15 = .ok (.iload 5, 2) := by decide +kernel
theorem dM_look_17 : decode prog_8_method_6_code 17 = .ok (.bipush 26, 2) := by decide +kernel
theorem dM_look_19 : decode prog_8_method_6_code 19 = .ok (.if_icmp .ge 17, 3) := by decide +kernel
theorem dM_look_22 : decode prog_8_method_6_code 22 = .ok (.aload_n 0, 1) := by decide +kernel
theorem dM_look_23 : decode prog_8_method_6_code 23 = .ok (.getfield 48, 3) := by decide +kernel
theorem dM_look_26 : decode prog_8_method_6_code 26 = .ok (.iload 5, 2) := by decide +kernel
theorem dM_look_28 : decode prog_8_method_6_code 28 = .ok (.iconst 0, 1) := by decide +kernel
theorem dM_look_29 : decode prog_8_method_6_code 29 = .ok (.bastore, 1) := by decide +kernel
theorem dM_look_30 : decode prog_8_method_6_code 30 = .ok (.iinc 5 1, 3) := by decide +kernel
theorem dM_look_33 : decode prog_8_method_6_code 33 = .ok (.goto (-18), 3) := by decide +kernel
theorem dM_look_36 : decode prog_8_method_6_code 36 = .ok (.iconst 0, 1) := by decide +kernel
theorem dM_look_37 : decode prog_8_method_6_code 37 = .ok (.istore 5, 2) := by decide +kernel
theorem dM_look_39 : decode prog_8_method_6_code 39 = .ok (.iload 5, 2) := by decide +kernel
theorem dM_look_41 : decode prog_8_method_6_code 41 = .ok (.iload_n 1, 1) := by decide +kernel
theorem dM_look_42 : decode prog_8_method_6_code 42 = .ok (.if_icmp .ge 270, 3) := by decide +kernel
theorem dM_look_45 : decode prog_8_method_6_code 45 = .ok (.aload_n 0, 1) := by decide +kernel
theorem dM_look_46 : decode prog_8_method_6_code 46 = .ok (.getfield 7, 3) := by decide +kernel
theorem dM_look_49 : decode prog_8_method_6_code 49 = .ok (.iload 5, 2) := by decide +kernel
theorem dM_look_51 : decode prog_8_method_6_code 51 = .ok (.iaload, 1) := by decide +kernel
theorem dM_look_52 : decode prog_8_method_6_code 52 = .ok (.istore 6, 2) := by decide +kernel
theorem dM_look_54 : decode prog_8_method_6_code 54 = .ok (.aload_n 0, 1) := by decide +kernel
theorem dM_look_55 : decode prog_8_method_6_code 55 = .ok (.iload 6, 2) := by decide +kernel
theorem dM_look_57 : decode prog_8_method_6_code 57 = .ok (.invokevirtual 84, 3) := by decide +kernel
theorem dM_look_60 : decode prog_8_method_6_code 60 = .ok (.ifCond .eq 185, 3) := by decide +kernel
theorem dM_look_63 : decode prog_8_method_6_code 63 = .ok (.iload 4, 2) := by decide +kernel
theorem dM_look_65 : decode prog_8_method_6_code 65 = .ok (.ifCond .eq 12, 3) := by decide +kernel
theorem dM_look_68 : decode prog_8_method_6_code 68 = .ok (.aload_n 0, 1) := by decide +kernel
theorem dM_look_69 : decode prog_8_method_6_code 69 = .ok (.getfield 81, 3) := by decide +kernel
theorem dM_look_72 : decode prog_8_method_6_code 72 = .ok (.bipush 8, 2) := by decide +kernel
theorem dM_look_74 : decode prog_8_method_6_code 74 = .ok (.if_icmp .eq 24, 3) := by decide +kernel
theorem dM_look_77 : decode prog_8_method_6_code 77 = .ok (.iload 4, 2) := by decide +kernel
theorem dM_look_79 : decode prog_8_method_6_code 79 = .ok (.ifCond .ne 22, 3) := by decide +kernel
theorem dM_look_82 : decode prog_8_method_6_code 82 = .ok (.aload_n 0, 1) := by decide +kernel
theorem dM_look_83 : decode prog_8_method_6_code 83 = .ok (.getfield 39, 3) := by decide +kernel
theorem dM_look_86 : decode prog_8_method_6_code 86 = .ok (.aload_n 0, 1) := by decide +kernel
theorem dM_look_87 : decode prog_8_method_6_code 87 = .ok (.getfield 81, 3) := by decide +kernel
theorem dM_look_90 : decode prog_8_method_6_code 90 = .ok (.iconst 1, 1) := by decide +kernel
theorem dM_look_91 : decode prog_8_method_6_code 91 = .ok (.isub, 1) := by decide +kernel
theorem dM_look_92 : decode prog_8_method_6_code 92 = .ok (.iaload, 1) := by decide +kernel
theorem dM_look_93 : decode prog_8_method_6_code 93 = .ok (.bipush 8, 2) := by decide +kernel
theorem dM_look_95 : decode prog_8_method_6_code 95 = .ok (.if_icmp .ne 6, 3) := by decide +kernel
theorem dM_look_98 : decode prog_8_method_6_code 98 = .ok (.iload 5, 2) := by decide +kernel
theorem dM_look_100 : decode prog_8_method_6_code 100 = .ok (.ireturn, 1) := by decide +kernel
theorem dM_look_101 : decode prog_8_method_6_code 101 = .ok (.iload 6, 2) := by decide +kernel
theorem dM_look_103 : decode prog_8_method_6_code 103 = .ok (.invokestatic 77, 3) := by decide +kernel
theorem dM_look_106 : decode prog_8_method_6_code 106 = .ok (.ifCond .eq 39, 3) := by decide +kernel
theorem dM_look_109 : decode prog_8_method_6_code 109 = .ok (.aload_n 0, 1) := by decide +kernel
theorem dM_look_110 : decode prog_8_method_6_code 110 = .ok (.getfield 48, 3) := by decide +kernel
theorem dM_look_113 : decode prog_8_method_6_code 113 = .ok (.iload 6, 2) := by decide +kernel
theorem dM_look_115 : decode prog_8_method_6_code 115 = .ok (.bipush 97, 2) := by decide +kernel
theorem dM_look_117 : decode prog_8_method_6_code 117 = .ok (.isub, 1) := by decide +kernel
theorem dM_look_118 : decode prog_8_method_6_code 118 = .ok (.baload, 1) := by decide +kernel
theorem dM_look_119 : decode prog_8_method_6_code 119 = .ok (.ifCond .ne 26, 3) := by decide +kernel
theorem dM_look_122 : decode prog_8_method_6_code 122 = .ok (.iload_n 3, 1) := by decide +kernel
theorem dM_look_123 : decode prog_8_method_6_code 123 = .ok (.bipush 8, 2) := by decide +kernel
theorem dM_look_125 : decode prog_8_method_6_code 125 = .ok (.if_icmp .ne 6, 3) := by decide +kernel
theorem dM_look_128 : decode prog_8_method_6_code 128 = .ok (.iload 5, 2) := by decide +kernel
theorem dM_look_130 : decode prog_8_method_6_code 130 = .ok (.ireturn, 1) := by decide +kernel
theorem dM_look_131 : decode prog_8_method_6_code 131 = .ok (.aload_n 0, 1) := by decide +kernel
theorem dM_look_132 : decode prog_8_method_6_code 132 = .ok (.getfield 48, 3) := by decide +kernel
theorem dM_look_135 : decode prog_8_method_6_code 135 = .ok (.iload 6, 2) := by decide +kernel
theorem dM_look_137 : decode prog_8_method_6_code 137 = .ok (.bipush 97, 2) := by decide +kernel
theorem dM_look_139 : decode prog_8_method_6_code 139 = .ok (.isub, 1) := by decide +kernel
theorem dM_look_140 : decode prog_8_method_6_code 140 = .ok (.iconst 1, 1) := by decide +kernel
theorem dM_look_141 : decode prog_8_method_6_code 141 = .ok (.bastore, 1) := by decide +kernel
theorem dM_look_142 : decode prog_8_method_6_code 142 = .ok (.iinc 3 1, 3) := by decide +kernel
theorem dM_look_145 : decode prog_8_method_6_code 145 = .ok (.iload 4, 2) := by decide +kernel
theorem dM_look_147 : decode prog_8_method_6_code 147 = .ok (.ifCond .eq 80, 3) := by decide +kernel
theorem dM_look_150 : decode prog_8_method_6_code 150 = .ok (.aload_n 0, 1) := by decide +kernel
theorem dM_look_151 : decode prog_8_method_6_code 151 = .ok (.getfield 36, 3) := by decide +kernel
theorem dM_look_154 : decode prog_8_method_6_code 154 = .ok (.aload_n 0, 1) := by decide +kernel
theorem dM_look_155 : decode prog_8_method_6_code 155 = .ok (.getfield 81, 3) := by decide +kernel
theorem dM_look_158 : decode prog_8_method_6_code 158 = .ok (.iload 5, 2) := by decide +kernel
theorem dM_look_160 : decode prog_8_method_6_code 160 = .ok (.iastore, 1) := by decide +kernel
theorem dM_look_161 : decode prog_8_method_6_code 161 = .ok (.aload_n 0, 1) := by decide +kernel
theorem dM_look_162 : decode prog_8_method_6_code 162 = .ok (.getfield 39, 3) := by decide +kernel
theorem dM_look_165 : decode prog_8_method_6_code 165 = .ok (.aload_n 0, 1) := by decide +kernel
theorem dM_look_166 : decode prog_8_method_6_code 166 = .ok (.getfield 81, 3) := by decide +kernel
theorem dM_look_169 : decode prog_8_method_6_code 169 = .ok (.iconst 0, 1) := by decide +kernel
theorem dM_look_170 : decode prog_8_method_6_code 170 = .ok (.iastore, 1) := by decide +kernel
theorem dM_look_171 : decode prog_8_method_6_code 171 = .ok (.aload_n 0, 1) := by decide +kernel
theorem dM_look_172 : decode prog_8_method_6_code 172 = .ok (.getfield 42, 3) := by decide +kernel
theorem dM_look_175 : decode prog_8_method_6_code 175 = .ok (.aload_n 0, 1) := by decide +kernel
theorem dM_look_176 : decode prog_8_method_6_code 176 = .ok (.getfield 81, 3) := by decide +kernel
theorem dM_look_179 : decode prog_8_method_6_code 179 = .ok (.iload 5, 2) := by decide +kernel
theorem dM_look_181 : decode prog_8_method_6_code 181 = .ok (.ifCond .le 21, 3) := by decide +kernel
theorem dM_look_184 : decode prog_8_method_6_code 184 = .ok (.aload_n 0, 1) := by decide +kernel
theorem dM_look_185 : decode prog_8_method_6_code 185 = .ok (.getfield 7, 3) := by decide +kernel
theorem dM_look_188 : decode prog_8_method_6_code 188 = .ok (.iload 5, 2) := by decide +kernel
theorem dM_look_190 : decode prog_8_method_6_code 190 = .ok (.iconst 1, 1) := by decide +kernel
theorem dM_look_191 : decode prog_8_method_6_code 191 = .ok (.isub, 1) := by decide +kernel
theorem dM_look_192 : decode prog_8_method_6_code 192 = .ok (.iaload, 1) := by decide +kernel
theorem dM_look_193 : decode prog_8_method_6_code 193 = .ok (.bipush 45, 2) := by decide +kernel
theorem dM_look_195 : decode prog_8_method_6_code 195 = .ok (.if_icmp .ne 7, 3) := by decide +kernel
theorem dM_look_198 : decode prog_8_method_6_code 198 = .ok (.iconst 1, 1) := by decide +kernel
theorem dM_look_199 : decode prog_8_method_6_code 199 = .ok (.goto 4, 3) := by decide +kernel
theorem dM_look_202 : decode prog_8_method_6_code 202 = .ok (.iconst 0, 1) := by decide +kernel
theorem dM_look_203 : decode prog_8_method_6_code 203 = .ok (.bastore, 1) := by decide +kernel
theorem dM_look_204 : decode prog_8_method_6_code 204 = .ok (.aload_n 0, 1) := by decide +kernel
theorem dM_look_205 : decode prog_8_method_6_code 205 = .ok (.getfield 45, 3) := by decide +kernel
theorem dM_look_208 : decode prog_8_method_6_code 208 = .ok (.aload_n 0, 1) := by decide +kernel
theorem dM_look_209 : decode prog_8_method_6_code 209 = .ok (.getfield 81, 3) := by decide +kernel
theorem dM_look_212 : decode prog_8_method_6_code 212 = .ok (.iload_n 2, 1) := by decide +kernel
theorem dM_look_213 : decode prog_8_method_6_code 213 = .ok (.iastore, 1) := by decide +kernel
theorem dM_look_214 : decode prog_8_method_6_code 214 = .ok (.aload_n 0, 1) := by decide +kernel
theorem dM_look_215 : decode prog_8_method_6_code 215 = .ok (.dup, 1) := by decide +kernel
theorem dM_look_216 : decode prog_8_method_6_code 216 = .ok (.getfield 81, 3) := by decide +kernel
theorem dM_look_219 : decode prog_8_method_6_code 219 = .ok (.iconst 1, 1) := by decide +kernel
theorem dM_look_220 : decode prog_8_method_6_code 220 = .ok (.iadd, 1) := by decide +kernel
theorem dM_look_221 : decode prog_8_method_6_code 221 = .ok (.putfield 81, 3) := by decide +kernel
theorem dM_look_224 : decode prog_8_method_6_code 224 = .ok (.iconst 0, 1) := by decide +kernel
theorem dM_look_225 : decode prog_8_method_6_code 225 = .ok (.istore 4, 2) := by decide +kernel
theorem dM_look_227 : decode prog_8_method_6_code 227 = .ok (.aload_n 0, 1) := by decide +kernel
theorem dM_look_228 : decode prog_8_method_6_code 228 = .ok (.getfield 39, 3) := by decide +kernel
theorem dM_look_231 : decode prog_8_method_6_code 231 = .ok (.aload_n 0, 1) := by decide +kernel
theorem dM_look_232 : decode prog_8_method_6_code 232 = .ok (.getfield 81, 3) := by decide +kernel
theorem dM_look_235 : decode prog_8_method_6_code 235 = .ok (.iconst 1, 1) := by decide +kernel
theorem dM_look_236 : decode prog_8_method_6_code 236 = .ok (.isub, 1) := by decide +kernel
theorem dM_look_237 : decode prog_8_method_6_code 237 = .ok (.dup2, 1) := by decide +kernel
theorem dM_look_238 : decode prog_8_method_6_code 238 = .ok (.iaload, 1) := by decide +kernel
theorem dM_look_239 : decode prog_8_method_6_code 239 = .ok (.iconst 1, 1) := by decide +kernel
theorem dM_look_240 : decode prog_8_method_6_code 240 = .ok (.iadd, 1) := by decide +kernel
theorem dM_look_241 : decode prog_8_method_6_code 241 = .ok (.iastore, 1) := by decide +kernel
theorem dM_look_242 : decode prog_8_method_6_code 242 = .ok (.goto 64, 3) := by decide +kernel
theorem dM_look_245 : decode prog_8_method_6_code 245 = .ok (.iload 6, 2) := by decide +kernel
theorem dM_look_247 : decode prog_8_method_6_code 247 = .ok (.bipush 61, 2) := by decide +kernel
theorem dM_look_249 : decode prog_8_method_6_code 249 = .ok (.if_icmp .ne 7, 3) := by decide +kernel
theorem dM_look_252 : decode prog_8_method_6_code 252 = .ok (.iconst 1, 1) := by decide +kernel
theorem dM_look_253 : decode prog_8_method_6_code 253 = .ok (.goto 4, 3) := by decide +kernel
theorem dM_look_256 : decode prog_8_method_6_code 256 = .ok (.iconst 0, 1) := by decide +kernel
theorem dM_look_257 : decode prog_8_method_6_code 257 = .ok (.istore 7, 2) := by decide +kernel
theorem dM_look_259 : decode prog_8_method_6_code 259 = .ok (.iload 4, 2) := by decide +kernel
theorem dM_look_261 : decode prog_8_method_6_code 261 = .ok (.ifCond .ne 32, 3) := by decide +kernel
theorem dM_look_264 : decode prog_8_method_6_code 264 = .ok (.iload 6, 2) := by decide +kernel
theorem dM_look_266 : decode prog_8_method_6_code 266 = .ok (.bipush 43, 2) := by decide +kernel
theorem dM_look_268 : decode prog_8_method_6_code 268 = .ok (.if_icmp .eq 15, 3) := by decide +kernel
theorem dM_look_271 : decode prog_8_method_6_code 271 = .ok (.iload 6, 2) := by decide +kernel
theorem dM_look_273 : decode prog_8_method_6_code 273 = .ok (.bipush 45, 2) := by decide +kernel
theorem dM_look_275 : decode prog_8_method_6_code 275 = .ok (.if_icmp .eq 8, 3) := by decide +kernel
theorem dM_look_278 : decode prog_8_method_6_code 278 = .ok (.iload 7, 2) := by decide +kernel
theorem dM_look_280 : decode prog_8_method_6_code 280 = .ok (.ifCond .eq 13, 3) := by decide +kernel
theorem dM_look_283 : decode prog_8_method_6_code 283 = .ok (.iload 7, 2) := by decide +kernel
theorem dM_look_285 : decode prog_8_method_6_code 285 = .ok (.ifCond .eq 11, 3) := by decide +kernel
theorem dM_look_288 : decode prog_8_method_6_code 288 = .ok (.iload_n 2, 1) := by decide +kernel
theorem dM_look_289 : decode prog_8_method_6_code 289 = .ok (.iconst 1, 1) := by decide +kernel
theorem dM_look_290 : decode prog_8_method_6_code 290 = .ok (.if_icmp .ne 6, 3) := by decide +kernel
theorem dM_look_293 : decode prog_8_method_6_code 293 = .ok (.iload 5, 2) := by decide +kernel
theorem dM_look_295 : decode prog_8_method_6_code 295 = .ok (.ireturn, 1) := by decide +kernel
theorem dM_look_296 : decode prog_8_method_6_code 296 = .ok (.iload 7, 2) := by decide +kernel
theorem dM_look_298 : decode prog_8_method_6_code 298 = .ok (.ifCond .eq 5, 3) := by decide +kernel
theorem dM_look_301 : decode prog_8_method_6_code 301 = .ok (.iconst 1, 1) := by decide +kernel
theorem dM_look_302 : decode prog_8_method_6_code 302 = .ok (.istore_n 2, 1) := by decide +kernel
theorem dM_look_303 : decode prog_8_method_6_code 303 = .ok (.iconst 1, 1) := by decide +kernel
theorem dM_look_304 : decode prog_8_method_6_code 304 = .ok (.istore 4, 2) := by decide +kernel
theorem dM_look_306 : decode prog_8_method_6_code 306 = .ok (.iinc 5 1, 3) := by decide +kernel
theorem dM_look_309 : decode prog_8_method_6_code 309 = .ok (.goto (-270), 3) := by decide +kernel
theorem dM_look_312 : decode prog_8_method_6_code 312 = .ok (.iload 4, 2) := by decide +kernel
theorem dM_look_314 : decode prog_8_method_6_code 314 = .ok (.ifCond .ne 7, 3) := by decide +kernel
theorem dM_look_317 : decode prog_8_method_6_code 317 = .ok (.iload_n 2, 1) := by decide +kernel
theorem dM_look_318 : decode prog_8_method_6_code 318 = .ok (.ifCond .ne 7, 3) := by decide +kernel
theorem dM_look_321 : decode prog_8_method_6_code 321 = .ok (.iload_n 1, 1) := by decide +kernel
theorem dM_look_322 : decode prog_8_method_6_code 322 = .ok (.goto 4, 3) := by decide +kernel
theorem dM_look_325 : decode prog_8_method_6_code 325 = .ok (.iconst (-1), 1) := by decide +kernel
theorem dM_look_326 : decode prog_8_method_6_code 326 = .ok (.ireturn, 1) := by decide +kernel
theorem dM_read_0 : decode prog_8_method_7_code 0 = .ok (.aload_n 0, 1) := by decide +kernel
theorem dM_read_1 : decode prog_8_method_7_code 1 = .ok (.iconst 0, 1) := by decide +kernel
theorem dM_read_2 : decode prog_8_method_7_code 2 = .ok (.putfield 71, 3) := by decide +kernel
theorem dM_read_5 : decode prog_8_method_7_code 5 = .ok (.aload_n 0, 1) := by decide +kernel
theorem dM_read_6 : decode prog_8_method_7_code 6 = .ok (.getfield 74, 3) := by decide +kernel
theorem dM_read_9 : decode prog_8_method_7_code 9 = .ok (.istore_n 1, 1) := by decide +kernel
theorem dM_read_10 : decode prog_8_method_7_code 10 = .ok (.aload_n 0, 1) := by decide +kernel
theorem dM_read_11 : decode prog_8_method_7_code 11 = .ok (.iconst 0, 1) := by decide +kernel
theorem dM_read_12 : decode prog_8_method_7_code 12 = .ok (.putfield 74, 3) := by decide +kernel
theorem dM_read_15 : decode prog_8_method_7_code 15 = .ok (.aload_n 0, 1) := by decide +kernel
theorem dM_read_16 : decode prog_8_method_7_code 16 = .ok (.iload_n 1, 1) := by decide +kernel
theorem dM_read_17 : decode prog_8_method_7_code 17 = .ok (.invokevirtual 87, 3) := by decide +kernel
theorem dM_read_20 : decode prog_8_method_7_code 20 = .ok (.istore_n 2, 1) := by decide +kernel
theorem dM_read_21 : decode prog_8_method_7_code 21 = .ok (.iload_n 2, 1) := by decide +kernel
theorem dM_read_22 : decode prog_8_method_7_code 22 = .ok (.iconst (-1), 1) := by decide +kernel
theorem dM_read_23 : decode prog_8_method_7_code 23 = .ok (.if_icmp .eq 7, 3) := by decide +kernel
theorem dM_read_26 : decode prog_8_method_7_code 26 = .ok (.iconst (-1), 1) := by decide +kernel
theorem dM_read_27 : decode prog_8_method_7_code 27 = .ok (.iload_n 2, 1) := by decide +kernel
theorem dM_read_28 : decode prog_8_method_7_code 28 = .ok (.isub, 1) := by decide +kernel
theorem dM_read_29 : decode prog_8_method_7_code 29 = .ok (.ireturn, 1) := by decide +kernel
theorem dM_read_30 : decode prog_8_method_7_code 30 = .ok (.iconst 0, 1) := by decide +kernel
theorem dM_read_31 : decode prog_8_method_7_code 31 = .ok (.istore_n 3, 1) := by decide +kernel
theorem dM_read_32 : decode prog_8_method_7_code 32 = .ok (.iload_n 3, 1) := by decide +kernel
theorem dM_read_33 : decode prog_8_method_7_code 33 = .ok (.iload_n 1, 1) := by decide +kernel
theorem dM_read_34 : decode prog_8_method_7_code 34 = .ok (.if_icmp .ge 21, 3) := by decide +kernel
theorem dM_read_37 : decode prog_8_method_7_code 37 = .ok (.aload_n 0, 1) := by decide +kernel
theorem dM_read_38 : decode prog_8_method_7_code 38 = .ok (.getfield 13, 3) := by decide +kernel
theorem dM_read_41 : decode prog_8_method_7_code 41 = .ok (.iload_n 3, 1) := by decide +kernel
theorem dM_read_42 : decode prog_8_method_7_code 42 = .ok (.aload_n 0, 1) := by decide +kernel
theorem dM_read_43 : decode prog_8_method_7_code 43 = .ok (.getfield 7, 3) := by decide +kernel
theorem dM_read_46 : decode prog_8_method_7_code 46 = .ok (.iload_n 3, 1) := by decide +kernel
theorem dM_read_47 : decode prog_8_method_7_code 47 = .ok (.iaload, 1) := by decide +kernel
theorem dM_read_48 : decode prog_8_method_7_code 48 = .ok (.iastore, 1) := by decide +kernel
theorem dM_read_49 : decode prog_8_method_7_code 49 = .ok (.iinc 3 1, 3) := by decide +kernel
theorem dM_read_52 : decode prog_8_method_7_code 52 = .ok (.goto (-20), 3) := by decide +kernel
theorem dM_read_55 : decode prog_8_method_7_code 55 = .ok (.aload_n 0, 1) := by decide +kernel
theorem dM_read_56 : decode prog_8_method_7_code 56 = .ok (.iload_n 1, 1) := by decide +kernel
theorem dM_read_57 : decode prog_8_method_7_code 57 = .ok (.putfield 91, 3) := by decide +kernel
theorem dM_read_60 : decode prog_8_method_7_code 60 = .ok (.aload_n 0, 1) := by decide +kernel
theorem dM_read_61 : decode prog_8_method_7_code 61 = .ok (.aload_n 0, 1) := by decide +kernel
theorem dM_read_62 : decode prog_8_method_7_code 62 = .ok (.getfield 81, 3) := by decide +kernel
theorem dM_read_65 : decode prog_8_method_7_code 65 = .ok (.putfield 94, 3) := by decide +kernel
theorem dM_read_68 : decode prog_8_method_7_code 68 = .ok (.iconst 0, 1) := by decide +kernel
theorem dM_read_69 : decode prog_8_method_7_code 69 = .ok (.istore_n 3, 1) := by decide +kernel
theorem dM_read_70 : decode prog_8_method_7_code 70 = .ok (.iload_n 3, 1) := by decide +kernel
theorem dM_read_71 : decode prog_8_method_7_code 71 = .ok (.aload_n 0, 1) := by decide +kernel
theorem dM_read_72 : decode prog_8_method_7_code 72 = .ok (.getfield 94, 3) := by decide +kernel
theorem dM_read_75 : decode prog_8_method_7_code 75 = .ok (.if_icmp .ge 57, 3) := by decide +kernel
theorem dM_read_78 : decode prog_8_method_7_code 78 = .ok (.aload_n 0, 1) := by decide +kernel
theorem dM_read_79 : decode prog_8_method_7_code 79 = .ok (.getfield 16, 3) := by decide +kernel
theorem dM_read_82 : decode prog_8_method_7_code 82 = .ok (.iload_n 3, 1) := by decide +kernel
theorem dM_read_83 : decode prog_8_method_7_code 83 = .ok (.aload_n 0, 1) := by decide +kernel
theorem dM_read_84 : decode prog_8_method_7_code 84 = .ok (.getfield 36, 3) := by decide +kernel
theorem dM_read_87 : decode prog_8_method_7_code 87 = .ok (.iload_n 3, 1) := by decide +kernel
theorem dM_read_88 : decode prog_8_method_7_code 88 = .ok (.iaload, 1) := by decide +kernel
theorem dM_read_89 : decode prog_8_method_7_code 89 = .ok (.iastore, 1) := by decide +kernel
theorem dM_read_90 : decode prog_8_method_7_code 90 = .ok (.aload_n 0, 1) := by decide +kernel
theorem dM_read_91 : decode prog_8_method_7_code 91 = .ok (.getfield 19, 3) := by decide +kernel
theorem dM_read_94 : decode prog_8_method_7_code 94 = .ok (.iload_n 3, 1) := by decide +kernel
theorem dM_read_95 : decode prog_8_method_7_code 95 = .ok (.aload_n 0, 1) := by decide +kernel
theorem dM_read_96 : decode prog_8_method_7_code 96 = .ok (.getfield 39, 3) := by decide +kernel
theorem dM_read_99 : decode prog_8_method_7_code 99 = .ok (.iload_n 3, 1) := by decide +kernel
theorem dM_read_100 : decode prog_8_method_7_code 100 = .ok (.iaload, 1) := by decide +kernel
theorem dM_read_101 : decode prog_8_method_7_code 101 = .ok (.iastore, 1) := by decide +kernel
theorem dM_read_102 : decode prog_8_method_7_code 102 = .ok (.aload_n 0, 1) := by decide +kernel
theorem dM_read_103 : decode prog_8_method_7_code 103 = .ok (.getfield 22, 3) := by decide +kernel
theorem dM_read_106 : decode prog_8_method_7_code 106 = .ok (.iload_n 3, 1) := by decide +kernel
theorem dM_read_107 : decode prog_8_method_7_code 107 = .ok (.aload_n 0, 1) := by decide +kernel
theorem dM_read_108 : decode prog_8_method_7_code 108 = .ok (.getfield 42, 3) := by decide +kernel
theorem dM_read_111 : decode prog_8_method_7_code 111 = .ok (.iload_n 3, 1) := by decide +kernel
theorem dM_read_112 : decode prog_8_method_7_code 112 = .ok (.baload, 1) := by decide +kernel
theorem dM_read_113 : decode prog_8_method_7_code 113 = .ok (.bastore, 1) := by decide +kernel
theorem dM_read_114 : decode prog_8_method_7_code 114 = .ok (.aload_n 0, 1) := by decide +kernel
theorem dM_read_115 : decode prog_8_method_7_code 115 = .ok (.getfield 26, 3) := by decide +kernel
theorem dM_read_118 : decode prog_8_method_7_code 118 = .ok (.iload_n 3, 1) := by decide +kernel
theorem dM_read_119 : decode prog_8_method_7_code 119 = .ok (.aload_n 0, 1) := by decide +kernel
theorem dM_read_120 : decode prog_8_method_7_code 120 = .ok (.getfield 45, 3) := by decide +kernel
theorem dM_read_123 : decode prog_8_method_7_code 123 = .ok (.iload_n 3, 1) := by decide +kernel
theorem dM_read_124 : decode prog_8_method_7_code 124 = .ok (.iaload, 1) := by decide +kernel
theorem dM_read_125 : decode prog_8_method_7_code 125 = .ok (.iastore, 1) := by decide +kernel
theorem dM_read_126 : decode prog_8_method_7_code 126 = .ok (.iinc 3 1, 3) := by decide +kernel
theorem dM_read_129 : decode prog_8_method_7_code 129 = .ok (.goto (-59), 3) := by decide +kernel
theorem dM_read_132 : decode prog_8_method_7_code 132 = .ok (.aload_n 0, 1) := by decide +kernel
theorem dM_read_133 : decode prog_8_method_7_code 133 = .ok (.iconst 0, 1) := by decide +kernel
theorem dM_read_134 : decode prog_8_method_7_code 134 = .ok (.putfield 97, 3) := by decide +kernel
theorem dM_read_137 : decode prog_8_method_7_code 137 = .ok (.iconst 0, 1) := by decide +kernel
theorem dM_read_138 : decode prog_8_method_7_code 138 = .ok (.istore_n 3, 1) := by decide +kernel
theorem dM_read_139 : decode prog_8_method_7_code 139 = .ok (.iload_n 3, 1) := by decide +kernel
theorem dM_read_140 : decode prog_8_method_7_code 140 = .ok (.bipush 26, 2) := by decide +kernel
theorem dM_read_142 : decode prog_8_method_7_code 142 = .ok (.if_icmp .ge 41, 3) := by decide +kernel
theorem dM_read_145 : decode prog_8_method_7_code 145 = .ok (.aload_n 0, 1) := by decide +kernel
theorem dM_read_146 : decode prog_8_method_7_code 146 = .ok (.getfield 48, 3) := by decide +kernel
theorem dM_read_149 : decode prog_8_method_7_code 149 = .ok (.iload_n 3, 1) := by decide +kernel
theorem dM_read_150 : decode prog_8_method_7_code 150 = .ok (.baload, 1) := by decide +kernel
theorem dM_read_151 : decode prog_8_method_7_code 151 = .ok (.ifCond .eq 26, 3) := by decide +kernel
theorem dM_read_154 : decode prog_8_method_7_code 154 = .ok (.aload_n 0, 1) := by decide +kernel
theorem dM_read_155 : decode prog_8_method_7_code 155 = .ok (.getfield 29, 3) := by decide +kernel
theorem dM_read_158 : decode prog_8_method_7_code 158 = .ok (.aload_n 0, 1) := by decide +kernel
theorem dM_read_159 : decode prog_8_method_7_code 159 = .ok (.getfield 97, 3) := by decide +kernel
theorem dM_read_162 : decode prog_8_method_7_code 162 = .ok (.bipush 97, 2) := by decide +kernel
theorem dM_read_164 : decode prog_8_method_7_code 164 = .ok (.iload_n 3, 1) := by decide +kernel
theorem dM_read_165 : decode prog_8_method_7_code 165 = .ok (.iadd, 1) := by decide +kernel
theorem dM_read_166 : decode prog_8_method_7_code 166 = .ok (.iastore, 1) := by decide +kernel
theorem dM_read_167 : decode prog_8_method_7_code 167 = .ok (.aload_n 0, 1) := by decide +kernel
theorem dM_read_168 : decode prog_8_method_7_code 168 = .ok (.dup, 1) := by decide +kernel
theorem dM_read_169 : decode prog_8_method_7_code 169 = .ok (.getfield 97, 3) := by decide +kernel
theorem dM_read_172 : decode prog_8_method_7_code 172 = .ok (.iconst 1, 1) := by decide +kernel
theorem dM_read_173 : decode prog_8_method_7_code 173 = .ok (.iadd, 1) := by decide +kernel
theorem dM_read_174 : decode prog_8_method_7_code 174 = .ok (.putfield 97, 3) := by decide +kernel
theorem dM_read_177 : decode prog_8_method_7_code 177 = .ok (.iinc 3 1, 3) := by decide +kernel
theorem dM_read_180 : decode prog_8_method_7_code 180 = .ok (.goto (-41), 3) := by decide +kernel
theorem dM_read_183 : decode prog_8_method_7_code 183 = .ok (.aload_n 0, 1) := by decide +kernel
theorem dM_read_184 : decode prog_8_method_7_code 184 = .ok (.iconst 0, 1) := by decide +kernel
theorem dM_read_185 : decode prog_8_method_7_code 185 = .ok (.putfield 100, 3) := by decide +kernel
theorem dM_read_188 : decode prog_8_method_7_code 188 = .ok (.aload_n 0, 1) := by decide +kernel
theorem dM_read_189 : decode prog_8_method_7_code 189 = .ok (.getfield 94, 3) := by decide +kernel
theorem dM_read_192 : decode prog_8_method_7_code 192 = .ok (.ireturn, 1) := by decide +kernel
theorem dM_bar_0 : decode prog_8_method_8_code 0 = .ok (.aload_n 0, 1) := by decide +kernel
theorem dM_bar_1 : decode prog_8_method_8_code 1 = .ok (.iconst 0, 1) := by decide +kernel
theorem dM_bar_2 : decode prog_8_method_8_code 2 = .ok (.putfield 71, 3) := by decide +kernel
theorem dM_bar_5 : decode prog_8_method_8_code 5 = .ok (.aload_n 0, 1) := by decide +kernel
theorem dM_bar_6 : decode prog_8_method_8_code 6 = .ok (.iload_n 1, 1) := by decide +kernel
theorem dM_bar_7 : decode prog_8_method_8_code 7 = .ok (.putfield 32, 3) := by decide +kernel
theorem dM_bar_10 : decode prog_8_method_8_code 10 = .ok (.aload_n 0, 1) := by decide +kernel
theorem dM_bar_11 : decode prog_8_method_8_code 11 = .ok (.iconst 0, 1) := by decide +kernel
theorem dM_bar_12 : decode prog_8_method_8_code 12 = .ok (.putfield 100, 3) := by decide +kernel
theorem dM_bar_15 : decode prog_8_method_8_code 15 = .ok (.return_, 1) := by decide +kernel
theorem dM_letters_0 : decode prog_8_method_9_code 0 = .ok (.aload_n 0, 1) := by decide +kernel
theorem dM_letters_1 : decode prog_8_method_9_code 1 = .ok (.iconst 0, 1) := by decide +kernel
theorem dM_letters_2 : decode prog_8_method_9_code 2 = .ok (.putfield 71, 3) := by decide +kernel
theorem dM_letters_5 : decode prog_8_method_9_code 5 = .ok (.aload_n 0, 1) := by decide +kernel
theorem dM_letters_6 : decode prog_8_method_9_code 6 = .ok (.getfield 97, 3) := by decide +kernel
theorem dM_letters_9 : decode prog_8_method_9_code 9 = .ok (.ireturn, 1) := by decide +kernel
theorem dM_letter_0 : decode prog_8_method_10_code 0 = .ok (.aload_n 0, 1) := by decide +kernel
theorem dM_letter_1 : decode prog_8_method_10_code 1 = .ok (.iconst 0, 1) := by decide +kernel
theorem dM_letter_2 : decode prog_8_method_10_code 2 = .ok (.putfield 71, 3) := by decide +kernel
theorem dM_letter_5 : decode prog_8_method_10_code 5 = .ok (.iload_n 1, 1) := by decide +kernel
theorem dM_letter_6 : decode prog_8_method_10_code 6 = .ok (.ifCond .lt 11, 3) := by decide +kernel
theorem dM_letter_9 : decode prog_8_method_10_code 9 = .ok (.iload_n 1, 1) := by decide +kernel
theorem dM_letter_10 : decode prog_8_method_10_code 10 = .ok (.aload_n 0, 1) := by decide +kernel
theorem dM_letter_11 : decode prog_8_method_10_code 11 = .ok (.getfield 97, 3) := by decide +kernel
theorem dM_letter_14 : decode prog_8_method_10_code 14 = .ok (.if_icmp .lt 7, 3) := by decide +kernel
theorem dM_letter_17 : decode prog_8_method_10_code 17 = .ok (.iconst (-1), 1) := by decide +kernel
theorem dM_letter_18 : decode prog_8_method_10_code 18 = .ok (.goto 9, 3) := by decide +kernel
theorem dM_letter_21 : decode prog_8_method_10_code 21 = .ok (.aload_n 0, 1) := by decide +kernel
theorem dM_letter_22 : decode prog_8_method_10_code 22 = .ok (.getfield 29, 3) := by decide +kernel
theorem dM_letter_25 : decode prog_8_method_10_code 25 = .ok (.iload_n 1, 1) := by decide +kernel
theorem dM_letter_26 : decode prog_8_method_10_code 26 = .ok (.iaload, 1) := by decide +kernel
theorem dM_letter_27 : decode prog_8_method_10_code 27 = .ok (.ireturn, 1) := by decide +kernel
theorem dM_indexOf_0 : decode prog_8_method_11_code 0 = .ok (.iconst 0, 1) := by decide +kernel
theorem dM_indexOf_1 : decode prog_8_method_11_code 1 = .ok (.istore_n 2, 1) := by decide +kernel
theorem dM_indexOf_2 : decode prog_8_method_11_code 2 = .ok (.iload_n 2, 1) := by decide +kernel
theorem dM_indexOf_3 : decode prog_8_method_11_code 3 = .ok (.aload_n 0, 1) := by decide +kernel
theorem dM_indexOf_4 : decode prog_8_method_11_code 4 = .ok (.getfield 97, 3) := by decide +kernel
theorem dM_indexOf_7 : decode prog_8_method_11_code 7 = .ok (.if_icmp .ge 21, 3) := by decide +kernel
theorem dM_indexOf_10 : decode prog_8_method_11_code 10 = .ok (.aload_n 0, 1) := by decide +kernel
theorem dM_indexOf_11 : decode prog_8_method_11_code 11 = .ok (.getfield 29, 3) := by decide +kernel
theorem dM_indexOf_14 : decode prog_8_method_11_code 14 = .ok (.iload_n 2, 1) := by decide +kernel
theorem dM_indexOf_15 : decode prog_8_method_11_code 15 = .ok (.iaload, 1) := by decide +kernel
theorem dM_indexOf_16 : decode prog_8_method_11_code 16 = .ok (.iload_n 1, 1) := by decide +kernel
theorem dM_indexOf_17 : decode prog_8_method_11_code 17 = .ok (.if_icmp .ne 5, 3) := by decide +kernel
theorem dM_indexOf_20 : decode prog_8_method_11_code 20 = .ok (.iload_n 2, 1) := by decide +kernel
theorem dM_indexOf_21 : decode prog_8_method_11_code 21 = .ok (.ireturn, 1) := by decide +kernel
theorem dM_indexOf_22 : decode prog_8_method_11_code 22 = .ok (.iinc 2 1, 3) := by decide +kernel
theorem dM_indexOf_25 : decode prog_8_method_11_code 25 = .ok (.goto (-23), 3) := by decide +kernel
theorem dM_indexOf_28 : decode prog_8_method_11_code 28 = .ok (.iconst (-1), 1) := by decide +kernel
theorem dM_indexOf_29 : decode prog_8_method_11_code 29 = .ok (.ireturn, 1) := by decide +kernel
theorem dM_weigh_0 : decode prog_8_method_12_code 0 = .ok (.aload_n 0, 1) := by decide +kernel
theorem dM_weigh_1 : decode prog_8_method_12_code 1 = .ok (.lconst 0, 1) := by decide +kernel
theorem dM_weigh_2 : decode prog_8_method_12_code 2 = .ok (.putfield 103, 3) := by decide +kernel
theorem dM_weigh_5 : decode prog_8_method_12_code 5 = .ok (.aload_n 0, 1) := by decide +kernel
theorem dM_weigh_6 : decode prog_8_method_12_code 6 = .ok (.aload_n 0, 1) := by decide +kernel
theorem dM_weigh_7 : decode prog_8_method_12_code 7 = .ok (.getfield 94, 3) := by decide +kernel
theorem dM_weigh_10 : decode prog_8_method_12_code 10 = .ok (.ifCond .eq 14, 3) := by decide +kernel
theorem dM_weigh_13 : decode prog_8_method_12_code 13 = .ok (.aload_n 0, 1) := by decide +kernel
theorem dM_weigh_14 : decode prog_8_method_12_code 14 = .ok (.getfield 97, 3) := by decide +kernel
theorem dM_weigh_17 : decode prog_8_method_12_code 17 = .ok (.aload_n 0, 1) := by decide +kernel
theorem dM_weigh_18 : decode prog_8_method_12_code 18 = .ok (.getfield 67, 3) := by decide +kernel
theorem dM_weigh_21 : decode prog_8_method_12_code 21 = .ok (.if_icmp .le 7, 3) := by decide +kernel
theorem dM_weigh_24 : decode prog_8_method_12_code 24 = .ok (.iconst 1, 1) := by decide +kernel
theorem dM_weigh_25 : decode prog_8_method_12_code 25 = .ok (.goto 4, 3) := by decide +kernel
theorem dM_weigh_28 : decode prog_8_method_12_code 28 = .ok (.iconst 0, 1) := by decide +kernel
theorem dM_weigh_29 : decode prog_8_method_12_code 29 = .ok (.putfield 107, 3) := by decide +kernel
theorem dM_weigh_32 : decode prog_8_method_12_code 32 = .ok (.iconst 0, 1) := by decide +kernel
theorem dM_weigh_33 : decode prog_8_method_12_code 33 = .ok (.istore_n 1, 1) := by decide +kernel
theorem dM_weigh_34 : decode prog_8_method_12_code 34 = .ok (.iload_n 1, 1) := by decide +kernel
theorem dM_weigh_35 : decode prog_8_method_12_code 35 = .ok (.aload_n 0, 1) := by decide +kernel
theorem dM_weigh_36 : decode prog_8_method_12_code 36 = .ok (.getfield 97, 3) := by decide +kernel
theorem dM_weigh_39 : decode prog_8_method_12_code 39 = .ok (.if_icmp .ge 23, 3) := by decide +kernel
theorem dM_weigh_42 : decode prog_8_method_12_code 42 = .ok (.aload_n 0, 1) := by decide +kernel
theorem dM_weigh_43 : decode prog_8_method_12_code 43 = .ok (.getfield 51, 3) := by decide +kernel
theorem dM_weigh_46 : decode prog_8_method_12_code 46 = .ok (.iload_n 1, 1) := by decide +kernel
theorem dM_weigh_47 : decode prog_8_method_12_code 47 = .ok (.lconst 0, 1) := by decide +kernel
theorem dM_weigh_48 : decode prog_8_method_12_code 48 = .ok (.lastore, 1) := by decide +kernel
theorem dM_weigh_49 : decode prog_8_method_12_code 49 = .ok (.aload_n 0, 1) := by decide +kernel
theorem dM_weigh_50 : decode prog_8_method_12_code 50 = .ok (.getfield 55, 3) := by decide +kernel
theorem dM_weigh_53 : decode prog_8_method_12_code 53 = .ok (.iload_n 1, 1) := by decide +kernel
theorem dM_weigh_54 : decode prog_8_method_12_code 54 = .ok (.iconst 0, 1) := by decide +kernel
theorem dM_weigh_55 : decode prog_8_method_12_code 55 = .ok (.bastore, 1) := by decide +kernel
theorem dM_weigh_56 : decode prog_8_method_12_code 56 = .ok (.iinc 1 1, 3) := by decide +kernel
theorem dM_weigh_59 : decode prog_8_method_12_code 59 = .ok (.goto (-25), 3) := by decide +kernel
theorem dM_weigh_62 : decode prog_8_method_12_code 62 = .ok (.iconst 0, 1) := by decide +kernel
theorem dM_weigh_63 : decode prog_8_method_12_code 63 = .ok (.istore_n 1, 1) := by decide +kernel
theorem dM_weigh_64 : decode prog_8_method_12_code 64 = .ok (.iload_n 1, 1) := by decide +kernel
theorem dM_weigh_65 : decode prog_8_method_12_code 65 = .ok (.aload_n 0, 1) := by decide +kernel
theorem dM_weigh_66 : decode prog_8_method_12_code 66 = .ok (.getfield 94, 3) := by decide +kernel
theorem dM_weigh_69 : decode prog_8_method_12_code 69 = .ok (.if_icmp .ge 210, 3) := by decide +kernel
theorem dM_weigh_72 : decode prog_8_method_12_code 72 = .ok (.aload_n 0, 1) := by decide +kernel
theorem dM_weigh_73 : decode prog_8_method_12_code 73 = .ok (.getfield 22, 3) := by decide +kernel
theorem dM_weigh_76 : decode prog_8_method_12_code 76 = .ok (.iload_n 1, 1) := by decide +kernel
theorem dM_weigh_77 : decode prog_8_method_12_code 77 = .ok (.baload, 1) := by decide +kernel
theorem dM_weigh_78 : decode prog_8_method_12_code 78 = .ok (.aload_n 0, 1) := by decide +kernel
theorem dM_weigh_79 : decode prog_8_method_12_code 79 = .ok (.getfield 26, 3) := by decide +kernel
theorem dM_weigh_82 : decode prog_8_method_12_code 82 = .ok (.iload_n 1, 1) := by decide +kernel
theorem dM_weigh_83 : decode prog_8_method_12_code 83 = .ok (.iaload, 1) := by decide +kernel
theorem dM_weigh_84 : decode prog_8_method_12_code 84 = .ok (.iconst 1, 1) := by decide +kernel
theorem dM_weigh_85 : decode prog_8_method_12_code 85 = .ok (.if_icmp .ne 7, 3) := by decide +kernel
theorem dM_weigh_88 : decode prog_8_method_12_code 88 = .ok (.iconst 1, 1) := by decide +kernel
theorem dM_weigh_89 : decode prog_8_method_12_code 89 = .ok (.goto 4, 3) := by decide +kernel
theorem dM_weigh_92 : decode prog_8_method_12_code 92 = .ok (.iconst 0, 1) := by decide +kernel
theorem dM_weigh_93 : decode prog_8_method_12_code 93 = .ok (.if_icmp .eq 9, 3) := by decide +kernel
theorem dM_weigh_96 : decode prog_8_method_12_code 96 = .ok (.ldc2_w 110, 3) := by decide +kernel
theorem dM_weigh_99 : decode prog_8_method_12_code 99 = .ok (.goto 4, 3) := by decide +kernel
theorem dM_weigh_102 : decode prog_8_method_12_code 102 = .ok (.lconst 1, 1) := by decide +kernel
theorem dM_weigh_103 : decode prog_8_method_12_code 103 = .ok (.lstore_n 2, 1) := by decide +kernel
theorem dM_weigh_104 : decode prog_8_method_12_code 104 = .ok (.aload_n 0, 1) := by decide +kernel
theorem dM_weigh_105 : decode prog_8_method_12_code 105 = .ok (.getfield 16, 3) := by decide +kernel
theorem dM_weigh_108 : decode prog_8_method_12_code 108 = .ok (.iload_n 1, 1) := by decide +kernel
theorem dM_weigh_109 : decode prog_8_method_12_code 109 = .ok (.iaload, 1) := by decide +kernel
theorem dM_weigh_110 : decode prog_8_method_12_code 110 = .ok (.aload_n 0, 1) := by decide +kernel
theorem dM_weigh_111 : decode prog_8_method_12_code 111 = .ok (.getfield 19, 3) := by decide +kernel
theorem dM_weigh_114 : decode prog_8_method_12_code 114 = .ok (.iload_n 1, 1) := by decide +kernel
theorem dM_weigh_115 : decode prog_8_method_12_code 115 = .ok (.iaload, 1) := by decide +kernel
theorem dM_weigh_116 : decode prog_8_method_12_code 116 = .ok (.iadd, 1) := by decide +kernel
theorem dM_weigh_117 : decode prog_8_method_12_code 117 = .ok (.iconst 1, 1) := by decide +kernel
theorem dM_weigh_118 : decode prog_8_method_12_code 118 = .ok (.isub, 1) := by decide +kernel
theorem dM_weigh_119 : decode prog_8_method_12_code 119 = .ok (.istore 4, 2) := by decide +kernel
theorem dM_weigh_121 : decode prog_8_method_12_code 121 = .ok (.iload 4, 2) := by decide +kernel
theorem dM_weigh_123 : decode prog_8_method_12_code 123 = .ok (.aload_n 0, 1) := by decide +kernel
theorem dM_weigh_124 : decode prog_8_method_12_code 124 = .ok (.getfield 16, 3) := by decide +kernel
theorem dM_weigh_127 : decode prog_8_method_12_code 127 = .ok (.iload_n 1, 1) := by decide +kernel
theorem dM_weigh_128 : decode prog_8_method_12_code 128 = .ok (.iaload, 1) := by decide +kernel
theorem dM_weigh_129 : decode prog_8_method_12_code 129 = .ok (.if_icmp .lt 72, 3) := by decide +kernel
theorem dM_weigh_132 : decode prog_8_method_12_code 132 = .ok (.aload_n 0, 1) := by decide +kernel
theorem dM_weigh_133 : decode prog_8_method_12_code 133 = .ok (.aload_n 0, 1) := by decide +kernel
theorem dM_weigh_134 : decode prog_8_method_12_code 134 = .ok (.getfield 13, 3) := by decide +kernel
theorem dM_weigh_137 : decode prog_8_method_12_code 137 = .ok (.iload 4, 2) := by decide +kernel
theorem dM_weigh_139 : decode prog_8_method_12_code 139 = .ok (.iaload, 1) := by decide +kernel
theorem dM_weigh_140 : decode prog_8_method_12_code 140 = .ok (.invokevirtual 112, 3) := by decide +kernel
theorem dM_weigh_143 : decode prog_8_method_12_code 143 = .ok (.istore 5, 2) := by decide +kernel
theorem dM_weigh_145 : decode prog_8_method_12_code 145 = .ok (.iload 5, 2) := by decide +kernel
theorem dM_weigh_147 : decode prog_8_method_12_code 147 = .ok (.iconst (-1), 1) := by decide +kernel
theorem dM_weigh_148 : decode prog_8_method_12_code 148 = .ok (.if_icmp .ne 28, 3) := by decide +kernel
theorem dM_weigh_151 : decode prog_8_method_12_code 151 = .ok (.aload_n 0, 1) := by decide +kernel
theorem dM_weigh_152 : decode prog_8_method_12_code 152 = .ok (.dup, 1) := by decide +kernel
theorem dM_weigh_153 : decode prog_8_method_12_code 153 = .ok (.getfield 103, 3) := by decide +kernel
theorem dM_weigh_156 : decode prog_8_method_12_code 156 = .ok (.lload_n 2, 1) := by decide +kernel
theorem dM_weigh_157 : decode prog_8_method_12_code 157 = .ok (.aload_n 0, 1) := by decide +kernel
theorem dM_weigh_158 : decode prog_8_method_12_code 158 = .ok (.getfield 13, 3) := by decide +kernel
theorem dM_weigh_161 : decode prog_8_method_12_code 161 = .ok (.iload 4, 2) := by decide +kernel
theorem dM_weigh_163 : decode prog_8_method_12_code 163 = .ok (.iaload, 1) := by decide +kernel
theorem dM_weigh_164 : decode prog_8_method_12_code 164 = .ok (.bipush 48, 2) := by decide +kernel
theorem dM_weigh_166 : decode prog_8_method_12_code 166 = .ok (.isub, 1) := by decide +kernel
theorem dM_weigh_167 : decode prog_8_method_12_code 167 = .ok (.i2l, 1) := by decide +kernel
theorem dM_weigh_168 : decode prog_8_method_12_code 168 = .ok (.lmul, 1) := by decide +kernel
theorem dM_weigh_169 : decode prog_8_method_12_code 169 = .ok (.ladd, 1) := by decide +kernel
theorem dM_weigh_170 : decode prog_8_method_12_code 170 = .ok (.putfield 103, 3) := by decide +kernel
theorem dM_weigh_173 : decode prog_8_method_12_code 173 = .ok (.goto 14, 3) := by decide +kernel
theorem dM_weigh_176 : decode prog_8_method_12_code 176 = .ok (.aload_n 0, 1) := by decide +kernel
theorem dM_weigh_177 : decode prog_8_method_12_code 177 = .ok (.getfield 51, 3) := by decide +kernel
theorem dM_weigh_180 : decode prog_8_method_12_code 180 = .ok (.iload 5, 2) := by decide +kernel
theorem dM_weigh_182 : decode prog_8_method_12_code 182 = .ok (.dup2, 1) := by decide +kernel
theorem dM_weigh_183 : decode prog_8_method_12_code 183 = .ok (.laload, 1) := by decide +kernel
theorem dM_weigh_184 : decode prog_8_method_12_code 184 = .ok (.lload_n 2, 1) := by decide +kernel
theorem dM_weigh_185 : decode prog_8_method_12_code 185 = .ok (.ladd, 1) := by decide +kernel
theorem dM_weigh_186 : decode prog_8_method_12_code 186 = .ok (.lastore, 1) := by decide +kernel
theorem dM_weigh_187 : decode prog_8_method_12_code 187 = .ok (.lload_n 2, 1) := by decide +kernel
theorem dM_weigh_188 : decode prog_8_method_12_code 188 = .ok (.aload_n 0, 1) := by decide +kernel
theorem dM_weigh_189 : decode prog_8_method_12_code 189 = .ok (.getfield 67, 3) := by decide +kernel
theorem dM_weigh_192 : decode prog_8_method_12_code 192 = .ok (.i2l, 1) := by decide +kernel
theorem dM_weigh_193 : decode prog_8_method_12_code 193 = .ok (.lmul, 1) := by decide +kernel
theorem dM_weigh_194 : decode prog_8_method_12_code 194 = .ok (.lstore_n 2, 1) := by decide +kernel
theorem dM_weigh_195 : decode prog_8_method_12_code 195 = .ok (.iinc 4 (-1), 3) := by decide +kernel
theorem dM_weigh_198 : decode prog_8_method_12_code 198 = .ok (.goto (-77), 3) := by decide +kernel
theorem dM_weigh_201 : decode prog_8_method_12_code 201 = .ok (.aload_n 0, 1) := by decide +kernel
theorem dM_weigh_202 : decode prog_8_method_12_code 202 = .ok (.aload_n 0, 1) := by decide +kernel
theorem dM_weigh_203 : decode prog_8_method_12_code 203 = .ok (.getfield 13, 3) := by decide +kernel
theorem dM_weigh_206 : decode prog_8_method_12_code 206 = .ok (.aload_n 0, 1) := by decide +kernel
theorem dM_weigh_207 : decode prog_8_method_12_code 207 = .ok (.getfield 16, 3) := by decide +kernel
theorem dM_weigh_210 : decode prog_8_method_12_code 210 = .ok (.iload_n 1, 1) := by decide +kernel
theorem dM_weigh_211 : decode prog_8_method_12_code 211 = .ok (.iaload, 1) := by decide +kernel
theorem dM_weigh_212 : decode prog_8_method_12_code 212 = .ok (.iaload, 1) := by decide +kernel
theorem dM_weigh_213 : decode prog_8_method_12_code 213 = .ok (.invokevirtual 112, 3) := by decide +kernel
theorem dM_weigh_216 : decode prog_8_method_12_code 216 = .ok (.istore 4, 2) := by decide +kernel
theorem dM_weigh_218 : decode prog_8_method_12_code 218 = .ok (.aload_n 0, 1) := by decide +kernel
theorem dM_weigh_219 : decode prog_8_method_12_code 219 = .ok (.getfield 32, 3) := by decide +kernel
theorem dM_weigh_222 : decode prog_8_method_12_code 222 = .ok (.ifCond .eq 51, 3) := by decide +kernel
theorem dM_weigh_225 : decode prog_8_method_12_code 225 = .ok (.aload_n 0, 1) := by decide +kernel
theorem dM_weigh_226 : decode prog_8_method_12_code 226 = .ok (.getfield 19, 3) := by decide +kernel
theorem dM_weigh_229 : decode prog_8_method_12_code 229 = .ok (.iload_n 1, 1) := by decide +kernel
theorem dM_weigh_230 : decode prog_8_method_12_code 230 = .ok (.iaload, 1) := by decide +kernel
theorem dM_weigh_231 : decode prog_8_method_12_code 231 = .ok (.iconst 1, 1) := by decide +kernel
theorem dM_weigh_232 : decode prog_8_method_12_code 232 = .ok (.if_icmp .le 41, 3) := by decide +kernel
theorem dM_weigh_235 : decode prog_8_method_12_code 235 = .ok (.iload 4, 2) := by decide +kernel
theorem dM_weigh_237 : decode prog_8_method_12_code 237 = .ok (.iconst (-1), 1) := by decide +kernel
theorem dM_weigh_238 : decode prog_8_method_12_code 238 = .ok (.if_icmp .eq 14, 3) := by decide +kernel
theorem dM_weigh_241 : decode prog_8_method_12_code 241 = .ok (.aload_n 0, 1) := by decide +kernel
theorem dM_weigh_242 : decode prog_8_method_12_code 242 = .ok (.getfield 55, 3) := by decide +kernel
theorem dM_weigh_245 : decode prog_8_method_12_code 245 = .ok (.iload 4, 2) := by decide +kernel
theorem dM_weigh_247 : decode prog_8_method_12_code 247 = .ok (.iconst 1, 1) := by decide +kernel
theorem dM_weigh_248 : decode prog_8_method_12_code 248 = .ok (.bastore, 1) := by decide +kernel
theorem dM_weigh_249 : decode prog_8_method_12_code 249 = .ok (.goto 24, 3) := by decide +kernel
theorem dM_weigh_252 : decode prog_8_method_12_code 252 = .ok (.aload_n 0, 1) := by decide +kernel
theorem dM_weigh_253 : decode prog_8_method_12_code 253 = .ok (.getfield 13, 3) := by decide +kernel
theorem dM_weigh_256 : decode prog_8_method_12_code 256 = .ok (.aload_n 0, 1) := by decide +kernel
theorem dM_weigh_257 : decode prog_8_method_12_code 257 = .ok (.getfield 16, 3) := by decide +kernel
theorem dM_weigh_260 : decode prog_8_method_12_code 260 = .ok (.iload_n 1, 1) := by decide +kernel
theorem dM_weigh_261 : decode prog_8_method_12_code 261 = .ok (.iaload, 1) := by decide +kernel
theorem dM_weigh_262 : decode prog_8_method_12_code 262 = .ok (.iaload, 1) := by decide +kernel
theorem dM_weigh_263 : decode prog_8_method_12_code 263 = .ok (.bipush 48, 2) := by decide +kernel
theorem dM_weigh_265 : decode prog_8_method_12_code 265 = .ok (.if_icmp .ne 8, 3) := by decide +kernel
theorem dM_weigh_268 : decode prog_8_method_12_code 268 = .ok (.aload_n 0, 1) := by decide +kernel
theorem dM_weigh_269 : decode prog_8_method_12_code 269 = .ok (.iconst 1, 1) := by decide +kernel
theorem dM_weigh_270 : decode prog_8_method_12_code 270 = .ok (.putfield 107, 3) := by decide +kernel
theorem dM_weigh_273 : decode prog_8_method_12_code 273 = .ok (.iinc 1 1, 3) := by decide +kernel
theorem dM_weigh_276 : decode prog_8_method_12_code 276 = .ok (.goto (-212), 3) := by decide +kernel
theorem dM_weigh_279 : decode prog_8_method_12_code 279 = .ok (.return_, 1) := by decide +kernel
theorem dM_goThrough_0 : decode prog_8_method_13_code 0 = .ok (.aload_n 0, 1) := by decide +kernel
theorem dM_goThrough_1 : decode prog_8_method_13_code 1 = .ok (.invokevirtual 115, 3) := by decide +kernel
theorem dM_goThrough_4 : decode prog_8_method_13_code 4 = .ok (.aload_n 0, 1) := by decide +kernel
theorem dM_goThrough_5 : decode prog_8_method_13_code 5 = .ok (.getfield 107, 3) := by decide +kernel
theorem dM_goThrough_8 : decode prog_8_method_13_code 8 = .ok (.ifCond .ne 7, 3) := by decide +kernel
theorem dM_goThrough_11 : decode prog_8_method_13_code 11 = .ok (.iload_n 1, 1) := by decide +kernel
theorem dM_goThrough_12 : decode prog_8_method_13_code 12 = .ok (.ifCond .ne 5, 3) := by decide +kernel
theorem dM_goThrough_15 : decode prog_8_method_13_code 15 = .ok (.iconst 0, 1) := by decide +kernel
theorem dM_goThrough_16 : decode prog_8_method_13_code 16 = .ok (.ireturn, 1) := by decide +kernel
theorem dM_goThrough_17 : decode prog_8_method_13_code 17 = .ok (.aload_n 0, 1) := by decide +kernel
theorem dM_goThrough_18 : decode prog_8_method_13_code 18 = .ok (.getfield 97, 3) := by decide +kernel
theorem dM_goThrough_21 : decode prog_8_method_13_code 21 = .ok (.ifCond .ne 18, 3) := by decide +kernel
theorem dM_goThrough_24 : decode prog_8_method_13_code 24 = .ok (.aload_n 0, 1) := by decide +kernel
theorem dM_goThrough_25 : decode prog_8_method_13_code 25 = .ok (.getfield 103, 3) := by decide +kernel
theorem dM_goThrough_28 : decode prog_8_method_13_code 28 = .ok (.lconst 0, 1) := by decide +kernel
theorem dM_goThrough_29 : decode prog_8_method_13_code 29 = .ok (.lcmp, 1) := by decide +kernel
theorem dM_goThrough_30 : decode prog_8_method_13_code 30 = .ok (.ifCond .ne 7, 3) := by decide +kernel
theorem dM_goThrough_33 : decode prog_8_method_13_code 33 = .ok (.iconst 1, 1) := by decide +kernel
theorem dM_goThrough_34 : decode prog_8_method_13_code 34 = .ok (.goto 4, 3) := by decide +kernel
theorem dM_goThrough_37 : decode prog_8_method_13_code 37 = .ok (.iconst 0, 1) := by decide +kernel
theorem dM_goThrough_38 : decode prog_8_method_13_code 38 = .ok (.ireturn, 1) := by decide +kernel
theorem dM_goThrough_39 : decode prog_8_method_13_code 39 = .ok (.iconst 0, 1) := by decide +kernel
theorem dM_goThrough_40 : decode prog_8_method_13_code 40 = .ok (.istore_n 3, 1) := by decide +kernel
theorem dM_goThrough_41 : decode prog_8_method_13_code 41 = .ok (.iload_n 3, 1) := by decide +kernel
theorem dM_goThrough_42 : decode prog_8_method_13_code 42 = .ok (.aload_n 0, 1) := by decide +kernel
theorem dM_goThrough_43 : decode prog_8_method_13_code 43 = .ok (.getfield 67, 3) := by decide +kernel
theorem dM_goThrough_46 : decode prog_8_method_13_code 46 = .ok (.if_icmp .ge 16, 3) := by decide +kernel
theorem dM_goThrough_49 : decode prog_8_method_13_code 49 = .ok (.aload_n 0, 1) := by decide +kernel
theorem dM_goThrough_50 : decode prog_8_method_13_code 50 = .ok (.getfield 61, 3) := by decide +kernel
theorem dM_goThrough_53 : decode prog_8_method_13_code 53 = .ok (.iload_n 3, 1) := by decide +kernel
theorem dM_goThrough_54 : decode prog_8_method_13_code 54 = .ok (.iconst 0, 1) := by decide +kernel
theorem dM_goThrough_55 : decode prog_8_method_13_code 55 = .ok (.bastore, 1) := by decide +kernel
theorem dM_goThrough_56 : decode prog_8_method_13_code 56 = .ok (.iinc 3 1, 3) := by decide +kernel
theorem dM_goThrough_59 : decode prog_8_method_13_code 59 = .ok (.goto (-18), 3) := by decide +kernel
theorem dM_goThrough_62 : decode prog_8_method_13_code 62 = .ok (.iconst 0, 1) := by decide +kernel
theorem dM_goThrough_63 : decode prog_8_method_13_code 63 = .ok (.istore_n 3, 1) := by decide +kernel
theorem dM_goThrough_64 : decode prog_8_method_13_code 64 = .ok (.iconst 0, 1) := by decide +kernel
theorem dM_goThrough_65 : decode prog_8_method_13_code 65 = .ok (.istore 4, 2) := by decide +kernel
theorem dM_goThrough_67 : decode prog_8_method_13_code 67 = .ok (.aload_n 0, 1) := by decide +kernel
theorem dM_goThrough_68 : decode prog_8_method_13_code 68 = .ok (.getfield 103, 3) := by decide +kernel
theorem dM_goThrough_71 : decode prog_8_method_13_code 71 = .ok (.lstore 5, 2) := by decide +kernel
theorem dM_goThrough_73 : decode prog_8_method_13_code 73 = .ok (.aload_n 0, 1) := by decide +kernel
theorem dM_goThrough_74 : decode prog_8_method_13_code 74 = .ok (.getfield 58, 3) := by decide +kernel
theorem dM_goThrough_77 : decode prog_8_method_13_code 77 = .ok (.iconst 0, 1) := by decide +kernel
theorem dM_goThrough_78 : decode prog_8_method_13_code 78 = .ok (.iconst (-1), 1) := by decide +kernel
theorem dM_goThrough_79 : decode prog_8_method_13_code 79 = .ok (.iastore, 1) := by decide +kernel
theorem dM_goThrough_80 : decode prog_8_method_13_code 80 = .ok (.iload 4, 2) := by decide +kernel
theorem dM_goThrough_82 : decode prog_8_method_13_code 82 = .ok (.ifCond .lt 239, 3) := by decide +kernel
theorem dM_goThrough_85 : decode prog_8_method_13_code 85 = .ok (.iload_n 3, 1) := by decide +kernel
theorem dM_goThrough_86 : decode prog_8_method_13_code 86 = .ok (.iload_n 1, 1) := by decide +kernel
theorem dM_goThrough_87 : decode prog_8_method_13_code 87 = .ok (.if_icmp .ge 234, 3) := by decide +kernel
theorem dM_goThrough_90 : decode prog_8_method_13_code 90 = .ok (.aload_n 0, 1) := by decide +kernel
theorem dM_goThrough_91 : decode prog_8_method_13_code 91 = .ok (.getfield 58, 3) := by decide +kernel
theorem dM_goThrough_94 : decode prog_8_method_13_code 94 = .ok (.iload 4, 2) := by decide +kernel
theorem dM_goThrough_96 : decode prog_8_method_13_code 96 = .ok (.iaload, 1) := by decide +kernel
theorem dM_goThrough_97 : decode prog_8_method_13_code 97 = .ok (.iconst (-1), 1) := by decide +kernel
theorem dM_goThrough_98 : decode prog_8_method_13_code 98 = .ok (.if_icmp .eq 37, 3) := by decide +kernel
theorem dM_goThrough_101 : decode prog_8_method_13_code 101 = .ok (.aload_n 0, 1) := by decide +kernel
theorem dM_goThrough_102 : decode prog_8_method_13_code 102 = .ok (.getfield 61, 3) := by decide +kernel
theorem dM_goThrough_105 : decode prog_8_method_13_code 105 = .ok (.aload_n 0, 1) := by decide +kernel
theorem dM_goThrough_106 : decode prog_8_method_13_code 106 = .ok (.getfield 58, 3) := by decide +kernel
theorem dM_goThrough_109 : decode prog_8_method_13_code 109 = .ok (.iload 4, 2) := by decide +kernel
theorem dM_goThrough_111 : decode prog_8_method_13_code 111 = .ok (.iaload, 1) := by decide +kernel
theorem dM_goThrough_112 : decode prog_8_method_13_code 112 = .ok (.iconst 0, 1) := by decide +kernel
theorem dM_goThrough_113 : decode prog_8_method_13_code 113 = .ok (.bastore, 1) := by decide +kernel
theorem dM_goThrough_114 : decode prog_8_method_13_code 114 = .ok (.lload 5, 2) := by decide +kernel
theorem dM_goThrough_116 : decode prog_8_method_13_code 116 = .ok (.aload_n 0, 1) := by decide +kernel
theorem dM_goThrough_117 : decode prog_8_method_13_code 117 = .ok (.getfield 51, 3) := by decide +kernel
theorem dM_goThrough_120 : decode prog_8_method_13_code 120 = .ok (.iload 4, 2) := by decide +kernel
theorem dM_goThrough_122 : decode prog_8_method_13_code 122 = .ok (.laload, 1) := by decide +kernel
theorem dM_goThrough_123 : decode prog_8_method_13_code 123 = .ok (.aload_n 0, 1) := by decide +kernel
theorem dM_goThrough_124 : decode prog_8_method_13_code 124 = .ok (.getfield 58, 3) := by decide +kernel
theorem dM_goThrough_127 : decode prog_8_method_13_code 127 = .ok (.iload 4, 2) := by decide +kernel
theorem dM_goThrough_129 : decode prog_8_method_13_code 129 = .ok (.iaload, 1) := by decide +kernel
theorem dM_goThrough_130 : decode prog_8_method_13_code 130 = .ok (.i2l, 1) := by decide +kernel
theorem dM_goThrough_131 : decode prog_8_method_13_code 131 = .ok (.lmul, 1) := by decide +kernel
theorem dM_goThrough_132 : decode prog_8_method_13_code 132 = .ok (.lsub, 1) := by decide +kernel
theorem dM_goThrough_133 : decode prog_8_method_13_code 133 = .ok (.lstore 5, 2) := by decide +kernel
theorem dM_goThrough_135 : decode prog_8_method_13_code 135 = .ok (.aload_n 0, 1) := by decide +kernel
theorem dM_goThrough_136 : decode prog_8_method_13_code 136 = .ok (.getfield 58, 3) := by decide +kernel
theorem dM_goThrough_139 : decode prog_8_method_13_code 139 = .ok (.iload 4, 2) := by decide +kernel
theorem dM_goThrough_141 : decode prog_8_method_13_code 141 = .ok (.iaload, 1) := by decide +kernel
theorem dM_goThrough_142 : decode prog_8_method_13_code 142 = .ok (.iconst 1, 1) := by decide +kernel
theorem dM_goThrough_143 : decode prog_8_method_13_code 143 = .ok (.iadd, 1) := by decide +kernel
theorem dM_goThrough_144 : decode prog_8_method_13_code 144 = .ok (.istore 7, 2) := by decide +kernel
theorem dM_goThrough_146 : decode prog_8_method_13_code 146 = .ok (.iload 7, 2) := by decide +kernel
theorem dM_goThrough_148 : decode prog_8_method_13_code 148 = .ok (.aload_n 0, 1) := by decide +kernel
theorem dM_goThrough_149 : decode prog_8_method_13_code 149 = .ok (.getfield 67, 3) := by decide +kernel
theorem dM_goThrough_152 : decode prog_8_method_13_code 152 = .ok (.if_icmp .ge 34, 3) := by decide +kernel
theorem dM_goThrough_155 : decode prog_8_method_13_code 155 = .ok (.aload_n 0, 1) := by decide +kernel
theorem dM_goThrough_156 : decode prog_8_method_13_code 156 = .ok (.getfield 61, 3) := by decide +kernel
theorem dM_goThrough_159 : decode prog_8_method_13_code 159 = .ok (.iload 7, 2) := by decide +kernel
theorem dM_goThrough_161 : decode prog_8_method_13_code 161 = .ok (.baload, 1) := by decide +kernel
theorem dM_goThrough_162 : decode prog_8_method_13_code 162 = .ok (.ifCond .ne 18, 3) := by decide +kernel
theorem dM_goThrough_165 : decode prog_8_method_13_code 165 = .ok (.iload 7, 2) := by decide +kernel
theorem dM_goThrough_167 : decode prog_8_method_13_code 167 = .ok (.ifCond .ne 19, 3) := by decide +kernel
theorem dM_goThrough_170 : decode prog_8_method_13_code 170 = .ok (.aload_n 0, 1) := by decide +kernel
theorem dM_goThrough_171 : decode prog_8_method_13_code 171 = .ok (.getfield 55, 3) := by decide +kernel
theorem dM_goThrough_174 : decode prog_8_method_13_code 174 = .ok (.iload 4, 2) := by decide +kernel
theorem dM_goThrough_176 : decode prog_8_method_13_code 176 = .ok (.baload, 1) := by decide +kernel
theorem dM_goThrough_177 : decode prog_8_method_13_code 177 = .ok (.ifCond .eq 9, 3) := by decide +kernel
theorem dM_goThrough_180 : decode prog_8_method_13_code 180 = .ok (.iinc 7 1, 3) := by decide +kernel
theorem dM_goThrough_183 : decode prog_8_method_13_code 183 = .ok (.goto (-37), 3) := by decide +kernel
theorem dM_goThrough_186 : decode prog_8_method_13_code 186 = .ok (.iload 7, 2) := by decide +kernel
theorem dM_goThrough_188 : decode prog_8_method_13_code 188 = .ok (.aload_n 0, 1) := by decide +kernel
theorem dM_goThrough_189 : decode prog_8_method_13_code 189 = .ok (.getfield 67, 3) := by decide +kernel
theorem dM_goThrough_192 : decode prog_8_method_13_code 192 = .ok (.if_icmp .ne 17, 3) := by decide +kernel
theorem dM_goThrough_195 : decode prog_8_method_13_code 195 = .ok (.aload_n 0, 1) := by decide +kernel
theorem dM_goThrough_196 : decode prog_8_method_13_code 196 = .ok (.getfield 58, 3) := by decide +kernel
theorem dM_goThrough_199 : decode prog_8_method_13_code 199 = .ok (.iload 4, 2) := by decide +kernel
theorem dM_goThrough_201 : decode prog_8_method_13_code 201 = .ok (.iconst (-1), 1) := by decide +kernel
theorem dM_goThrough_202 : decode prog_8_method_13_code 202 = .ok (.iastore, 1) := by decide +kernel
theorem dM_goThrough_203 : decode prog_8_method_13_code 203 = .ok (.iinc 4 (-1), 3) := by decide +kernel
theorem dM_goThrough_206 : decode prog_8_method_13_code 206 = .ok (.goto 112, 3) := by decide +kernel
theorem dM_goThrough_209 : decode prog_8_method_13_code 209 = .ok (.aload_n 0, 1) := by decide +kernel
theorem dM_goThrough_210 : decode prog_8_method_13_code 210 = .ok (.getfield 58, 3) := by decide +kernel
theorem dM_goThrough_213 : decode prog_8_method_13_code 213 = .ok (.iload 4, 2) := by decide +kernel
theorem dM_goThrough_215 : decode prog_8_method_13_code 215 = .ok (.iload 7, 2) := by decide +kernel
theorem dM_goThrough_217 : decode prog_8_method_13_code 217 = .ok (.iastore, 1) := by decide +kernel
theorem dM_goThrough_218 : decode prog_8_method_13_code 218 = .ok (.aload_n 0, 1) := by decide +kernel
theorem dM_goThrough_219 : decode prog_8_method_13_code 219 = .ok (.getfield 61, 3) := by decide +kernel
theorem dM_goThrough_222 : decode prog_8_method_13_code 222 = .ok (.iload 7, 2) := by decide +kernel
theorem dM_goThrough_224 : decode prog_8_method_13_code 224 = .ok (.iconst 1, 1) := by decide +kernel
theorem dM_goThrough_225 : decode prog_8_method_13_code 225 = .ok (.bastore, 1) := by decide +kernel
theorem dM_goThrough_226 : decode prog_8_method_13_code 226 = .ok (.lload 5, 2) := by decide +kernel
theorem dM_goThrough_228 : decode prog_8_method_13_code 228 = .ok (.aload_n 0, 1) := by decide +kernel
theorem dM_goThrough_229 : decode prog_8_method_13_code 229 = .ok (.getfield 51, 3) := by decide +kernel
theorem dM_goThrough_232 : decode prog_8_method_13_code 232 = .ok (.iload 4, 2) := by decide +kernel
theorem dM_goThrough_234 : decode prog_8_method_13_code 234 = .ok (.laload, 1) := by decide +kernel
theorem dM_goThrough_235 : decode prog_8_method_13_code 235 = .ok (.iload 7, 2) := by decide +kernel
theorem dM_goThrough_237 : decode prog_8_method_13_code 237 = .ok (.i2l, 1) := by decide +kernel
theorem dM_goThrough_238 : decode prog_8_method_13_code 238 = .ok (.lmul, 1) := by decide +kernel
theorem dM_goThrough_239 : decode prog_8_method_13_code 239 = .ok (.ladd, 1) := by decide +kernel
theorem dM_goThrough_240 : decode prog_8_method_13_code 240 = .ok (.lstore 5, 2) := by decide +kernel
theorem dM_goThrough_242 : decode prog_8_method_13_code 242 = .ok (.iload 4, 2) := by decide +kernel
theorem dM_goThrough_244 : decode prog_8_method_13_code 244 = .ok (.iconst 1, 1) := by decide +kernel
theorem dM_goThrough_245 : decode prog_8_method_13_code 245 = .ok (.iadd, 1) := by decide +kernel
theorem dM_goThrough_246 : decode prog_8_method_13_code 246 = .ok (.aload_n 0, 1) := by decide +kernel
theorem dM_goThrough_247 : decode prog_8_method_13_code 247 = .ok (.getfield 97, 3) := by decide +kernel
theorem dM_goThrough_250 : decode prog_8_method_13_code 250 = .ok (.if_icmp .ge 17, 3) := by decide +kernel
theorem dM_goThrough_253 : decode prog_8_method_13_code 253 = .ok (.iinc 4 1, 3) := by decide +kernel
theorem dM_goThrough_256 : decode prog_8_method_13_code 256 = .ok (.aload_n 0, 1) := by decide +kernel
theorem dM_goThrough_257 : decode prog_8_method_13_code 257 = .ok (.getfield 58, 3) := by decide +kernel
theorem dM_goThrough_260 : decode prog_8_method_13_code 260 = .ok (.iload 4, 2) := by decide +kernel
theorem dM_goThrough_262 : decode prog_8_method_13_code 262 = .ok (.iconst (-1), 1) := by decide +kernel
theorem dM_goThrough_263 : decode prog_8_method_13_code 263 = .ok (.iastore, 1) := by decide +kernel
theorem dM_goThrough_264 : decode prog_8_method_13_code 264 = .ok (.goto 54, 3) := by decide +kernel
theorem dM_goThrough_267 : decode prog_8_method_13_code 267 = .ok (.lload 5, 2) := by decide +kernel
theorem dM_goThrough_269 : decode prog_8_method_13_code 269 = .ok (.lconst 0, 1) := by decide +kernel
theorem dM_goThrough_270 : decode prog_8_method_13_code 270 = .ok (.lcmp, 1) := by decide +kernel
theorem dM_goThrough_271 : decode prog_8_method_13_code 271 = .ok (.ifCond .ne 47, 3) := by decide +kernel
theorem dM_goThrough_274 : decode prog_8_method_13_code 274 = .ok (.iload_n 2, 1) := by decide +kernel
theorem dM_goThrough_275 : decode prog_8_method_13_code 275 = .ok (.ifCond .eq 40, 3) := by decide +kernel
theorem dM_goThrough_278 : decode prog_8_method_13_code 278 = .ok (.iconst 0, 1) := by decide +kernel
theorem dM_goThrough_279 : decode prog_8_method_13_code 279 = .ok (.istore 8, 2) := by decide +kernel
theorem dM_goThrough_281 : decode prog_8_method_13_code 281 = .ok (.iload 8, 2) := by decide +kernel
theorem dM_goThrough_283 : decode prog_8_method_13_code 283 = .ok (.aload_n 0, 1) := by decide +kernel
theorem dM_goThrough_284 : decode prog_8_method_13_code 284 = .ok (.getfield 97, 3) := by decide +kernel
theorem dM_goThrough_287 : decode prog_8_method_13_code 287 = .ok (.if_icmp .ge 28, 3) := by decide +kernel
theorem dM_goThrough_290 : decode prog_8_method_13_code 290 = .ok (.aload_n 0, 1) := by decide +kernel
theorem dM_goThrough_291 : decode prog_8_method_13_code 291 = .ok (.getfield 64, 3) := by decide +kernel
theorem dM_goThrough_294 : decode prog_8_method_13_code 294 = .ok (.bipush 8, 2) := by decide +kernel
theorem dM_goThrough_296 : decode prog_8_method_13_code 296 = .ok (.iload_n 3, 1) := by decide +kernel
theorem dM_goThrough_297 : decode prog_8_method_13_code 297 = .ok (.imul, 1) := by decide +kernel
theorem dM_goThrough_298 : decode prog_8_method_13_code 298 = .ok (.iload 8, 2) := by decide +kernel
theorem dM_goThrough_300 : decode prog_8_method_13_code 300 = .ok (.iadd, 1) := by decide +kernel
theorem dM_goThrough_301 : decode prog_8_method_13_code 301 = .ok (.aload_n 0, 1) := by decide +kernel
theorem dM_goThrough_302 : decode prog_8_method_13_code 302 = .ok (.getfield 58, 3) := by decide +kernel
theorem dM_goThrough_305 : decode prog_8_method_13_code 305 = .ok (.iload 8, 2) := by decide +kernel
theorem dM_goThrough_307 : decode prog_8_method_13_code 307 = .ok (.iaload, 1) := by decide +kernel
theorem dM_goThrough_308 : decode prog_8_method_13_code 308 = .ok (.iastore, 1) := by decide +kernel
theorem dM_goThrough_309 : decode prog_8_method_13_code 309 = .ok (.iinc 8 1, 3) := by decide +kernel
theorem dM_goThrough_312 : decode prog_8_method_13_code 312 = .ok (.goto (-31), 3) := by decide +kernel
theorem dM_goThrough_315 : decode prog_8_method_13_code 315 = .ok (.iinc 3 1, 3) := by decide +kernel
theorem dM_goThrough_318 : decode prog_8_method_13_code 318 = .ok (.goto (-238), 3) := by decide +kernel
theorem dM_goThrough_321 : decode prog_8_method_13_code 321 = .ok (.iload_n 3, 1) := by decide +kernel
theorem dM_goThrough_322 : decode prog_8_method_13_code 322 = .ok (.ireturn, 1) := by decide +kernel
theorem dM_run_0 : decode prog_8_method_14_code 0 = .ok (.aload_n 0, 1) := by decide +kernel
theorem dM_run_1 : decode prog_8_method_14_code 1 = .ok (.iconst 0, 1) := by decide +kernel
theorem dM_run_2 : decode prog_8_method_14_code 2 = .ok (.putfield 71, 3) := by decide +kernel
theorem dM_run_5 : decode prog_8_method_14_code 5 = .ok (.iload_n 1, 1) := by decide +kernel
theorem dM_run_6 : decode prog_8_method_14_code 6 = .ok (.ifCond .lt 10, 3) := by decide +kernel
theorem dM_run_9 : decode prog_8_method_14_code 9 = .ok (.iload_n 1, 1) := by decide +kernel
theorem dM_run_10 : decode prog_8_method_14_code 10 = .ok (.sipush 1000, 3) := by decide +kernel
theorem dM_run_13 : decode prog_8_method_14_code 13 = .ok (.if_icmp .le 5, 3) := by decide +kernel
theorem dM_run_16 : decode prog_8_method_14_code 16 = .ok (.iconst (-1), 1) := by decide +kernel
theorem dM_run_17 : decode prog_8_method_14_code 17 = .ok (.ireturn, 1) := by decide +kernel
theorem dM_run_18 : decode prog_8_method_14_code 18 = .ok (.aload_n 0, 1) := by decide +kernel
theorem dM_run_19 : decode prog_8_method_14_code 19 = .ok (.aload_n 0, 1) := by decide +kernel
theorem dM_run_20 : decode prog_8_method_14_code 20 = .ok (.iload_n 1, 1) := by decide +kernel
theorem dM_run_21 : decode prog_8_method_14_code 21 = .ok (.iconst 1, 1) := by decide +kernel
theorem dM_run_22 : decode prog_8_method_14_code 22 = .ok (.invokevirtual 118, 3) := by decide +kernel
theorem dM_run_25 : decode prog_8_method_14_code 25 = .ok (.putfield 100, 3) := by decide +kernel
theorem dM_run_28 : decode prog_8_method_14_code 28 = .ok (.aload_n 0, 1) := by decide +kernel
theorem dM_run_29 : decode prog_8_method_14_code 29 = .ok (.getfield 100, 3) := by decide +kernel
theorem dM_run_32 : decode prog_8_method_14_code 32 = .ok (.ireturn, 1) := by decide +kernel
theorem dM_one_0 : decode prog_8_method_15_code 0 = .ok (.aload_n 0, 1) := by decide +kernel
theorem dM_one_1 : decode prog_8_method_15_code 1 = .ok (.iconst 0, 1) := by decide +kernel
theorem dM_one_2 : decode prog_8_method_15_code 2 = .ok (.putfield 71, 3) := by decide +kernel
theorem dM_one_5 : decode prog_8_method_15_code 5 = .ok (.aload_n 0, 1) := by decide +kernel
theorem dM_one_6 : decode prog_8_method_15_code 6 = .ok (.iconst 2, 1) := by decide +kernel
theorem dM_one_7 : decode prog_8_method_15_code 7 = .ok (.iconst 0, 1) := by decide +kernel
theorem dM_one_8 : decode prog_8_method_15_code 8 = .ok (.invokevirtual 118, 3) := by decide +kernel
theorem dM_one_11 : decode prog_8_method_15_code 11 = .ok (.iconst 1, 1) := by decide +kernel
theorem dM_one_12 : decode prog_8_method_15_code 12 = .ok (.if_icmp .ne 7, 3) := by decide +kernel
theorem dM_one_15 : decode prog_8_method_15_code 15 = .ok (.iconst 1, 1) := by decide +kernel
theorem dM_one_16 : decode prog_8_method_15_code 16 = .ok (.goto 4, 3) := by decide +kernel
theorem dM_one_19 : decode prog_8_method_15_code 19 = .ok (.iconst 0, 1) := by decide +kernel
theorem dM_one_20 : decode prog_8_method_15_code 20 = .ok (.ireturn, 1) := by decide +kernel
theorem dM_isAnswer_0 : decode prog_8_method_16_code 0 = .ok (.iload_n 1, 1) := by decide +kernel
theorem dM_isAnswer_1 : decode prog_8_method_16_code 1 = .ok (.ifCond .lt 15, 3) := by decide +kernel
theorem dM_isAnswer_4 : decode prog_8_method_16_code 4 = .ok (.iload_n 1, 1) := by decide +kernel
theorem dM_isAnswer_5 : decode prog_8_method_16_code 5 = .ok (.aload_n 0, 1) := by decide +kernel
theorem dM_isAnswer_6 : decode prog_8_method_16_code 6 = .ok (.getfield 100, 3) := by decide +kernel
theorem dM_isAnswer_9 : decode prog_8_method_16_code 9 = .ok (.if_icmp .ge 7, 3) := by decide +kernel
theorem dM_isAnswer_12 : decode prog_8_method_16_code 12 = .ok (.iconst 1, 1) := by decide +kernel
theorem dM_isAnswer_13 : decode prog_8_method_16_code 13 = .ok (.goto 4, 3) := by decide +kernel
theorem dM_isAnswer_16 : decode prog_8_method_16_code 16 = .ok (.iconst 0, 1) := by decide +kernel
theorem dM_isAnswer_17 : decode prog_8_method_16_code 17 = .ok (.ireturn, 1) := by decide +kernel
theorem dM_digit_0 : decode prog_8_method_17_code 0 = .ok (.aload_n 0, 1) := by decide +kernel
theorem dM_digit_1 : decode prog_8_method_17_code 1 = .ok (.iconst 0, 1) := by decide +kernel
theorem dM_digit_2 : decode prog_8_method_17_code 2 = .ok (.putfield 71, 3) := by decide +kernel
theorem dM_digit_5 : decode prog_8_method_17_code 5 = .ok (.aload_n 0, 1) := by decide +kernel
theorem dM_digit_6 : decode prog_8_method_17_code 6 = .ok (.iload_n 2, 1) := by decide +kernel
theorem dM_digit_7 : decode prog_8_method_17_code 7 = .ok (.invokevirtual 112, 3) := by decide +kernel
theorem dM_digit_10 : decode prog_8_method_17_code 10 = .ok (.istore_n 3, 1) := by decide +kernel
theorem dM_digit_11 : decode prog_8_method_17_code 11 = .ok (.aload_n 0, 1) := by decide +kernel
theorem dM_digit_12 : decode prog_8_method_17_code 12 = .ok (.iload_n 1, 1) := by decide +kernel
theorem dM_digit_13 : decode prog_8_method_17_code 13 = .ok (.invokevirtual 122, 3) := by decide +kernel
theorem dM_digit_16 : decode prog_8_method_17_code 16 = .ok (.ifCond .eq 8, 3) := by decide +kernel
theorem dM_digit_19 : decode prog_8_method_17_code 19 = .ok (.iload_n 3, 1) := by decide +kernel
theorem dM_digit_20 : decode prog_8_method_17_code 20 = .ok (.iconst (-1), 1) := by decide +kernel
theorem dM_digit_21 : decode prog_8_method_17_code 21 = .ok (.if_icmp .ne 7, 3) := by decide +kernel
theorem dM_digit_24 : decode prog_8_method_17_code 24 = .ok (.iconst (-1), 1) := by decide +kernel
theorem dM_digit_25 : decode prog_8_method_17_code 25 = .ok (.goto 14, 3) := by decide +kernel
theorem dM_digit_28 : decode prog_8_method_17_code 28 = .ok (.aload_n 0, 1) := by decide +kernel
theorem dM_digit_29 : decode prog_8_method_17_code 29 = .ok (.getfield 64, 3) := by decide +kernel
theorem dM_digit_32 : decode prog_8_method_17_code 32 = .ok (.bipush 8, 2) := by decide +kernel
theorem dM_digit_34 : decode prog_8_method_17_code 34 = .ok (.iload_n 1, 1) := by decide +kernel
theorem dM_digit_35 : decode prog_8_method_17_code 35 = .ok (.imul, 1) := by decide +kernel
theorem dM_digit_36 : decode prog_8_method_17_code 36 = .ok (.iload_n 3, 1) := by decide +kernel
theorem dM_digit_37 : decode prog_8_method_17_code 37 = .ok (.iadd, 1) := by decide +kernel
theorem dM_digit_38 : decode prog_8_method_17_code 38 = .ok (.iaload, 1) := by decide +kernel
theorem dM_digit_39 : decode prog_8_method_17_code 39 = .ok (.ireturn, 1) := by decide +kernel
theorem dM_digitAt_0 : decode prog_8_method_18_code 0 = .ok (.aload_n 0, 1) := by decide +kernel
theorem dM_digitAt_1 : decode prog_8_method_18_code 1 = .ok (.aload_n 0, 1) := by decide +kernel
theorem dM_digitAt_2 : decode prog_8_method_18_code 2 = .ok (.getfield 13, 3) := by decide +kernel
theorem dM_digitAt_5 : decode prog_8_method_18_code 5 = .ok (.iload_n 2, 1) := by decide +kernel
theorem dM_digitAt_6 : decode prog_8_method_18_code 6 = .ok (.iaload, 1) := by decide +kernel
theorem dM_digitAt_7 : decode prog_8_method_18_code 7 = .ok (.invokevirtual 112, 3) := by decide +kernel
theorem dM_digitAt_10 : decode prog_8_method_18_code 10 = .ok (.istore_n 3, 1) := by decide +kernel
theorem dM_digitAt_11 : decode prog_8_method_18_code 11 = .ok (.iload_n 3, 1) := by decide +kernel
theorem dM_digitAt_12 : decode prog_8_method_18_code 12 = .ok (.iconst (-1), 1) := by decide +kernel
theorem dM_digitAt_13 : decode prog_8_method_18_code 13 = .ok (.if_icmp .ne 15, 3) := by decide +kernel
theorem dM_digitAt_16 : decode prog_8_method_18_code 16 = .ok (.aload_n 0, 1) := by decide +kernel
theorem dM_digitAt_17 : decode prog_8_method_18_code 17 = .ok (.getfield 13, 3) := by decide +kernel
theorem dM_digitAt_20 : decode prog_8_method_18_code 20 = .ok (.iload_n 2, 1) := by decide +kernel
theorem dM_digitAt_21 : decode prog_8_method_18_code 21 = .ok (.iaload, 1) := by decide +kernel
theorem dM_digitAt_22 : decode prog_8_method_18_code 22 = .ok (.bipush 48, 2) := by decide +kernel
theorem dM_digitAt_24 : decode prog_8_method_18_code 24 = .ok (.isub, 1) := by decide +kernel
theorem dM_digitAt_25 : decode prog_8_method_18_code 25 = .ok (.goto 14, 3) := by decide +kernel
theorem dM_digitAt_28 : decode prog_8_method_18_code 28 = .ok (.aload_n 0, 1) := by decide +kernel
theorem dM_digitAt_29 : decode prog_8_method_18_code 29 = .ok (.getfield 64, 3) := by decide +kernel
theorem dM_digitAt_32 : decode prog_8_method_18_code 32 = .ok (.bipush 8, 2) := by decide +kernel
theorem dM_digitAt_34 : decode prog_8_method_18_code 34 = .ok (.iload_n 1, 1) := by decide +kernel
theorem dM_digitAt_35 : decode prog_8_method_18_code 35 = .ok (.imul, 1) := by decide +kernel
theorem dM_digitAt_36 : decode prog_8_method_18_code 36 = .ok (.iload_n 3, 1) := by decide +kernel
theorem dM_digitAt_37 : decode prog_8_method_18_code 37 = .ok (.iadd, 1) := by decide +kernel
theorem dM_digitAt_38 : decode prog_8_method_18_code 38 = .ok (.iaload, 1) := by decide +kernel
theorem dM_digitAt_39 : decode prog_8_method_18_code 39 = .ok (.ireturn, 1) := by decide +kernel
theorem dM_wordOf_0 : decode prog_8_method_19_code 0 = .ok (.lconst 0, 1) := by decide +kernel
theorem dM_wordOf_1 : decode prog_8_method_19_code 1 = .ok (.lstore 4, 2) := by decide +kernel
theorem dM_wordOf_3 : decode prog_8_method_19_code 3 = .ok (.aload_n 0, 1) := by decide +kernel
theorem dM_wordOf_4 : decode prog_8_method_19_code 4 = .ok (.getfield 19, 3) := by decide +kernel
theorem dM_wordOf_7 : decode prog_8_method_19_code 7 = .ok (.iload_n 2, 1) := by decide +kernel
theorem dM_wordOf_8 : decode prog_8_method_19_code 8 = .ok (.iaload, 1) := by decide +kernel
theorem dM_wordOf_9 : decode prog_8_method_19_code 9 = .ok (.iload_n 3, 1) := by decide +kernel
theorem dM_wordOf_10 : decode prog_8_method_19_code 10 = .ok (.if_icmp .le 14, 3) := by decide +kernel
theorem dM_wordOf_13 : decode prog_8_method_19_code 13 = .ok (.aload_n 0, 1) := by decide +kernel
theorem dM_wordOf_14 : decode prog_8_method_19_code 14 = .ok (.getfield 19, 3) := by decide +kernel
theorem dM_wordOf_17 : decode prog_8_method_19_code 17 = .ok (.iload_n 2, 1) := by decide +kernel
theorem dM_wordOf_18 : decode prog_8_method_19_code 18 = .ok (.iaload, 1) := by decide +kernel
theorem dM_wordOf_19 : decode prog_8_method_19_code 19 = .ok (.iload_n 3, 1) := by decide +kernel
theorem dM_wordOf_20 : decode prog_8_method_19_code 20 = .ok (.isub, 1) := by decide +kernel
theorem dM_wordOf_21 : decode prog_8_method_19_code 21 = .ok (.goto 4, 3) := by decide +kernel
theorem dM_wordOf_24 : decode prog_8_method_19_code 24 = .ok (.iconst 0, 1) := by decide +kernel
theorem dM_wordOf_25 : decode prog_8_method_19_code 25 = .ok (.istore 6, 2) := by decide +kernel
theorem dM_wordOf_27 : decode prog_8_method_19_code 27 = .ok (.iload 6, 2) := by decide +kernel
theorem dM_wordOf_29 : decode prog_8_method_19_code 29 = .ok (.istore 7, 2) := by decide +kernel
theorem dM_wordOf_31 : decode prog_8_method_19_code 31 = .ok (.iload 7, 2) := by decide +kernel
theorem dM_wordOf_33 : decode prog_8_method_19_code 33 = .ok (.aload_n 0, 1) := by decide +kernel
theorem dM_wordOf_34 : decode prog_8_method_19_code 34 = .ok (.getfield 19, 3) := by decide +kernel
theorem dM_wordOf_37 : decode prog_8_method_19_code 37 = .ok (.iload_n 2, 1) := by decide +kernel
theorem dM_wordOf_38 : decode prog_8_method_19_code 38 = .ok (.iaload, 1) := by decide +kernel
theorem dM_wordOf_39 : decode prog_8_method_19_code 39 = .ok (.if_icmp .ge 35, 3) := by decide +kernel
theorem dM_wordOf_42 : decode prog_8_method_19_code 42 = .ok (.lload 4, 2) := by decide +kernel
theorem dM_wordOf_44 : decode prog_8_method_19_code 44 = .ok (.aload_n 0, 1) := by decide +kernel
theorem dM_wordOf_45 : decode prog_8_method_19_code 45 = .ok (.getfield 67, 3) := by decide +kernel
theorem dM_wordOf_48 : decode prog_8_method_19_code 48 = .ok (.i2l, 1) := by decide +kernel
theorem dM_wordOf_49 : decode prog_8_method_19_code 49 = .ok (.lmul, 1) := by decide +kernel
theorem dM_wordOf_50 : decode prog_8_method_19_code 50 = .ok (.aload_n 0, 1) := by decide +kernel
theorem dM_wordOf_51 : decode prog_8_method_19_code 51 = .ok (.iload_n 1, 1) := by decide +kernel
theorem dM_wordOf_52 : decode prog_8_method_19_code 52 = .ok (.aload_n 0, 1) := by decide +kernel
theorem dM_wordOf_53 : decode prog_8_method_19_code 53 = .ok (.getfield 16, 3) := by decide +kernel
theorem dM_wordOf_56 : decode prog_8_method_19_code 56 = .ok (.iload_n 2, 1) := by decide +kernel
theorem dM_wordOf_57 : decode prog_8_method_19_code 57 = .ok (.iaload, 1) := by decide +kernel
theorem dM_wordOf_58 : decode prog_8_method_19_code 58 = .ok (.iload 7, 2) := by decide +kernel
theorem dM_wordOf_60 : decode prog_8_method_19_code 60 = .ok (.iadd, 1) := by decide +kernel
theorem dM_wordOf_61 : decode prog_8_method_19_code 61 = .ok (.invokevirtual 125, 3) := by decide +kernel
theorem dM_wordOf_64 : decode prog_8_method_19_code 64 = .ok (.i2l, 1) := by decide +kernel
theorem dM_wordOf_65 : decode prog_8_method_19_code 65 = .ok (.ladd, 1) := by decide +kernel
theorem dM_wordOf_66 : decode prog_8_method_19_code 66 = .ok (.lstore 4, 2) := by decide +kernel
theorem dM_wordOf_68 : decode prog_8_method_19_code 68 = .ok (.iinc 7 1, 3) := by decide +kernel
theorem dM_wordOf_71 : decode prog_8_method_19_code 71 = .ok (.goto (-40), 3) := by decide +kernel
theorem dM_wordOf_74 : decode prog_8_method_19_code 74 = .ok (.lload 4, 2) := by decide +kernel
theorem dM_wordOf_76 : decode prog_8_method_19_code 76 = .ok (.lreturn, 1) := by decide +kernel
theorem dM_side_0 : decode prog_8_method_20_code 0 = .ok (.aload_n 0, 1) := by decide +kernel
theorem dM_side_1 : decode prog_8_method_20_code 1 = .ok (.iconst 0, 1) := by decide +kernel
theorem dM_side_2 : decode prog_8_method_20_code 2 = .ok (.putfield 71, 3) := by decide +kernel
theorem dM_side_5 : decode prog_8_method_20_code 5 = .ok (.aload_n 0, 1) := by decide +kernel
theorem dM_side_6 : decode prog_8_method_20_code 6 = .ok (.iload_n 1, 1) := by decide +kernel
theorem dM_side_7 : decode prog_8_method_20_code 7 = .ok (.invokevirtual 122, 3) := by decide +kernel
theorem dM_side_10 : decode prog_8_method_20_code 10 = .ok (.ifCond .eq 12, 3) := by decide +kernel
theorem dM_side_13 : decode prog_8_method_20_code 13 = .ok (.iload_n 2, 1) := by decide +kernel
theorem dM_side_14 : decode prog_8_method_20_code 14 = .ok (.ifCond .lt 8, 3) := by decide +kernel
theorem dM_side_17 : decode prog_8_method_20_code 17 = .ok (.iload_n 2, 1) := by decide +kernel
theorem dM_side_18 : decode prog_8_method_20_code 18 = .ok (.iconst 1, 1) := by decide +kernel
theorem dM_side_19 : decode prog_8_method_20_code 19 = .ok (.if_icmp .le 7, 3) := by decide +kernel
theorem dM_side_22 : decode prog_8_method_20_code 22 = .ok (.ldc2_w 110, 3) := by decide +kernel
theorem dM_side_25 : decode prog_8_method_20_code 25 = .ok (.lreturn, 1) := by decide +kernel
theorem dM_side_26 : decode prog_8_method_20_code 26 = .ok (.lconst 0, 1) := by decide +kernel
theorem dM_side_27 : decode prog_8_method_20_code 27 = .ok (.lstore_n 3, 1) := by decide +kernel
theorem dM_side_28 : decode prog_8_method_20_code 28 = .ok (.iconst 0, 1) := by decide +kernel
theorem dM_side_29 : decode prog_8_method_20_code 29 = .ok (.istore 5, 2) := by decide +kernel
theorem dM_side_31 : decode prog_8_method_20_code 31 = .ok (.iload 5, 2) := by decide +kernel
theorem dM_side_33 : decode prog_8_method_20_code 33 = .ok (.aload_n 0, 1) := by decide +kernel
theorem dM_side_34 : decode prog_8_method_20_code 34 = .ok (.getfield 94, 3) := by decide +kernel
theorem dM_side_37 : decode prog_8_method_20_code 37 = .ok (.if_icmp .ge 55, 3) := by decide +kernel
theorem dM_side_40 : decode prog_8_method_20_code 40 = .ok (.aload_n 0, 1) := by decide +kernel
theorem dM_side_41 : decode prog_8_method_20_code 41 = .ok (.getfield 26, 3) := by decide +kernel
theorem dM_side_44 : decode prog_8_method_20_code 44 = .ok (.iload 5, 2) := by decide +kernel
theorem dM_side_46 : decode prog_8_method_20_code 46 = .ok (.iaload, 1) := by decide +kernel
theorem dM_side_47 : decode prog_8_method_20_code 47 = .ok (.iload_n 2, 1) := by decide +kernel
theorem dM_side_48 : decode prog_8_method_20_code 48 = .ok (.if_icmp .ne 38, 3) := by decide +kernel
theorem dM_side_51 : decode prog_8_method_20_code 51 = .ok (.lload_n 3, 1) := by decide +kernel
theorem dM_side_52 : decode prog_8_method_20_code 52 = .ok (.aload_n 0, 1) := by decide +kernel
theorem dM_side_53 : decode prog_8_method_20_code 53 = .ok (.getfield 22, 3) := by decide +kernel
theorem dM_side_56 : decode prog_8_method_20_code 56 = .ok (.iload 5, 2) := by decide +kernel
theorem dM_side_58 : decode prog_8_method_20_code 58 = .ok (.baload, 1) := by decide +kernel
theorem dM_side_59 : decode prog_8_method_20_code 59 = .ok (.ifCond .eq 16, 3) := by decide +kernel
theorem dM_side_62 : decode prog_8_method_20_code 62 = .ok (.aload_n 0, 1) := by decide +kernel
theorem dM_side_63 : decode prog_8_method_20_code 63 = .ok (.iload_n 1, 1) := by decide +kernel
theorem dM_side_64 : decode prog_8_method_20_code 64 = .ok (.iload 5, 2) := by decide +kernel
theorem dM_side_66 : decode prog_8_method_20_code 66 = .ok (.bipush 8, 2) := by decide +kernel
theorem dM_side_68 : decode prog_8_method_20_code 68 = .ok (.invokevirtual 129, 3) := by decide +kernel
theorem dM_side_71 : decode prog_8_method_20_code 71 = .ok (.lneg, 1) := by decide +kernel
theorem dM_side_72 : decode prog_8_method_20_code 72 = .ok (.goto 12, 3) := by decide +kernel
theorem dM_side_75 : decode prog_8_method_20_code 75 = .ok (.aload_n 0, 1) := by decide +kernel
theorem dM_side_76 : decode prog_8_method_20_code 76 = .ok (.iload_n 1, 1) := by decide +kernel
theorem dM_side_77 : decode prog_8_method_20_code 77 = .ok (.iload 5, 2) := by decide +kernel
theorem dM_side_79 : decode prog_8_method_20_code 79 = .ok (.bipush 8, 2) := by decide +kernel
theorem dM_side_81 : decode prog_8_method_20_code 81 = .ok (.invokevirtual 129, 3) := by decide +kernel
theorem dM_side_84 : decode prog_8_method_20_code 84 = .ok (.ladd, 1) := by decide +kernel
theorem dM_side_85 : decode prog_8_method_20_code 85 = .ok (.lstore_n 3, 1) := by decide +kernel
theorem dM_side_86 : decode prog_8_method_20_code 86 = .ok (.iinc 5 1, 3) := by decide +kernel
theorem dM_side_89 : decode prog_8_method_20_code 89 = .ok (.goto (-58), 3) := by decide +kernel
theorem dM_side_92 : decode prog_8_method_20_code 92 = .ok (.lload_n 3, 1) := by decide +kernel
theorem dM_side_93 : decode prog_8_method_20_code 93 = .ok (.lreturn, 1) := by decide +kernel
theorem dM_hasCarries_0 : decode prog_8_method_21_code 0 = .ok (.iconst 0, 1) := by decide +kernel
theorem dM_hasCarries_1 : decode prog_8_method_21_code 1 = .ok (.istore_n 1, 1) := by decide +kernel
theorem dM_hasCarries_2 : decode prog_8_method_21_code 2 = .ok (.iconst 0, 1) := by decide +kernel
theorem dM_hasCarries_3 : decode prog_8_method_21_code 3 = .ok (.istore_n 2, 1) := by decide +kernel
theorem dM_hasCarries_4 : decode prog_8_method_21_code 4 = .ok (.iload_n 2, 1) := by decide +kernel
theorem dM_hasCarries_5 : decode prog_8_method_21_code 5 = .ok (.aload_n 0, 1) := by decide +kernel
theorem dM_hasCarries_6 : decode prog_8_method_21_code 6 = .ok (.getfield 94, 3) := by decide +kernel
theorem dM_hasCarries_9 : decode prog_8_method_21_code 9 = .ok (.if_icmp .ge 29, 3) := by decide +kernel
theorem dM_hasCarries_12 : decode prog_8_method_21_code 12 = .ok (.aload_n 0, 1) := by decide +kernel
theorem dM_hasCarries_13 : decode prog_8_method_21_code 13 = .ok (.getfield 22, 3) := by decide +kernel
theorem dM_hasCarries_16 : decode prog_8_method_21_code 16 = .ok (.iload_n 2, 1) := by decide +kernel
theorem dM_hasCarries_17 : decode prog_8_method_21_code 17 = .ok (.baload, 1) := by decide +kernel
theorem dM_hasCarries_18 : decode prog_8_method_21_code 18 = .ok (.ifCond .eq 5, 3) := by decide +kernel
theorem dM_hasCarries_21 : decode prog_8_method_21_code 21 = .ok (.iconst 0, 1) := by decide +kernel
theorem dM_hasCarries_22 : decode prog_8_method_21_code 22 = .ok (.ireturn, 1) := by decide +kernel
theorem dM_hasCarries_23 : decode prog_8_method_21_code 23 = .ok (.iload_n 1, 1) := by decide +kernel
theorem dM_hasCarries_24 : decode prog_8_method_21_code 24 = .ok (.aload_n 0, 1) := by decide +kernel
theorem dM_hasCarries_25 : decode prog_8_method_21_code 25 = .ok (.getfield 26, 3) := by decide +kernel
theorem dM_hasCarries_28 : decode prog_8_method_21_code 28 = .ok (.iload_n 2, 1) := by decide +kernel
theorem dM_hasCarries_29 : decode prog_8_method_21_code 29 = .ok (.iaload, 1) := by decide +kernel
theorem dM_hasCarries_30 : decode prog_8_method_21_code 30 = .ok (.iadd, 1) := by decide +kernel
theorem dM_hasCarries_31 : decode prog_8_method_21_code 31 = .ok (.istore_n 1, 1) := by decide +kernel
theorem dM_hasCarries_32 : decode prog_8_method_21_code 32 = .ok (.iinc 2 1, 3) := by decide +kernel
theorem dM_hasCarries_35 : decode prog_8_method_21_code 35 = .ok (.goto (-31), 3) := by decide +kernel
theorem dM_hasCarries_38 : decode prog_8_method_21_code 38 = .ok (.iload_n 1, 1) := by decide +kernel
theorem dM_hasCarries_39 : decode prog_8_method_21_code 39 = .ok (.iconst 1, 1) := by decide +kernel
theorem dM_hasCarries_40 : decode prog_8_method_21_code 40 = .ok (.if_icmp .ne 7, 3) := by decide +kernel
theorem dM_hasCarries_43 : decode prog_8_method_21_code 43 = .ok (.iconst 1, 1) := by decide +kernel
theorem dM_hasCarries_44 : decode prog_8_method_21_code 44 = .ok (.goto 4, 3) := by decide +kernel
theorem dM_hasCarries_47 : decode prog_8_method_21_code 47 = .ok (.iconst 0, 1) := by decide +kernel
theorem dM_hasCarries_48 : decode prog_8_method_21_code 48 = .ok (.ireturn, 1) := by decide +kernel
theorem dM_carry_0 : decode prog_8_method_22_code 0 = .ok (.aload_n 0, 1) := by decide +kernel
theorem dM_carry_1 : decode prog_8_method_22_code 1 = .ok (.iconst 0, 1) := by decide +kernel
theorem dM_carry_2 : decode prog_8_method_22_code 2 = .ok (.putfield 71, 3) := by decide +kernel
theorem dM_carry_5 : decode prog_8_method_22_code 5 = .ok (.aload_n 0, 1) := by decide +kernel
theorem dM_carry_6 : decode prog_8_method_22_code 6 = .ok (.iload_n 1, 1) := by decide +kernel
theorem dM_carry_7 : decode prog_8_method_22_code 7 = .ok (.invokevirtual 122, 3) := by decide +kernel
theorem dM_carry_10 : decode prog_8_method_22_code 10 = .ok (.ifCond .eq 20, 3) := by decide +kernel
theorem dM_carry_13 : decode prog_8_method_22_code 13 = .ok (.iload_n 2, 1) := by decide +kernel
theorem dM_carry_14 : decode prog_8_method_22_code 14 = .ok (.ifCond .lt 16, 3) := by decide +kernel
theorem dM_carry_17 : decode prog_8_method_22_code 17 = .ok (.iload_n 2, 1) := by decide +kernel
theorem dM_carry_18 : decode prog_8_method_22_code 18 = .ok (.bipush 8, 2) := by decide +kernel
theorem dM_carry_20 : decode prog_8_method_22_code 20 = .ok (.if_icmp .gt 10, 3) := by decide +kernel
theorem dM_carry_23 : decode prog_8_method_22_code 23 = .ok (.aload_n 0, 1) := by decide +kernel
theorem dM_carry_24 : decode prog_8_method_22_code 24 = .ok (.invokevirtual 133, 3) := by decide +kernel
theorem dM_carry_27 : decode prog_8_method_22_code 27 = .ok (.ifCond .ne 5, 3) := by decide +kernel
theorem dM_carry_30 : decode prog_8_method_22_code 30 = .ok (.iconst (-1), 1) := by decide +kernel
theorem dM_carry_31 : decode prog_8_method_22_code 31 = .ok (.ireturn, 1) := by decide +kernel
theorem dM_carry_32 : decode prog_8_method_22_code 32 = .ok (.lconst 0, 1) := by decide +kernel
theorem dM_carry_33 : decode prog_8_method_22_code 33 = .ok (.lstore_n 3, 1) := by decide +kernel
theorem dM_carry_34 : decode prog_8_method_22_code 34 = .ok (.iconst 0, 1) := by decide +kernel
theorem dM_carry_35 : decode prog_8_method_22_code 35 = .ok (.istore 5, 2) := by decide +kernel
theorem dM_carry_37 : decode prog_8_method_22_code 37 = .ok (.iload 5, 2) := by decide +kernel
theorem dM_carry_39 : decode prog_8_method_22_code 39 = .ok (.aload_n 0, 1) := by decide +kernel
theorem dM_carry_40 : decode prog_8_method_22_code 40 = .ok (.getfield 94, 3) := by decide +kernel
theorem dM_carry_43 : decode prog_8_method_22_code 43 = .ok (.if_icmp .ge 32, 3) := by decide +kernel
theorem dM_carry_46 : decode prog_8_method_22_code 46 = .ok (.aload_n 0, 1) := by decide +kernel
theorem dM_carry_47 : decode prog_8_method_22_code 47 = .ok (.getfield 26, 3) := by decide +kernel
theorem dM_carry_50 : decode prog_8_method_22_code 50 = .ok (.iload 5, 2) := by decide +kernel
theorem dM_carry_52 : decode prog_8_method_22_code 52 = .ok (.iaload, 1) := by decide +kernel
theorem dM_carry_53 : decode prog_8_method_22_code 53 = .ok (.ifCond .ne 16, 3) := by decide +kernel
theorem dM_carry_56 : decode prog_8_method_22_code 56 = .ok (.lload_n 3, 1) := by decide +kernel
theorem dM_carry_57 : decode prog_8_method_22_code 57 = .ok (.aload_n 0, 1) := by decide +kernel
theorem dM_carry_58 : decode prog_8_method_22_code 58 = .ok (.iload_n 1, 1) := by decide +kernel
theorem dM_carry_59 : decode prog_8_method_22_code 59 = .ok (.iload 5, 2) := by decide +kernel
theorem dM_carry_61 : decode prog_8_method_22_code 61 = .ok (.iload_n 2, 1) := by decide +kernel
theorem dM_carry_62 : decode prog_8_method_22_code 62 = .ok (.iconst 1, 1) := by decide +kernel
theorem dM_carry_63 : decode prog_8_method_22_code 63 = .ok (.iadd, 1) := by decide +kernel
theorem dM_carry_64 : decode prog_8_method_22_code 64 = .ok (.invokevirtual 129, 3) := by decide +kernel
theorem dM_carry_67 : decode prog_8_method_22_code 67 = .ok (.ladd, 1) := by decide +kernel
theorem dM_carry_68 : decode prog_8_method_22_code 68 = .ok (.lstore_n 3, 1) := by decide +kernel
theorem dM_carry_69 : decode prog_8_method_22_code 69 = .ok (.iinc 5 1, 3) := by decide +kernel
theorem dM_carry_72 : decode prog_8_method_22_code 72 = .ok (.goto (-35), 3) := by decide +kernel
theorem dM_carry_75 : decode prog_8_method_22_code 75 = .ok (.iconst 0, 1) := by decide +kernel
theorem dM_carry_76 : decode prog_8_method_22_code 76 = .ok (.istore 5, 2) := by decide +kernel
theorem dM_carry_78 : decode prog_8_method_22_code 78 = .ok (.iload 5, 2) := by decide +kernel
theorem dM_carry_80 : decode prog_8_method_22_code 80 = .ok (.iload_n 2, 1) := by decide +kernel
theorem dM_carry_81 : decode prog_8_method_22_code 81 = .ok (.if_icmp .gt 17, 3) := by decide +kernel
theorem dM_carry_84 : decode prog_8_method_22_code 84 = .ok (.lload_n 3, 1) := by decide +kernel
theorem dM_carry_85 : decode prog_8_method_22_code 85 = .ok (.aload_n 0, 1) := by decide +kernel
theorem dM_carry_86 : decode prog_8_method_22_code 86 = .ok (.getfield 67, 3) := by decide +kernel
theorem dM_carry_89 : decode prog_8_method_22_code 89 = .ok (.i2l, 1) := by decide +kernel
theorem dM_carry_90 : decode prog_8_method_22_code 90 = .ok (.ldiv, 1) := by decide +kernel
theorem dM_carry_91 : decode prog_8_method_22_code 91 = .ok (.lstore_n 3, 1) := by decide +kernel
theorem dM_carry_92 : decode prog_8_method_22_code 92 = .ok (.iinc 5 1, 3) := by decide +kernel
theorem dM_carry_95 : decode prog_8_method_22_code 95 = .ok (.goto (-17), 3) := by decide +kernel
theorem dM_carry_98 : decode prog_8_method_22_code 98 = .ok (.lload_n 3, 1) := by decide +kernel
theorem dM_carry_99 : decode prog_8_method_22_code 99 = .ok (.l2i, 1) := by decide +kernel
theorem dM_carry_100 : decode prog_8_method_22_code 100 = .ok (.ireturn, 1) := by decide +kernel
theorem dM_text_0 : decode prog_8_method_23_code 0 = .ok (.aload_n 0, 1) := by decide +kernel
theorem dM_text_1 : decode prog_8_method_23_code 1 = .ok (.iconst 0, 1) := by decide +kernel
theorem dM_text_2 : decode prog_8_method_23_code 2 = .ok (.putfield 71, 3) := by decide +kernel
theorem dM_text_5 : decode prog_8_method_23_code 5 = .ok (.aload_n 0, 1) := by decide +kernel
theorem dM_text_6 : decode prog_8_method_23_code 6 = .ok (.iload_n 1, 1) := by decide +kernel
theorem dM_text_7 : decode prog_8_method_23_code 7 = .ok (.invokevirtual 122, 3) := by decide +kernel
theorem dM_text_10 : decode prog_8_method_23_code 10 = .ok (.ifCond .eq 15, 3) := by decide +kernel
theorem dM_text_13 : decode prog_8_method_23_code 13 = .ok (.iload_n 2, 1) := by decide +kernel
theorem dM_text_14 : decode prog_8_method_23_code 14 = .ok (.ifCond .lt 11, 3) := by decide +kernel
theorem dM_text_17 : decode prog_8_method_23_code 17 = .ok (.iload_n 2, 1) := by decide +kernel
theorem dM_text_18 : decode prog_8_method_23_code 18 = .ok (.aload_n 0, 1) := by decide +kernel
theorem dM_text_19 : decode prog_8_method_23_code 19 = .ok (.getfield 91, 3) := by decide +kernel
theorem dM_text_22 : decode prog_8_method_23_code 22 = .ok (.if_icmp .lt 5, 3) := by decide +kernel
theorem dM_text_25 : decode prog_8_method_23_code 25 = .ok (.iconst (-1), 1) := by decide +kernel
theorem dM_text_26 : decode prog_8_method_23_code 26 = .ok (.ireturn, 1) := by decide +kernel
theorem dM_text_27 : decode prog_8_method_23_code 27 = .ok (.aload_n 0, 1) := by decide +kernel
theorem dM_text_28 : decode prog_8_method_23_code 28 = .ok (.getfield 13, 3) := by decide +kernel
theorem dM_text_31 : decode prog_8_method_23_code 31 = .ok (.iload_n 2, 1) := by decide +kernel
theorem dM_text_32 : decode prog_8_method_23_code 32 = .ok (.iaload, 1) := by decide +kernel
theorem dM_text_33 : decode prog_8_method_23_code 33 = .ok (.invokestatic 77, 3) := by decide +kernel
theorem dM_text_36 : decode prog_8_method_23_code 36 = .ok (.ifCond .eq 15, 3) := by decide +kernel
theorem dM_text_39 : decode prog_8_method_23_code 39 = .ok (.bipush 48, 2) := by decide +kernel
theorem dM_text_41 : decode prog_8_method_23_code 41 = .ok (.aload_n 0, 1) := by decide +kernel
theorem dM_text_42 : decode prog_8_method_23_code 42 = .ok (.iload_n 1, 1) := by decide +kernel
theorem dM_text_43 : decode prog_8_method_23_code 43 = .ok (.iload_n 2, 1) := by decide +kernel
theorem dM_text_44 : decode prog_8_method_23_code 44 = .ok (.invokevirtual 125, 3) := by decide +kernel
theorem dM_text_47 : decode prog_8_method_23_code 47 = .ok (.iadd, 1) := by decide +kernel
theorem dM_text_48 : decode prog_8_method_23_code 48 = .ok (.goto 9, 3) := by decide +kernel
theorem dM_text_51 : decode prog_8_method_23_code 51 = .ok (.aload_n 0, 1) := by decide +kernel
theorem dM_text_52 : decode prog_8_method_23_code 52 = .ok (.getfield 13, 3) := by decide +kernel
theorem dM_text_55 : decode prog_8_method_23_code 55 = .ok (.iload_n 2, 1) := by decide +kernel
theorem dM_text_56 : decode prog_8_method_23_code 56 = .ok (.iaload, 1) := by decide +kernel
theorem dM_text_57 : decode prog_8_method_23_code 57 = .ok (.ireturn, 1) := by decide +kernel
theorem dM_fixed_0 : decode prog_8_method_24_code 0 = .ok (.aload_n 0, 1) := by decide +kernel
theorem dM_fixed_1 : decode prog_8_method_24_code 1 = .ok (.iconst 0, 1) := by decide +kernel
theorem dM_fixed_2 : decode prog_8_method_24_code 2 = .ok (.putfield 71, 3) := by decide +kernel
theorem dM_fixed_5 : decode prog_8_method_24_code 5 = .ok (.iconst 0, 1) := by decide +kernel
theorem dM_fixed_6 : decode prog_8_method_24_code 6 = .ok (.istore_n 1, 1) := by decide +kernel
theorem dM_fixed_7 : decode prog_8_method_24_code 7 = .ok (.iconst 0, 1) := by decide +kernel
theorem dM_fixed_8 : decode prog_8_method_24_code 8 = .ok (.istore_n 2, 1) := by decide +kernel
theorem dM_fixed_9 : decode prog_8_method_24_code 9 = .ok (.iload_n 2, 1) := by decide +kernel
theorem dM_fixed_10 : decode prog_8_method_24_code 10 = .ok (.aload_n 0, 1) := by decide +kernel
theorem dM_fixed_11 : decode prog_8_method_24_code 11 = .ok (.getfield 97, 3) := by decide +kernel
theorem dM_fixed_14 : decode prog_8_method_24_code 14 = .ok (.if_icmp .ge 74, 3) := by decide +kernel
theorem dM_fixed_17 : decode prog_8_method_24_code 17 = .ok (.aload_n 0, 1) := by decide +kernel
theorem dM_fixed_18 : decode prog_8_method_24_code 18 = .ok (.getfield 100, 3) := by decide +kernel
theorem dM_fixed_21 : decode prog_8_method_24_code 21 = .ok (.ifCond .le 67, 3) := by decide +kernel
theorem dM_fixed_24 : decode prog_8_method_24_code 24 = .ok (.iconst 1, 1) := by decide +kernel
theorem dM_fixed_25 : decode prog_8_method_24_code 25 = .ok (.istore_n 3, 1) := by decide +kernel
theorem dM_fixed_26 : decode prog_8_method_24_code 26 = .ok (.iconst 1, 1) := by decide +kernel
theorem dM_fixed_27 : decode prog_8_method_24_code 27 = .ok (.istore 4, 2) := by decide +kernel
theorem dM_fixed_29 : decode prog_8_method_24_code 29 = .ok (.iload 4, 2) := by decide +kernel
theorem dM_fixed_31 : decode prog_8_method_24_code 31 = .ok (.aload_n 0, 1) := by decide +kernel
theorem dM_fixed_32 : decode prog_8_method_24_code 32 = .ok (.getfield 100, 3) := by decide +kernel
theorem dM_fixed_35 : decode prog_8_method_24_code 35 = .ok (.if_icmp .ge 40, 3) := by decide +kernel
theorem dM_fixed_38 : decode prog_8_method_24_code 38 = .ok (.iload_n 3, 1) := by decide +kernel
theorem dM_fixed_39 : decode prog_8_method_24_code 39 = .ok (.ifCond .eq 28, 3) := by decide +kernel
theorem dM_fixed_42 : decode prog_8_method_24_code 42 = .ok (.aload_n 0, 1) := by decide +kernel
theorem dM_fixed_43 : decode prog_8_method_24_code 43 = .ok (.getfield 64, 3) := by decide +kernel
theorem dM_fixed_46 : decode prog_8_method_24_code 46 = .ok (.bipush 8, 2) := by decide +kernel
theorem dM_fixed_48 : decode prog_8_method_24_code 48 = .ok (.iload 4, 2) := by decide +kernel
theorem dM_fixed_50 : decode prog_8_method_24_code 50 = .ok (.imul, 1) := by decide +kernel
theorem dM_fixed_51 : decode prog_8_method_24_code 51 = .ok (.iload_n 2, 1) := by decide +kernel
theorem dM_fixed_52 : decode prog_8_method_24_code 52 = .ok (.iadd, 1) := by decide +kernel
theorem dM_fixed_53 : decode prog_8_method_24_code 53 = .ok (.iaload, 1) := by decide +kernel
theorem dM_fixed_54 : decode prog_8_method_24_code 54 = .ok (.aload_n 0, 1) := by decide +kernel
theorem dM_fixed_55 : decode prog_8_method_24_code 55 = .ok (.getfield 64, 3) := by decide +kernel
theorem dM_fixed_58 : decode prog_8_method_24_code 58 = .ok (.iload_n 2, 1) := by decide +kernel
theorem dM_fixed_59 : decode prog_8_method_24_code 59 = .ok (.iaload, 1) := by decide +kernel
theorem dM_fixed_60 : decode prog_8_method_24_code 60 = .ok (.if_icmp .ne 7, 3) := by decide +kernel
theorem dM_fixed_63 : decode prog_8_method_24_code 63 = .ok (.iconst 1, 1) := by decide +kernel
theorem dM_fixed_64 : decode prog_8_method_24_code 64 = .ok (.goto 4, 3) := by decide +kernel
theorem dM_fixed_67 : decode prog_8_method_24_code 67 = .ok (.iconst 0, 1) := by decide +kernel
theorem dM_fixed_68 : decode prog_8_method_24_code 68 = .ok (.istore_n 3, 1) := by decide +kernel
theorem dM_fixed_69 : decode prog_8_method_24_code 69 = .ok (.iinc 4 1, 3) := by decide +kernel
theorem dM_fixed_72 : decode prog_8_method_24_code 72 = .ok (.goto (-43), 3) := by decide +kernel
theorem dM_fixed_75 : decode prog_8_method_24_code 75 = .ok (.iload_n 3, 1) := by decide +kernel
theorem dM_fixed_76 : decode prog_8_method_24_code 76 = .ok (.ifCond .eq 6, 3) := by decide +kernel
theorem dM_fixed_79 : decode prog_8_method_24_code 79 = .ok (.iinc 1 1, 3) := by decide +kernel
theorem dM_fixed_82 : decode prog_8_method_24_code 82 = .ok (.iinc 2 1, 3) := by decide +kernel
theorem dM_fixed_85 : decode prog_8_method_24_code 85 = .ok (.goto (-76), 3) := by decide +kernel
theorem dM_fixed_88 : decode prog_8_method_24_code 88 = .ok (.iload_n 1, 1) := by decide +kernel
theorem dM_fixed_89 : decode prog_8_method_24_code 89 = .ok (.ireturn, 1) := by decide +kernel
