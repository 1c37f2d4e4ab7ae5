theorem dS_init_0 : decode prog_5_method_1_code 0 = .ok (.aload_n 0, 1) := by decide +kernel
theorem dS_init_1 : decode prog_5_method_1_code 1 = .ok (.invokespecial 3, 3) := by decide +kernel
theorem dS_init_4 : decode prog_5_method_1_code 4 = .ok (.aload_n 0, 1) := by decide +kernel
theorem dS_init_5 : decode prog_5_method_1_code 5 = .ok (.bipush 80, 2) := by decide +kernel
theorem dS_init_7 : decode prog_5_method_1_code 7 = .ok (.newarray .int, 2) := by decide +kernel
theorem dS_init_9 : decode prog_5_method_1_code 9 = .ok (.putfield 9, 3) := by decide +kernel
theorem dS_init_12 : decode prog_5_method_1_code 12 = .ok (.aload_n 0, 1) := by decide +kernel
theorem dS_init_13 : decode prog_5_method_1_code 13 = .ok (.iconst 0, 1) := by decide +kernel
theorem dS_init_14 : decode prog_5_method_1_code 14 = .ok (.putfield 15, 3) := by decide +kernel
theorem dS_init_17 : decode prog_5_method_1_code 17 = .ok (.aload_n 0, 1) := by decide +kernel
theorem dS_init_18 : decode prog_5_method_1_code 18 = .ok (.iconst 0, 1) := by decide +kernel
theorem dS_init_19 : decode prog_5_method_1_code 19 = .ok (.putfield 19, 3) := by decide +kernel
theorem dS_init_22 : decode prog_5_method_1_code 22 = .ok (.aload_n 0, 1) := by decide +kernel
theorem dS_init_23 : decode prog_5_method_1_code 23 = .ok (.bipush 8, 2) := by decide +kernel
theorem dS_init_25 : decode prog_5_method_1_code 25 = .ok (.newarray .int, 2) := by decide +kernel
theorem dS_init_27 : decode prog_5_method_1_code 27 = .ok (.putfield 22, 3) := by decide +kernel
theorem dS_init_30 : decode prog_5_method_1_code 30 = .ok (.aload_n 0, 1) := by decide +kernel
theorem dS_init_31 : decode prog_5_method_1_code 31 = .ok (.bipush 8, 2) := by decide +kernel
theorem dS_init_33 : decode prog_5_method_1_code 33 = .ok (.newarray .int, 2) := by decide +kernel
theorem dS_init_35 : decode prog_5_method_1_code 35 = .ok (.putfield 25, 3) := by decide +kernel
theorem dS_init_38 : decode prog_5_method_1_code 38 = .ok (.aload_n 0, 1) := by decide +kernel
theorem dS_init_39 : decode prog_5_method_1_code 39 = .ok (.iconst 0, 1) := by decide +kernel
theorem dS_init_40 : decode prog_5_method_1_code 40 = .ok (.putfield 28, 3) := by decide +kernel
theorem dS_init_43 : decode prog_5_method_1_code 43 = .ok (.aload_n 0, 1) := by decide +kernel
theorem dS_init_44 : decode prog_5_method_1_code 44 = .ok (.bipush 8, 2) := by decide +kernel
theorem dS_init_46 : decode prog_5_method_1_code 46 = .ok (.newarray .int, 2) := by decide +kernel
theorem dS_init_48 : decode prog_5_method_1_code 48 = .ok (.putfield 31, 3) := by decide +kernel
theorem dS_init_51 : decode prog_5_method_1_code 51 = .ok (.aload_n 0, 1) := by decide +kernel
theorem dS_init_52 : decode prog_5_method_1_code 52 = .ok (.bipush 26, 2) := by decide +kernel
theorem dS_init_54 : decode prog_5_method_1_code 54 = .ok (.newarray .int, 2) := by decide +kernel
theorem dS_init_56 : decode prog_5_method_1_code 56 = .ok (.putfield 34, 3) := by decide +kernel
theorem dS_init_59 : decode prog_5_method_1_code 59 = .ok (.aload_n 0, 1) := by decide +kernel
theorem dS_init_60 : decode prog_5_method_1_code 60 = .ok (.iconst 0, 1) := by decide +kernel
theorem dS_init_61 : decode prog_5_method_1_code 61 = .ok (.putfield 37, 3) := by decide +kernel
theorem dS_init_64 : decode prog_5_method_1_code 64 = .ok (.aload_n 0, 1) := by decide +kernel
theorem dS_init_65 : decode prog_5_method_1_code 65 = .ok (.iload_n 1, 1) := by decide +kernel
theorem dS_init_66 : decode prog_5_method_1_code 66 = .ok (.putfield 40, 3) := by decide +kernel
theorem dS_init_69 : decode prog_5_method_1_code 69 = .ok (.aload_n 0, 1) := by decide +kernel
theorem dS_init_70 : decode prog_5_method_1_code 70 = .ok (.getfield 34, 3) := by decide +kernel
theorem dS_init_73 : decode prog_5_method_1_code 73 = .ok (.iconst (-1), 1) := by decide +kernel
theorem dS_init_74 : decode prog_5_method_1_code 74 = .ok (.invokestatic 43, 3) := by decide +kernel
theorem dS_init_77 : decode prog_5_method_1_code 77 = .ok (.return_, 1) := by decide +kernel
theorem dS_take_0 : decode prog_5_method_2_code 0 = .ok (.aload_n 0, 1) := by decide +kernel
theorem dS_take_1 : decode prog_5_method_2_code 1 = .ok (.iconst 0, 1) := by decide +kernel
theorem dS_take_2 : decode prog_5_method_2_code 2 = .ok (.putfield 15, 3) := by decide +kernel
theorem dS_take_5 : decode prog_5_method_2_code 5 = .ok (.iconst 0, 1) := by decide +kernel
theorem dS_take_6 : decode prog_5_method_2_code 6 = .ok (.istore_n 3, 1) := by decide +kernel
theorem dS_take_7 : decode prog_5_method_2_code 7 = .ok (.iload_n 3, 1) := by decide +kernel
theorem dS_take_8 : decode prog_5_method_2_code 8 = .ok (.iload_n 2, 1) := by decide +kernel
theorem dS_take_9 : decode prog_5_method_2_code 9 = .ok (.if_icmp .ge 43, 3) := by decide +kernel
theorem dS_take_12 : decode prog_5_method_2_code 12 = .ok (.iload_n 3, 1) := by decide +kernel
theorem dS_take_13 : decode prog_5_method_2_code 13 = .ok (.aload_n 1, 1) := by decide +kernel
theorem dS_take_14 : decode prog_5_method_2_code 14 = .ok (.arraylength, 1) := by decide +kernel
theorem dS_take_15 : decode prog_5_method_2_code 15 = .ok (.if_icmp .ge 37, 3) := by decide +kernel
theorem dS_take_18 : decode prog_5_method_2_code 18 = .ok (.iload_n 3, 1) := by decide +kernel
theorem dS_take_19 : decode prog_5_method_2_code 19 = .ok (.aload_n 0, 1) := by decide +kernel
theorem dS_take_20 : decode prog_5_method_2_code 20 = .ok (.getfield 9, 3) := by decide +kernel
theorem dS_take_23 : decode prog_5_method_2_code 23 = .ok (.arraylength, 1) := by decide +kernel
theorem dS_take_24 : decode prog_5_method_2_code 24 = .ok (.if_icmp .ge 28, 3) := by decide +kernel
theorem dS_take_27 : decode prog_5_method_2_code 27 = .ok (.aload_n 0, 1) := by decide +kernel
theorem dS_take_28 : decode prog_5_method_2_code 28 = .ok (.getfield 9, 3) := by decide +kernel
theorem dS_take_31 : decode prog_5_method_2_code 31 = .ok (.iload_n 3, 1) := by decide +kernel
theorem dS_take_32 : decode prog_5_method_2_code 32 = .ok (.aload_n 1, 1) := by decide +kernel
theorem dS_take_33 : decode prog_5_method_2_code 33 = .ok (.iload_n 3, 1) := by decide +kernel
theorem dS_take_34 : decode prog_5_method_2_code 34 = .ok (.iaload, 1) := by decide +kernel
theorem dS_take_35 : decode prog_5_method_2_code 35 = .ok (.iastore, 1) := by decide +kernel
theorem dS_take_36 : decode prog_5_method_2_code 36 = .ok (.aload_n 0, 1) := by decide +kernel
theorem dS_take_37 : decode prog_5_method_2_code 37 = .ok (.dup, 1) := by decide +kernel
theorem dS_take_38 : decode prog_5_method_2_code 38 = .ok (.getfield 15, 3) := by decide +kernel
theorem dS_take_41 : decode prog_5_method_2_code 41 = .ok (.iconst 1, 1) := by decide +kernel
theorem dS_take_42 : decode prog_5_method_2_code 42 = .ok (.iadd, 1) := by decide +kernel
theorem dS_take_43 : decode prog_5_method_2_code 43 = .ok (.putfield 15, 3) := by decide +kernel
theorem dS_take_46 : decode prog_5_method_2_code 46 = .ok (.iinc 3 1, 3) := by decide +kernel
theorem dS_take_49 : decode prog_5_method_2_code 49 = .ok (.goto (-42), 3) := by decide +kernel
theorem dS_take_52 : decode prog_5_method_2_code 52 = .ok (.aload_n 0, 1) := by decide +kernel
theorem dS_take_53 : decode prog_5_method_2_code 53 = .ok (.invokevirtual 49, 3) := by decide +kernel
theorem dS_take_56 : decode prog_5_method_2_code 56 = .ok (.aload_n 0, 1) := by decide +kernel
theorem dS_take_57 : decode prog_5_method_2_code 57 = .ok (.invokevirtual 52, 3) := by decide +kernel
theorem dS_take_60 : decode prog_5_method_2_code 60 = .ok (.return_, 1) := by decide +kernel
theorem dS_listWords_0 : decode prog_5_method_3_code 0 = .ok (.aload_n 0, 1) := by decide +kernel
theorem dS_listWords_1 : decode prog_5_method_3_code 1 = .ok (.iconst 0, 1) := by decide +kernel
theorem dS_listWords_2 : decode prog_5_method_3_code 2 = .ok (.putfield 28, 3) := by decide +kernel
theorem dS_listWords_5 : decode prog_5_method_3_code 5 = .ok (.iconst 0, 1) := by decide +kernel
theorem dS_listWords_6 : decode prog_5_method_3_code 6 = .ok (.istore_n 1, 1) := by decide +kernel
theorem dS_listWords_7 : decode prog_5_method_3_code 7 = .ok (.iconst 0, 1) := by decide +kernel
theorem dS_listWords_8 : decode prog_5_method_3_code 8 = .ok (.istore_n 2, 1) := by decide +kernel
theorem dS_listWords_9 : decode prog_5_method_3_code 9 = .ok (.iload_n 2, 1) := by decide +kernel
theorem dS_listWords_10 : decode prog_5_method_3_code 10 = .ok (.aload_n 0, 1) := by decide +kernel
theorem dS_listWords_11 : decode prog_5_method_3_code 11 = .ok (.getfield 15, 3) := by decide +kernel
theorem dS_listWords_14 : decode prog_5_method_3_code 14 = .ok (.if_icmp .ge 119, 3) := by decide +kernel
theorem dS_listWords_17 : decode prog_5_method_3_code 17 = .ok (.aload_n 0, 1) := by decide +kernel
theorem dS_listWords_18 : decode prog_5_method_3_code 18 = .ok (.getfield 9, 3) := by decide +kernel
theorem dS_listWords_21 : decode prog_5_method_3_code 21 = .ok (.iload_n 2, 1) := by decide +kernel
theorem dS_listWords_22 : decode prog_5_method_3_code 22 = .ok (.iaload, 1) := by decide +kernel
theorem dS_listWords_23 : decode prog_5_method_3_code 23 = .ok (.invokestatic 55, 3) := by decide +kernel
theorem dS_listWords_26 : decode prog_5_method_3_code 26 = .ok (.ifCond .ne 15, 3) := by decide +kernel
theorem dS_listWords_29 : decode prog_5_method_3_code 29 = .ok (.aload_n 0, 1) := by decide +kernel
theorem dS_listWords_30 : decode prog_5_method_3_code 30 = .ok (.getfield 9, 3) := by decide +kernel
theorem dS_listWords_33 : decode prog_5_method_3_code 33 = .ok (.iload_n 2, 1) := by decide +kernel
theorem dS_listWords_34 : decode prog_5_method_3_code 34 = .ok (.iaload, 1) := by decide +kernel
theorem dS_listWords_35 : decode prog_5_method_3_code 35 = .ok (.invokestatic 59, 3) := by decide +kernel
theorem dS_listWords_38 : decode prog_5_method_3_code 38 = .ok (.ifCond .eq 7, 3) := by decide +kernel
theorem dS_listWords_41 : decode prog_5_method_3_code 41 = .ok (.iconst 1, 1) := by decide +kernel
theorem dS_listWords_42 : decode prog_5_method_3_code 42 = .ok (.goto 4, 3) := by decide +kernel
theorem dS_listWords_45 : decode prog_5_method_3_code 45 = .ok (.iconst 0, 1) := by decide +kernel
theorem dS_listWords_46 : decode prog_5_method_3_code 46 = .ok (.istore_n 3, 1) := by decide +kernel
theorem dS_listWords_47 : decode prog_5_method_3_code 47 = .ok (.iload_n 3, 1) := by decide +kernel
theorem dS_listWords_48 : decode prog_5_method_3_code 48 = .ok (.ifCond .eq 36, 3) := by decide +kernel
theorem dS_listWords_51 : decode prog_5_method_3_code 51 = .ok (.iload_n 1, 1) := by decide +kernel
theorem dS_listWords_52 : decode prog_5_method_3_code 52 = .ok (.ifCond .ne 32, 3) := by decide +kernel
theorem dS_listWords_55 : decode prog_5_method_3_code 55 = .ok (.aload_n 0, 1) := by decide +kernel
theorem dS_listWords_56 : decode prog_5_method_3_code 56 = .ok (.getfield 28, 3) := by decide +kernel
theorem dS_listWords_59 : decode prog_5_method_3_code 59 = .ok (.bipush 8, 2) := by decide +kernel
theorem dS_listWords_61 : decode prog_5_method_3_code 61 = .ok (.if_icmp .ge 23, 3) := by decide +kernel
theorem dS_listWords_64 : decode prog_5_method_3_code 64 = .ok (.aload_n 0, 1) := by decide +kernel
theorem dS_listWords_65 : decode prog_5_method_3_code 65 = .ok (.getfield 22, 3) := by decide +kernel
theorem dS_listWords_68 : decode prog_5_method_3_code 68 = .ok (.aload_n 0, 1) := by decide +kernel
theorem dS_listWords_69 : decode prog_5_method_3_code 69 = .ok (.getfield 28, 3) := by decide +kernel
theorem dS_listWords_72 : decode prog_5_method_3_code 72 = .ok (.iload_n 2, 1) := by decide +kernel
theorem dS_listWords_73 : decode prog_5_method_3_code 73 = .ok (.iastore, 1) := by decide +kernel
theorem dS_listWords_74 : decode prog_5_method_3_code 74 = .ok (.aload_n 0, 1) := by decide +kernel
theorem dS_listWords_75 : decode prog_5_method_3_code 75 = .ok (.dup, 1) := by decide +kernel
theorem dS_listWords_76 : decode prog_5_method_3_code 76 = .ok (.getfield 28, 3) := by decide +kernel
theorem dS_listWords_79 : decode prog_5_method_3_code 79 = .ok (.iconst 1, 1) := by decide +kernel
theorem dS_listWords_80 : decode prog_5_method_3_code 80 = .ok (.iadd, 1) := by decide +kernel
theorem dS_listWords_81 : decode prog_5_method_3_code 81 = .ok (.putfield 28, 3) := by decide +kernel
theorem dS_listWords_84 : decode prog_5_method_3_code 84 = .ok (.iload_n 3, 1) := by decide +kernel
theorem dS_listWords_85 : decode prog_5_method_3_code 85 = .ok (.ifCond .eq 24, 3) := by decide +kernel
theorem dS_listWords_88 : decode prog_5_method_3_code 88 = .ok (.aload_n 0, 1) := by decide +kernel
theorem dS_listWords_89 : decode prog_5_method_3_code 89 = .ok (.getfield 28, 3) := by decide +kernel
theorem dS_listWords_92 : decode prog_5_method_3_code 92 = .ok (.ifCond .le 17, 3) := by decide +kernel
theorem dS_listWords_95 : decode prog_5_method_3_code 95 = .ok (.aload_n 0, 1) := by decide +kernel
theorem dS_listWords_96 : decode prog_5_method_3_code 96 = .ok (.getfield 25, 3) := by decide +kernel
theorem dS_listWords_99 : decode prog_5_method_3_code 99 = .ok (.aload_n 0, 1) := by decide +kernel
theorem dS_listWords_100 : decode prog_5_method_3_code 100 = .ok (.getfield 28, 3) := by decide +kernel
theorem dS_listWords_103 : decode prog_5_method_3_code 103 = .ok (.iconst 1, 1) := by decide +kernel
theorem dS_listWords_104 : decode prog_5_method_3_code 104 = .ok (.isub, 1) := by decide +kernel
theorem dS_listWords_105 : decode prog_5_method_3_code 105 = .ok (.iload_n 2, 1) := by decide +kernel
theorem dS_listWords_106 : decode prog_5_method_3_code 106 = .ok (.iconst 1, 1) := by decide +kernel
theorem dS_listWords_107 : decode prog_5_method_3_code 107 = .ok (.iadd, 1) := by decide +kernel
theorem dS_listWords_108 : decode prog_5_method_3_code 108 = .ok (.iastore, 1) := by decide +kernel
theorem dS_listWords_109 : decode prog_5_method_3_code 109 = .ok (.aload_n 0, 1) := by decide +kernel
theorem dS_listWords_110 : decode prog_5_method_3_code 110 = .ok (.getfield 9, 3) := by decide +kernel
theorem dS_listWords_113 : decode prog_5_method_3_code 113 = .ok (.iload_n 2, 1) := by decide +kernel
theorem dS_listWords_114 : decode prog_5_method_3_code 114 = .ok (.iaload, 1) := by decide +kernel
theorem dS_listWords_115 : decode prog_5_method_3_code 115 = .ok (.bipush 61, 2) := by decide +kernel
theorem dS_listWords_117 : decode prog_5_method_3_code 117 = .ok (.if_icmp .ne 8, 3) := by decide +kernel
theorem dS_listWords_120 : decode prog_5_method_3_code 120 = .ok (.aload_n 0, 1) := by decide +kernel
theorem dS_listWords_121 : decode prog_5_method_3_code 121 = .ok (.iload_n 2, 1) := by decide +kernel
theorem dS_listWords_122 : decode prog_5_method_3_code 122 = .ok (.putfield 19, 3) := by decide +kernel
theorem dS_listWords_125 : decode prog_5_method_3_code 125 = .ok (.iload_n 3, 1) := by decide +kernel
theorem dS_listWords_126 : decode prog_5_method_3_code 126 = .ok (.istore_n 1, 1) := by decide +kernel
theorem dS_listWords_127 : decode prog_5_method_3_code 127 = .ok (.iinc 2 1, 3) := by decide +kernel
theorem dS_listWords_130 : decode prog_5_method_3_code 130 = .ok (.goto (-121), 3) := by decide +kernel
theorem dS_listWords_133 : decode prog_5_method_3_code 133 = .ok (.return_, 1) := by decide +kernel
theorem dS_listLetters_0 : decode prog_5_method_4_code 0 = .ok (.iconst 0, 1) := by decide +kernel
theorem dS_listLetters_1 : decode prog_5_method_4_code 1 = .ok (.istore_n 1, 1) := by decide +kernel
theorem dS_listLetters_2 : decode prog_5_method_4_code 2 = .ok (.iconst 0, 1) := by decide +kernel
theorem dS_listLetters_3 : decode prog_5_method_4_code 3 = .ok (.istore_n 2, 1) := by decide +kernel
theorem dS_listLetters_4 : decode prog_5_method_4_code 4 = .ok (.iload_n 2, 1) := by decide +kernel
theorem dS_listLetters_5 : decode prog_5_method_4_code 5 = .ok (.aload_n 0, 1) := by decide +kernel
theorem dS_listLetters_6 : decode prog_5_method_4_code 6 = .ok (.getfield 15, 3) := by decide +kernel
theorem dS_listLetters_9 : decode prog_5_method_4_code 9 = .ok (.if_icmp .ge 35, 3) := by decide +kernel
theorem dS_listLetters_12 : decode prog_5_method_4_code 12 = .ok (.aload_n 0, 1) := by decide +kernel
theorem dS_listLetters_13 : decode prog_5_method_4_code 13 = .ok (.getfield 9, 3) := by decide +kernel
theorem dS_listLetters_16 : decode prog_5_method_4_code 16 = .ok (.iload_n 2, 1) := by decide +kernel
theorem dS_listLetters_17 : decode prog_5_method_4_code 17 = .ok (.iaload, 1) := by decide +kernel
theorem dS_listLetters_18 : decode prog_5_method_4_code 18 = .ok (.invokestatic 55, 3) := by decide +kernel
theorem dS_listLetters_21 : decode prog_5_method_4_code 21 = .ok (.ifCond .eq 17, 3) := by decide +kernel
theorem dS_listLetters_24 : decode prog_5_method_4_code 24 = .ok (.iload_n 1, 1) := by decide +kernel
theorem dS_listLetters_25 : decode prog_5_method_4_code 25 = .ok (.iconst 1, 1) := by decide +kernel
theorem dS_listLetters_26 : decode prog_5_method_4_code 26 = .ok (.aload_n 0, 1) := by decide +kernel
theorem dS_listLetters_27 : decode prog_5_method_4_code 27 = .ok (.getfield 9, 3) := by decide +kernel
theorem dS_listLetters_30 : decode prog_5_method_4_code 30 = .ok (.iload_n 2, 1) := by decide +kernel
theorem dS_listLetters_31 : decode prog_5_method_4_code 31 = .ok (.iaload, 1) := by decide +kernel
theorem dS_listLetters_32 : decode prog_5_method_4_code 32 = .ok (.bipush 97, 2) := by decide +kernel
theorem dS_listLetters_34 : decode prog_5_method_4_code 34 = .ok (.isub, 1) := by decide +kernel
theorem dS_listLetters_35 : decode prog_5_method_4_code 35 = .ok (.ishl, 1) := by decide +kernel
theorem dS_listLetters_36 : decode prog_5_method_4_code 36 = .ok (.ior, 1) := by decide +kernel
theorem dS_listLetters_37 : decode prog_5_method_4_code 37 = .ok (.istore_n 1, 1) := by decide +kernel
theorem dS_listLetters_38 : decode prog_5_method_4_code 38 = .ok (.iinc 2 1, 3) := by decide +kernel
theorem dS_listLetters_41 : decode prog_5_method_4_code 41 = .ok (.goto (-37), 3) := by decide +kernel
theorem dS_listLetters_44 : decode prog_5_method_4_code 44 = .ok (.aload_n 0, 1) := by decide +kernel
theorem dS_listLetters_45 : decode prog_5_method_4_code 45 = .ok (.iconst 0, 1) := by decide +kernel
theorem dS_listLetters_46 : decode prog_5_method_4_code 46 = .ok (.putfield 37, 3) := by decide +kernel
theorem dS_listLetters_49 : decode prog_5_method_4_code 49 = .ok (.iconst 0, 1) := by decide +kernel
theorem dS_listLetters_50 : decode prog_5_method_4_code 50 = .ok (.istore_n 2, 1) := by decide +kernel
theorem dS_listLetters_51 : decode prog_5_method_4_code 51 = .ok (.iload_n 2, 1) := by decide +kernel
theorem dS_listLetters_52 : decode prog_5_method_4_code 52 = .ok (.bipush 26, 2) := by decide +kernel
theorem dS_listLetters_54 : decode prog_5_method_4_code 54 = .ok (.if_icmp .ge 67, 3) := by decide +kernel
theorem dS_listLetters_57 : decode prog_5_method_4_code 57 = .ok (.aload_n 0, 1) := by decide +kernel
theorem dS_listLetters_58 : decode prog_5_method_4_code 58 = .ok (.getfield 34, 3) := by decide +kernel
theorem dS_listLetters_61 : decode prog_5_method_4_code 61 = .ok (.iload_n 2, 1) := by decide +kernel
theorem dS_listLetters_62 : decode prog_5_method_4_code 62 = .ok (.iconst (-1), 1) := by decide +kernel
theorem dS_listLetters_63 : decode prog_5_method_4_code 63 = .ok (.iastore, 1) := by decide +kernel
theorem dS_listLetters_64 : decode prog_5_method_4_code 64 = .ok (.iload_n 1, 1) := by decide +kernel
theorem dS_listLetters_65 : decode prog_5_method_4_code 65 = .ok (.iload_n 2, 1) := by decide +kernel
theorem dS_listLetters_66 : decode prog_5_method_4_code 66 = .ok (.ishr, 1) := by decide +kernel
theorem dS_listLetters_67 : decode prog_5_method_4_code 67 = .ok (.iconst 1, 1) := by decide +kernel
theorem dS_listLetters_68 : decode prog_5_method_4_code 68 = .ok (.iand, 1) := by decide +kernel
theorem dS_listLetters_69 : decode prog_5_method_4_code 69 = .ok (.iconst 1, 1) := by decide +kernel
theorem dS_listLetters_70 : decode prog_5_method_4_code 70 = .ok (.if_icmp .ne 45, 3) := by decide +kernel
theorem dS_listLetters_73 : decode prog_5_method_4_code 73 = .ok (.aload_n 0, 1) := by decide +kernel
theorem dS_listLetters_74 : decode prog_5_method_4_code 74 = .ok (.getfield 37, 3) := by decide +kernel
theorem dS_listLetters_77 : decode prog_5_method_4_code 77 = .ok (.bipush 8, 2) := by decide +kernel
theorem dS_listLetters_79 : decode prog_5_method_4_code 79 = .ok (.if_icmp .ge 36, 3) := by decide +kernel
theorem dS_listLetters_82 : decode prog_5_method_4_code 82 = .ok (.aload_n 0, 1) := by decide +kernel
theorem dS_listLetters_83 : decode prog_5_method_4_code 83 = .ok (.getfield 31, 3) := by decide +kernel
theorem dS_listLetters_86 : decode prog_5_method_4_code 86 = .ok (.aload_n 0, 1) := by decide +kernel
theorem dS_listLetters_87 : decode prog_5_method_4_code 87 = .ok (.getfield 37, 3) := by decide +kernel
theorem dS_listLetters_90 : decode prog_5_method_4_code 90 = .ok (.bipush 97, 2) := by decide +kernel
theorem dS_listLetters_92 : decode prog_5_method_4_code 92 = .ok (.iload_n 2, 1) := by decide +kernel
theorem dS_listLetters_93 : decode prog_5_method_4_code 93 = .ok (.iadd, 1) := by decide +kernel
theorem dS_listLetters_94 : decode prog_5_method_4_code 94 = .ok (.iastore, 1) := by decide +kernel
theorem dS_listLetters_95 : decode prog_5_method_4_code 95 = .ok (.aload_n 0, 1) := by decide +kernel
theorem dS_listLetters_96 : decode prog_5_method_4_code 96 = .ok (.getfield 34, 3) := by decide +kernel
theorem dS_listLetters_99 : decode prog_5_method_4_code 99 = .ok (.iload_n 2, 1) := by decide +kernel
theorem dS_listLetters_100 : decode prog_5_method_4_code 100 = .ok (.aload_n 0, 1) := by decide +kernel
theorem dS_listLetters_101 : decode prog_5_method_4_code 101 = .ok (.getfield 37, 3) := by decide +kernel
theorem dS_listLetters_104 : decode prog_5_method_4_code 104 = .ok (.iastore, 1) := by decide +kernel
theorem dS_listLetters_105 : decode prog_5_method_4_code 105 = .ok (.aload_n 0, 1) := by decide +kernel
theorem dS_listLetters_106 : decode prog_5_method_4_code 106 = .ok (.dup, 1) := by decide +kernel
theorem dS_listLetters_107 : decode prog_5_method_4_code 107 = .ok (.getfield 37, 3) := by decide +kernel
theorem dS_listLetters_110 : decode prog_5_method_4_code 110 = .ok (.iconst 1, 1) := by decide +kernel
theorem dS_listLetters_111 : decode prog_5_method_4_code 111 = .ok (.iadd, 1) := by decide +kernel
theorem dS_listLetters_112 : decode prog_5_method_4_code 112 = .ok (.putfield 37, 3) := by decide +kernel
theorem dS_listLetters_115 : decode prog_5_method_4_code 115 = .ok (.iinc 2 1, 3) := by decide +kernel
theorem dS_listLetters_118 : decode prog_5_method_4_code 118 = .ok (.goto (-67), 3) := by decide +kernel
theorem dS_listLetters_121 : decode prog_5_method_4_code 121 = .ok (.return_, 1) := by decide +kernel
theorem dS_byteAt_0 : decode prog_5_method_5_code 0 = .ok (.iload_n 1, 1) := by decide +kernel
theorem dS_byteAt_1 : decode prog_5_method_5_code 1 = .ok (.ifCond .lt 20, 3) := by decide +kernel
theorem dS_byteAt_4 : decode prog_5_method_5_code 4 = .ok (.iload_n 1, 1) := by decide +kernel
theorem dS_byteAt_5 : decode prog_5_method_5_code 5 = .ok (.aload_n 0, 1) := by decide +kernel
theorem dS_byteAt_6 : decode prog_5_method_5_code 6 = .ok (.getfield 15, 3) := by decide +kernel
theorem dS_byteAt_9 : decode prog_5_method_5_code 9 = .ok (.if_icmp .ge 12, 3) := by decide +kernel
theorem dS_byteAt_12 : decode prog_5_method_5_code 12 = .ok (.aload_n 0, 1) := by decide +kernel
theorem dS_byteAt_13 : decode prog_5_method_5_code 13 = .ok (.getfield 9, 3) := by decide +kernel
theorem dS_byteAt_16 : decode prog_5_method_5_code 16 = .ok (.iload_n 1, 1) := by decide +kernel
theorem dS_byteAt_17 : decode prog_5_method_5_code 17 = .ok (.iaload, 1) := by decide +kernel
theorem dS_byteAt_18 : decode prog_5_method_5_code 18 = .ok (.goto 4, 3) := by decide +kernel
theorem dS_byteAt_21 : decode prog_5_method_5_code 21 = .ok (.iconst (-1), 1) := by decide +kernel
theorem dS_byteAt_22 : decode prog_5_method_5_code 22 = .ok (.ireturn, 1) := by decide +kernel
theorem dS_letterAt_0 : decode prog_5_method_6_code 0 = .ok (.iload_n 1, 1) := by decide +kernel
theorem dS_letterAt_1 : decode prog_5_method_6_code 1 = .ok (.ifCond .lt 20, 3) := by decide +kernel
theorem dS_letterAt_4 : decode prog_5_method_6_code 4 = .ok (.iload_n 1, 1) := by decide +kernel
theorem dS_letterAt_5 : decode prog_5_method_6_code 5 = .ok (.aload_n 0, 1) := by decide +kernel
theorem dS_letterAt_6 : decode prog_5_method_6_code 6 = .ok (.getfield 37, 3) := by decide +kernel
theorem dS_letterAt_9 : decode prog_5_method_6_code 9 = .ok (.if_icmp .ge 12, 3) := by decide +kernel
theorem dS_letterAt_12 : decode prog_5_method_6_code 12 = .ok (.aload_n 0, 1) := by decide +kernel
theorem dS_letterAt_13 : decode prog_5_method_6_code 13 = .ok (.getfield 31, 3) := by decide +kernel
theorem dS_letterAt_16 : decode prog_5_method_6_code 16 = .ok (.iload_n 1, 1) := by decide +kernel
theorem dS_letterAt_17 : decode prog_5_method_6_code 17 = .ok (.iaload, 1) := by decide +kernel
theorem dS_letterAt_18 : decode prog_5_method_6_code 18 = .ok (.goto 4, 3) := by decide +kernel
theorem dS_letterAt_21 : decode prog_5_method_6_code 21 = .ok (.iconst (-1), 1) := by decide +kernel
theorem dS_letterAt_22 : decode prog_5_method_6_code 22 = .ok (.ireturn, 1) := by decide +kernel
theorem dS_slotOf_0 : decode prog_5_method_7_code 0 = .ok (.iload_n 1, 1) := by decide +kernel
theorem dS_slotOf_1 : decode prog_5_method_7_code 1 = .ok (.invokestatic 55, 3) := by decide +kernel
theorem dS_slotOf_4 : decode prog_5_method_7_code 4 = .ok (.ifCond .eq 15, 3) := by decide +kernel
theorem dS_slotOf_7 : decode prog_5_method_7_code 7 = .ok (.aload_n 0, 1) := by decide +kernel
theorem dS_slotOf_8 : decode prog_5_method_7_code 8 = .ok (.getfield 34, 3) := by decide +kernel
theorem dS_slotOf_11 : decode prog_5_method_7_code 11 = .ok (.iload_n 1, 1) := by decide +kernel
theorem dS_slotOf_12 : decode prog_5_method_7_code 12 = .ok (.bipush 97, 2) := by decide +kernel
theorem dS_slotOf_14 : decode prog_5_method_7_code 14 = .ok (.isub, 1) := by decide +kernel
theorem dS_slotOf_15 : decode prog_5_method_7_code 15 = .ok (.iaload, 1) := by decide +kernel
theorem dS_slotOf_16 : decode prog_5_method_7_code 16 = .ok (.goto 4, 3) := by decide +kernel
theorem dS_slotOf_19 : decode prog_5_method_7_code 19 = .ok (.iconst (-1), 1) := by decide +kernel
theorem dS_slotOf_20 : decode prog_5_method_7_code 20 = .ok (.ireturn, 1) := by decide +kernel
theorem dS_digitAt_0 : decode prog_5_method_8_code 0 = .ok (.aload_n 0, 1) := by decide +kernel
theorem dS_digitAt_1 : decode prog_5_method_8_code 1 = .ok (.iload_n 1, 1) := by decide +kernel
theorem dS_digitAt_2 : decode prog_5_method_8_code 2 = .ok (.invokevirtual 62, 3) := by decide +kernel
theorem dS_digitAt_5 : decode prog_5_method_8_code 5 = .ok (.istore_n 3, 1) := by decide +kernel
theorem dS_digitAt_6 : decode prog_5_method_8_code 6 = .ok (.aload_n 0, 1) := by decide +kernel
theorem dS_digitAt_7 : decode prog_5_method_8_code 7 = .ok (.iload_n 3, 1) := by decide +kernel
theorem dS_digitAt_8 : decode prog_5_method_8_code 8 = .ok (.invokevirtual 66, 3) := by decide +kernel
theorem dS_digitAt_11 : decode prog_5_method_8_code 11 = .ok (.istore 4, 2) := by decide +kernel
theorem dS_digitAt_13 : decode prog_5_method_8_code 13 = .ok (.iload 4, 2) := by decide +kernel
theorem dS_digitAt_15 : decode prog_5_method_8_code 15 = .ok (.iconst (-1), 1) := by decide +kernel
theorem dS_digitAt_16 : decode prog_5_method_8_code 16 = .ok (.if_icmp .ne 10, 3) := by decide +kernel
theorem dS_digitAt_19 : decode prog_5_method_8_code 19 = .ok (.iload_n 3, 1) := by decide +kernel
theorem dS_digitAt_20 : decode prog_5_method_8_code 20 = .ok (.bipush 48, 2) := by decide +kernel
theorem dS_digitAt_22 : decode prog_5_method_8_code 22 = .ok (.isub, 1) := by decide +kernel
theorem dS_digitAt_23 : decode prog_5_method_8_code 23 = .ok (.goto 9, 3) := by decide +kernel
theorem dS_digitAt_26 : decode prog_5_method_8_code 26 = .ok (.iload_n 2, 1) := by decide +kernel
theorem dS_digitAt_27 : decode prog_5_method_8_code 27 = .ok (.iload 4, 2) := by decide +kernel
theorem dS_digitAt_29 : decode prog_5_method_8_code 29 = .ok (.invokestatic 69, 3) := by decide +kernel
theorem dS_digitAt_32 : decode prog_5_method_8_code 32 = .ok (.ireturn, 1) := by decide +kernel
theorem dS_isBehind_0 : decode prog_5_method_9_code 0 = .ok (.aload_n 0, 1) := by decide +kernel
theorem dS_isBehind_1 : decode prog_5_method_9_code 1 = .ok (.getfield 22, 3) := by decide +kernel
theorem dS_isBehind_4 : decode prog_5_method_9_code 4 = .ok (.iload_n 1, 1) := by decide +kernel
theorem dS_isBehind_5 : decode prog_5_method_9_code 5 = .ok (.iaload, 1) := by decide +kernel
theorem dS_isBehind_6 : decode prog_5_method_9_code 6 = .ok (.aload_n 0, 1) := by decide +kernel
theorem dS_isBehind_7 : decode prog_5_method_9_code 7 = .ok (.getfield 19, 3) := by decide +kernel
theorem dS_isBehind_10 : decode prog_5_method_9_code 10 = .ok (.if_icmp .le 7, 3) := by decide +kernel
theorem dS_isBehind_13 : decode prog_5_method_9_code 13 = .ok (.iconst 1, 1) := by decide +kernel
theorem dS_isBehind_14 : decode prog_5_method_9_code 14 = .ok (.goto 4, 3) := by decide +kernel
theorem dS_isBehind_17 : decode prog_5_method_9_code 17 = .ok (.iconst 0, 1) := by decide +kernel
theorem dS_isBehind_18 : decode prog_5_method_9_code 18 = .ok (.ireturn, 1) := by decide +kernel
theorem dS_isTakenAway_0 : decode prog_5_method_10_code 0 = .ok (.aload_n 0, 1) := by decide +kernel
theorem dS_isTakenAway_1 : decode prog_5_method_10_code 1 = .ok (.aload_n 0, 1) := by decide +kernel
theorem dS_isTakenAway_2 : decode prog_5_method_10_code 2 = .ok (.getfield 22, 3) := by decide +kernel
theorem dS_isTakenAway_5 : decode prog_5_method_10_code 5 = .ok (.iload_n 1, 1) := by decide +kernel
theorem dS_isTakenAway_6 : decode prog_5_method_10_code 6 = .ok (.iaload, 1) := by decide +kernel
theorem dS_isTakenAway_7 : decode prog_5_method_10_code 7 = .ok (.iconst 1, 1) := by decide +kernel
theorem dS_isTakenAway_8 : decode prog_5_method_10_code 8 = .ok (.isub, 1) := by decide +kernel
theorem dS_isTakenAway_9 : decode prog_5_method_10_code 9 = .ok (.invokevirtual 62, 3) := by decide +kernel
theorem dS_isTakenAway_12 : decode prog_5_method_10_code 12 = .ok (.bipush 45, 2) := by decide +kernel
theorem dS_isTakenAway_14 : decode prog_5_method_10_code 14 = .ok (.if_icmp .ne 7, 3) := by decide +kernel
theorem dS_isTakenAway_17 : decode prog_5_method_10_code 17 = .ok (.iconst 1, 1) := by decide +kernel
theorem dS_isTakenAway_18 : decode prog_5_method_10_code 18 = .ok (.goto 4, 3) := by decide +kernel
theorem dS_isTakenAway_21 : decode prog_5_method_10_code 21 = .ok (.iconst 0, 1) := by decide +kernel
theorem dS_isTakenAway_22 : decode prog_5_method_10_code 22 = .ok (.ireturn, 1) := by decide +kernel
theorem dS_hasCarries_0 : decode prog_5_method_11_code 0 = .ok (.iconst 0, 1) := by decide +kernel
theorem dS_hasCarries_1 : decode prog_5_method_11_code 1 = .ok (.istore_n 1, 1) := by decide +kernel
theorem dS_hasCarries_2 : decode prog_5_method_11_code 2 = .ok (.iconst 0, 1) := by decide +kernel
theorem dS_hasCarries_3 : decode prog_5_method_11_code 3 = .ok (.istore_n 2, 1) := by decide +kernel
theorem dS_hasCarries_4 : decode prog_5_method_11_code 4 = .ok (.iload_n 2, 1) := by decide +kernel
theorem dS_hasCarries_5 : decode prog_5_method_11_code 5 = .ok (.aload_n 0, 1) := by decide +kernel
theorem dS_hasCarries_6 : decode prog_5_method_11_code 6 = .ok (.getfield 28, 3) := by decide +kernel
theorem dS_hasCarries_9 : decode prog_5_method_11_code 9 = .ok (.if_icmp .ge 30, 3) := by decide +kernel
theorem dS_hasCarries_12 : decode prog_5_method_11_code 12 = .ok (.aload_n 0, 1) := by decide +kernel
theorem dS_hasCarries_13 : decode prog_5_method_11_code 13 = .ok (.iload_n 2, 1) := by decide +kernel
theorem dS_hasCarries_14 : decode prog_5_method_11_code 14 = .ok (.invokevirtual 73, 3) := by decide +kernel
theorem dS_hasCarries_17 : decode prog_5_method_11_code 17 = .ok (.ifCond .eq 5, 3) := by decide +kernel
theorem dS_hasCarries_20 : decode prog_5_method_11_code 20 = .ok (.iconst 0, 1) := by decide +kernel
theorem dS_hasCarries_21 : decode prog_5_method_11_code 21 = .ok (.ireturn, 1) := by decide +kernel
theorem dS_hasCarries_22 : decode prog_5_method_11_code 22 = .ok (.aload_n 0, 1) := by decide +kernel
theorem dS_hasCarries_23 : decode prog_5_method_11_code 23 = .ok (.iload_n 2, 1) := by decide +kernel
theorem dS_hasCarries_24 : decode prog_5_method_11_code 24 = .ok (.invokevirtual 76, 3) := by decide +kernel
theorem dS_hasCarries_27 : decode prog_5_method_11_code 27 = .ok (.ifCond .eq 6, 3) := by decide +kernel
theorem dS_hasCarries_30 : decode prog_5_method_11_code 30 = .ok (.iinc 1 1, 3) := by decide +kernel
theorem dS_hasCarries_33 : decode prog_5_method_11_code 33 = .ok (.iinc 2 1, 3) := by decide +kernel
theorem dS_hasCarries_36 : decode prog_5_method_11_code 36 = .ok (.goto (-32), 3) := by decide +kernel
theorem dS_hasCarries_39 : decode prog_5_method_11_code 39 = .ok (.iload_n 1, 1) := by decide +kernel
theorem dS_hasCarries_40 : decode prog_5_method_11_code 40 = .ok (.iconst 1, 1) := by decide +kernel
theorem dS_hasCarries_41 : decode prog_5_method_11_code 41 = .ok (.if_icmp .ne 7, 3) := by decide +kernel
theorem dS_hasCarries_44 : decode prog_5_method_11_code 44 = .ok (.iconst 1, 1) := by decide +kernel
theorem dS_hasCarries_45 : decode prog_5_method_11_code 45 = .ok (.goto 4, 3) := by decide +kernel
theorem dS_hasCarries_48 : decode prog_5_method_11_code 48 = .ok (.iconst 0, 1) := by decide +kernel
theorem dS_hasCarries_49 : decode prog_5_method_11_code 49 = .ok (.ireturn, 1) := by decide +kernel
theorem dS_sideValue_0 : decode prog_5_method_12_code 0 = .ok (.lconst 0, 1) := by decide +kernel
theorem dS_sideValue_1 : decode prog_5_method_12_code 1 = .ok (.lstore_n 3, 1) := by decide +kernel
theorem dS_sideValue_2 : decode prog_5_method_12_code 2 = .ok (.iconst 0, 1) := by decide +kernel
theorem dS_sideValue_3 : decode prog_5_method_12_code 3 = .ok (.istore 5, 2) := by decide +kernel
theorem dS_sideValue_5 : decode prog_5_method_12_code 5 = .ok (.iload 5, 2) := by decide +kernel
theorem dS_sideValue_7 : decode prog_5_method_12_code 7 = .ok (.aload_n 0, 1) := by decide +kernel
theorem dS_sideValue_8 : decode prog_5_method_12_code 8 = .ok (.getfield 28, 3) := by decide +kernel
theorem dS_sideValue_11 : decode prog_5_method_12_code 11 = .ok (.if_icmp .ge 50, 3) := by decide +kernel
theorem dS_sideValue_14 : decode prog_5_method_12_code 14 = .ok (.aload_n 0, 1) := by decide +kernel
theorem dS_sideValue_15 : decode prog_5_method_12_code 15 = .ok (.iload 5, 2) := by decide +kernel
theorem dS_sideValue_17 : decode prog_5_method_12_code 17 = .ok (.invokevirtual 76, 3) := by decide +kernel
theorem dS_sideValue_20 : decode prog_5_method_12_code 20 = .ok (.iload_n 1, 1) := by decide +kernel
theorem dS_sideValue_21 : decode prog_5_method_12_code 21 = .ok (.if_icmp .ne 34, 3) := by decide +kernel
theorem dS_sideValue_24 : decode prog_5_method_12_code 24 = .ok (.aload_n 0, 1) := by decide +kernel
theorem dS_sideValue_25 : decode prog_5_method_12_code 25 = .ok (.iload 5, 2) := by decide +kernel
theorem dS_sideValue_27 : decode prog_5_method_12_code 27 = .ok (.bipush 8, 2) := by decide +kernel
theorem dS_sideValue_29 : decode prog_5_method_12_code 29 = .ok (.iload_n 2, 1) := by decide +kernel
theorem dS_sideValue_30 : decode prog_5_method_12_code 30 = .ok (.invokevirtual 79, 3) := by decide +kernel
theorem dS_sideValue_33 : decode prog_5_method_12_code 33 = .ok (.lstore 6, 2) := by decide +kernel
theorem dS_sideValue_35 : decode prog_5_method_12_code 35 = .ok (.lload_n 3, 1) := by decide +kernel
theorem dS_sideValue_36 : decode prog_5_method_12_code 36 = .ok (.aload_n 0, 1) := by decide +kernel
theorem dS_sideValue_37 : decode prog_5_method_12_code 37 = .ok (.iload 5, 2) := by decide +kernel
theorem dS_sideValue_39 : decode prog_5_method_12_code 39 = .ok (.invokevirtual 73, 3) := by decide +kernel
theorem dS_sideValue_42 : decode prog_5_method_12_code 42 = .ok (.ifCond .eq 9, 3) := by decide +kernel
theorem dS_sideValue_45 : decode prog_5_method_12_code 45 = .ok (.lload 6, 2) := by decide +kernel
theorem dS_sideValue_47 : decode prog_5_method_12_code 47 = .ok (.lneg, 1) := by decide +kernel
theorem dS_sideValue_48 : decode prog_5_method_12_code 48 = .ok (.goto 5, 3) := by decide +kernel
theorem dS_sideValue_51 : decode prog_5_method_12_code 51 = .ok (.lload 6, 2) := by decide +kernel
theorem dS_sideValue_53 : decode prog_5_method_12_code 53 = .ok (.ladd, 1) := by decide +kernel
theorem dS_sideValue_54 : decode prog_5_method_12_code 54 = .ok (.lstore_n 3, 1) := by decide +kernel
theorem dS_sideValue_55 : decode prog_5_method_12_code 55 = .ok (.iinc 5 1, 3) := by decide +kernel
theorem dS_sideValue_58 : decode prog_5_method_12_code 58 = .ok (.goto (-53), 3) := by decide +kernel
theorem dS_sideValue_61 : decode prog_5_method_12_code 61 = .ok (.lload_n 3, 1) := by decide +kernel
theorem dS_sideValue_62 : decode prog_5_method_12_code 62 = .ok (.lreturn, 1) := by decide +kernel
theorem dS_carryFrom_0 : decode prog_5_method_13_code 0 = .ok (.lconst 0, 1) := by decide +kernel
theorem dS_carryFrom_1 : decode prog_5_method_13_code 1 = .ok (.lstore_n 3, 1) := by decide +kernel
theorem dS_carryFrom_2 : decode prog_5_method_13_code 2 = .ok (.iconst 0, 1) := by decide +kernel
theorem dS_carryFrom_3 : decode prog_5_method_13_code 3 = .ok (.istore 5, 2) := by decide +kernel
theorem dS_carryFrom_5 : decode prog_5_method_13_code 5 = .ok (.iload 5, 2) := by decide +kernel
theorem dS_carryFrom_7 : decode prog_5_method_13_code 7 = .ok (.aload_n 0, 1) := by decide +kernel
theorem dS_carryFrom_8 : decode prog_5_method_13_code 8 = .ok (.getfield 28, 3) := by decide +kernel
theorem dS_carryFrom_11 : decode prog_5_method_13_code 11 = .ok (.if_icmp .ge 31, 3) := by decide +kernel
theorem dS_carryFrom_14 : decode prog_5_method_13_code 14 = .ok (.aload_n 0, 1) := by decide +kernel
theorem dS_carryFrom_15 : decode prog_5_method_13_code 15 = .ok (.iload 5, 2) := by decide +kernel
theorem dS_carryFrom_17 : decode prog_5_method_13_code 17 = .ok (.invokevirtual 76, 3) := by decide +kernel
theorem dS_carryFrom_20 : decode prog_5_method_13_code 20 = .ok (.ifCond .ne 16, 3) := by decide +kernel
theorem dS_carryFrom_23 : decode prog_5_method_13_code 23 = .ok (.lload_n 3, 1) := by decide +kernel
theorem dS_carryFrom_24 : decode prog_5_method_13_code 24 = .ok (.aload_n 0, 1) := by decide +kernel
theorem dS_carryFrom_25 : decode prog_5_method_13_code 25 = .ok (.iload 5, 2) := by decide +kernel
theorem dS_carryFrom_27 : decode prog_5_method_13_code 27 = .ok (.iload_n 1, 1) := by decide +kernel
theorem dS_carryFrom_28 : decode prog_5_method_13_code 28 = .ok (.iconst 1, 1) := by decide +kernel
theorem dS_carryFrom_29 : decode prog_5_method_13_code 29 = .ok (.iadd, 1) := by decide +kernel
theorem dS_carryFrom_30 : decode prog_5_method_13_code 30 = .ok (.iload_n 2, 1) := by decide +kernel
theorem dS_carryFrom_31 : decode prog_5_method_13_code 31 = .ok (.invokevirtual 79, 3) := by decide +kernel
theorem dS_carryFrom_34 : decode prog_5_method_13_code 34 = .ok (.ladd, 1) := by decide +kernel
theorem dS_carryFrom_35 : decode prog_5_method_13_code 35 = .ok (.lstore_n 3, 1) := by decide +kernel
theorem dS_carryFrom_36 : decode prog_5_method_13_code 36 = .ok (.iinc 5 1, 3) := by decide +kernel
theorem dS_carryFrom_39 : decode prog_5_method_13_code 39 = .ok (.goto (-34), 3) := by decide +kernel
theorem dS_carryFrom_42 : decode prog_5_method_13_code 42 = .ok (.lconst 1, 1) := by decide +kernel
theorem dS_carryFrom_43 : decode prog_5_method_13_code 43 = .ok (.lstore 5, 2) := by decide +kernel
theorem dS_carryFrom_45 : decode prog_5_method_13_code 45 = .ok (.iconst 0, 1) := by decide +kernel
theorem dS_carryFrom_46 : decode prog_5_method_13_code 46 = .ok (.istore 7, 2) := by decide +kernel
theorem dS_carryFrom_48 : decode prog_5_method_13_code 48 = .ok (.iload 7, 2) := by decide +kernel
theorem dS_carryFrom_50 : decode prog_5_method_13_code 50 = .ok (.iload_n 1, 1) := by decide +kernel
theorem dS_carryFrom_51 : decode prog_5_method_13_code 51 = .ok (.if_icmp .gt 19, 3) := by decide +kernel
theorem dS_carryFrom_54 : decode prog_5_method_13_code 54 = .ok (.lload 5, 2) := by decide +kernel
theorem dS_carryFrom_56 : decode prog_5_method_13_code 56 = .ok (.aload_n 0, 1) := by decide +kernel
theorem dS_carryFrom_57 : decode prog_5_method_13_code 57 = .ok (.getfield 40, 3) := by decide +kernel
theorem dS_carryFrom_60 : decode prog_5_method_13_code 60 = .ok (.i2l, 1) := by decide +kernel
theorem dS_carryFrom_61 : decode prog_5_method_13_code 61 = .ok (.lmul, 1) := by decide +kernel
theorem dS_carryFrom_62 : decode prog_5_method_13_code 62 = .ok (.lstore 5, 2) := by decide +kernel
theorem dS_carryFrom_64 : decode prog_5_method_13_code 64 = .ok (.iinc 7 1, 3) := by decide +kernel
theorem dS_carryFrom_67 : decode prog_5_method_13_code 67 = .ok (.goto (-19), 3) := by decide +kernel
theorem dS_carryFrom_70 : decode prog_5_method_13_code 70 = .ok (.lload 5, 2) := by decide +kernel
theorem dS_carryFrom_72 : decode prog_5_method_13_code 72 = .ok (.lconst 0, 1) := by decide +kernel
theorem dS_carryFrom_73 : decode prog_5_method_13_code 73 = .ok (.lcmp, 1) := by decide +kernel
theorem dS_carryFrom_74 : decode prog_5_method_13_code 74 = .ok (.ifCond .le 11, 3) := by decide +kernel
theorem dS_carryFrom_77 : decode prog_5_method_13_code 77 = .ok (.lload_n 3, 1) := by decide +kernel
theorem dS_carryFrom_78 : decode prog_5_method_13_code 78 = .ok (.lload 5, 2) := by decide +kernel
theorem dS_carryFrom_80 : decode prog_5_method_13_code 80 = .ok (.ldiv, 1) := by decide +kernel
theorem dS_carryFrom_81 : decode prog_5_method_13_code 81 = .ok (.l2i, 1) := by decide +kernel
theorem dS_carryFrom_82 : decode prog_5_method_13_code 82 = .ok (.goto 4, 3) := by decide +kernel
theorem dS_carryFrom_85 : decode prog_5_method_13_code 85 = .ok (.iconst (-1), 1) := by decide +kernel
theorem dS_carryFrom_86 : decode prog_5_method_13_code 86 = .ok (.ireturn, 1) := by decide +kernel
theorem dS_endValue_0 : decode prog_5_method_14_code 0 = .ok (.lconst 0, 1) := by decide +kernel
theorem dS_endValue_1 : decode prog_5_method_14_code 1 = .ok (.lstore 4, 2) := by decide +kernel
theorem dS_endValue_3 : decode prog_5_method_14_code 3 = .ok (.aload_n 0, 1) := by decide +kernel
theorem dS_endValue_4 : decode prog_5_method_14_code 4 = .ok (.getfield 22, 3) := by decide +kernel
theorem dS_endValue_7 : decode prog_5_method_14_code 7 = .ok (.iload_n 1, 1) := by decide +kernel
theorem dS_endValue_8 : decode prog_5_method_14_code 8 = .ok (.iaload, 1) := by decide +kernel
theorem dS_endValue_9 : decode prog_5_method_14_code 9 = .ok (.aload_n 0, 1) := by decide +kernel
theorem dS_endValue_10 : decode prog_5_method_14_code 10 = .ok (.getfield 25, 3) := by decide +kernel
theorem dS_endValue_13 : decode prog_5_method_14_code 13 = .ok (.iload_n 1, 1) := by decide +kernel
theorem dS_endValue_14 : decode prog_5_method_14_code 14 = .ok (.iaload, 1) := by decide +kernel
theorem dS_endValue_15 : decode prog_5_method_14_code 15 = .ok (.iload_n 2, 1) := by decide +kernel
theorem dS_endValue_16 : decode prog_5_method_14_code 16 = .ok (.isub, 1) := by decide +kernel
theorem dS_endValue_17 : decode prog_5_method_14_code 17 = .ok (.invokestatic 83, 3) := by decide +kernel
theorem dS_endValue_20 : decode prog_5_method_14_code 20 = .ok (.istore 6, 2) := by decide +kernel
theorem dS_endValue_22 : decode prog_5_method_14_code 22 = .ok (.iload 6, 2) := by decide +kernel
theorem dS_endValue_24 : decode prog_5_method_14_code 24 = .ok (.aload_n 0, 1) := by decide +kernel
theorem dS_endValue_25 : decode prog_5_method_14_code 25 = .ok (.getfield 25, 3) := by decide +kernel
theorem dS_endValue_28 : decode prog_5_method_14_code 28 = .ok (.iload_n 1, 1) := by decide +kernel
theorem dS_endValue_29 : decode prog_5_method_14_code 29 = .ok (.iaload, 1) := by decide +kernel
theorem dS_endValue_30 : decode prog_5_method_14_code 30 = .ok (.if_icmp .ge 28, 3) := by decide +kernel
theorem dS_endValue_33 : decode prog_5_method_14_code 33 = .ok (.lload 4, 2) := by decide +kernel
theorem dS_endValue_35 : decode prog_5_method_14_code 35 = .ok (.aload_n 0, 1) := by decide +kernel
theorem dS_endValue_36 : decode prog_5_method_14_code 36 = .ok (.getfield 40, 3) := by decide +kernel
theorem dS_endValue_39 : decode prog_5_method_14_code 39 = .ok (.i2l, 1) := by decide +kernel
theorem dS_endValue_40 : decode prog_5_method_14_code 40 = .ok (.lmul, 1) := by decide +kernel
theorem dS_endValue_41 : decode prog_5_method_14_code 41 = .ok (.aload_n 0, 1) := by decide +kernel
theorem dS_endValue_42 : decode prog_5_method_14_code 42 = .ok (.iload 6, 2) := by decide +kernel
theorem dS_endValue_44 : decode prog_5_method_14_code 44 = .ok (.iload_n 3, 1) := by decide +kernel
theorem dS_endValue_45 : decode prog_5_method_14_code 45 = .ok (.invokevirtual 88, 3) := by decide +kernel
theorem dS_endValue_48 : decode prog_5_method_14_code 48 = .ok (.i2l, 1) := by decide +kernel
theorem dS_endValue_49 : decode prog_5_method_14_code 49 = .ok (.ladd, 1) := by decide +kernel
theorem dS_endValue_50 : decode prog_5_method_14_code 50 = .ok (.lstore 4, 2) := by decide +kernel
theorem dS_endValue_52 : decode prog_5_method_14_code 52 = .ok (.iinc 6 1, 3) := by decide +kernel
theorem dS_endValue_55 : decode prog_5_method_14_code 55 = .ok (.goto (-33), 3) := by decide +kernel
theorem dS_endValue_58 : decode prog_5_method_14_code 58 = .ok (.lload 4, 2) := by decide +kernel
theorem dS_endValue_60 : decode prog_5_method_14_code 60 = .ok (.lreturn, 1) := by decide +kernel
