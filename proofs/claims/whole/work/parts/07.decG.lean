theorem dG_init_0 : decode prog_3_method_1_code 0 = .ok (.aload_n 0, 1) := by decide +kernel
theorem dG_init_1 : decode prog_3_method_1_code 1 = .ok (.invokespecial 3, 3) := by decide +kernel
theorem dG_init_4 : decode prog_3_method_1_code 4 = .ok (.aload_n 0, 1) := by decide +kernel
theorem dG_init_5 : decode prog_3_method_1_code 5 = .ok (.iload_n 1, 1) := by decide +kernel
theorem dG_init_6 : decode prog_3_method_1_code 6 = .ok (.putfield 9, 3) := by decide +kernel
theorem dG_init_9 : decode prog_3_method_1_code 9 = .ok (.return_, 1) := by decide +kernel
theorem dG_firstWrong_0 : decode prog_3_method_2_code 0 = .ok (.aload_n 0, 1) := by decide +kernel
theorem dG_firstWrong_1 : decode prog_3_method_2_code 1 = .ok (.iconst 0, 1) := by decide +kernel
theorem dG_firstWrong_2 : decode prog_3_method_2_code 2 = .ok (.putfield 15, 3) := by decide +kernel
theorem dG_firstWrong_5 : decode prog_3_method_2_code 5 = .ok (.aload_n 0, 1) := by decide +kernel
theorem dG_firstWrong_6 : decode prog_3_method_2_code 6 = .ok (.iconst 0, 1) := by decide +kernel
theorem dG_firstWrong_7 : decode prog_3_method_2_code 7 = .ok (.putfield 18, 3) := by decide +kernel
theorem dG_firstWrong_10 : decode prog_3_method_2_code 10 = .ok (.aload_n 0, 1) := by decide +kernel
theorem dG_firstWrong_11 : decode prog_3_method_2_code 11 = .ok (.iconst 0, 1) := by decide +kernel
theorem dG_firstWrong_12 : decode prog_3_method_2_code 12 = .ok (.putfield 21, 3) := by decide +kernel
theorem dG_firstWrong_15 : decode prog_3_method_2_code 15 = .ok (.aload_n 0, 1) := by decide +kernel
theorem dG_firstWrong_16 : decode prog_3_method_2_code 16 = .ok (.iconst 0, 1) := by decide +kernel
theorem dG_firstWrong_17 : decode prog_3_method_2_code 17 = .ok (.putfield 24, 3) := by decide +kernel
theorem dG_firstWrong_20 : decode prog_3_method_2_code 20 = .ok (.iconst 0, 1) := by decide +kernel
theorem dG_firstWrong_21 : decode prog_3_method_2_code 21 = .ok (.istore_n 3, 1) := by decide +kernel
theorem dG_firstWrong_22 : decode prog_3_method_2_code 22 = .ok (.iload_n 3, 1) := by decide +kernel
theorem dG_firstWrong_23 : decode prog_3_method_2_code 23 = .ok (.iload_n 2, 1) := by decide +kernel
theorem dG_firstWrong_24 : decode prog_3_method_2_code 24 = .ok (.if_icmp .ge 27, 3) := by decide +kernel
theorem dG_firstWrong_27 : decode prog_3_method_2_code 27 = .ok (.iload_n 3, 1) := by decide +kernel
theorem dG_firstWrong_28 : decode prog_3_method_2_code 28 = .ok (.aload_n 1, 1) := by decide +kernel
theorem dG_firstWrong_29 : decode prog_3_method_2_code 29 = .ok (.arraylength, 1) := by decide +kernel
theorem dG_firstWrong_30 : decode prog_3_method_2_code 30 = .ok (.if_icmp .ge 21, 3) := by decide +kernel
theorem dG_firstWrong_33 : decode prog_3_method_2_code 33 = .ok (.aload_n 0, 1) := by decide +kernel
theorem dG_firstWrong_34 : decode prog_3_method_2_code 34 = .ok (.aload_n 1, 1) := by decide +kernel
theorem dG_firstWrong_35 : decode prog_3_method_2_code 35 = .ok (.iload_n 3, 1) := by decide +kernel
theorem dG_firstWrong_36 : decode prog_3_method_2_code 36 = .ok (.iaload, 1) := by decide +kernel
theorem dG_firstWrong_37 : decode prog_3_method_2_code 37 = .ok (.invokevirtual 28, 3) := by decide +kernel
theorem dG_firstWrong_40 : decode prog_3_method_2_code 40 = .ok (.ifCond .ne 5, 3) := by decide +kernel
theorem dG_firstWrong_43 : decode prog_3_method_2_code 43 = .ok (.iload_n 3, 1) := by decide +kernel
theorem dG_firstWrong_44 : decode prog_3_method_2_code 44 = .ok (.ireturn, 1) := by decide +kernel
theorem dG_firstWrong_45 : decode prog_3_method_2_code 45 = .ok (.iinc 3 1, 3) := by decide +kernel
theorem dG_firstWrong_48 : decode prog_3_method_2_code 48 = .ok (.goto (-26), 3) := by decide +kernel
theorem dG_firstWrong_51 : decode prog_3_method_2_code 51 = .ok (.aload_n 0, 1) := by decide +kernel
theorem dG_firstWrong_52 : decode prog_3_method_2_code 52 = .ok (.getfield 24, 3) := by decide +kernel
theorem dG_firstWrong_55 : decode prog_3_method_2_code 55 = .ok (.ifCond .eq 14, 3) := by decide +kernel
theorem dG_firstWrong_58 : decode prog_3_method_2_code 58 = .ok (.aload_n 0, 1) := by decide +kernel
theorem dG_firstWrong_59 : decode prog_3_method_2_code 59 = .ok (.getfield 18, 3) := by decide +kernel
theorem dG_firstWrong_62 : decode prog_3_method_2_code 62 = .ok (.ifCond .le 7, 3) := by decide +kernel
theorem dG_firstWrong_65 : decode prog_3_method_2_code 65 = .ok (.iconst (-1), 1) := by decide +kernel
theorem dG_firstWrong_66 : decode prog_3_method_2_code 66 = .ok (.goto 4, 3) := by decide +kernel
theorem dG_firstWrong_69 : decode prog_3_method_2_code 69 = .ok (.iload_n 2, 1) := by decide +kernel
theorem dG_firstWrong_70 : decode prog_3_method_2_code 70 = .ok (.ireturn, 1) := by decide +kernel
theorem dG_admits_0 : decode prog_3_method_3_code 0 = .ok (.iload_n 1, 1) := by decide +kernel
theorem dG_admits_1 : decode prog_3_method_3_code 1 = .ok (.invokestatic 32, 3) := by decide +kernel
theorem dG_admits_4 : decode prog_3_method_3_code 4 = .ok (.ifCond .eq 24, 3) := by decide +kernel
theorem dG_admits_7 : decode prog_3_method_3_code 7 = .ok (.aload_n 0, 1) := by decide +kernel
theorem dG_admits_8 : decode prog_3_method_3_code 8 = .ok (.iload_n 1, 1) := by decide +kernel
theorem dG_admits_9 : decode prog_3_method_3_code 9 = .ok (.invokevirtual 35, 3) := by decide +kernel
theorem dG_admits_12 : decode prog_3_method_3_code 12 = .ok (.ifCond .eq 14, 3) := by decide +kernel
theorem dG_admits_15 : decode prog_3_method_3_code 15 = .ok (.aload_n 0, 1) := by decide +kernel
theorem dG_admits_16 : decode prog_3_method_3_code 16 = .ok (.invokevirtual 38, 3) := by decide +kernel
theorem dG_admits_19 : decode prog_3_method_3_code 19 = .ok (.ifCond .eq 7, 3) := by decide +kernel
theorem dG_admits_22 : decode prog_3_method_3_code 22 = .ok (.iconst 1, 1) := by decide +kernel
theorem dG_admits_23 : decode prog_3_method_3_code 23 = .ok (.goto 4, 3) := by decide +kernel
theorem dG_admits_26 : decode prog_3_method_3_code 26 = .ok (.iconst 0, 1) := by decide +kernel
theorem dG_admits_27 : decode prog_3_method_3_code 27 = .ok (.ireturn, 1) := by decide +kernel
theorem dG_admits_28 : decode prog_3_method_3_code 28 = .ok (.iload_n 1, 1) := by decide +kernel
theorem dG_admits_29 : decode prog_3_method_3_code 29 = .ok (.invokestatic 42, 3) := by decide +kernel
theorem dG_admits_32 : decode prog_3_method_3_code 32 = .ok (.ifCond .eq 27, 3) := by decide +kernel
theorem dG_admits_35 : decode prog_3_method_3_code 35 = .ok (.iload_n 1, 1) := by decide +kernel
theorem dG_admits_36 : decode prog_3_method_3_code 36 = .ok (.bipush 48, 2) := by decide +kernel
theorem dG_admits_38 : decode prog_3_method_3_code 38 = .ok (.isub, 1) := by decide +kernel
theorem dG_admits_39 : decode prog_3_method_3_code 39 = .ok (.aload_n 0, 1) := by decide +kernel
theorem dG_admits_40 : decode prog_3_method_3_code 40 = .ok (.getfield 9, 3) := by decide +kernel
theorem dG_admits_43 : decode prog_3_method_3_code 43 = .ok (.if_icmp .ge 14, 3) := by decide +kernel
theorem dG_admits_46 : decode prog_3_method_3_code 46 = .ok (.aload_n 0, 1) := by decide +kernel
theorem dG_admits_47 : decode prog_3_method_3_code 47 = .ok (.invokevirtual 38, 3) := by decide +kernel
theorem dG_admits_50 : decode prog_3_method_3_code 50 = .ok (.ifCond .eq 7, 3) := by decide +kernel
theorem dG_admits_53 : decode prog_3_method_3_code 53 = .ok (.iconst 1, 1) := by decide +kernel
theorem dG_admits_54 : decode prog_3_method_3_code 54 = .ok (.goto 4, 3) := by decide +kernel
theorem dG_admits_57 : decode prog_3_method_3_code 57 = .ok (.iconst 0, 1) := by decide +kernel
theorem dG_admits_58 : decode prog_3_method_3_code 58 = .ok (.ireturn, 1) := by decide +kernel
theorem dG_admits_59 : decode prog_3_method_3_code 59 = .ok (.iload_n 1, 1) := by decide +kernel
theorem dG_admits_60 : decode prog_3_method_3_code 60 = .ok (.bipush 61, 2) := by decide +kernel
theorem dG_admits_62 : decode prog_3_method_3_code 62 = .ok (.if_icmp .ne 8, 3) := by decide +kernel
theorem dG_admits_65 : decode prog_3_method_3_code 65 = .ok (.aload_n 0, 1) := by decide +kernel
theorem dG_admits_66 : decode prog_3_method_3_code 66 = .ok (.invokevirtual 45, 3) := by decide +kernel
theorem dG_admits_69 : decode prog_3_method_3_code 69 = .ok (.ireturn, 1) := by decide +kernel
theorem dG_admits_70 : decode prog_3_method_3_code 70 = .ok (.iload_n 1, 1) := by decide +kernel
theorem dG_admits_71 : decode prog_3_method_3_code 71 = .ok (.bipush 43, 2) := by decide +kernel
theorem dG_admits_73 : decode prog_3_method_3_code 73 = .ok (.if_icmp .eq 9, 3) := by decide +kernel
theorem dG_admits_76 : decode prog_3_method_3_code 76 = .ok (.iload_n 1, 1) := by decide +kernel
theorem dG_admits_77 : decode prog_3_method_3_code 77 = .ok (.bipush 45, 2) := by decide +kernel
theorem dG_admits_79 : decode prog_3_method_3_code 79 = .ok (.if_icmp .ne 14, 3) := by decide +kernel
theorem dG_admits_82 : decode prog_3_method_3_code 82 = .ok (.aload_n 0, 1) := by decide +kernel
theorem dG_admits_83 : decode prog_3_method_3_code 83 = .ok (.invokevirtual 48, 3) := by decide +kernel
theorem dG_admits_86 : decode prog_3_method_3_code 86 = .ok (.ifCond .eq 7, 3) := by decide +kernel
theorem dG_admits_89 : decode prog_3_method_3_code 89 = .ok (.iconst 1, 1) := by decide +kernel
theorem dG_admits_90 : decode prog_3_method_3_code 90 = .ok (.goto 4, 3) := by decide +kernel
theorem dG_admits_93 : decode prog_3_method_3_code 93 = .ok (.iconst 0, 1) := by decide +kernel
theorem dG_admits_94 : decode prog_3_method_3_code 94 = .ok (.ireturn, 1) := by decide +kernel
theorem dG_admitsLetter_0 : decode prog_3_method_4_code 0 = .ok (.aload_n 0, 1) := by decide +kernel
theorem dG_admitsLetter_1 : decode prog_3_method_4_code 1 = .ok (.dup, 1) := by decide +kernel
theorem dG_admitsLetter_2 : decode prog_3_method_4_code 2 = .ok (.getfield 21, 3) := by decide +kernel
theorem dG_admitsLetter_5 : decode prog_3_method_4_code 5 = .ok (.iconst 1, 1) := by decide +kernel
theorem dG_admitsLetter_6 : decode prog_3_method_4_code 6 = .ok (.iload_n 1, 1) := by decide +kernel
theorem dG_admitsLetter_7 : decode prog_3_method_4_code 7 = .ok (.bipush 97, 2) := by decide +kernel
theorem dG_admitsLetter_9 : decode prog_3_method_4_code 9 = .ok (.isub, 1) := by decide +kernel
theorem dG_admitsLetter_10 : decode prog_3_method_4_code 10 = .ok (.ishl, 1) := by decide +kernel
theorem dG_admitsLetter_11 : decode prog_3_method_4_code 11 = .ok (.ior, 1) := by decide +kernel
theorem dG_admitsLetter_12 : decode prog_3_method_4_code 12 = .ok (.putfield 21, 3) := by decide +kernel
theorem dG_admitsLetter_15 : decode prog_3_method_4_code 15 = .ok (.aload_n 0, 1) := by decide +kernel
theorem dG_admitsLetter_16 : decode prog_3_method_4_code 16 = .ok (.getfield 21, 3) := by decide +kernel
theorem dG_admitsLetter_19 : decode prog_3_method_4_code 19 = .ok (.invokestatic 51, 3) := by decide +kernel
theorem dG_admitsLetter_22 : decode prog_3_method_4_code 22 = .ok (.bipush 8, 2) := by decide +kernel
theorem dG_admitsLetter_24 : decode prog_3_method_4_code 24 = .ok (.if_icmp .gt 7, 3) := by decide +kernel
theorem dG_admitsLetter_27 : decode prog_3_method_4_code 27 = .ok (.iconst 1, 1) := by decide +kernel
theorem dG_admitsLetter_28 : decode prog_3_method_4_code 28 = .ok (.goto 4, 3) := by decide +kernel
theorem dG_admitsLetter_31 : decode prog_3_method_4_code 31 = .ok (.iconst 0, 1) := by decide +kernel
theorem dG_admitsLetter_32 : decode prog_3_method_4_code 32 = .ok (.ireturn, 1) := by decide +kernel
theorem dG_admitsSign_0 : decode prog_3_method_5_code 0 = .ok (.aload_n 0, 1) := by decide +kernel
theorem dG_admitsSign_1 : decode prog_3_method_5_code 1 = .ok (.getfield 18, 3) := by decide +kernel
theorem dG_admitsSign_4 : decode prog_3_method_5_code 4 = .ok (.ifCond .ne 13, 3) := by decide +kernel
theorem dG_admitsSign_7 : decode prog_3_method_5_code 7 = .ok (.aload_n 0, 1) := by decide +kernel
theorem dG_admitsSign_8 : decode prog_3_method_5_code 8 = .ok (.dup, 1) := by decide +kernel
theorem dG_admitsSign_9 : decode prog_3_method_5_code 9 = .ok (.getfield 15, 3) := by decide +kernel
theorem dG_admitsSign_12 : decode prog_3_method_5_code 12 = .ok (.iconst 1, 1) := by decide +kernel
theorem dG_admitsSign_13 : decode prog_3_method_5_code 13 = .ok (.iadd, 1) := by decide +kernel
theorem dG_admitsSign_14 : decode prog_3_method_5_code 14 = .ok (.putfield 15, 3) := by decide +kernel
theorem dG_admitsSign_17 : decode prog_3_method_5_code 17 = .ok (.aload_n 0, 1) := by decide +kernel
theorem dG_admitsSign_18 : decode prog_3_method_5_code 18 = .ok (.dup, 1) := by decide +kernel
theorem dG_admitsSign_19 : decode prog_3_method_5_code 19 = .ok (.getfield 18, 3) := by decide +kernel
theorem dG_admitsSign_22 : decode prog_3_method_5_code 22 = .ok (.iconst 1, 1) := by decide +kernel
theorem dG_admitsSign_23 : decode prog_3_method_5_code 23 = .ok (.iadd, 1) := by decide +kernel
theorem dG_admitsSign_24 : decode prog_3_method_5_code 24 = .ok (.putfield 18, 3) := by decide +kernel
theorem dG_admitsSign_27 : decode prog_3_method_5_code 27 = .ok (.aload_n 0, 1) := by decide +kernel
theorem dG_admitsSign_28 : decode prog_3_method_5_code 28 = .ok (.getfield 15, 3) := by decide +kernel
theorem dG_admitsSign_31 : decode prog_3_method_5_code 31 = .ok (.bipush 8, 2) := by decide +kernel
theorem dG_admitsSign_33 : decode prog_3_method_5_code 33 = .ok (.if_icmp .gt 16, 3) := by decide +kernel
theorem dG_admitsSign_36 : decode prog_3_method_5_code 36 = .ok (.aload_n 0, 1) := by decide +kernel
theorem dG_admitsSign_37 : decode prog_3_method_5_code 37 = .ok (.getfield 18, 3) := by decide +kernel
theorem dG_admitsSign_40 : decode prog_3_method_5_code 40 = .ok (.bipush 8, 2) := by decide +kernel
theorem dG_admitsSign_42 : decode prog_3_method_5_code 42 = .ok (.if_icmp .gt 7, 3) := by decide +kernel
theorem dG_admitsSign_45 : decode prog_3_method_5_code 45 = .ok (.iconst 1, 1) := by decide +kernel
theorem dG_admitsSign_46 : decode prog_3_method_5_code 46 = .ok (.goto 4, 3) := by decide +kernel
theorem dG_admitsSign_49 : decode prog_3_method_5_code 49 = .ok (.iconst 0, 1) := by decide +kernel
theorem dG_admitsSign_50 : decode prog_3_method_5_code 50 = .ok (.ireturn, 1) := by decide +kernel
theorem dG_admitsEquals_0 : decode prog_3_method_6_code 0 = .ok (.aload_n 0, 1) := by decide +kernel
theorem dG_admitsEquals_1 : decode prog_3_method_6_code 1 = .ok (.getfield 24, 3) := by decide +kernel
theorem dG_admitsEquals_4 : decode prog_3_method_6_code 4 = .ok (.ifCond .eq 5, 3) := by decide +kernel
theorem dG_admitsEquals_7 : decode prog_3_method_6_code 7 = .ok (.iconst 0, 1) := by decide +kernel
theorem dG_admitsEquals_8 : decode prog_3_method_6_code 8 = .ok (.ireturn, 1) := by decide +kernel
theorem dG_admitsEquals_9 : decode prog_3_method_6_code 9 = .ok (.aload_n 0, 1) := by decide +kernel
theorem dG_admitsEquals_10 : decode prog_3_method_6_code 10 = .ok (.iconst 1, 1) := by decide +kernel
theorem dG_admitsEquals_11 : decode prog_3_method_6_code 11 = .ok (.putfield 24, 3) := by decide +kernel
theorem dG_admitsEquals_14 : decode prog_3_method_6_code 14 = .ok (.aload_n 0, 1) := by decide +kernel
theorem dG_admitsEquals_15 : decode prog_3_method_6_code 15 = .ok (.invokevirtual 48, 3) := by decide +kernel
theorem dG_admitsEquals_18 : decode prog_3_method_6_code 18 = .ok (.ireturn, 1) := by decide +kernel
theorem dG_endsWord_0 : decode prog_3_method_7_code 0 = .ok (.aload_n 0, 1) := by decide +kernel
theorem dG_endsWord_1 : decode prog_3_method_7_code 1 = .ok (.getfield 18, 3) := by decide +kernel
theorem dG_endsWord_4 : decode prog_3_method_7_code 4 = .ok (.ifCond .le 7, 3) := by decide +kernel
theorem dG_endsWord_7 : decode prog_3_method_7_code 7 = .ok (.iconst 1, 1) := by decide +kernel
theorem dG_endsWord_8 : decode prog_3_method_7_code 8 = .ok (.goto 4, 3) := by decide +kernel
theorem dG_endsWord_11 : decode prog_3_method_7_code 11 = .ok (.iconst 0, 1) := by decide +kernel
theorem dG_endsWord_12 : decode prog_3_method_7_code 12 = .ok (.istore_n 1, 1) := by decide +kernel
theorem dG_endsWord_13 : decode prog_3_method_7_code 13 = .ok (.aload_n 0, 1) := by decide +kernel
theorem dG_endsWord_14 : decode prog_3_method_7_code 14 = .ok (.iconst 0, 1) := by decide +kernel
theorem dG_endsWord_15 : decode prog_3_method_7_code 15 = .ok (.putfield 18, 3) := by decide +kernel
theorem dG_endsWord_18 : decode prog_3_method_7_code 18 = .ok (.iload_n 1, 1) := by decide +kernel
theorem dG_endsWord_19 : decode prog_3_method_7_code 19 = .ok (.ireturn, 1) := by decide +kernel
