theorem dW_init_0 : decode prog_6_method_1_code 0 = .ok (.aload_n 0, 1) := by decide +kernel
theorem dW_init_1 : decode prog_6_method_1_code 1 = .ok (.invokespecial 3, 3) := by decide +kernel
theorem dW_init_4 : decode prog_6_method_1_code 4 = .ok (.aload_n 0, 1) := by decide +kernel
theorem dW_init_5 : decode prog_6_method_1_code 5 = .ok (.bipush 8, 2) := by decide +kernel
theorem dW_init_7 : decode prog_6_method_1_code 7 = .ok (.newarray .int, 2) := by decide +kernel
theorem dW_init_9 : decode prog_6_method_1_code 9 = .ok (.putfield 9, 3) := by decide +kernel
theorem dW_init_12 : decode prog_6_method_1_code 12 = .ok (.aload_n 0, 1) := by decide +kernel
theorem dW_init_13 : decode prog_6_method_1_code 13 = .ok (.iconst 0, 1) := by decide +kernel
theorem dW_init_14 : decode prog_6_method_1_code 14 = .ok (.putfield 15, 3) := by decide +kernel
theorem dW_init_17 : decode prog_6_method_1_code 17 = .ok (.aload_n 0, 1) := by decide +kernel
theorem dW_init_18 : decode prog_6_method_1_code 18 = .ok (.iconst 0, 1) := by decide +kernel
theorem dW_init_19 : decode prog_6_method_1_code 19 = .ok (.putfield 19, 3) := by decide +kernel
theorem dW_init_22 : decode prog_6_method_1_code 22 = .ok (.aload_n 0, 1) := by decide +kernel
theorem dW_init_23 : decode prog_6_method_1_code 23 = .ok (.iconst 0, 1) := by decide +kernel
theorem dW_init_24 : decode prog_6_method_1_code 24 = .ok (.putfield 22, 3) := by decide +kernel
theorem dW_init_27 : decode prog_6_method_1_code 27 = .ok (.aload_n 0, 1) := by decide +kernel
theorem dW_init_28 : decode prog_6_method_1_code 28 = .ok (.iload_n 1, 1) := by decide +kernel
theorem dW_init_29 : decode prog_6_method_1_code 29 = .ok (.putfield 26, 3) := by decide +kernel
theorem dW_init_32 : decode prog_6_method_1_code 32 = .ok (.return_, 1) := by decide +kernel
theorem dW_weigh_0 : decode prog_6_method_2_code 0 = .ok (.aload_n 0, 1) := by decide +kernel
theorem dW_weigh_1 : decode prog_6_method_2_code 1 = .ok (.getfield 9, 3) := by decide +kernel
theorem dW_weigh_4 : decode prog_6_method_2_code 4 = .ok (.iconst 0, 1) := by decide +kernel
theorem dW_weigh_5 : decode prog_6_method_2_code 5 = .ok (.invokestatic 29, 3) := by decide +kernel
theorem dW_weigh_8 : decode prog_6_method_2_code 8 = .ok (.aload_n 0, 1) := by decide +kernel
theorem dW_weigh_9 : decode prog_6_method_2_code 9 = .ok (.iconst 0, 1) := by decide +kernel
theorem dW_weigh_10 : decode prog_6_method_2_code 10 = .ok (.putfield 15, 3) := by decide +kernel
theorem dW_weigh_13 : decode prog_6_method_2_code 13 = .ok (.aload_n 0, 1) := by decide +kernel
theorem dW_weigh_14 : decode prog_6_method_2_code 14 = .ok (.iconst 0, 1) := by decide +kernel
theorem dW_weigh_15 : decode prog_6_method_2_code 15 = .ok (.putfield 19, 3) := by decide +kernel
theorem dW_weigh_18 : decode prog_6_method_2_code 18 = .ok (.aload_n 0, 1) := by decide +kernel
theorem dW_weigh_19 : decode prog_6_method_2_code 19 = .ok (.iconst 0, 1) := by decide +kernel
theorem dW_weigh_20 : decode prog_6_method_2_code 20 = .ok (.putfield 22, 3) := by decide +kernel
theorem dW_weigh_23 : decode prog_6_method_2_code 23 = .ok (.iconst 0, 1) := by decide +kernel
theorem dW_weigh_24 : decode prog_6_method_2_code 24 = .ok (.istore_n 2, 1) := by decide +kernel
theorem dW_weigh_25 : decode prog_6_method_2_code 25 = .ok (.iload_n 2, 1) := by decide +kernel
theorem dW_weigh_26 : decode prog_6_method_2_code 26 = .ok (.aload_n 1, 1) := by decide +kernel
theorem dW_weigh_27 : decode prog_6_method_2_code 27 = .ok (.getfield 35, 3) := by decide +kernel
theorem dW_weigh_30 : decode prog_6_method_2_code 30 = .ok (.if_icmp .ge 43, 3) := by decide +kernel
theorem dW_weigh_33 : decode prog_6_method_2_code 33 = .ok (.aload_n 0, 1) := by decide +kernel
theorem dW_weigh_34 : decode prog_6_method_2_code 34 = .ok (.aload_n 1, 1) := by decide +kernel
theorem dW_weigh_35 : decode prog_6_method_2_code 35 = .ok (.iload_n 2, 1) := by decide +kernel
theorem dW_weigh_36 : decode prog_6_method_2_code 36 = .ok (.invokevirtual 40, 3) := by decide +kernel
theorem dW_weigh_39 : decode prog_6_method_2_code 39 = .ok (.aload_n 1, 1) := by decide +kernel
theorem dW_weigh_40 : decode prog_6_method_2_code 40 = .ok (.getfield 44, 3) := by decide +kernel
theorem dW_weigh_43 : decode prog_6_method_2_code 43 = .ok (.iload_n 2, 1) := by decide +kernel
theorem dW_weigh_44 : decode prog_6_method_2_code 44 = .ok (.iaload, 1) := by decide +kernel
theorem dW_weigh_45 : decode prog_6_method_2_code 45 = .ok (.aload_n 1, 1) := by decide +kernel
theorem dW_weigh_46 : decode prog_6_method_2_code 46 = .ok (.getfield 47, 3) := by decide +kernel
theorem dW_weigh_49 : decode prog_6_method_2_code 49 = .ok (.iload_n 2, 1) := by decide +kernel
theorem dW_weigh_50 : decode prog_6_method_2_code 50 = .ok (.iaload, 1) := by decide +kernel
theorem dW_weigh_51 : decode prog_6_method_2_code 51 = .ok (.isub, 1) := by decide +kernel
theorem dW_weigh_52 : decode prog_6_method_2_code 52 = .ok (.iconst 1, 1) := by decide +kernel
theorem dW_weigh_53 : decode prog_6_method_2_code 53 = .ok (.if_icmp .le 14, 3) := by decide +kernel
theorem dW_weigh_56 : decode prog_6_method_2_code 56 = .ok (.aload_n 0, 1) := by decide +kernel
theorem dW_weigh_57 : decode prog_6_method_2_code 57 = .ok (.aload_n 1, 1) := by decide +kernel
theorem dW_weigh_58 : decode prog_6_method_2_code 58 = .ok (.aload_n 1, 1) := by decide +kernel
theorem dW_weigh_59 : decode prog_6_method_2_code 59 = .ok (.getfield 47, 3) := by decide +kernel
theorem dW_weigh_62 : decode prog_6_method_2_code 62 = .ok (.iload_n 2, 1) := by decide +kernel
theorem dW_weigh_63 : decode prog_6_method_2_code 63 = .ok (.iaload, 1) := by decide +kernel
theorem dW_weigh_64 : decode prog_6_method_2_code 64 = .ok (.invokevirtual 50, 3) := by decide +kernel
theorem dW_weigh_67 : decode prog_6_method_2_code 67 = .ok (.iinc 2 1, 3) := by decide +kernel
theorem dW_weigh_70 : decode prog_6_method_2_code 70 = .ok (.goto (-45), 3) := by decide +kernel
theorem dW_weigh_73 : decode prog_6_method_2_code 73 = .ok (.return_, 1) := by decide +kernel
theorem dW_weighWord_0 : decode prog_6_method_3_code 0 = .ok (.aload_n 1, 1) := by decide +kernel
theorem dW_weighWord_1 : decode prog_6_method_3_code 1 = .ok (.iload_n 2, 1) := by decide +kernel
theorem dW_weighWord_2 : decode prog_6_method_3_code 2 = .ok (.invokevirtual 53, 3) := by decide +kernel
theorem dW_weighWord_5 : decode prog_6_method_3_code 5 = .ok (.aload_n 1, 1) := by decide +kernel
theorem dW_weighWord_6 : decode prog_6_method_3_code 6 = .ok (.iload_n 2, 1) := by decide +kernel
theorem dW_weighWord_7 : decode prog_6_method_3_code 7 = .ok (.invokevirtual 57, 3) := by decide +kernel
theorem dW_weighWord_10 : decode prog_6_method_3_code 10 = .ok (.if_icmp .ne 7, 3) := by decide +kernel
theorem dW_weighWord_13 : decode prog_6_method_3_code 13 = .ok (.iconst 1, 1) := by decide +kernel
theorem dW_weighWord_14 : decode prog_6_method_3_code 14 = .ok (.goto 4, 3) := by decide +kernel
theorem dW_weighWord_17 : decode prog_6_method_3_code 17 = .ok (.iconst (-1), 1) := by decide +kernel
theorem dW_weighWord_18 : decode prog_6_method_3_code 18 = .ok (.istore_n 3, 1) := by decide +kernel
theorem dW_weighWord_19 : decode prog_6_method_3_code 19 = .ok (.aload_n 1, 1) := by decide +kernel
theorem dW_weighWord_20 : decode prog_6_method_3_code 20 = .ok (.getfield 44, 3) := by decide +kernel
theorem dW_weighWord_23 : decode prog_6_method_3_code 23 = .ok (.iload_n 2, 1) := by decide +kernel
theorem dW_weighWord_24 : decode prog_6_method_3_code 24 = .ok (.iaload, 1) := by decide +kernel
theorem dW_weighWord_25 : decode prog_6_method_3_code 25 = .ok (.iconst 1, 1) := by decide +kernel
theorem dW_weighWord_26 : decode prog_6_method_3_code 26 = .ok (.isub, 1) := by decide +kernel
theorem dW_weighWord_27 : decode prog_6_method_3_code 27 = .ok (.istore 4, 2) := by decide +kernel
theorem dW_weighWord_29 : decode prog_6_method_3_code 29 = .ok (.iload 4, 2) := by decide +kernel
theorem dW_weighWord_31 : decode prog_6_method_3_code 31 = .ok (.aload_n 1, 1) := by decide +kernel
theorem dW_weighWord_32 : decode prog_6_method_3_code 32 = .ok (.getfield 47, 3) := by decide +kernel
theorem dW_weighWord_35 : decode prog_6_method_3_code 35 = .ok (.iload_n 2, 1) := by decide +kernel
theorem dW_weighWord_36 : decode prog_6_method_3_code 36 = .ok (.iaload, 1) := by decide +kernel
theorem dW_weighWord_37 : decode prog_6_method_3_code 37 = .ok (.if_icmp .lt 68, 3) := by decide +kernel
theorem dW_weighWord_40 : decode prog_6_method_3_code 40 = .ok (.aload_n 1, 1) := by decide +kernel
theorem dW_weighWord_41 : decode prog_6_method_3_code 41 = .ok (.iload 4, 2) := by decide +kernel
theorem dW_weighWord_43 : decode prog_6_method_3_code 43 = .ok (.invokevirtual 60, 3) := by decide +kernel
theorem dW_weighWord_46 : decode prog_6_method_3_code 46 = .ok (.istore 5, 2) := by decide +kernel
theorem dW_weighWord_48 : decode prog_6_method_3_code 48 = .ok (.aload_n 1, 1) := by decide +kernel
theorem dW_weighWord_49 : decode prog_6_method_3_code 49 = .ok (.iload 5, 2) := by decide +kernel
theorem dW_weighWord_51 : decode prog_6_method_3_code 51 = .ok (.invokevirtual 64, 3) := by decide +kernel
theorem dW_weighWord_54 : decode prog_6_method_3_code 54 = .ok (.istore 6, 2) := by decide +kernel
theorem dW_weighWord_56 : decode prog_6_method_3_code 56 = .ok (.iload 6, 2) := by decide +kernel
theorem dW_weighWord_58 : decode prog_6_method_3_code 58 = .ok (.iconst (-1), 1) := by decide +kernel
theorem dW_weighWord_59 : decode prog_6_method_3_code 59 = .ok (.if_icmp .ne 22, 3) := by decide +kernel
theorem dW_weighWord_62 : decode prog_6_method_3_code 62 = .ok (.aload_n 0, 1) := by decide +kernel
theorem dW_weighWord_63 : decode prog_6_method_3_code 63 = .ok (.dup, 1) := by decide +kernel
theorem dW_weighWord_64 : decode prog_6_method_3_code 64 = .ok (.getfield 15, 3) := by decide +kernel
theorem dW_weighWord_67 : decode prog_6_method_3_code 67 = .ok (.iload_n 3, 1) := by decide +kernel
theorem dW_weighWord_68 : decode prog_6_method_3_code 68 = .ok (.iload 5, 2) := by decide +kernel
theorem dW_weighWord_70 : decode prog_6_method_3_code 70 = .ok (.bipush 48, 2) := by decide +kernel
theorem dW_weighWord_72 : decode prog_6_method_3_code 72 = .ok (.isub, 1) := by decide +kernel
theorem dW_weighWord_73 : decode prog_6_method_3_code 73 = .ok (.imul, 1) := by decide +kernel
theorem dW_weighWord_74 : decode prog_6_method_3_code 74 = .ok (.iadd, 1) := by decide +kernel
theorem dW_weighWord_75 : decode prog_6_method_3_code 75 = .ok (.putfield 15, 3) := by decide +kernel
theorem dW_weighWord_78 : decode prog_6_method_3_code 78 = .ok (.goto 14, 3) := by decide +kernel
theorem dW_weighWord_81 : decode prog_6_method_3_code 81 = .ok (.aload_n 0, 1) := by decide +kernel
theorem dW_weighWord_82 : decode prog_6_method_3_code 82 = .ok (.getfield 9, 3) := by decide +kernel
theorem dW_weighWord_85 : decode prog_6_method_3_code 85 = .ok (.iload 6, 2) := by decide +kernel
theorem dW_weighWord_87 : decode prog_6_method_3_code 87 = .ok (.dup2, 1) := by decide +kernel
theorem dW_weighWord_88 : decode prog_6_method_3_code 88 = .ok (.iaload, 1) := by decide +kernel
theorem dW_weighWord_89 : decode prog_6_method_3_code 89 = .ok (.iload_n 3, 1) := by decide +kernel
theorem dW_weighWord_90 : decode prog_6_method_3_code 90 = .ok (.iadd, 1) := by decide +kernel
theorem dW_weighWord_91 : decode prog_6_method_3_code 91 = .ok (.iastore, 1) := by decide +kernel
theorem dW_weighWord_92 : decode prog_6_method_3_code 92 = .ok (.iload_n 3, 1) := by decide +kernel
theorem dW_weighWord_93 : decode prog_6_method_3_code 93 = .ok (.aload_n 0, 1) := by decide +kernel
theorem dW_weighWord_94 : decode prog_6_method_3_code 94 = .ok (.getfield 26, 3) := by decide +kernel
theorem dW_weighWord_97 : decode prog_6_method_3_code 97 = .ok (.imul, 1) := by decide +kernel
theorem dW_weighWord_98 : decode prog_6_method_3_code 98 = .ok (.istore_n 3, 1) := by decide +kernel
theorem dW_weighWord_99 : decode prog_6_method_3_code 99 = .ok (.iinc 4 (-1), 3) := by decide +kernel
theorem dW_weighWord_102 : decode prog_6_method_3_code 102 = .ok (.goto (-73), 3) := by decide +kernel
theorem dW_weighWord_105 : decode prog_6_method_3_code 105 = .ok (.return_, 1) := by decide +kernel
theorem dW_noteFront_0 : decode prog_6_method_4_code 0 = .ok (.aload_n 1, 1) := by decide +kernel
theorem dW_noteFront_1 : decode prog_6_method_4_code 1 = .ok (.aload_n 1, 1) := by decide +kernel
theorem dW_noteFront_2 : decode prog_6_method_4_code 2 = .ok (.iload_n 2, 1) := by decide +kernel
theorem dW_noteFront_3 : decode prog_6_method_4_code 3 = .ok (.invokevirtual 60, 3) := by decide +kernel
theorem dW_noteFront_6 : decode prog_6_method_4_code 6 = .ok (.invokevirtual 64, 3) := by decide +kernel
theorem dW_noteFront_9 : decode prog_6_method_4_code 9 = .ok (.istore_n 3, 1) := by decide +kernel
theorem dW_noteFront_10 : decode prog_6_method_4_code 10 = .ok (.iload_n 3, 1) := by decide +kernel
theorem dW_noteFront_11 : decode prog_6_method_4_code 11 = .ok (.iconst (-1), 1) := by decide +kernel
theorem dW_noteFront_12 : decode prog_6_method_4_code 12 = .ok (.if_icmp .eq 18, 3) := by decide +kernel
theorem dW_noteFront_15 : decode prog_6_method_4_code 15 = .ok (.aload_n 0, 1) := by decide +kernel
theorem dW_noteFront_16 : decode prog_6_method_4_code 16 = .ok (.dup, 1) := by decide +kernel
theorem dW_noteFront_17 : decode prog_6_method_4_code 17 = .ok (.getfield 19, 3) := by decide +kernel
theorem dW_noteFront_20 : decode prog_6_method_4_code 20 = .ok (.iconst 1, 1) := by decide +kernel
theorem dW_noteFront_21 : decode prog_6_method_4_code 21 = .ok (.iload_n 3, 1) := by decide +kernel
theorem dW_noteFront_22 : decode prog_6_method_4_code 22 = .ok (.ishl, 1) := by decide +kernel
theorem dW_noteFront_23 : decode prog_6_method_4_code 23 = .ok (.ior, 1) := by decide +kernel
theorem dW_noteFront_24 : decode prog_6_method_4_code 24 = .ok (.putfield 19, 3) := by decide +kernel
theorem dW_noteFront_27 : decode prog_6_method_4_code 27 = .ok (.goto 18, 3) := by decide +kernel
theorem dW_noteFront_30 : decode prog_6_method_4_code 30 = .ok (.aload_n 1, 1) := by decide +kernel
theorem dW_noteFront_31 : decode prog_6_method_4_code 31 = .ok (.iload_n 2, 1) := by decide +kernel
theorem dW_noteFront_32 : decode prog_6_method_4_code 32 = .ok (.invokevirtual 60, 3) := by decide +kernel
theorem dW_noteFront_35 : decode prog_6_method_4_code 35 = .ok (.bipush 48, 2) := by decide +kernel
theorem dW_noteFront_37 : decode prog_6_method_4_code 37 = .ok (.if_icmp .ne 8, 3) := by decide +kernel
theorem dW_noteFront_40 : decode prog_6_method_4_code 40 = .ok (.aload_n 0, 1) := by decide +kernel
theorem dW_noteFront_41 : decode prog_6_method_4_code 41 = .ok (.iconst 1, 1) := by decide +kernel
theorem dW_noteFront_42 : decode prog_6_method_4_code 42 = .ok (.putfield 22, 3) := by decide +kernel
theorem dW_noteFront_45 : decode prog_6_method_4_code 45 = .ok (.return_, 1) := by decide +kernel
theorem dW_isFront_0 : decode prog_6_method_5_code 0 = .ok (.aload_n 0, 1) := by decide +kernel
theorem dW_isFront_1 : decode prog_6_method_5_code 1 = .ok (.getfield 19, 3) := by decide +kernel
theorem dW_isFront_4 : decode prog_6_method_5_code 4 = .ok (.iload_n 1, 1) := by decide +kernel
theorem dW_isFront_5 : decode prog_6_method_5_code 5 = .ok (.ishr, 1) := by decide +kernel
theorem dW_isFront_6 : decode prog_6_method_5_code 6 = .ok (.iconst 1, 1) := by decide +kernel
theorem dW_isFront_7 : decode prog_6_method_5_code 7 = .ok (.iand, 1) := by decide +kernel
theorem dW_isFront_8 : decode prog_6_method_5_code 8 = .ok (.iconst 1, 1) := by decide +kernel
theorem dW_isFront_9 : decode prog_6_method_5_code 9 = .ok (.if_icmp .ne 7, 3) := by decide +kernel
theorem dW_isFront_12 : decode prog_6_method_5_code 12 = .ok (.iconst 1, 1) := by decide +kernel
theorem dW_isFront_13 : decode prog_6_method_5_code 13 = .ok (.goto 4, 3) := by decide +kernel
theorem dW_isFront_16 : decode prog_6_method_5_code 16 = .ok (.iconst 0, 1) := by decide +kernel
theorem dW_isFront_17 : decode prog_6_method_5_code 17 = .ok (.ireturn, 1) := by decide +kernel
theorem dA_init_0 : decode prog_2_method_1_code 0 = .ok (.aload_n 0, 1) := by decide +kernel
theorem dA_init_1 : decode prog_2_method_1_code 1 = .ok (.invokespecial 3, 3) := by decide +kernel
theorem dA_init_4 : decode prog_2_method_1_code 4 = .ok (.aload_n 0, 1) := by decide +kernel
theorem dA_init_5 : decode prog_2_method_1_code 5 = .ok (.sipush 1000, 3) := by decide +kernel
theorem dA_init_8 : decode prog_2_method_1_code 8 = .ok (.newarray .int, 2) := by decide +kernel
theorem dA_init_10 : decode prog_2_method_1_code 10 = .ok (.putfield 9, 3) := by decide +kernel
theorem dA_init_13 : decode prog_2_method_1_code 13 = .ok (.aload_n 0, 1) := by decide +kernel
theorem dA_init_14 : decode prog_2_method_1_code 14 = .ok (.iconst 0, 1) := by decide +kernel
theorem dA_init_15 : decode prog_2_method_1_code 15 = .ok (.putfield 15, 3) := by decide +kernel
theorem dA_init_18 : decode prog_2_method_1_code 18 = .ok (.aload_n 0, 1) := by decide +kernel
theorem dA_init_19 : decode prog_2_method_1_code 19 = .ok (.iconst 0, 1) := by decide +kernel
theorem dA_init_20 : decode prog_2_method_1_code 20 = .ok (.putfield 19, 3) := by decide +kernel
theorem dA_init_23 : decode prog_2_method_1_code 23 = .ok (.return_, 1) := by decide +kernel
theorem dA_forget_0 : decode prog_2_method_2_code 0 = .ok (.aload_n 0, 1) := by decide +kernel
theorem dA_forget_1 : decode prog_2_method_2_code 1 = .ok (.iconst 0, 1) := by decide +kernel
theorem dA_forget_2 : decode prog_2_method_2_code 2 = .ok (.putfield 15, 3) := by decide +kernel
theorem dA_forget_5 : decode prog_2_method_2_code 5 = .ok (.aload_n 0, 1) := by decide +kernel
theorem dA_forget_6 : decode prog_2_method_2_code 6 = .ok (.iconst 0, 1) := by decide +kernel
theorem dA_forget_7 : decode prog_2_method_2_code 7 = .ok (.putfield 19, 3) := by decide +kernel
theorem dA_forget_10 : decode prog_2_method_2_code 10 = .ok (.return_, 1) := by decide +kernel
theorem dA_add_0 : decode prog_2_method_3_code 0 = .ok (.aload_n 0, 1) := by decide +kernel
theorem dA_add_1 : decode prog_2_method_3_code 1 = .ok (.invokevirtual 23, 3) := by decide +kernel
theorem dA_add_4 : decode prog_2_method_3_code 4 = .ok (.ifCond .ne 23, 3) := by decide +kernel
theorem dA_add_7 : decode prog_2_method_3_code 7 = .ok (.aload_n 0, 1) := by decide +kernel
theorem dA_add_8 : decode prog_2_method_3_code 8 = .ok (.getfield 9, 3) := by decide +kernel
theorem dA_add_11 : decode prog_2_method_3_code 11 = .ok (.aload_n 0, 1) := by decide +kernel
theorem dA_add_12 : decode prog_2_method_3_code 12 = .ok (.getfield 15, 3) := by decide +kernel
theorem dA_add_15 : decode prog_2_method_3_code 15 = .ok (.iload_n 1, 1) := by decide +kernel
theorem dA_add_16 : decode prog_2_method_3_code 16 = .ok (.iastore, 1) := by decide +kernel
theorem dA_add_17 : decode prog_2_method_3_code 17 = .ok (.aload_n 0, 1) := by decide +kernel
theorem dA_add_18 : decode prog_2_method_3_code 18 = .ok (.dup, 1) := by decide +kernel
theorem dA_add_19 : decode prog_2_method_3_code 19 = .ok (.getfield 15, 3) := by decide +kernel
theorem dA_add_22 : decode prog_2_method_3_code 22 = .ok (.iconst 1, 1) := by decide +kernel
theorem dA_add_23 : decode prog_2_method_3_code 23 = .ok (.iadd, 1) := by decide +kernel
theorem dA_add_24 : decode prog_2_method_3_code 24 = .ok (.putfield 15, 3) := by decide +kernel
theorem dA_add_27 : decode prog_2_method_3_code 27 = .ok (.return_, 1) := by decide +kernel
theorem dA_isFull_0 : decode prog_2_method_4_code 0 = .ok (.aload_n 0, 1) := by decide +kernel
theorem dA_isFull_1 : decode prog_2_method_4_code 1 = .ok (.getfield 15, 3) := by decide +kernel
theorem dA_isFull_4 : decode prog_2_method_4_code 4 = .ok (.aload_n 0, 1) := by decide +kernel
theorem dA_isFull_5 : decode prog_2_method_4_code 5 = .ok (.getfield 9, 3) := by decide +kernel
theorem dA_isFull_8 : decode prog_2_method_4_code 8 = .ok (.arraylength, 1) := by decide +kernel
theorem dA_isFull_9 : decode prog_2_method_4_code 9 = .ok (.if_icmp .lt 7, 3) := by decide +kernel
theorem dA_isFull_12 : decode prog_2_method_4_code 12 = .ok (.iconst 1, 1) := by decide +kernel
theorem dA_isFull_13 : decode prog_2_method_4_code 13 = .ok (.goto 4, 3) := by decide +kernel
theorem dA_isFull_16 : decode prog_2_method_4_code 16 = .ok (.iconst 0, 1) := by decide +kernel
theorem dA_isFull_17 : decode prog_2_method_4_code 17 = .ok (.ireturn, 1) := by decide +kernel
theorem dA_get_0 : decode prog_2_method_5_code 0 = .ok (.iload_n 1, 1) := by decide +kernel
theorem dA_get_1 : decode prog_2_method_5_code 1 = .ok (.ifCond .lt 20, 3) := by decide +kernel
theorem dA_get_4 : decode prog_2_method_5_code 4 = .ok (.iload_n 1, 1) := by decide +kernel
theorem dA_get_5 : decode prog_2_method_5_code 5 = .ok (.aload_n 0, 1) := by decide +kernel
theorem dA_get_6 : decode prog_2_method_5_code 6 = .ok (.getfield 15, 3) := by decide +kernel
theorem dA_get_9 : decode prog_2_method_5_code 9 = .ok (.if_icmp .ge 12, 3) := by decide +kernel
theorem dA_get_12 : decode prog_2_method_5_code 12 = .ok (.aload_n 0, 1) := by decide +kernel
theorem dA_get_13 : decode prog_2_method_5_code 13 = .ok (.getfield 9, 3) := by decide +kernel
theorem dA_get_16 : decode prog_2_method_5_code 16 = .ok (.iload_n 1, 1) := by decide +kernel
theorem dA_get_17 : decode prog_2_method_5_code 17 = .ok (.iaload, 1) := by decide +kernel
theorem dA_get_18 : decode prog_2_method_5_code 18 = .ok (.goto 4, 3) := by decide +kernel
theorem dA_get_21 : decode prog_2_method_5_code 21 = .ok (.iconst 0, 1) := by decide +kernel
theorem dA_get_22 : decode prog_2_method_5_code 22 = .ok (.ireturn, 1) := by decide +kernel
theorem dJM_floorMod_0 : decode prog_10_method_50_code 0 = .ok (.iload_n 0, 1) := by decide +kernel
theorem dJM_floorMod_1 : decode prog_10_method_50_code 1 = .ok (.iload_n 1, 1) := by decide +kernel
theorem dJM_floorMod_2 : decode prog_10_method_50_code 2 = .ok (.irem, 1) := by decide +kernel
theorem dJM_floorMod_3 : decode prog_10_method_50_code 3 = .ok (.istore_n 2, 1) := by decide +kernel
theorem dJM_floorMod_4 : decode prog_10_method_50_code 4 = .ok (.iload_n 0, 1) := by decide +kernel
theorem dJM_floorMod_5 : decode prog_10_method_50_code 5 = .ok (.iload_n 1, 1) := by decide +kernel
theorem dJM_floorMod_6 : decode prog_10_method_50_code 6 = .ok (.ixor, 1) := by decide +kernel
theorem dJM_floorMod_7 : decode prog_10_method_50_code 7 = .ok (.ifCond .ge 11, 3) := by decide +kernel
theorem dJM_floorMod_10 : decode prog_10_method_50_code 10 = .ok (.iload_n 2, 1) := by decide +kernel
theorem dJM_floorMod_11 : decode prog_10_method_50_code 11 = .ok (.ifCond .eq 7, 3) := by decide +kernel
theorem dJM_floorMod_14 : decode prog_10_method_50_code 14 = .ok (.iload_n 2, 1) := by decide +kernel
theorem dJM_floorMod_15 : decode prog_10_method_50_code 15 = .ok (.iload_n 1, 1) := by decide +kernel
theorem dJM_floorMod_16 : decode prog_10_method_50_code 16 = .ok (.iadd, 1) := by decide +kernel
theorem dJM_floorMod_17 : decode prog_10_method_50_code 17 = .ok (.ireturn, 1) := by decide +kernel
theorem dJM_floorMod_18 : decode prog_10_method_50_code 18 = .ok (.iload_n 2, 1) := by decide +kernel
theorem dJM_floorMod_19 : decode prog_10_method_50_code 19 = .ok (.ireturn, 1) := by decide +kernel
theorem dJM_max_0 : decode prog_10_method_65_code 0 = .ok (.iload_n 0, 1) := by decide +kernel
theorem dJM_max_1 : decode prog_10_method_65_code 1 = .ok (.iload_n 1, 1) := by decide +kernel
theorem dJM_max_2 : decode prog_10_method_65_code 2 = .ok (.if_icmp .lt 7, 3) := by decide +kernel
theorem dJM_max_5 : decode prog_10_method_65_code 5 = .ok (.iload_n 0, 1) := by decide +kernel
theorem dJM_max_6 : decode prog_10_method_65_code 6 = .ok (.goto 4, 3) := by decide +kernel
theorem dJM_max_9 : decode prog_10_method_65_code 9 = .ok (.iload_n 1, 1) := by decide +kernel
theorem dJM_max_10 : decode prog_10_method_65_code 10 = .ok (.ireturn, 1) := by decide +kernel
theorem dJM_min_0 : decode prog_10_method_69_code 0 = .ok (.iload_n 0, 1) := by decide +kernel
theorem dJM_min_1 : decode prog_10_method_69_code 1 = .ok (.iload_n 1, 1) := by decide +kernel
theorem dJM_min_2 : decode prog_10_method_69_code 2 = .ok (.if_icmp .gt 7, 3) := by decide +kernel
theorem dJM_min_5 : decode prog_10_method_69_code 5 = .ok (.iload_n 0, 1) := by decide +kernel
theorem dJM_min_6 : decode prog_10_method_69_code 6 = .ok (.goto 4, 3) := by decide +kernel
theorem dJM_min_9 : decode prog_10_method_69_code 9 = .ok (.iload_n 1, 1) := by decide +kernel
theorem dJM_min_10 : decode prog_10_method_69_code 10 = .ok (.ireturn, 1) := by decide +kernel
theorem dJI_bitCount_0 : decode prog_9_method_49_code 0 = .ok (.iload_n 0, 1) := by decide +kernel
theorem dJI_bitCount_1 : decode prog_9_method_49_code 1 = .ok (.iload_n 0, 1) := by decide +kernel
theorem dJI_bitCount_2 : decode prog_9_method_49_code 2 = .ok (.iconst 1, 1) := by decide +kernel
theorem dJI_bitCount_3 : decode prog_9_method_49_code 3 = .ok (.iushr, 1) := by decide +kernel
theorem dJI_bitCount_4 : decode prog_9_method_49_code 4 = .ok (.ldc_w 265, 3) := by decide +kernel
theorem dJI_bitCount_7 : decode prog_9_method_49_code 7 = .ok (.iand, 1) := by decide +kernel
theorem dJI_bitCount_8 : decode prog_9_method_49_code 8 = .ok (.isub, 1) := by decide +kernel
theorem dJI_bitCount_9 : decode prog_9_method_49_code 9 = .ok (.istore_n 0, 1) := by decide +kernel
theorem dJI_bitCount_10 : decode prog_9_method_49_code 10 = .ok (.iload_n 0, 1) := by decide +kernel
theorem dJI_bitCount_11 : decode prog_9_method_49_code 11 = .ok (.ldc_w 266, 3) := by decide +kernel
theorem dJI_bitCount_14 : decode prog_9_method_49_code 14 = .ok (.iand, 1) := by decide +kernel
theorem dJI_bitCount_15 : decode prog_9_method_49_code 15 = .ok (.iload_n 0, 1) := by decide +kernel
theorem dJI_bitCount_16 : decode prog_9_method_49_code 16 = .ok (.iconst 2, 1) := by decide +kernel
theorem dJI_bitCount_17 : decode prog_9_method_49_code 17 = .ok (.iushr, 1) := by decide +kernel
theorem dJI_bitCount_18 : decode prog_9_method_49_code 18 = .ok (.ldc_w 266, 3) := by decide +kernel
theorem dJI_bitCount_21 : decode prog_9_method_49_code 21 = .ok (.iand, 1) := by decide +kernel
theorem dJI_bitCount_22 : decode prog_9_method_49_code 22 = .ok (.iadd, 1) := by decide +kernel
theorem dJI_bitCount_23 : decode prog_9_method_49_code 23 = .ok (.istore_n 0, 1) := by decide +kernel
theorem dJI_bitCount_24 : decode prog_9_method_49_code 24 = .ok (.iload_n 0, 1) := by decide +kernel
theorem dJI_bitCount_25 : decode prog_9_method_49_code 25 = .ok (.iload_n 0, 1) := by decide +kernel
theorem dJI_bitCount_26 : decode prog_9_method_49_code 26 = .ok (.iconst 4, 1) := by decide +kernel
theorem dJI_bitCount_27 : decode prog_9_method_49_code 27 = .ok (.iushr, 1) := by decide +kernel
theorem dJI_bitCount_28 : decode prog_9_method_49_code 28 = .ok (.iadd, 1) := by decide +kernel
theorem dJI_bitCount_29 : decode prog_9_method_49_code 29 = .ok (.ldc_w 267, 3) := by decide +kernel
theorem dJI_bitCount_32 : decode prog_9_method_49_code 32 = .ok (.iand, 1) := by decide +kernel
theorem dJI_bitCount_33 : decode prog_9_method_49_code 33 = .ok (.istore_n 0, 1) := by decide +kernel
theorem dJI_bitCount_34 : decode prog_9_method_49_code 34 = .ok (.iload_n 0, 1) := by decide +kernel
theorem dJI_bitCount_35 : decode prog_9_method_49_code 35 = .ok (.iload_n 0, 1) := by decide +kernel
theorem dJI_bitCount_36 : decode prog_9_method_49_code 36 = .ok (.bipush 8, 2) := by decide +kernel
theorem dJI_bitCount_38 : decode prog_9_method_49_code 38 = .ok (.iushr, 1) := by decide +kernel
theorem dJI_bitCount_39 : decode prog_9_method_49_code 39 = .ok (.iadd, 1) := by decide +kernel
theorem dJI_bitCount_40 : decode prog_9_method_49_code 40 = .ok (.istore_n 0, 1) := by decide +kernel
theorem dJI_bitCount_41 : decode prog_9_method_49_code 41 = .ok (.iload_n 0, 1) := by decide +kernel
theorem dJI_bitCount_42 : decode prog_9_method_49_code 42 = .ok (.iload_n 0, 1) := by decide +kernel
theorem dJI_bitCount_43 : decode prog_9_method_49_code 43 = .ok (.bipush 16, 2) := by decide +kernel
theorem dJI_bitCount_45 : decode prog_9_method_49_code 45 = .ok (.iushr, 1) := by decide +kernel
theorem dJI_bitCount_46 : decode prog_9_method_49_code 46 = .ok (.iadd, 1) := by decide +kernel
theorem dJI_bitCount_47 : decode prog_9_method_49_code 47 = .ok (.istore_n 0, 1) := by decide +kernel
theorem dJI_bitCount_48 : decode prog_9_method_49_code 48 = .ok (.iload_n 0, 1) := by decide +kernel
theorem dJI_bitCount_49 : decode prog_9_method_49_code 49 = .ok (.bipush 63, 2) := by decide +kernel
theorem dJI_bitCount_51 : decode prog_9_method_49_code 51 = .ok (.iand, 1) := by decide +kernel
theorem dJI_bitCount_52 : decode prog_9_method_49_code 52 = .ok (.ireturn, 1) := by decide +kernel
theorem dJA_fill_0 : decode prog_11_method_103_code 0 = .ok (.iconst 0, 1) := by decide +kernel
theorem dJA_fill_1 : decode prog_11_method_103_code 1 = .ok (.istore_n 2, 1) := by decide +kernel
theorem dJA_fill_2 : decode prog_11_method_103_code 2 = .ok (.aload_n 0, 1) := by decide +kernel
theorem dJA_fill_3 : decode prog_11_method_103_code 3 = .ok (.arraylength, 1) := by decide +kernel
theorem dJA_fill_4 : decode prog_11_method_103_code 4 = .ok (.istore_n 3, 1) := by decide +kernel
theorem dJA_fill_5 : decode prog_11_method_103_code 5 = .ok (.iload_n 2, 1) := by decide +kernel
theorem dJA_fill_6 : decode prog_11_method_103_code 6 = .ok (.iload_n 3, 1) := by decide +kernel
theorem dJA_fill_7 : decode prog_11_method_103_code 7 = .ok (.if_icmp .ge 13, 3) := by decide +kernel
theorem dJA_fill_10 : decode prog_11_method_103_code 10 = .ok (.aload_n 0, 1) := by decide +kernel
theorem dJA_fill_11 : decode prog_11_method_103_code 11 = .ok (.iload_n 2, 1) := by decide +kernel
theorem dJA_fill_12 : decode prog_11_method_103_code 12 = .ok (.iload_n 1, 1) := by decide +kernel
theorem dJA_fill_13 : decode prog_11_method_103_code 13 = .ok (.iastore, 1) := by decide +kernel
theorem dJA_fill_14 : decode prog_11_method_103_code 14 = .ok (.iinc 2 1, 3) := by decide +kernel
theorem dJA_fill_17 : decode prog_11_method_103_code 17 = .ok (.goto (-12), 3) := by decide +kernel
theorem dJA_fill_20 : decode prog_11_method_103_code 20 = .ok (.return_, 1) := by decide +kernel
