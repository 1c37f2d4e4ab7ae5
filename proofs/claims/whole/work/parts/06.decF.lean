theorem dF_init_0 : decode prog_4_method_1_code 0 = .ok (.aload_n 0, 1) := by decide +kernel
theorem dF_init_1 : decode prog_4_method_1_code 1 = .ok (.invokespecial 3, 3) := by decide +kernel
theorem dF_init_4 : decode prog_4_method_1_code 4 = .ok (.aload_n 0, 1) := by decide +kernel
theorem dF_init_5 : decode prog_4_method_1_code 5 = .ok (.sipush 5040, 3) := by decide +kernel
theorem dF_init_8 : decode prog_4_method_1_code 8 = .ok (.newarray .int, 2) := by decide +kernel
theorem dF_init_10 : decode prog_4_method_1_code 10 = .ok (.putfield 11, 3) := by decide +kernel
theorem dF_init_13 : decode prog_4_method_1_code 13 = .ok (.aload_n 0, 1) := by decide +kernel
theorem dF_init_14 : decode prog_4_method_1_code 14 = .ok (.sipush 5040, 3) := by decide +kernel
theorem dF_init_17 : decode prog_4_method_1_code 17 = .ok (.newarray .int, 2) := by decide +kernel
theorem dF_init_19 : decode prog_4_method_1_code 19 = .ok (.putfield 15, 3) := by decide +kernel
theorem dF_init_22 : decode prog_4_method_1_code 22 = .ok (.aload_n 0, 1) := by decide +kernel
theorem dF_init_23 : decode prog_4_method_1_code 23 = .ok (.sipush 5040, 3) := by decide +kernel
theorem dF_init_26 : decode prog_4_method_1_code 26 = .ok (.newarray .int, 2) := by decide +kernel
theorem dF_init_28 : decode prog_4_method_1_code 28 = .ok (.putfield 18, 3) := by decide +kernel
theorem dF_init_31 : decode prog_4_method_1_code 31 = .ok (.aload_n 0, 1) := by decide +kernel
theorem dF_init_32 : decode prog_4_method_1_code 32 = .ok (.sipush 5040, 3) := by decide +kernel
theorem dF_init_35 : decode prog_4_method_1_code 35 = .ok (.newarray .int, 2) := by decide +kernel
theorem dF_init_37 : decode prog_4_method_1_code 37 = .ok (.putfield 21, 3) := by decide +kernel
theorem dF_init_40 : decode prog_4_method_1_code 40 = .ok (.aload_n 0, 1) := by decide +kernel
theorem dF_init_41 : decode prog_4_method_1_code 41 = .ok (.sipush 4099, 3) := by decide +kernel
theorem dF_init_44 : decode prog_4_method_1_code 44 = .ok (.newarray .int, 2) := by decide +kernel
theorem dF_init_46 : decode prog_4_method_1_code 46 = .ok (.putfield 24, 3) := by decide +kernel
theorem dF_init_49 : decode prog_4_method_1_code 49 = .ok (.aload_n 0, 1) := by decide +kernel
theorem dF_init_50 : decode prog_4_method_1_code 50 = .ok (.iconst 0, 1) := by decide +kernel
theorem dF_init_51 : decode prog_4_method_1_code 51 = .ok (.putfield 27, 3) := by decide +kernel
theorem dF_init_54 : decode prog_4_method_1_code 54 = .ok (.aload_n 0, 1) := by decide +kernel
theorem dF_init_55 : decode prog_4_method_1_code 55 = .ok (.iconst 0, 1) := by decide +kernel
theorem dF_init_56 : decode prog_4_method_1_code 56 = .ok (.putfield 31, 3) := by decide +kernel
theorem dF_init_59 : decode prog_4_method_1_code 59 = .ok (.aload_n 0, 1) := by decide +kernel
theorem dF_init_60 : decode prog_4_method_1_code 60 = .ok (.iconst 0, 1) := by decide +kernel
theorem dF_init_61 : decode prog_4_method_1_code 61 = .ok (.putfield 34, 3) := by decide +kernel
theorem dF_init_64 : decode prog_4_method_1_code 64 = .ok (.aload_n 0, 1) := by decide +kernel
theorem dF_init_65 : decode prog_4_method_1_code 65 = .ok (.iconst 1, 1) := by decide +kernel
theorem dF_init_66 : decode prog_4_method_1_code 66 = .ok (.putfield 37, 3) := by decide +kernel
theorem dF_init_69 : decode prog_4_method_1_code 69 = .ok (.aload_n 0, 1) := by decide +kernel
theorem dF_init_70 : decode prog_4_method_1_code 70 = .ok (.iload_n 1, 1) := by decide +kernel
theorem dF_init_71 : decode prog_4_method_1_code 71 = .ok (.putfield 41, 3) := by decide +kernel
theorem dF_init_74 : decode prog_4_method_1_code 74 = .ok (.aload_n 0, 1) := by decide +kernel
theorem dF_init_75 : decode prog_4_method_1_code 75 = .ok (.new 44, 3) := by decide +kernel
theorem dF_init_78 : decode prog_4_method_1_code 78 = .ok (.dup, 1) := by decide +kernel
theorem dF_init_79 : decode prog_4_method_1_code 79 = .ok (.iload_n 1, 1) := by decide +kernel
theorem dF_init_80 : decode prog_4_method_1_code 80 = .ok (.invokespecial 46, 3) := by decide +kernel
theorem dF_init_83 : decode prog_4_method_1_code 83 = .ok (.putfield 49, 3) := by decide +kernel
theorem dF_init_86 : decode prog_4_method_1_code 86 = .ok (.return_, 1) := by decide +kernel
theorem dF_fill_0 : decode prog_4_method_2_code 0 = .ok (.aload_n 1, 1) := by decide +kernel
theorem dF_fill_1 : decode prog_4_method_2_code 1 = .ok (.invokevirtual 53, 3) := by decide +kernel
theorem dF_fill_4 : decode prog_4_method_2_code 4 = .ok (.aload_n 0, 1) := by decide +kernel
theorem dF_fill_5 : decode prog_4_method_2_code 5 = .ok (.getfield 49, 3) := by decide +kernel
theorem dF_fill_8 : decode prog_4_method_2_code 8 = .ok (.aload_n 2, 1) := by decide +kernel
theorem dF_fill_9 : decode prog_4_method_2_code 9 = .ok (.invokevirtual 58, 3) := by decide +kernel
theorem dF_fill_12 : decode prog_4_method_2_code 12 = .ok (.aload_n 2, 1) := by decide +kernel
theorem dF_fill_13 : decode prog_4_method_2_code 13 = .ok (.getfield 62, 3) := by decide +kernel
theorem dF_fill_16 : decode prog_4_method_2_code 16 = .ok (.ifCond .eq 17, 3) := by decide +kernel
theorem dF_fill_19 : decode prog_4_method_2_code 19 = .ok (.iload_n 3, 1) := by decide +kernel
theorem dF_fill_20 : decode prog_4_method_2_code 20 = .ok (.ifCond .eq 14, 3) := by decide +kernel
theorem dF_fill_23 : decode prog_4_method_2_code 23 = .ok (.aload_n 0, 1) := by decide +kernel
theorem dF_fill_24 : decode prog_4_method_2_code 24 = .ok (.getfield 49, 3) := by decide +kernel
theorem dF_fill_27 : decode prog_4_method_2_code 27 = .ok (.getfield 67, 3) := by decide +kernel
theorem dF_fill_30 : decode prog_4_method_2_code 30 = .ok (.ifCond .eq 4, 3) := by decide +kernel
theorem dF_fill_33 : decode prog_4_method_2_code 33 = .ok (.return_, 1) := by decide +kernel
theorem dF_fill_34 : decode prog_4_method_2_code 34 = .ok (.aload_n 0, 1) := by decide +kernel
theorem dF_fill_35 : decode prog_4_method_2_code 35 = .ok (.iload_n 3, 1) := by decide +kernel
theorem dF_fill_36 : decode prog_4_method_2_code 36 = .ok (.putfield 37, 3) := by decide +kernel
theorem dF_fill_39 : decode prog_4_method_2_code 39 = .ok (.aload_n 0, 1) := by decide +kernel
theorem dF_fill_40 : decode prog_4_method_2_code 40 = .ok (.aload_n 2, 1) := by decide +kernel
theorem dF_fill_41 : decode prog_4_method_2_code 41 = .ok (.getfield 70, 3) := by decide +kernel
theorem dF_fill_44 : decode prog_4_method_2_code 44 = .ok (.bipush 8, 2) := by decide +kernel
theorem dF_fill_46 : decode prog_4_method_2_code 46 = .ok (.invokestatic 71, 3) := by decide +kernel
theorem dF_fill_49 : decode prog_4_method_2_code 49 = .ok (.putfield 31, 3) := by decide +kernel
theorem dF_fill_52 : decode prog_4_method_2_code 52 = .ok (.aload_n 0, 1) := by decide +kernel
theorem dF_fill_53 : decode prog_4_method_2_code 53 = .ok (.aload_n 0, 1) := by decide +kernel
theorem dF_fill_54 : decode prog_4_method_2_code 54 = .ok (.getfield 31, 3) := by decide +kernel
theorem dF_fill_57 : decode prog_4_method_2_code 57 = .ok (.aload_n 0, 1) := by decide +kernel
theorem dF_fill_58 : decode prog_4_method_2_code 58 = .ok (.getfield 31, 3) := by decide +kernel
theorem dF_fill_61 : decode prog_4_method_2_code 61 = .ok (.iconst 2, 1) := by decide +kernel
theorem dF_fill_62 : decode prog_4_method_2_code 62 = .ok (.idiv, 1) := by decide +kernel
theorem dF_fill_63 : decode prog_4_method_2_code 63 = .ok (.isub, 1) := by decide +kernel
theorem dF_fill_64 : decode prog_4_method_2_code 64 = .ok (.putfield 34, 3) := by decide +kernel
theorem dF_fill_67 : decode prog_4_method_2_code 67 = .ok (.aload_n 0, 1) := by decide +kernel
theorem dF_fill_68 : decode prog_4_method_2_code 68 = .ok (.iconst 0, 1) := by decide +kernel
theorem dF_fill_69 : decode prog_4_method_2_code 69 = .ok (.putfield 27, 3) := by decide +kernel
theorem dF_fill_72 : decode prog_4_method_2_code 72 = .ok (.aload_n 0, 1) := by decide +kernel
theorem dF_fill_73 : decode prog_4_method_2_code 73 = .ok (.aload_n 0, 1) := by decide +kernel
theorem dF_fill_74 : decode prog_4_method_2_code 74 = .ok (.getfield 34, 3) := by decide +kernel
theorem dF_fill_77 : decode prog_4_method_2_code 77 = .ok (.iconst 0, 1) := by decide +kernel
theorem dF_fill_78 : decode prog_4_method_2_code 78 = .ok (.iconst 0, 1) := by decide +kernel
theorem dF_fill_79 : decode prog_4_method_2_code 79 = .ok (.iconst 0, 1) := by decide +kernel
theorem dF_fill_80 : decode prog_4_method_2_code 80 = .ok (.invokevirtual 77, 3) := by decide +kernel
theorem dF_fill_83 : decode prog_4_method_2_code 83 = .ok (.aload_n 0, 1) := by decide +kernel
theorem dF_fill_84 : decode prog_4_method_2_code 84 = .ok (.invokevirtual 81, 3) := by decide +kernel
theorem dF_fill_87 : decode prog_4_method_2_code 87 = .ok (.aload_n 0, 1) := by decide +kernel
theorem dF_fill_88 : decode prog_4_method_2_code 88 = .ok (.iconst 0, 1) := by decide +kernel
theorem dF_fill_89 : decode prog_4_method_2_code 89 = .ok (.iconst 0, 1) := by decide +kernel
theorem dF_fill_90 : decode prog_4_method_2_code 90 = .ok (.iconst 0, 1) := by decide +kernel
theorem dF_fill_91 : decode prog_4_method_2_code 91 = .ok (.aload_n 0, 1) := by decide +kernel
theorem dF_fill_92 : decode prog_4_method_2_code 92 = .ok (.getfield 49, 3) := by decide +kernel
theorem dF_fill_95 : decode prog_4_method_2_code 95 = .ok (.getfield 84, 3) := by decide +kernel
theorem dF_fill_98 : decode prog_4_method_2_code 98 = .ok (.aload_n 1, 1) := by decide +kernel
theorem dF_fill_99 : decode prog_4_method_2_code 99 = .ok (.invokevirtual 87, 3) := by decide +kernel
theorem dF_fill_102 : decode prog_4_method_2_code 102 = .ok (.return_, 1) := by decide +kernel
theorem dF_listLater_0 : decode prog_4_method_3_code 0 = .ok (.iload_n 1, 1) := by decide +kernel
theorem dF_listLater_1 : decode prog_4_method_3_code 1 = .ok (.aload_n 0, 1) := by decide +kernel
theorem dF_listLater_2 : decode prog_4_method_3_code 2 = .ok (.getfield 31, 3) := by decide +kernel
theorem dF_listLater_5 : decode prog_4_method_3_code 5 = .ok (.if_icmp .lt 12, 3) := by decide +kernel
theorem dF_listLater_8 : decode prog_4_method_3_code 8 = .ok (.aload_n 0, 1) := by decide +kernel
theorem dF_listLater_9 : decode prog_4_method_3_code 9 = .ok (.iload_n 2, 1) := by decide +kernel
theorem dF_listLater_10 : decode prog_4_method_3_code 10 = .ok (.iload_n 3, 1) := by decide +kernel
theorem dF_listLater_11 : decode prog_4_method_3_code 11 = .ok (.iload 4, 2) := by decide +kernel
theorem dF_listLater_13 : decode prog_4_method_3_code 13 = .ok (.invokevirtual 91, 3) := by decide +kernel
theorem dF_listLater_16 : decode prog_4_method_3_code 16 = .ok (.return_, 1) := by decide +kernel
theorem dF_listLater_17 : decode prog_4_method_3_code 17 = .ok (.iconst 0, 1) := by decide +kernel
theorem dF_listLater_18 : decode prog_4_method_3_code 18 = .ok (.istore 5, 2) := by decide +kernel
theorem dF_listLater_20 : decode prog_4_method_3_code 20 = .ok (.iload 5, 2) := by decide +kernel
theorem dF_listLater_22 : decode prog_4_method_3_code 22 = .ok (.aload_n 0, 1) := by decide +kernel
theorem dF_listLater_23 : decode prog_4_method_3_code 23 = .ok (.getfield 41, 3) := by decide +kernel
theorem dF_listLater_26 : decode prog_4_method_3_code 26 = .ok (.if_icmp .ge 55, 3) := by decide +kernel
theorem dF_listLater_29 : decode prog_4_method_3_code 29 = .ok (.aload_n 0, 1) := by decide +kernel
theorem dF_listLater_30 : decode prog_4_method_3_code 30 = .ok (.iload_n 1, 1) := by decide +kernel
theorem dF_listLater_31 : decode prog_4_method_3_code 31 = .ok (.iload 5, 2) := by decide +kernel
theorem dF_listLater_33 : decode prog_4_method_3_code 33 = .ok (.iload_n 2, 1) := by decide +kernel
theorem dF_listLater_34 : decode prog_4_method_3_code 34 = .ok (.invokevirtual 95, 3) := by decide +kernel
theorem dF_listLater_37 : decode prog_4_method_3_code 37 = .ok (.ifCond .eq 38, 3) := by decide +kernel
theorem dF_listLater_40 : decode prog_4_method_3_code 40 = .ok (.aload_n 0, 1) := by decide +kernel
theorem dF_listLater_41 : decode prog_4_method_3_code 41 = .ok (.iload_n 1, 1) := by decide +kernel
theorem dF_listLater_42 : decode prog_4_method_3_code 42 = .ok (.iconst 1, 1) := by decide +kernel
theorem dF_listLater_43 : decode prog_4_method_3_code 43 = .ok (.iadd, 1) := by decide +kernel
theorem dF_listLater_44 : decode prog_4_method_3_code 44 = .ok (.iload_n 2, 1) := by decide +kernel
theorem dF_listLater_45 : decode prog_4_method_3_code 45 = .ok (.iconst 1, 1) := by decide +kernel
theorem dF_listLater_46 : decode prog_4_method_3_code 46 = .ok (.iload 5, 2) := by decide +kernel
theorem dF_listLater_48 : decode prog_4_method_3_code 48 = .ok (.ishl, 1) := by decide +kernel
theorem dF_listLater_49 : decode prog_4_method_3_code 49 = .ok (.ior, 1) := by decide +kernel
theorem dF_listLater_50 : decode prog_4_method_3_code 50 = .ok (.iload_n 3, 1) := by decide +kernel
theorem dF_listLater_51 : decode prog_4_method_3_code 51 = .ok (.iload_n 1, 1) := by decide +kernel
theorem dF_listLater_52 : decode prog_4_method_3_code 52 = .ok (.iload 5, 2) := by decide +kernel
theorem dF_listLater_54 : decode prog_4_method_3_code 54 = .ok (.invokestatic 99, 3) := by decide +kernel
theorem dF_listLater_57 : decode prog_4_method_3_code 57 = .ok (.iload 4, 2) := by decide +kernel
theorem dF_listLater_59 : decode prog_4_method_3_code 59 = .ok (.iload 5, 2) := by decide +kernel
theorem dF_listLater_61 : decode prog_4_method_3_code 61 = .ok (.aload_n 0, 1) := by decide +kernel
theorem dF_listLater_62 : decode prog_4_method_3_code 62 = .ok (.getfield 49, 3) := by decide +kernel
theorem dF_listLater_65 : decode prog_4_method_3_code 65 = .ok (.getfield 103, 3) := by decide +kernel
theorem dF_listLater_68 : decode prog_4_method_3_code 68 = .ok (.iload_n 1, 1) := by decide +kernel
theorem dF_listLater_69 : decode prog_4_method_3_code 69 = .ok (.iaload, 1) := by decide +kernel
theorem dF_listLater_70 : decode prog_4_method_3_code 70 = .ok (.imul, 1) := by decide +kernel
theorem dF_listLater_71 : decode prog_4_method_3_code 71 = .ok (.iadd, 1) := by decide +kernel
theorem dF_listLater_72 : decode prog_4_method_3_code 72 = .ok (.invokevirtual 77, 3) := by decide +kernel
theorem dF_listLater_75 : decode prog_4_method_3_code 75 = .ok (.iinc 5 1, 3) := by decide +kernel
theorem dF_listLater_78 : decode prog_4_method_3_code 78 = .ok (.goto (-58), 3) := by decide +kernel
theorem dF_listLater_81 : decode prog_4_method_3_code 81 = .ok (.return_, 1) := by decide +kernel
theorem dF_addWay_0 : decode prog_4_method_4_code 0 = .ok (.aload_n 0, 1) := by decide +kernel
theorem dF_addWay_1 : decode prog_4_method_4_code 1 = .ok (.getfield 27, 3) := by decide +kernel
theorem dF_addWay_4 : decode prog_4_method_4_code 4 = .ok (.sipush 5040, 3) := by decide +kernel
theorem dF_addWay_7 : decode prog_4_method_4_code 7 = .ok (.if_icmp .ge 43, 3) := by decide +kernel
theorem dF_addWay_10 : decode prog_4_method_4_code 10 = .ok (.aload_n 0, 1) := by decide +kernel
theorem dF_addWay_11 : decode prog_4_method_4_code 11 = .ok (.getfield 11, 3) := by decide +kernel
theorem dF_addWay_14 : decode prog_4_method_4_code 14 = .ok (.aload_n 0, 1) := by decide +kernel
theorem dF_addWay_15 : decode prog_4_method_4_code 15 = .ok (.getfield 27, 3) := by decide +kernel
theorem dF_addWay_18 : decode prog_4_method_4_code 18 = .ok (.iload_n 3, 1) := by decide +kernel
theorem dF_addWay_19 : decode prog_4_method_4_code 19 = .ok (.iastore, 1) := by decide +kernel
theorem dF_addWay_20 : decode prog_4_method_4_code 20 = .ok (.aload_n 0, 1) := by decide +kernel
theorem dF_addWay_21 : decode prog_4_method_4_code 21 = .ok (.getfield 15, 3) := by decide +kernel
theorem dF_addWay_24 : decode prog_4_method_4_code 24 = .ok (.aload_n 0, 1) := by decide +kernel
theorem dF_addWay_25 : decode prog_4_method_4_code 25 = .ok (.getfield 27, 3) := by decide +kernel
theorem dF_addWay_28 : decode prog_4_method_4_code 28 = .ok (.iload_n 2, 1) := by decide +kernel
theorem dF_addWay_29 : decode prog_4_method_4_code 29 = .ok (.iastore, 1) := by decide +kernel
theorem dF_addWay_30 : decode prog_4_method_4_code 30 = .ok (.aload_n 0, 1) := by decide +kernel
theorem dF_addWay_31 : decode prog_4_method_4_code 31 = .ok (.getfield 18, 3) := by decide +kernel
theorem dF_addWay_34 : decode prog_4_method_4_code 34 = .ok (.aload_n 0, 1) := by decide +kernel
theorem dF_addWay_35 : decode prog_4_method_4_code 35 = .ok (.getfield 27, 3) := by decide +kernel
theorem dF_addWay_38 : decode prog_4_method_4_code 38 = .ok (.iload_n 1, 1) := by decide +kernel
theorem dF_addWay_39 : decode prog_4_method_4_code 39 = .ok (.iastore, 1) := by decide +kernel
theorem dF_addWay_40 : decode prog_4_method_4_code 40 = .ok (.aload_n 0, 1) := by decide +kernel
theorem dF_addWay_41 : decode prog_4_method_4_code 41 = .ok (.dup, 1) := by decide +kernel
theorem dF_addWay_42 : decode prog_4_method_4_code 42 = .ok (.getfield 27, 3) := by decide +kernel
theorem dF_addWay_45 : decode prog_4_method_4_code 45 = .ok (.iconst 1, 1) := by decide +kernel
theorem dF_addWay_46 : decode prog_4_method_4_code 46 = .ok (.iadd, 1) := by decide +kernel
theorem dF_addWay_47 : decode prog_4_method_4_code 47 = .ok (.putfield 27, 3) := by decide +kernel
theorem dF_addWay_50 : decode prog_4_method_4_code 50 = .ok (.return_, 1) := by decide +kernel
theorem dF_chainWays_0 : decode prog_4_method_5_code 0 = .ok (.aload_n 0, 1) := by decide +kernel
theorem dF_chainWays_1 : decode prog_4_method_5_code 1 = .ok (.getfield 24, 3) := by decide +kernel
theorem dF_chainWays_4 : decode prog_4_method_5_code 4 = .ok (.iconst (-1), 1) := by decide +kernel
theorem dF_chainWays_5 : decode prog_4_method_5_code 5 = .ok (.invokestatic 106, 3) := by decide +kernel
theorem dF_chainWays_8 : decode prog_4_method_5_code 8 = .ok (.aload_n 0, 1) := by decide +kernel
theorem dF_chainWays_9 : decode prog_4_method_5_code 9 = .ok (.getfield 27, 3) := by decide +kernel
theorem dF_chainWays_12 : decode prog_4_method_5_code 12 = .ok (.iconst 1, 1) := by decide +kernel
theorem dF_chainWays_13 : decode prog_4_method_5_code 13 = .ok (.isub, 1) := by decide +kernel
theorem dF_chainWays_14 : decode prog_4_method_5_code 14 = .ok (.istore_n 1, 1) := by decide +kernel
theorem dF_chainWays_15 : decode prog_4_method_5_code 15 = .ok (.iload_n 1, 1) := by decide +kernel
theorem dF_chainWays_16 : decode prog_4_method_5_code 16 = .ok (.ifCond .lt 41, 3) := by decide +kernel
theorem dF_chainWays_19 : decode prog_4_method_5_code 19 = .ok (.aload_n 0, 1) := by decide +kernel
theorem dF_chainWays_20 : decode prog_4_method_5_code 20 = .ok (.getfield 11, 3) := by decide +kernel
theorem dF_chainWays_23 : decode prog_4_method_5_code 23 = .ok (.iload_n 1, 1) := by decide +kernel
theorem dF_chainWays_24 : decode prog_4_method_5_code 24 = .ok (.iaload, 1) := by decide +kernel
theorem dF_chainWays_25 : decode prog_4_method_5_code 25 = .ok (.sipush 4099, 3) := by decide +kernel
theorem dF_chainWays_28 : decode prog_4_method_5_code 28 = .ok (.invokestatic 112, 3) := by decide +kernel
theorem dF_chainWays_31 : decode prog_4_method_5_code 31 = .ok (.istore_n 2, 1) := by decide +kernel
theorem dF_chainWays_32 : decode prog_4_method_5_code 32 = .ok (.aload_n 0, 1) := by decide +kernel
theorem dF_chainWays_33 : decode prog_4_method_5_code 33 = .ok (.getfield 21, 3) := by decide +kernel
theorem dF_chainWays_36 : decode prog_4_method_5_code 36 = .ok (.iload_n 1, 1) := by decide +kernel
theorem dF_chainWays_37 : decode prog_4_method_5_code 37 = .ok (.aload_n 0, 1) := by decide +kernel
theorem dF_chainWays_38 : decode prog_4_method_5_code 38 = .ok (.getfield 24, 3) := by decide +kernel
theorem dF_chainWays_41 : decode prog_4_method_5_code 41 = .ok (.iload_n 2, 1) := by decide +kernel
theorem dF_chainWays_42 : decode prog_4_method_5_code 42 = .ok (.iaload, 1) := by decide +kernel
theorem dF_chainWays_43 : decode prog_4_method_5_code 43 = .ok (.iastore, 1) := by decide +kernel
theorem dF_chainWays_44 : decode prog_4_method_5_code 44 = .ok (.aload_n 0, 1) := by decide +kernel
theorem dF_chainWays_45 : decode prog_4_method_5_code 45 = .ok (.getfield 24, 3) := by decide +kernel
theorem dF_chainWays_48 : decode prog_4_method_5_code 48 = .ok (.iload_n 2, 1) := by decide +kernel
theorem dF_chainWays_49 : decode prog_4_method_5_code 49 = .ok (.iload_n 1, 1) := by decide +kernel
theorem dF_chainWays_50 : decode prog_4_method_5_code 50 = .ok (.iastore, 1) := by decide +kernel
theorem dF_chainWays_51 : decode prog_4_method_5_code 51 = .ok (.iinc 1 (-1), 3) := by decide +kernel
theorem dF_chainWays_54 : decode prog_4_method_5_code 54 = .ok (.goto (-39), 3) := by decide +kernel
theorem dF_chainWays_57 : decode prog_4_method_5_code 57 = .ok (.return_, 1) := by decide +kernel
theorem dF_tryEarlier_0 : decode prog_4_method_6_code 0 = .ok (.iload_n 1, 1) := by decide +kernel
theorem dF_tryEarlier_1 : decode prog_4_method_6_code 1 = .ok (.aload_n 0, 1) := by decide +kernel
theorem dF_tryEarlier_2 : decode prog_4_method_6_code 2 = .ok (.getfield 34, 3) := by decide +kernel
theorem dF_tryEarlier_5 : decode prog_4_method_6_code 5 = .ok (.if_icmp .lt 14, 3) := by decide +kernel
theorem dF_tryEarlier_8 : decode prog_4_method_6_code 8 = .ok (.aload_n 0, 1) := by decide +kernel
theorem dF_tryEarlier_9 : decode prog_4_method_6_code 9 = .ok (.iload_n 2, 1) := by decide +kernel
theorem dF_tryEarlier_10 : decode prog_4_method_6_code 10 = .ok (.iload_n 3, 1) := by decide +kernel
theorem dF_tryEarlier_11 : decode prog_4_method_6_code 11 = .ok (.iload 4, 2) := by decide +kernel
theorem dF_tryEarlier_13 : decode prog_4_method_6_code 13 = .ok (.aload 5, 2) := by decide +kernel
theorem dF_tryEarlier_15 : decode prog_4_method_6_code 15 = .ok (.invokevirtual 115, 3) := by decide +kernel
theorem dF_tryEarlier_18 : decode prog_4_method_6_code 18 = .ok (.return_, 1) := by decide +kernel
theorem dF_tryEarlier_19 : decode prog_4_method_6_code 19 = .ok (.iconst 0, 1) := by decide +kernel
theorem dF_tryEarlier_20 : decode prog_4_method_6_code 20 = .ok (.istore 6, 2) := by decide +kernel
theorem dF_tryEarlier_22 : decode prog_4_method_6_code 22 = .ok (.iload 6, 2) := by decide +kernel
theorem dF_tryEarlier_24 : decode prog_4_method_6_code 24 = .ok (.aload_n 0, 1) := by decide +kernel
theorem dF_tryEarlier_25 : decode prog_4_method_6_code 25 = .ok (.getfield 41, 3) := by decide +kernel
theorem dF_tryEarlier_28 : decode prog_4_method_6_code 28 = .ok (.if_icmp .ge 65, 3) := by decide +kernel
theorem dF_tryEarlier_31 : decode prog_4_method_6_code 31 = .ok (.aload 5, 2) := by decide +kernel
theorem dF_tryEarlier_33 : decode prog_4_method_6_code 33 = .ok (.invokevirtual 119, 3) := by decide +kernel
theorem dF_tryEarlier_36 : decode prog_4_method_6_code 36 = .ok (.ifCond .ne 57, 3) := by decide +kernel
theorem dF_tryEarlier_39 : decode prog_4_method_6_code 39 = .ok (.aload_n 0, 1) := by decide +kernel
theorem dF_tryEarlier_40 : decode prog_4_method_6_code 40 = .ok (.iload_n 1, 1) := by decide +kernel
theorem dF_tryEarlier_41 : decode prog_4_method_6_code 41 = .ok (.iload 6, 2) := by decide +kernel
theorem dF_tryEarlier_43 : decode prog_4_method_6_code 43 = .ok (.iload_n 2, 1) := by decide +kernel
theorem dF_tryEarlier_44 : decode prog_4_method_6_code 44 = .ok (.invokevirtual 95, 3) := by decide +kernel
theorem dF_tryEarlier_47 : decode prog_4_method_6_code 47 = .ok (.ifCond .eq 40, 3) := by decide +kernel
theorem dF_tryEarlier_50 : decode prog_4_method_6_code 50 = .ok (.aload_n 0, 1) := by decide +kernel
theorem dF_tryEarlier_51 : decode prog_4_method_6_code 51 = .ok (.iload_n 1, 1) := by decide +kernel
theorem dF_tryEarlier_52 : decode prog_4_method_6_code 52 = .ok (.iconst 1, 1) := by decide +kernel
theorem dF_tryEarlier_53 : decode prog_4_method_6_code 53 = .ok (.iadd, 1) := by decide +kernel
theorem dF_tryEarlier_54 : decode prog_4_method_6_code 54 = .ok (.iload_n 2, 1) := by decide +kernel
theorem dF_tryEarlier_55 : decode prog_4_method_6_code 55 = .ok (.iconst 1, 1) := by decide +kernel
theorem dF_tryEarlier_56 : decode prog_4_method_6_code 56 = .ok (.iload 6, 2) := by decide +kernel
theorem dF_tryEarlier_58 : decode prog_4_method_6_code 58 = .ok (.ishl, 1) := by decide +kernel
theorem dF_tryEarlier_59 : decode prog_4_method_6_code 59 = .ok (.ior, 1) := by decide +kernel
theorem dF_tryEarlier_60 : decode prog_4_method_6_code 60 = .ok (.iload_n 3, 1) := by decide +kernel
theorem dF_tryEarlier_61 : decode prog_4_method_6_code 61 = .ok (.iload_n 1, 1) := by decide +kernel
theorem dF_tryEarlier_62 : decode prog_4_method_6_code 62 = .ok (.iload 6, 2) := by decide +kernel
theorem dF_tryEarlier_64 : decode prog_4_method_6_code 64 = .ok (.invokestatic 99, 3) := by decide +kernel
theorem dF_tryEarlier_67 : decode prog_4_method_6_code 67 = .ok (.iload 4, 2) := by decide +kernel
theorem dF_tryEarlier_69 : decode prog_4_method_6_code 69 = .ok (.iload 6, 2) := by decide +kernel
theorem dF_tryEarlier_71 : decode prog_4_method_6_code 71 = .ok (.aload_n 0, 1) := by decide +kernel
theorem dF_tryEarlier_72 : decode prog_4_method_6_code 72 = .ok (.getfield 49, 3) := by decide +kernel
theorem dF_tryEarlier_75 : decode prog_4_method_6_code 75 = .ok (.getfield 103, 3) := by decide +kernel
theorem dF_tryEarlier_78 : decode prog_4_method_6_code 78 = .ok (.iload_n 1, 1) := by decide +kernel
theorem dF_tryEarlier_79 : decode prog_4_method_6_code 79 = .ok (.iaload, 1) := by decide +kernel
theorem dF_tryEarlier_80 : decode prog_4_method_6_code 80 = .ok (.imul, 1) := by decide +kernel
theorem dF_tryEarlier_81 : decode prog_4_method_6_code 81 = .ok (.iadd, 1) := by decide +kernel
theorem dF_tryEarlier_82 : decode prog_4_method_6_code 82 = .ok (.aload 5, 2) := by decide +kernel
theorem dF_tryEarlier_84 : decode prog_4_method_6_code 84 = .ok (.invokevirtual 87, 3) := by decide +kernel
theorem dF_tryEarlier_87 : decode prog_4_method_6_code 87 = .ok (.iinc 6 1, 3) := by decide +kernel
theorem dF_tryEarlier_90 : decode prog_4_method_6_code 90 = .ok (.goto (-68), 3) := by decide +kernel
theorem dF_tryEarlier_93 : decode prog_4_method_6_code 93 = .ok (.return_, 1) := by decide +kernel
theorem dF_join_0 : decode prog_4_method_7_code 0 = .ok (.aload_n 0, 1) := by decide +kernel
theorem dF_join_1 : decode prog_4_method_7_code 1 = .ok (.getfield 24, 3) := by decide +kernel
theorem dF_join_4 : decode prog_4_method_7_code 4 = .ok (.iload_n 3, 1) := by decide +kernel
theorem dF_join_5 : decode prog_4_method_7_code 5 = .ok (.ineg, 1) := by decide +kernel
theorem dF_join_6 : decode prog_4_method_7_code 6 = .ok (.sipush 4099, 3) := by decide +kernel
theorem dF_join_9 : decode prog_4_method_7_code 9 = .ok (.invokestatic 112, 3) := by decide +kernel
theorem dF_join_12 : decode prog_4_method_7_code 12 = .ok (.iaload, 1) := by decide +kernel
theorem dF_join_13 : decode prog_4_method_7_code 13 = .ok (.istore 5, 2) := by decide +kernel
theorem dF_join_15 : decode prog_4_method_7_code 15 = .ok (.iconst 0, 1) := by decide +kernel
theorem dF_join_16 : decode prog_4_method_7_code 16 = .ok (.istore 6, 2) := by decide +kernel
theorem dF_join_18 : decode prog_4_method_7_code 18 = .ok (.iload 6, 2) := by decide +kernel
theorem dF_join_20 : decode prog_4_method_7_code 20 = .ok (.aload_n 0, 1) := by decide +kernel
theorem dF_join_21 : decode prog_4_method_7_code 21 = .ok (.getfield 27, 3) := by decide +kernel
theorem dF_join_24 : decode prog_4_method_7_code 24 = .ok (.if_icmp .ge 70, 3) := by decide +kernel
theorem dF_join_27 : decode prog_4_method_7_code 27 = .ok (.iload 5, 2) := by decide +kernel
theorem dF_join_29 : decode prog_4_method_7_code 29 = .ok (.ifCond .lt 65, 3) := by decide +kernel
theorem dF_join_32 : decode prog_4_method_7_code 32 = .ok (.iload 5, 2) := by decide +kernel
theorem dF_join_34 : decode prog_4_method_7_code 34 = .ok (.aload_n 0, 1) := by decide +kernel
theorem dF_join_35 : decode prog_4_method_7_code 35 = .ok (.getfield 27, 3) := by decide +kernel
theorem dF_join_38 : decode prog_4_method_7_code 38 = .ok (.if_icmp .ge 56, 3) := by decide +kernel
theorem dF_join_41 : decode prog_4_method_7_code 41 = .ok (.aload_n 0, 1) := by decide +kernel
theorem dF_join_42 : decode prog_4_method_7_code 42 = .ok (.getfield 11, 3) := by decide +kernel
theorem dF_join_45 : decode prog_4_method_7_code 45 = .ok (.iload 5, 2) := by decide +kernel
theorem dF_join_47 : decode prog_4_method_7_code 47 = .ok (.iaload, 1) := by decide +kernel
theorem dF_join_48 : decode prog_4_method_7_code 48 = .ok (.iload_n 3, 1) := by decide +kernel
theorem dF_join_49 : decode prog_4_method_7_code 49 = .ok (.ineg, 1) := by decide +kernel
theorem dF_join_50 : decode prog_4_method_7_code 50 = .ok (.if_icmp .ne 29, 3) := by decide +kernel
theorem dF_join_53 : decode prog_4_method_7_code 53 = .ok (.aload_n 0, 1) := by decide +kernel
theorem dF_join_54 : decode prog_4_method_7_code 54 = .ok (.getfield 18, 3) := by decide +kernel
theorem dF_join_57 : decode prog_4_method_7_code 57 = .ok (.iload 5, 2) := by decide +kernel
theorem dF_join_59 : decode prog_4_method_7_code 59 = .ok (.iaload, 1) := by decide +kernel
theorem dF_join_60 : decode prog_4_method_7_code 60 = .ok (.iload_n 1, 1) := by decide +kernel
theorem dF_join_61 : decode prog_4_method_7_code 61 = .ok (.iand, 1) := by decide +kernel
theorem dF_join_62 : decode prog_4_method_7_code 62 = .ok (.ifCond .ne 17, 3) := by decide +kernel
theorem dF_join_65 : decode prog_4_method_7_code 65 = .ok (.aload 4, 2) := by decide +kernel
theorem dF_join_67 : decode prog_4_method_7_code 67 = .ok (.iload_n 2, 1) := by decide +kernel
theorem dF_join_68 : decode prog_4_method_7_code 68 = .ok (.aload_n 0, 1) := by decide +kernel
theorem dF_join_69 : decode prog_4_method_7_code 69 = .ok (.getfield 15, 3) := by decide +kernel
theorem dF_join_72 : decode prog_4_method_7_code 72 = .ok (.iload 5, 2) := by decide +kernel
theorem dF_join_74 : decode prog_4_method_7_code 74 = .ok (.iaload, 1) := by decide +kernel
theorem dF_join_75 : decode prog_4_method_7_code 75 = .ok (.ior, 1) := by decide +kernel
theorem dF_join_76 : decode prog_4_method_7_code 76 = .ok (.invokevirtual 123, 3) := by decide +kernel
theorem dF_join_79 : decode prog_4_method_7_code 79 = .ok (.aload_n 0, 1) := by decide +kernel
theorem dF_join_80 : decode prog_4_method_7_code 80 = .ok (.getfield 21, 3) := by decide +kernel
theorem dF_join_83 : decode prog_4_method_7_code 83 = .ok (.iload 5, 2) := by decide +kernel
theorem dF_join_85 : decode prog_4_method_7_code 85 = .ok (.iaload, 1) := by decide +kernel
theorem dF_join_86 : decode prog_4_method_7_code 86 = .ok (.istore 5, 2) := by decide +kernel
theorem dF_join_88 : decode prog_4_method_7_code 88 = .ok (.iinc 6 1, 3) := by decide +kernel
theorem dF_join_91 : decode prog_4_method_7_code 91 = .ok (.goto (-73), 3) := by decide +kernel
theorem dF_join_94 : decode prog_4_method_7_code 94 = .ok (.return_, 1) := by decide +kernel
theorem dF_mayBe_0 : decode prog_4_method_8_code 0 = .ok (.iload_n 2, 1) := by decide +kernel
theorem dF_mayBe_1 : decode prog_4_method_8_code 1 = .ok (.ifCond .ne 25, 3) := by decide +kernel
theorem dF_mayBe_4 : decode prog_4_method_8_code 4 = .ok (.aload_n 0, 1) := by decide +kernel
theorem dF_mayBe_5 : decode prog_4_method_8_code 5 = .ok (.getfield 37, 3) := by decide +kernel
theorem dF_mayBe_8 : decode prog_4_method_8_code 8 = .ok (.ifCond .eq 18, 3) := by decide +kernel
theorem dF_mayBe_11 : decode prog_4_method_8_code 11 = .ok (.aload_n 0, 1) := by decide +kernel
theorem dF_mayBe_12 : decode prog_4_method_8_code 12 = .ok (.getfield 49, 3) := by decide +kernel
theorem dF_mayBe_15 : decode prog_4_method_8_code 15 = .ok (.iload_n 1, 1) := by decide +kernel
theorem dF_mayBe_16 : decode prog_4_method_8_code 16 = .ok (.invokevirtual 126, 3) := by decide +kernel
theorem dF_mayBe_19 : decode prog_4_method_8_code 19 = .ok (.ifCond .eq 7, 3) := by decide +kernel
theorem dF_mayBe_22 : decode prog_4_method_8_code 22 = .ok (.iconst 1, 1) := by decide +kernel
theorem dF_mayBe_23 : decode prog_4_method_8_code 23 = .ok (.goto 4, 3) := by decide +kernel
theorem dF_mayBe_26 : decode prog_4_method_8_code 26 = .ok (.iconst 0, 1) := by decide +kernel
theorem dF_mayBe_27 : decode prog_4_method_8_code 27 = .ok (.istore 4, 2) := by decide +kernel
theorem dF_mayBe_29 : decode prog_4_method_8_code 29 = .ok (.iload_n 3, 1) := by decide +kernel
theorem dF_mayBe_30 : decode prog_4_method_8_code 30 = .ok (.iload_n 2, 1) := by decide +kernel
theorem dF_mayBe_31 : decode prog_4_method_8_code 31 = .ok (.ishr, 1) := by decide +kernel
theorem dF_mayBe_32 : decode prog_4_method_8_code 32 = .ok (.iconst 1, 1) := by decide +kernel
theorem dF_mayBe_33 : decode prog_4_method_8_code 33 = .ok (.iand, 1) := by decide +kernel
theorem dF_mayBe_34 : decode prog_4_method_8_code 34 = .ok (.ifCond .ne 12, 3) := by decide +kernel
theorem dF_mayBe_37 : decode prog_4_method_8_code 37 = .ok (.iload 4, 2) := by decide +kernel
theorem dF_mayBe_39 : decode prog_4_method_8_code 39 = .ok (.ifCond .ne 7, 3) := by decide +kernel
theorem dF_mayBe_42 : decode prog_4_method_8_code 42 = .ok (.iconst 1, 1) := by decide +kernel
theorem dF_mayBe_43 : decode prog_4_method_8_code 43 = .ok (.goto 4, 3) := by decide +kernel
theorem dF_mayBe_46 : decode prog_4_method_8_code 46 = .ok (.iconst 0, 1) := by decide +kernel
theorem dF_mayBe_47 : decode prog_4_method_8_code 47 = .ok (.ireturn, 1) := by decide +kernel
