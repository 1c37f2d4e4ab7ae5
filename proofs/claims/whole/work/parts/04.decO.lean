theorem dO_init_0 : decode prog_1_method_1_code 0 = .ok (.aload_n 0, 1) := by decide +kernel
theorem dO_init_1 : decode prog_1_method_1_code 1 = .ok (.invokespecial 1, 3) := by decide +kernel
theorem dO_init_4 : decode prog_1_method_1_code 4 = .ok (.aload_n 0, 1) := by decide +kernel
theorem dO_init_5 : decode prog_1_method_1_code 5 = .ok (.bipush 80, 2) := by decide +kernel
theorem dO_init_7 : decode prog_1_method_1_code 7 = .ok (.newarray .int, 2) := by decide +kernel
theorem dO_init_9 : decode prog_1_method_1_code 9 = .ok (.putfield 9, 3) := by decide +kernel
theorem dO_init_12 : decode prog_1_method_1_code 12 = .ok (.aload_n 0, 1) := by decide +kernel
theorem dO_init_13 : decode prog_1_method_1_code 13 = .ok (.iconst 0, 1) := by decide +kernel
theorem dO_init_14 : decode prog_1_method_1_code 14 = .ok (.putfield 13, 3) := by decide +kernel
theorem dO_init_17 : decode prog_1_method_1_code 17 = .ok (.aload_n 0, 1) := by decide +kernel
theorem dO_init_18 : decode prog_1_method_1_code 18 = .ok (.new 17, 3) := by decide +kernel
theorem dO_init_21 : decode prog_1_method_1_code 21 = .ok (.dup, 1) := by decide +kernel
theorem dO_init_22 : decode prog_1_method_1_code 22 = .ok (.invokespecial 19, 3) := by decide +kernel
theorem dO_init_25 : decode prog_1_method_1_code 25 = .ok (.putfield 20, 3) := by decide +kernel
theorem dO_init_28 : decode prog_1_method_1_code 28 = .ok (.aload_n 0, 1) := by decide +kernel
theorem dO_init_29 : decode prog_1_method_1_code 29 = .ok (.new 17, 3) := by decide +kernel
theorem dO_init_32 : decode prog_1_method_1_code 32 = .ok (.dup, 1) := by decide +kernel
theorem dO_init_33 : decode prog_1_method_1_code 33 = .ok (.invokespecial 19, 3) := by decide +kernel
theorem dO_init_36 : decode prog_1_method_1_code 36 = .ok (.putfield 24, 3) := by decide +kernel
theorem dO_init_39 : decode prog_1_method_1_code 39 = .ok (.aload_n 0, 1) := by decide +kernel
theorem dO_init_40 : decode prog_1_method_1_code 40 = .ok (.iconst 1, 1) := by decide +kernel
theorem dO_init_41 : decode prog_1_method_1_code 41 = .ok (.putfield 27, 3) := by decide +kernel
theorem dO_init_44 : decode prog_1_method_1_code 44 = .ok (.aload_n 0, 1) := by decide +kernel
theorem dO_init_45 : decode prog_1_method_1_code 45 = .ok (.iconst 0, 1) := by decide +kernel
theorem dO_init_46 : decode prog_1_method_1_code 46 = .ok (.putfield 31, 3) := by decide +kernel
theorem dO_init_49 : decode prog_1_method_1_code 49 = .ok (.iconst 2, 1) := by decide +kernel
theorem dO_init_50 : decode prog_1_method_1_code 50 = .ok (.bipush 10, 2) := by decide +kernel
theorem dO_init_52 : decode prog_1_method_1_code 52 = .ok (.iload_n 1, 1) := by decide +kernel
theorem dO_init_53 : decode prog_1_method_1_code 53 = .ok (.invokestatic 34, 3) := by decide +kernel
theorem dO_init_56 : decode prog_1_method_1_code 56 = .ok (.invokestatic 40, 3) := by decide +kernel
theorem dO_init_59 : decode prog_1_method_1_code 59 = .ok (.istore_n 2, 1) := by decide +kernel
theorem dO_init_60 : decode prog_1_method_1_code 60 = .ok (.aload_n 0, 1) := by decide +kernel
theorem dO_init_61 : decode prog_1_method_1_code 61 = .ok (.new 43, 3) := by decide +kernel
theorem dO_init_64 : decode prog_1_method_1_code 64 = .ok (.dup, 1) := by decide +kernel
theorem dO_init_65 : decode prog_1_method_1_code 65 = .ok (.iload_n 2, 1) := by decide +kernel
theorem dO_init_66 : decode prog_1_method_1_code 66 = .ok (.invokespecial 45, 3) := by decide +kernel
theorem dO_init_69 : decode prog_1_method_1_code 69 = .ok (.putfield 48, 3) := by decide +kernel
theorem dO_init_72 : decode prog_1_method_1_code 72 = .ok (.aload_n 0, 1) := by decide +kernel
theorem dO_init_73 : decode prog_1_method_1_code 73 = .ok (.new 52, 3) := by decide +kernel
theorem dO_init_76 : decode prog_1_method_1_code 76 = .ok (.dup, 1) := by decide +kernel
theorem dO_init_77 : decode prog_1_method_1_code 77 = .ok (.iload_n 2, 1) := by decide +kernel
theorem dO_init_78 : decode prog_1_method_1_code 78 = .ok (.invokespecial 54, 3) := by decide +kernel
theorem dO_init_81 : decode prog_1_method_1_code 81 = .ok (.putfield 55, 3) := by decide +kernel
theorem dO_init_84 : decode prog_1_method_1_code 84 = .ok (.aload_n 0, 1) := by decide +kernel
theorem dO_init_85 : decode prog_1_method_1_code 85 = .ok (.new 59, 3) := by decide +kernel
theorem dO_init_88 : decode prog_1_method_1_code 88 = .ok (.dup, 1) := by decide +kernel
theorem dO_init_89 : decode prog_1_method_1_code 89 = .ok (.iload_n 2, 1) := by decide +kernel
theorem dO_init_90 : decode prog_1_method_1_code 90 = .ok (.invokespecial 61, 3) := by decide +kernel
theorem dO_init_93 : decode prog_1_method_1_code 93 = .ok (.putfield 62, 3) := by decide +kernel
theorem dO_init_96 : decode prog_1_method_1_code 96 = .ok (.return_, 1) := by decide +kernel
theorem dO_unit_0 : decode prog_1_method_2_code 0 = .ok (.iload_n 1, 1) := by decide +kernel
theorem dO_unit_1 : decode prog_1_method_2_code 1 = .ok (.ifCond .lt 22, 3) := by decide +kernel
theorem dO_unit_4 : decode prog_1_method_2_code 4 = .ok (.iload_n 1, 1) := by decide +kernel
theorem dO_unit_5 : decode prog_1_method_2_code 5 = .ok (.sipush 255, 3) := by decide +kernel
theorem dO_unit_8 : decode prog_1_method_2_code 8 = .ok (.if_icmp .gt 15, 3) := by decide +kernel
theorem dO_unit_11 : decode prog_1_method_2_code 11 = .ok (.aload_n 0, 1) := by decide +kernel
theorem dO_unit_12 : decode prog_1_method_2_code 12 = .ok (.getfield 13, 3) := by decide +kernel
theorem dO_unit_15 : decode prog_1_method_2_code 15 = .ok (.aload_n 0, 1) := by decide +kernel
theorem dO_unit_16 : decode prog_1_method_2_code 16 = .ok (.getfield 9, 3) := by decide +kernel
theorem dO_unit_19 : decode prog_1_method_2_code 19 = .ok (.arraylength, 1) := by decide +kernel
theorem dO_unit_20 : decode prog_1_method_2_code 20 = .ok (.if_icmp .lt 5, 3) := by decide +kernel
theorem dO_unit_23 : decode prog_1_method_2_code 23 = .ok (.iconst 0, 1) := by decide +kernel
theorem dO_unit_24 : decode prog_1_method_2_code 24 = .ok (.ireturn, 1) := by decide +kernel
theorem dO_unit_25 : decode prog_1_method_2_code 25 = .ok (.aload_n 0, 1) := by decide +kernel
theorem dO_unit_26 : decode prog_1_method_2_code 26 = .ok (.getfield 9, 3) := by decide +kernel
theorem dO_unit_29 : decode prog_1_method_2_code 29 = .ok (.aload_n 0, 1) := by decide +kernel
theorem dO_unit_30 : decode prog_1_method_2_code 30 = .ok (.getfield 13, 3) := by decide +kernel
theorem dO_unit_33 : decode prog_1_method_2_code 33 = .ok (.iload_n 1, 1) := by decide +kernel
theorem dO_unit_34 : decode prog_1_method_2_code 34 = .ok (.iastore, 1) := by decide +kernel
theorem dO_unit_35 : decode prog_1_method_2_code 35 = .ok (.aload_n 0, 1) := by decide +kernel
theorem dO_unit_36 : decode prog_1_method_2_code 36 = .ok (.dup, 1) := by decide +kernel
theorem dO_unit_37 : decode prog_1_method_2_code 37 = .ok (.getfield 13, 3) := by decide +kernel
theorem dO_unit_40 : decode prog_1_method_2_code 40 = .ok (.iconst 1, 1) := by decide +kernel
theorem dO_unit_41 : decode prog_1_method_2_code 41 = .ok (.iadd, 1) := by decide +kernel
theorem dO_unit_42 : decode prog_1_method_2_code 42 = .ok (.putfield 13, 3) := by decide +kernel
theorem dO_unit_45 : decode prog_1_method_2_code 45 = .ok (.iconst 1, 1) := by decide +kernel
theorem dO_unit_46 : decode prog_1_method_2_code 46 = .ok (.ireturn, 1) := by decide +kernel
theorem dO_read_0 : decode prog_1_method_3_code 0 = .ok (.aload_n 0, 1) := by decide +kernel
theorem dO_read_1 : decode prog_1_method_3_code 1 = .ok (.getfield 13, 3) := by decide +kernel
theorem dO_read_4 : decode prog_1_method_3_code 4 = .ok (.istore_n 1, 1) := by decide +kernel
theorem dO_read_5 : decode prog_1_method_3_code 5 = .ok (.aload_n 0, 1) := by decide +kernel
theorem dO_read_6 : decode prog_1_method_3_code 6 = .ok (.iconst 0, 1) := by decide +kernel
theorem dO_read_7 : decode prog_1_method_3_code 7 = .ok (.putfield 13, 3) := by decide +kernel
theorem dO_read_10 : decode prog_1_method_3_code 10 = .ok (.aload_n 0, 1) := by decide +kernel
theorem dO_read_11 : decode prog_1_method_3_code 11 = .ok (.getfield 48, 3) := by decide +kernel
theorem dO_read_14 : decode prog_1_method_3_code 14 = .ok (.aload_n 0, 1) := by decide +kernel
theorem dO_read_15 : decode prog_1_method_3_code 15 = .ok (.getfield 9, 3) := by decide +kernel
theorem dO_read_18 : decode prog_1_method_3_code 18 = .ok (.iload_n 1, 1) := by decide +kernel
theorem dO_read_19 : decode prog_1_method_3_code 19 = .ok (.invokevirtual 66, 3) := by decide +kernel
theorem dO_read_22 : decode prog_1_method_3_code 22 = .ok (.istore_n 2, 1) := by decide +kernel
theorem dO_read_23 : decode prog_1_method_3_code 23 = .ok (.iload_n 2, 1) := by decide +kernel
theorem dO_read_24 : decode prog_1_method_3_code 24 = .ok (.iconst (-1), 1) := by decide +kernel
theorem dO_read_25 : decode prog_1_method_3_code 25 = .ok (.if_icmp .eq 7, 3) := by decide +kernel
theorem dO_read_28 : decode prog_1_method_3_code 28 = .ok (.iconst (-1), 1) := by decide +kernel
theorem dO_read_29 : decode prog_1_method_3_code 29 = .ok (.iload_n 2, 1) := by decide +kernel
theorem dO_read_30 : decode prog_1_method_3_code 30 = .ok (.isub, 1) := by decide +kernel
theorem dO_read_31 : decode prog_1_method_3_code 31 = .ok (.ireturn, 1) := by decide +kernel
theorem dO_read_32 : decode prog_1_method_3_code 32 = .ok (.aload_n 0, 1) := by decide +kernel
theorem dO_read_33 : decode prog_1_method_3_code 33 = .ok (.getfield 55, 3) := by decide +kernel
theorem dO_read_36 : decode prog_1_method_3_code 36 = .ok (.aload_n 0, 1) := by decide +kernel
theorem dO_read_37 : decode prog_1_method_3_code 37 = .ok (.getfield 9, 3) := by decide +kernel
theorem dO_read_40 : decode prog_1_method_3_code 40 = .ok (.iload_n 1, 1) := by decide +kernel
theorem dO_read_41 : decode prog_1_method_3_code 41 = .ok (.invokevirtual 70, 3) := by decide +kernel
theorem dO_read_44 : decode prog_1_method_3_code 44 = .ok (.aload_n 0, 1) := by decide +kernel
theorem dO_read_45 : decode prog_1_method_3_code 45 = .ok (.getfield 20, 3) := by decide +kernel
theorem dO_read_48 : decode prog_1_method_3_code 48 = .ok (.invokevirtual 74, 3) := by decide +kernel
theorem dO_read_51 : decode prog_1_method_3_code 51 = .ok (.aload_n 0, 1) := by decide +kernel
theorem dO_read_52 : decode prog_1_method_3_code 52 = .ok (.getfield 24, 3) := by decide +kernel
theorem dO_read_55 : decode prog_1_method_3_code 55 = .ok (.invokevirtual 74, 3) := by decide +kernel
theorem dO_read_58 : decode prog_1_method_3_code 58 = .ok (.aload_n 0, 1) := by decide +kernel
theorem dO_read_59 : decode prog_1_method_3_code 59 = .ok (.iconst 0, 1) := by decide +kernel
theorem dO_read_60 : decode prog_1_method_3_code 60 = .ok (.putfield 31, 3) := by decide +kernel
theorem dO_read_63 : decode prog_1_method_3_code 63 = .ok (.aload_n 0, 1) := by decide +kernel
theorem dO_read_64 : decode prog_1_method_3_code 64 = .ok (.getfield 55, 3) := by decide +kernel
theorem dO_read_67 : decode prog_1_method_3_code 67 = .ok (.getfield 77, 3) := by decide +kernel
theorem dO_read_70 : decode prog_1_method_3_code 70 = .ok (.ireturn, 1) := by decide +kernel
theorem dO_bar_0 : decode prog_1_method_4_code 0 = .ok (.aload_n 0, 1) := by decide +kernel
theorem dO_bar_1 : decode prog_1_method_4_code 1 = .ok (.iload_n 1, 1) := by decide +kernel
theorem dO_bar_2 : decode prog_1_method_4_code 2 = .ok (.putfield 27, 3) := by decide +kernel
theorem dO_bar_5 : decode prog_1_method_4_code 5 = .ok (.aload_n 0, 1) := by decide +kernel
theorem dO_bar_6 : decode prog_1_method_4_code 6 = .ok (.iconst 0, 1) := by decide +kernel
theorem dO_bar_7 : decode prog_1_method_4_code 7 = .ok (.putfield 31, 3) := by decide +kernel
theorem dO_bar_10 : decode prog_1_method_4_code 10 = .ok (.return_, 1) := by decide +kernel
theorem dO_letters_0 : decode prog_1_method_5_code 0 = .ok (.aload_n 0, 1) := by decide +kernel
theorem dO_letters_1 : decode prog_1_method_5_code 1 = .ok (.getfield 55, 3) := by decide +kernel
theorem dO_letters_4 : decode prog_1_method_5_code 4 = .ok (.getfield 80, 3) := by decide +kernel
theorem dO_letters_7 : decode prog_1_method_5_code 7 = .ok (.ireturn, 1) := by decide +kernel
theorem dO_letter_0 : decode prog_1_method_6_code 0 = .ok (.aload_n 0, 1) := by decide +kernel
theorem dO_letter_1 : decode prog_1_method_6_code 1 = .ok (.getfield 55, 3) := by decide +kernel
theorem dO_letter_4 : decode prog_1_method_6_code 4 = .ok (.iload_n 1, 1) := by decide +kernel
theorem dO_letter_5 : decode prog_1_method_6_code 5 = .ok (.invokevirtual 83, 3) := by decide +kernel
theorem dO_letter_8 : decode prog_1_method_6_code 8 = .ok (.ireturn, 1) := by decide +kernel
theorem dO_run_0 : decode prog_1_method_7_code 0 = .ok (.iload_n 1, 1) := by decide +kernel
theorem dO_run_1 : decode prog_1_method_7_code 1 = .ok (.ifCond .lt 10, 3) := by decide +kernel
theorem dO_run_4 : decode prog_1_method_7_code 4 = .ok (.iload_n 1, 1) := by decide +kernel
theorem dO_run_5 : decode prog_1_method_7_code 5 = .ok (.sipush 1000, 3) := by decide +kernel
theorem dO_run_8 : decode prog_1_method_7_code 8 = .ok (.if_icmp .le 5, 3) := by decide +kernel
theorem dO_run_11 : decode prog_1_method_7_code 11 = .ok (.iconst (-1), 1) := by decide +kernel
theorem dO_run_12 : decode prog_1_method_7_code 12 = .ok (.ireturn, 1) := by decide +kernel
theorem dO_run_13 : decode prog_1_method_7_code 13 = .ok (.aload_n 0, 1) := by decide +kernel
theorem dO_run_14 : decode prog_1_method_7_code 14 = .ok (.iload_n 1, 1) := by decide +kernel
theorem dO_run_15 : decode prog_1_method_7_code 15 = .ok (.aload_n 0, 1) := by decide +kernel
theorem dO_run_16 : decode prog_1_method_7_code 16 = .ok (.invokevirtual 87, 3) := by decide +kernel
theorem dO_run_19 : decode prog_1_method_7_code 19 = .ok (.getfield 91, 3) := by decide +kernel
theorem dO_run_22 : decode prog_1_method_7_code 22 = .ok (.invokestatic 34, 3) := by decide +kernel
theorem dO_run_25 : decode prog_1_method_7_code 25 = .ok (.putfield 31, 3) := by decide +kernel
theorem dO_run_28 : decode prog_1_method_7_code 28 = .ok (.aload_n 0, 1) := by decide +kernel
theorem dO_run_29 : decode prog_1_method_7_code 29 = .ok (.getfield 31, 3) := by decide +kernel
theorem dO_run_32 : decode prog_1_method_7_code 32 = .ok (.ireturn, 1) := by decide +kernel
theorem dO_digit_0 : decode prog_1_method_8_code 0 = .ok (.aload_n 0, 1) := by decide +kernel
theorem dO_digit_1 : decode prog_1_method_8_code 1 = .ok (.getfield 55, 3) := by decide +kernel
theorem dO_digit_4 : decode prog_1_method_8_code 4 = .ok (.iload_n 2, 1) := by decide +kernel
theorem dO_digit_5 : decode prog_1_method_8_code 5 = .ok (.invokevirtual 94, 3) := by decide +kernel
theorem dO_digit_8 : decode prog_1_method_8_code 8 = .ok (.istore_n 3, 1) := by decide +kernel
theorem dO_digit_9 : decode prog_1_method_8_code 9 = .ok (.aload_n 0, 1) := by decide +kernel
theorem dO_digit_10 : decode prog_1_method_8_code 10 = .ok (.iload_n 1, 1) := by decide +kernel
theorem dO_digit_11 : decode prog_1_method_8_code 11 = .ok (.invokevirtual 97, 3) := by decide +kernel
theorem dO_digit_14 : decode prog_1_method_8_code 14 = .ok (.ifCond .eq 8, 3) := by decide +kernel
theorem dO_digit_17 : decode prog_1_method_8_code 17 = .ok (.iload_n 3, 1) := by decide +kernel
theorem dO_digit_18 : decode prog_1_method_8_code 18 = .ok (.iconst (-1), 1) := by decide +kernel
theorem dO_digit_19 : decode prog_1_method_8_code 19 = .ok (.if_icmp .ne 5, 3) := by decide +kernel
theorem dO_digit_22 : decode prog_1_method_8_code 22 = .ok (.iconst (-1), 1) := by decide +kernel
theorem dO_digit_23 : decode prog_1_method_8_code 23 = .ok (.ireturn, 1) := by decide +kernel
theorem dO_digit_24 : decode prog_1_method_8_code 24 = .ok (.aload_n 0, 1) := by decide +kernel
theorem dO_digit_25 : decode prog_1_method_8_code 25 = .ok (.iload_n 1, 1) := by decide +kernel
theorem dO_digit_26 : decode prog_1_method_8_code 26 = .ok (.invokevirtual 101, 3) := by decide +kernel
theorem dO_digit_29 : decode prog_1_method_8_code 29 = .ok (.iload_n 3, 1) := by decide +kernel
theorem dO_digit_30 : decode prog_1_method_8_code 30 = .ok (.invokestatic 104, 3) := by decide +kernel
theorem dO_digit_33 : decode prog_1_method_8_code 33 = .ok (.ireturn, 1) := by decide +kernel
theorem dO_side_0 : decode prog_1_method_9_code 0 = .ok (.aload_n 0, 1) := by decide +kernel
theorem dO_side_1 : decode prog_1_method_9_code 1 = .ok (.iload_n 1, 1) := by decide +kernel
theorem dO_side_2 : decode prog_1_method_9_code 2 = .ok (.invokevirtual 97, 3) := by decide +kernel
theorem dO_side_5 : decode prog_1_method_9_code 5 = .ok (.ifCond .eq 12, 3) := by decide +kernel
theorem dO_side_8 : decode prog_1_method_9_code 8 = .ok (.iload_n 2, 1) := by decide +kernel
theorem dO_side_9 : decode prog_1_method_9_code 9 = .ok (.ifCond .lt 8, 3) := by decide +kernel
theorem dO_side_12 : decode prog_1_method_9_code 12 = .ok (.iload_n 2, 1) := by decide +kernel
theorem dO_side_13 : decode prog_1_method_9_code 13 = .ok (.iconst 1, 1) := by decide +kernel
theorem dO_side_14 : decode prog_1_method_9_code 14 = .ok (.if_icmp .le 7, 3) := by decide +kernel
theorem dO_side_17 : decode prog_1_method_9_code 17 = .ok (.ldc2_w 107, 3) := by decide +kernel
theorem dO_side_20 : decode prog_1_method_9_code 20 = .ok (.lreturn, 1) := by decide +kernel
theorem dO_side_21 : decode prog_1_method_9_code 21 = .ok (.aload_n 0, 1) := by decide +kernel
theorem dO_side_22 : decode prog_1_method_9_code 22 = .ok (.getfield 55, 3) := by decide +kernel
theorem dO_side_25 : decode prog_1_method_9_code 25 = .ok (.iload_n 2, 1) := by decide +kernel
theorem dO_side_26 : decode prog_1_method_9_code 26 = .ok (.iconst 1, 1) := by decide +kernel
theorem dO_side_27 : decode prog_1_method_9_code 27 = .ok (.if_icmp .ne 7, 3) := by decide +kernel
theorem dO_side_30 : decode prog_1_method_9_code 30 = .ok (.iconst 1, 1) := by decide +kernel
theorem dO_side_31 : decode prog_1_method_9_code 31 = .ok (.goto 4, 3) := by decide +kernel
theorem dO_side_34 : decode prog_1_method_9_code 34 = .ok (.iconst 0, 1) := by decide +kernel
theorem dO_side_35 : decode prog_1_method_9_code 35 = .ok (.aload_n 0, 1) := by decide +kernel
theorem dO_side_36 : decode prog_1_method_9_code 36 = .ok (.iload_n 1, 1) := by decide +kernel
theorem dO_side_37 : decode prog_1_method_9_code 37 = .ok (.invokevirtual 101, 3) := by decide +kernel
theorem dO_side_40 : decode prog_1_method_9_code 40 = .ok (.invokevirtual 109, 3) := by decide +kernel
theorem dO_side_43 : decode prog_1_method_9_code 43 = .ok (.lreturn, 1) := by decide +kernel
theorem dO_carry_0 : decode prog_1_method_10_code 0 = .ok (.aload_n 0, 1) := by decide +kernel
theorem dO_carry_1 : decode prog_1_method_10_code 1 = .ok (.iload_n 1, 1) := by decide +kernel
theorem dO_carry_2 : decode prog_1_method_10_code 2 = .ok (.invokevirtual 97, 3) := by decide +kernel
theorem dO_carry_5 : decode prog_1_method_10_code 5 = .ok (.ifCond .eq 23, 3) := by decide +kernel
theorem dO_carry_8 : decode prog_1_method_10_code 8 = .ok (.iload_n 2, 1) := by decide +kernel
theorem dO_carry_9 : decode prog_1_method_10_code 9 = .ok (.ifCond .lt 19, 3) := by decide +kernel
theorem dO_carry_12 : decode prog_1_method_10_code 12 = .ok (.iload_n 2, 1) := by decide +kernel
theorem dO_carry_13 : decode prog_1_method_10_code 13 = .ok (.bipush 8, 2) := by decide +kernel
theorem dO_carry_15 : decode prog_1_method_10_code 15 = .ok (.if_icmp .gt 13, 3) := by decide +kernel
theorem dO_carry_18 : decode prog_1_method_10_code 18 = .ok (.aload_n 0, 1) := by decide +kernel
theorem dO_carry_19 : decode prog_1_method_10_code 19 = .ok (.getfield 55, 3) := by decide +kernel
theorem dO_carry_22 : decode prog_1_method_10_code 22 = .ok (.invokevirtual 113, 3) := by decide +kernel
theorem dO_carry_25 : decode prog_1_method_10_code 25 = .ok (.ifCond .ne 5, 3) := by decide +kernel
theorem dO_carry_28 : decode prog_1_method_10_code 28 = .ok (.iconst (-1), 1) := by decide +kernel
theorem dO_carry_29 : decode prog_1_method_10_code 29 = .ok (.ireturn, 1) := by decide +kernel
theorem dO_carry_30 : decode prog_1_method_10_code 30 = .ok (.aload_n 0, 1) := by decide +kernel
theorem dO_carry_31 : decode prog_1_method_10_code 31 = .ok (.getfield 55, 3) := by decide +kernel
theorem dO_carry_34 : decode prog_1_method_10_code 34 = .ok (.iload_n 2, 1) := by decide +kernel
theorem dO_carry_35 : decode prog_1_method_10_code 35 = .ok (.aload_n 0, 1) := by decide +kernel
theorem dO_carry_36 : decode prog_1_method_10_code 36 = .ok (.iload_n 1, 1) := by decide +kernel
theorem dO_carry_37 : decode prog_1_method_10_code 37 = .ok (.invokevirtual 101, 3) := by decide +kernel
theorem dO_carry_40 : decode prog_1_method_10_code 40 = .ok (.invokevirtual 117, 3) := by decide +kernel
theorem dO_carry_43 : decode prog_1_method_10_code 43 = .ok (.ireturn, 1) := by decide +kernel
theorem dO_text_0 : decode prog_1_method_11_code 0 = .ok (.aload_n 0, 1) := by decide +kernel
theorem dO_text_1 : decode prog_1_method_11_code 1 = .ok (.iload_n 1, 1) := by decide +kernel
theorem dO_text_2 : decode prog_1_method_11_code 2 = .ok (.invokevirtual 97, 3) := by decide +kernel
theorem dO_text_5 : decode prog_1_method_11_code 5 = .ok (.ifCond .ne 5, 3) := by decide +kernel
theorem dO_text_8 : decode prog_1_method_11_code 8 = .ok (.iconst (-1), 1) := by decide +kernel
theorem dO_text_9 : decode prog_1_method_11_code 9 = .ok (.ireturn, 1) := by decide +kernel
theorem dO_text_10 : decode prog_1_method_11_code 10 = .ok (.aload_n 0, 1) := by decide +kernel
theorem dO_text_11 : decode prog_1_method_11_code 11 = .ok (.getfield 55, 3) := by decide +kernel
theorem dO_text_14 : decode prog_1_method_11_code 14 = .ok (.iload_n 2, 1) := by decide +kernel
theorem dO_text_15 : decode prog_1_method_11_code 15 = .ok (.invokevirtual 120, 3) := by decide +kernel
theorem dO_text_18 : decode prog_1_method_11_code 18 = .ok (.istore_n 3, 1) := by decide +kernel
theorem dO_text_19 : decode prog_1_method_11_code 19 = .ok (.iload_n 3, 1) := by decide +kernel
theorem dO_text_20 : decode prog_1_method_11_code 20 = .ok (.invokestatic 123, 3) := by decide +kernel
theorem dO_text_23 : decode prog_1_method_11_code 23 = .ok (.ifCond .eq 22, 3) := by decide +kernel
theorem dO_text_26 : decode prog_1_method_11_code 26 = .ok (.bipush 48, 2) := by decide +kernel
theorem dO_text_28 : decode prog_1_method_11_code 28 = .ok (.aload_n 0, 1) := by decide +kernel
theorem dO_text_29 : decode prog_1_method_11_code 29 = .ok (.getfield 55, 3) := by decide +kernel
theorem dO_text_32 : decode prog_1_method_11_code 32 = .ok (.iload_n 2, 1) := by decide +kernel
theorem dO_text_33 : decode prog_1_method_11_code 33 = .ok (.aload_n 0, 1) := by decide +kernel
theorem dO_text_34 : decode prog_1_method_11_code 34 = .ok (.iload_n 1, 1) := by decide +kernel
theorem dO_text_35 : decode prog_1_method_11_code 35 = .ok (.invokevirtual 101, 3) := by decide +kernel
theorem dO_text_38 : decode prog_1_method_11_code 38 = .ok (.invokevirtual 126, 3) := by decide +kernel
theorem dO_text_41 : decode prog_1_method_11_code 41 = .ok (.iadd, 1) := by decide +kernel
theorem dO_text_42 : decode prog_1_method_11_code 42 = .ok (.goto 4, 3) := by decide +kernel
theorem dO_text_45 : decode prog_1_method_11_code 45 = .ok (.iload_n 3, 1) := by decide +kernel
theorem dO_text_46 : decode prog_1_method_11_code 46 = .ok (.ireturn, 1) := by decide +kernel
theorem dO_one_0 : decode prog_1_method_12_code 0 = .ok (.aload_n 0, 1) := by decide +kernel
theorem dO_one_1 : decode prog_1_method_12_code 1 = .ok (.invokevirtual 87, 3) := by decide +kernel
theorem dO_one_4 : decode prog_1_method_12_code 4 = .ok (.getfield 91, 3) := by decide +kernel
theorem dO_one_7 : decode prog_1_method_12_code 7 = .ok (.iconst 1, 1) := by decide +kernel
theorem dO_one_8 : decode prog_1_method_12_code 8 = .ok (.if_icmp .ne 7, 3) := by decide +kernel
theorem dO_one_11 : decode prog_1_method_12_code 11 = .ok (.iconst 1, 1) := by decide +kernel
theorem dO_one_12 : decode prog_1_method_12_code 12 = .ok (.goto 4, 3) := by decide +kernel
theorem dO_one_15 : decode prog_1_method_12_code 15 = .ok (.iconst 0, 1) := by decide +kernel
theorem dO_one_16 : decode prog_1_method_12_code 16 = .ok (.ireturn, 1) := by decide +kernel
theorem dO_fixed_0 : decode prog_1_method_13_code 0 = .ok (.aload_n 0, 1) := by decide +kernel
theorem dO_fixed_1 : decode prog_1_method_13_code 1 = .ok (.getfield 31, 3) := by decide +kernel
theorem dO_fixed_4 : decode prog_1_method_13_code 4 = .ok (.ifCond .ne 5, 3) := by decide +kernel
theorem dO_fixed_7 : decode prog_1_method_13_code 7 = .ok (.iconst 0, 1) := by decide +kernel
theorem dO_fixed_8 : decode prog_1_method_13_code 8 = .ok (.ireturn, 1) := by decide +kernel
theorem dO_fixed_9 : decode prog_1_method_13_code 9 = .ok (.iconst 0, 1) := by decide +kernel
theorem dO_fixed_10 : decode prog_1_method_13_code 10 = .ok (.istore_n 1, 1) := by decide +kernel
theorem dO_fixed_11 : decode prog_1_method_13_code 11 = .ok (.iconst 0, 1) := by decide +kernel
theorem dO_fixed_12 : decode prog_1_method_13_code 12 = .ok (.istore_n 2, 1) := by decide +kernel
theorem dO_fixed_13 : decode prog_1_method_13_code 13 = .ok (.iload_n 2, 1) := by decide +kernel
theorem dO_fixed_14 : decode prog_1_method_13_code 14 = .ok (.aload_n 0, 1) := by decide +kernel
theorem dO_fixed_15 : decode prog_1_method_13_code 15 = .ok (.getfield 55, 3) := by decide +kernel
theorem dO_fixed_18 : decode prog_1_method_13_code 18 = .ok (.getfield 80, 3) := by decide +kernel
theorem dO_fixed_21 : decode prog_1_method_13_code 21 = .ok (.if_icmp .ge 20, 3) := by decide +kernel
theorem dO_fixed_24 : decode prog_1_method_13_code 24 = .ok (.aload_n 0, 1) := by decide +kernel
theorem dO_fixed_25 : decode prog_1_method_13_code 25 = .ok (.iload_n 2, 1) := by decide +kernel
theorem dO_fixed_26 : decode prog_1_method_13_code 26 = .ok (.invokevirtual 129, 3) := by decide +kernel
theorem dO_fixed_29 : decode prog_1_method_13_code 29 = .ok (.ifCond .eq 6, 3) := by decide +kernel
theorem dO_fixed_32 : decode prog_1_method_13_code 32 = .ok (.iinc 1 1, 3) := by decide +kernel
theorem dO_fixed_35 : decode prog_1_method_13_code 35 = .ok (.iinc 2 1, 3) := by decide +kernel
theorem dO_fixed_38 : decode prog_1_method_13_code 38 = .ok (.goto (-25), 3) := by decide +kernel
theorem dO_fixed_41 : decode prog_1_method_13_code 41 = .ok (.iload_n 1, 1) := by decide +kernel
theorem dO_fixed_42 : decode prog_1_method_13_code 42 = .ok (.ireturn, 1) := by decide +kernel
theorem dO_isAlwaysSame_0 : decode prog_1_method_14_code 0 = .ok (.aload_n 0, 1) := by decide +kernel
theorem dO_isAlwaysSame_1 : decode prog_1_method_14_code 1 = .ok (.iconst 0, 1) := by decide +kernel
theorem dO_isAlwaysSame_2 : decode prog_1_method_14_code 2 = .ok (.invokevirtual 101, 3) := by decide +kernel
theorem dO_isAlwaysSame_5 : decode prog_1_method_14_code 5 = .ok (.iload_n 1, 1) := by decide +kernel
theorem dO_isAlwaysSame_6 : decode prog_1_method_14_code 6 = .ok (.invokestatic 104, 3) := by decide +kernel
theorem dO_isAlwaysSame_9 : decode prog_1_method_14_code 9 = .ok (.istore_n 2, 1) := by decide +kernel
theorem dO_isAlwaysSame_10 : decode prog_1_method_14_code 10 = .ok (.iconst 1, 1) := by decide +kernel
theorem dO_isAlwaysSame_11 : decode prog_1_method_14_code 11 = .ok (.istore_n 3, 1) := by decide +kernel
theorem dO_isAlwaysSame_12 : decode prog_1_method_14_code 12 = .ok (.iload_n 3, 1) := by decide +kernel
theorem dO_isAlwaysSame_13 : decode prog_1_method_14_code 13 = .ok (.aload_n 0, 1) := by decide +kernel
theorem dO_isAlwaysSame_14 : decode prog_1_method_14_code 14 = .ok (.getfield 31, 3) := by decide +kernel
theorem dO_isAlwaysSame_17 : decode prog_1_method_14_code 17 = .ok (.if_icmp .ge 24, 3) := by decide +kernel
theorem dO_isAlwaysSame_20 : decode prog_1_method_14_code 20 = .ok (.aload_n 0, 1) := by decide +kernel
theorem dO_isAlwaysSame_21 : decode prog_1_method_14_code 21 = .ok (.iload_n 3, 1) := by decide +kernel
theorem dO_isAlwaysSame_22 : decode prog_1_method_14_code 22 = .ok (.invokevirtual 101, 3) := by decide +kernel
theorem dO_isAlwaysSame_25 : decode prog_1_method_14_code 25 = .ok (.iload_n 1, 1) := by decide +kernel
theorem dO_isAlwaysSame_26 : decode prog_1_method_14_code 26 = .ok (.invokestatic 104, 3) := by decide +kernel
theorem dO_isAlwaysSame_29 : decode prog_1_method_14_code 29 = .ok (.iload_n 2, 1) := by decide +kernel
theorem dO_isAlwaysSame_30 : decode prog_1_method_14_code 30 = .ok (.if_icmp .eq 5, 3) := by decide +kernel
theorem dO_isAlwaysSame_33 : decode prog_1_method_14_code 33 = .ok (.iconst 0, 1) := by decide +kernel
theorem dO_isAlwaysSame_34 : decode prog_1_method_14_code 34 = .ok (.ireturn, 1) := by decide +kernel
theorem dO_isAlwaysSame_35 : decode prog_1_method_14_code 35 = .ok (.iinc 3 1, 3) := by decide +kernel
theorem dO_isAlwaysSame_38 : decode prog_1_method_14_code 38 = .ok (.goto (-26), 3) := by decide +kernel
theorem dO_isAlwaysSame_41 : decode prog_1_method_14_code 41 = .ok (.iconst 1, 1) := by decide +kernel
theorem dO_isAlwaysSame_42 : decode prog_1_method_14_code 42 = .ok (.ireturn, 1) := by decide +kernel
theorem dO_isKept_0 : decode prog_1_method_15_code 0 = .ok (.iload_n 1, 1) := by decide +kernel
theorem dO_isKept_1 : decode prog_1_method_15_code 1 = .ok (.ifCond .lt 15, 3) := by decide +kernel
theorem dO_isKept_4 : decode prog_1_method_15_code 4 = .ok (.iload_n 1, 1) := by decide +kernel
theorem dO_isKept_5 : decode prog_1_method_15_code 5 = .ok (.aload_n 0, 1) := by decide +kernel
theorem dO_isKept_6 : decode prog_1_method_15_code 6 = .ok (.getfield 31, 3) := by decide +kernel
theorem dO_isKept_9 : decode prog_1_method_15_code 9 = .ok (.if_icmp .ge 7, 3) := by decide +kernel
theorem dO_isKept_12 : decode prog_1_method_15_code 12 = .ok (.iconst 1, 1) := by decide +kernel
theorem dO_isKept_13 : decode prog_1_method_15_code 13 = .ok (.goto 4, 3) := by decide +kernel
theorem dO_isKept_16 : decode prog_1_method_15_code 16 = .ok (.iconst 0, 1) := by decide +kernel
theorem dO_isKept_17 : decode prog_1_method_15_code 17 = .ok (.ireturn, 1) := by decide +kernel
theorem dO_answer_0 : decode prog_1_method_16_code 0 = .ok (.aload_n 0, 1) := by decide +kernel
theorem dO_answer_1 : decode prog_1_method_16_code 1 = .ok (.invokevirtual 132, 3) := by decide +kernel
theorem dO_answer_4 : decode prog_1_method_16_code 4 = .ok (.iload_n 1, 1) := by decide +kernel
theorem dO_answer_5 : decode prog_1_method_16_code 5 = .ok (.invokevirtual 135, 3) := by decide +kernel
theorem dO_answer_8 : decode prog_1_method_16_code 8 = .ok (.ireturn, 1) := by decide +kernel
theorem dO_currentAnswers_0 : decode prog_1_method_17_code 0 = .ok (.aload_n 0, 1) := by decide +kernel
theorem dO_currentAnswers_1 : decode prog_1_method_17_code 1 = .ok (.getfield 27, 3) := by decide +kernel
theorem dO_currentAnswers_4 : decode prog_1_method_17_code 4 = .ok (.ifCond .eq 10, 3) := by decide +kernel
theorem dO_currentAnswers_7 : decode prog_1_method_17_code 7 = .ok (.aload_n 0, 1) := by decide +kernel
theorem dO_currentAnswers_8 : decode prog_1_method_17_code 8 = .ok (.getfield 20, 3) := by decide +kernel
theorem dO_currentAnswers_11 : decode prog_1_method_17_code 11 = .ok (.goto 7, 3) := by decide +kernel
theorem dO_currentAnswers_14 : decode prog_1_method_17_code 14 = .ok (.aload_n 0, 1) := by decide +kernel
theorem dO_currentAnswers_15 : decode prog_1_method_17_code 15 = .ok (.getfield 24, 3) := by decide +kernel
theorem dO_currentAnswers_18 : decode prog_1_method_17_code 18 = .ok (.areturn, 1) := by decide +kernel
theorem dO_allAnswers_0 : decode prog_1_method_18_code 0 = .ok (.aload_n 0, 1) := by decide +kernel
theorem dO_allAnswers_1 : decode prog_1_method_18_code 1 = .ok (.invokevirtual 132, 3) := by decide +kernel
theorem dO_allAnswers_4 : decode prog_1_method_18_code 4 = .ok (.astore_n 1, 1) := by decide +kernel
theorem dO_allAnswers_5 : decode prog_1_method_18_code 5 = .ok (.aload_n 1, 1) := by decide +kernel
theorem dO_allAnswers_6 : decode prog_1_method_18_code 6 = .ok (.getfield 138, 3) := by decide +kernel
theorem dO_allAnswers_9 : decode prog_1_method_18_code 9 = .ok (.ifCond .ne 24, 3) := by decide +kernel
theorem dO_allAnswers_12 : decode prog_1_method_18_code 12 = .ok (.aload_n 0, 1) := by decide +kernel
theorem dO_allAnswers_13 : decode prog_1_method_18_code 13 = .ok (.getfield 62, 3) := by decide +kernel
theorem dO_allAnswers_16 : decode prog_1_method_18_code 16 = .ok (.aload_n 1, 1) := by decide +kernel
theorem dO_allAnswers_17 : decode prog_1_method_18_code 17 = .ok (.aload_n 0, 1) := by decide +kernel
theorem dO_allAnswers_18 : decode prog_1_method_18_code 18 = .ok (.getfield 55, 3) := by decide +kernel
theorem dO_allAnswers_21 : decode prog_1_method_18_code 21 = .ok (.aload_n 0, 1) := by decide +kernel
theorem dO_allAnswers_22 : decode prog_1_method_18_code 22 = .ok (.getfield 27, 3) := by decide +kernel
theorem dO_allAnswers_25 : decode prog_1_method_18_code 25 = .ok (.invokevirtual 141, 3) := by decide +kernel
theorem dO_allAnswers_28 : decode prog_1_method_18_code 28 = .ok (.aload_n 1, 1) := by decide +kernel
theorem dO_allAnswers_29 : decode prog_1_method_18_code 29 = .ok (.iconst 1, 1) := by decide +kernel
theorem dO_allAnswers_30 : decode prog_1_method_18_code 30 = .ok (.putfield 138, 3) := by decide +kernel
theorem dO_allAnswers_33 : decode prog_1_method_18_code 33 = .ok (.aload_n 1, 1) := by decide +kernel
theorem dO_allAnswers_34 : decode prog_1_method_18_code 34 = .ok (.areturn, 1) := by decide +kernel
theorem dO_isLetter_0 : decode prog_1_method_19_code 0 = .ok (.iload_n 0, 1) := by decide +kernel
theorem dO_isLetter_1 : decode prog_1_method_19_code 1 = .ok (.bipush 97, 2) := by decide +kernel
theorem dO_isLetter_3 : decode prog_1_method_19_code 3 = .ok (.if_icmp .lt 13, 3) := by decide +kernel
theorem dO_isLetter_6 : decode prog_1_method_19_code 6 = .ok (.iload_n 0, 1) := by decide +kernel
theorem dO_isLetter_7 : decode prog_1_method_19_code 7 = .ok (.bipush 122, 2) := by decide +kernel
theorem dO_isLetter_9 : decode prog_1_method_19_code 9 = .ok (.if_icmp .gt 7, 3) := by decide +kernel
theorem dO_isLetter_12 : decode prog_1_method_19_code 12 = .ok (.iconst 1, 1) := by decide +kernel
theorem dO_isLetter_13 : decode prog_1_method_19_code 13 = .ok (.goto 4, 3) := by decide +kernel
theorem dO_isLetter_16 : decode prog_1_method_19_code 16 = .ok (.iconst 0, 1) := by decide +kernel
theorem dO_isLetter_17 : decode prog_1_method_19_code 17 = .ok (.ireturn, 1) := by decide +kernel
theorem dO_isDigit_0 : decode prog_1_method_20_code 0 = .ok (.iload_n 0, 1) := by decide +kernel
theorem dO_isDigit_1 : decode prog_1_method_20_code 1 = .ok (.bipush 48, 2) := by decide +kernel
theorem dO_isDigit_3 : decode prog_1_method_20_code 3 = .ok (.if_icmp .lt 13, 3) := by decide +kernel
theorem dO_isDigit_6 : decode prog_1_method_20_code 6 = .ok (.iload_n 0, 1) := by decide +kernel
theorem dO_isDigit_7 : decode prog_1_method_20_code 7 = .ok (.bipush 57, 2) := by decide +kernel
theorem dO_isDigit_9 : decode prog_1_method_20_code 9 = .ok (.if_icmp .gt 7, 3) := by decide +kernel
theorem dO_isDigit_12 : decode prog_1_method_20_code 12 = .ok (.iconst 1, 1) := by decide +kernel
theorem dO_isDigit_13 : decode prog_1_method_20_code 13 = .ok (.goto 4, 3) := by decide +kernel
theorem dO_isDigit_16 : decode prog_1_method_20_code 16 = .ok (.iconst 0, 1) := by decide +kernel
theorem dO_isDigit_17 : decode prog_1_method_20_code 17 = .ok (.ireturn, 1) := by decide +kernel
theorem dO_digitOf_0 : decode prog_1_method_21_code 0 = .ok (.iload_n 0, 1) := by decide +kernel
theorem dO_digitOf_1 : decode prog_1_method_21_code 1 = .ok (.iconst 4, 1) := by decide +kernel
theorem dO_digitOf_2 : decode prog_1_method_21_code 2 = .ok (.iload_n 1, 1) := by decide +kernel
theorem dO_digitOf_3 : decode prog_1_method_21_code 3 = .ok (.imul, 1) := by decide +kernel
theorem dO_digitOf_4 : decode prog_1_method_21_code 4 = .ok (.iushr, 1) := by decide +kernel
theorem dO_digitOf_5 : decode prog_1_method_21_code 5 = .ok (.bipush 15, 2) := by decide +kernel
theorem dO_digitOf_7 : decode prog_1_method_21_code 7 = .ok (.iand, 1) := by decide +kernel
theorem dO_digitOf_8 : decode prog_1_method_21_code 8 = .ok (.ireturn, 1) := by decide +kernel
theorem dO_withDigit_0 : decode prog_1_method_22_code 0 = .ok (.iload_n 0, 1) := by decide +kernel
theorem dO_withDigit_1 : decode prog_1_method_22_code 1 = .ok (.iload_n 2, 1) := by decide +kernel
theorem dO_withDigit_2 : decode prog_1_method_22_code 2 = .ok (.iconst 4, 1) := by decide +kernel
theorem dO_withDigit_3 : decode prog_1_method_22_code 3 = .ok (.iload_n 1, 1) := by decide +kernel
theorem dO_withDigit_4 : decode prog_1_method_22_code 4 = .ok (.imul, 1) := by decide +kernel
theorem dO_withDigit_5 : decode prog_1_method_22_code 5 = .ok (.ishl, 1) := by decide +kernel
theorem dO_withDigit_6 : decode prog_1_method_22_code 6 = .ok (.ior, 1) := by decide +kernel
theorem dO_withDigit_7 : decode prog_1_method_22_code 7 = .ok (.ireturn, 1) := by decide +kernel
