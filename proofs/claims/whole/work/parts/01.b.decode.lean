theorem dP_init_0 : decode prog_3_method_1_code 0 = .ok (.aload_n 0, 1) := by decide +kernel
theorem dP_init_1 : decode prog_3_method_1_code 1 = .ok (.invokespecial 3, 3) := by decide +kernel
theorem dP_init_4 : decode prog_3_method_1_code 4 = .ok (.aload_n 0, 1) := by decide +kernel
theorem dP_init_5 : decode prog_3_method_1_code 5 = .ok (.new 9, 3) := by decide +kernel
theorem dP_init_8 : decode prog_3_method_1_code 8 = .ok (.dup, 1) := by decide +kernel
theorem dP_init_9 : decode prog_3_method_1_code 9 = .ok (.bipush 42, 2) := by decide +kernel
theorem dP_init_11 : decode prog_3_method_1_code 11 = .ok (.invokespecial 11, 3) := by decide +kernel
theorem dP_init_14 : decode prog_3_method_1_code 14 = .ok (.putfield 14, 3) := by decide +kernel
theorem dP_init_17 : decode prog_3_method_1_code 17 = .ok (.aload_n 0, 1) := by decide +kernel
theorem dP_init_18 : decode prog_3_method_1_code 18 = .ok (.iconst 0, 1) := by decide +kernel
theorem dP_init_19 : decode prog_3_method_1_code 19 = .ok (.putfield 20, 3) := by decide +kernel
theorem dP_init_22 : decode prog_3_method_1_code 22 = .ok (.return_, 1) := by decide +kernel
theorem dP_length_0 : decode prog_3_method_2_code 0 = .ok (.aload_n 0, 1) := by decide +kernel
theorem dP_length_1 : decode prog_3_method_2_code 1 = .ok (.getfield 14, 3) := by decide +kernel
theorem dP_length_4 : decode prog_3_method_2_code 4 = .ok (.invokevirtual 24, 3) := by decide +kernel
theorem dP_length_7 : decode prog_3_method_2_code 7 = .ok (.ireturn, 1) := by decide +kernel
theorem dP_has_0 : decode prog_3_method_3_code 0 = .ok (.aload_n 0, 1) := by decide +kernel
theorem dP_has_1 : decode prog_3_method_3_code 1 = .ok (.getfield 14, 3) := by decide +kernel
theorem dP_has_4 : decode prog_3_method_3_code 4 = .ok (.iload_n 1, 1) := by decide +kernel
theorem dP_has_5 : decode prog_3_method_3_code 5 = .ok (.invokevirtual 28, 3) := by decide +kernel
theorem dP_has_8 : decode prog_3_method_3_code 8 = .ok (.ireturn, 1) := by decide +kernel
theorem dP_at_0 : decode prog_3_method_4_code 0 = .ok (.aload_n 0, 1) := by decide +kernel
theorem dP_at_1 : decode prog_3_method_4_code 1 = .ok (.getfield 14, 3) := by decide +kernel
theorem dP_at_4 : decode prog_3_method_4_code 4 = .ok (.iload_n 1, 1) := by decide +kernel
theorem dP_at_5 : decode prog_3_method_4_code 5 = .ok (.invokevirtual 32, 3) := by decide +kernel
theorem dP_at_8 : decode prog_3_method_4_code 8 = .ok (.ireturn, 1) := by decide +kernel
theorem dP_copied_0 : decode prog_3_method_5_code 0 = .ok (.aload_n 0, 1) := by decide +kernel
theorem dP_copied_1 : decode prog_3_method_5_code 1 = .ok (.getfield 20, 3) := by decide +kernel
theorem dP_copied_4 : decode prog_3_method_5_code 4 = .ok (.ireturn, 1) := by decide +kernel
theorem dP_make_0 : decode prog_3_method_6_code 0 = .ok (.aload_n 0, 1) := by decide +kernel
theorem dP_make_1 : decode prog_3_method_6_code 1 = .ok (.getfield 14, 3) := by decide +kernel
theorem dP_make_4 : decode prog_3_method_6_code 4 = .ok (.invokevirtual 36, 3) := by decide +kernel
theorem dP_make_7 : decode prog_3_method_6_code 7 = .ok (.aload_n 0, 1) := by decide +kernel
theorem dP_make_8 : decode prog_3_method_6_code 8 = .ok (.iconst 0, 1) := by decide +kernel
theorem dP_make_9 : decode prog_3_method_6_code 9 = .ok (.putfield 20, 3) := by decide +kernel
theorem dP_make_12 : decode prog_3_method_6_code 12 = .ok (.iconst 0, 1) := by decide +kernel
theorem dP_make_13 : decode prog_3_method_6_code 13 = .ok (.istore_n 3, 1) := by decide +kernel
theorem dP_make_14 : decode prog_3_method_6_code 14 = .ok (.iconst 1, 1) := by decide +kernel
theorem dP_make_15 : decode prog_3_method_6_code 15 = .ok (.istore 4, 2) := by decide +kernel
theorem dP_make_17 : decode prog_3_method_6_code 17 = .ok (.iconst 0, 1) := by decide +kernel
theorem dP_make_18 : decode prog_3_method_6_code 18 = .ok (.istore 5, 2) := by decide +kernel
theorem dP_make_20 : decode prog_3_method_6_code 20 = .ok (.iload 5, 2) := by decide +kernel
theorem dP_make_22 : decode prog_3_method_6_code 22 = .ok (.aload_n 1, 1) := by decide +kernel
theorem dP_make_23 : decode prog_3_method_6_code 23 = .ok (.invokevirtual 24, 3) := by decide +kernel
theorem dP_make_26 : decode prog_3_method_6_code 26 = .ok (.if_icmp .ge 68, 3) := by decide +kernel
theorem dP_make_29 : decode prog_3_method_6_code 29 = .ok (.aload_n 1, 1) := by decide +kernel
theorem dP_make_30 : decode prog_3_method_6_code 30 = .ok (.iload 5, 2) := by decide +kernel
theorem dP_make_32 : decode prog_3_method_6_code 32 = .ok (.aload_n 2, 1) := by decide +kernel
theorem dP_make_33 : decode prog_3_method_6_code 33 = .ok (.invokestatic 39, 3) := by decide +kernel
theorem dP_make_36 : decode prog_3_method_6_code 36 = .ok (.istore 6, 2) := by decide +kernel
theorem dP_make_38 : decode prog_3_method_6_code 38 = .ok (.aload_n 1, 1) := by decide +kernel
theorem dP_make_39 : decode prog_3_method_6_code 39 = .ok (.iload 5, 2) := by decide +kernel
theorem dP_make_41 : decode prog_3_method_6_code 41 = .ok (.aload_n 2, 1) := by decide +kernel
theorem dP_make_42 : decode prog_3_method_6_code 42 = .ok (.iload 6, 2) := by decide +kernel
theorem dP_make_44 : decode prog_3_method_6_code 44 = .ok (.invokestatic 43, 3) := by decide +kernel
theorem dP_make_47 : decode prog_3_method_6_code 47 = .ok (.istore 7, 2) := by decide +kernel
theorem dP_make_49 : decode prog_3_method_6_code 49 = .ok (.iconst 1, 1) := by decide +kernel
theorem dP_make_50 : decode prog_3_method_6_code 50 = .ok (.istore 4, 2) := by decide +kernel
theorem dP_make_52 : decode prog_3_method_6_code 52 = .ok (.iload 7, 2) := by decide +kernel
theorem dP_make_54 : decode prog_3_method_6_code 54 = .ok (.iconst 4, 1) := by decide +kernel
theorem dP_make_55 : decode prog_3_method_6_code 55 = .ok (.if_icmp .lt 29, 3) := by decide +kernel
theorem dP_make_58 : decode prog_3_method_6_code 58 = .ok (.aload_n 0, 1) := by decide +kernel
theorem dP_make_59 : decode prog_3_method_6_code 59 = .ok (.aload_n 1, 1) := by decide +kernel
theorem dP_make_60 : decode prog_3_method_6_code 60 = .ok (.iload_n 3, 1) := by decide +kernel
theorem dP_make_61 : decode prog_3_method_6_code 61 = .ok (.iload 5, 2) := by decide +kernel
theorem dP_make_63 : decode prog_3_method_6_code 63 = .ok (.invokevirtual 47, 3) := by decide +kernel
theorem dP_make_66 : decode prog_3_method_6_code 66 = .ok (.aload_n 0, 1) := by decide +kernel
theorem dP_make_67 : decode prog_3_method_6_code 67 = .ok (.iload 6, 2) := by decide +kernel
theorem dP_make_69 : decode prog_3_method_6_code 69 = .ok (.iload 7, 2) := by decide +kernel
theorem dP_make_71 : decode prog_3_method_6_code 71 = .ok (.invokevirtual 51, 3) := by decide +kernel
theorem dP_make_74 : decode prog_3_method_6_code 74 = .ok (.iload 7, 2) := by decide +kernel
theorem dP_make_76 : decode prog_3_method_6_code 76 = .ok (.istore 4, 2) := by decide +kernel
theorem dP_make_78 : decode prog_3_method_6_code 78 = .ok (.iload 5, 2) := by decide +kernel
theorem dP_make_80 : decode prog_3_method_6_code 80 = .ok (.iload 7, 2) := by decide +kernel
theorem dP_make_82 : decode prog_3_method_6_code 82 = .ok (.iadd, 1) := by decide +kernel
theorem dP_make_83 : decode prog_3_method_6_code 83 = .ok (.istore_n 3, 1) := by decide +kernel
theorem dP_make_84 : decode prog_3_method_6_code 84 = .ok (.iload 5, 2) := by decide +kernel
theorem dP_make_86 : decode prog_3_method_6_code 86 = .ok (.iload 4, 2) := by decide +kernel
theorem dP_make_88 : decode prog_3_method_6_code 88 = .ok (.iadd, 1) := by decide +kernel
theorem dP_make_89 : decode prog_3_method_6_code 89 = .ok (.istore 5, 2) := by decide +kernel
theorem dP_make_91 : decode prog_3_method_6_code 91 = .ok (.goto (-71), 3) := by decide +kernel
theorem dP_make_94 : decode prog_3_method_6_code 94 = .ok (.aload_n 0, 1) := by decide +kernel
theorem dP_make_95 : decode prog_3_method_6_code 95 = .ok (.aload_n 1, 1) := by decide +kernel
theorem dP_make_96 : decode prog_3_method_6_code 96 = .ok (.iload_n 3, 1) := by decide +kernel
theorem dP_make_97 : decode prog_3_method_6_code 97 = .ok (.aload_n 1, 1) := by decide +kernel
theorem dP_make_98 : decode prog_3_method_6_code 98 = .ok (.invokevirtual 24, 3) := by decide +kernel
theorem dP_make_101 : decode prog_3_method_6_code 101 = .ok (.invokevirtual 47, 3) := by decide +kernel
theorem dP_make_104 : decode prog_3_method_6_code 104 = .ok (.return_, 1) := by decide +kernel
theorem dP_matchPlace_0 : decode prog_3_method_7_code 0 = .ok (.iconst 0, 1) := by decide +kernel
theorem dP_matchPlace_1 : decode prog_3_method_7_code 1 = .ok (.istore_n 3, 1) := by decide +kernel
theorem dP_matchPlace_2 : decode prog_3_method_7_code 2 = .ok (.iconst 0, 1) := by decide +kernel
theorem dP_matchPlace_3 : decode prog_3_method_7_code 3 = .ok (.istore 4, 2) := by decide +kernel
theorem dP_matchPlace_5 : decode prog_3_method_7_code 5 = .ok (.iconst 0, 1) := by decide +kernel
theorem dP_matchPlace_6 : decode prog_3_method_7_code 6 = .ok (.istore 5, 2) := by decide +kernel
theorem dP_matchPlace_8 : decode prog_3_method_7_code 8 = .ok (.iload 5, 2) := by decide +kernel
theorem dP_matchPlace_10 : decode prog_3_method_7_code 10 = .ok (.aload_n 2, 1) := by decide +kernel
theorem dP_matchPlace_11 : decode prog_3_method_7_code 11 = .ok (.invokevirtual 24, 3) := by decide +kernel
theorem dP_matchPlace_14 : decode prog_3_method_7_code 14 = .ok (.if_icmp .ge 32, 3) := by decide +kernel
theorem dP_matchPlace_17 : decode prog_3_method_7_code 17 = .ok (.aload_n 0, 1) := by decide +kernel
theorem dP_matchPlace_18 : decode prog_3_method_7_code 18 = .ok (.iload_n 1, 1) := by decide +kernel
theorem dP_matchPlace_19 : decode prog_3_method_7_code 19 = .ok (.aload_n 2, 1) := by decide +kernel
theorem dP_matchPlace_20 : decode prog_3_method_7_code 20 = .ok (.iload 5, 2) := by decide +kernel
theorem dP_matchPlace_22 : decode prog_3_method_7_code 22 = .ok (.invokestatic 43, 3) := by decide +kernel
theorem dP_matchPlace_25 : decode prog_3_method_7_code 25 = .ok (.istore 6, 2) := by decide +kernel
theorem dP_matchPlace_27 : decode prog_3_method_7_code 27 = .ok (.iload 6, 2) := by decide +kernel
theorem dP_matchPlace_29 : decode prog_3_method_7_code 29 = .ok (.iload_n 3, 1) := by decide +kernel
theorem dP_matchPlace_30 : decode prog_3_method_7_code 30 = .ok (.if_icmp .le 10, 3) := by decide +kernel
theorem dP_matchPlace_33 : decode prog_3_method_7_code 33 = .ok (.iload 6, 2) := by decide +kernel
theorem dP_matchPlace_35 : decode prog_3_method_7_code 35 = .ok (.istore_n 3, 1) := by decide +kernel
theorem dP_matchPlace_36 : decode prog_3_method_7_code 36 = .ok (.iload 5, 2) := by decide +kernel
theorem dP_matchPlace_38 : decode prog_3_method_7_code 38 = .ok (.istore 4, 2) := by decide +kernel
theorem dP_matchPlace_40 : decode prog_3_method_7_code 40 = .ok (.iinc 5 1, 3) := by decide +kernel
theorem dP_matchPlace_43 : decode prog_3_method_7_code 43 = .ok (.goto (-35), 3) := by decide +kernel
theorem dP_matchPlace_46 : decode prog_3_method_7_code 46 = .ok (.iload 4, 2) := by decide +kernel
theorem dP_matchPlace_48 : decode prog_3_method_7_code 48 = .ok (.ireturn, 1) := by decide +kernel
theorem dP_common_0 : decode prog_3_method_8_code 0 = .ok (.aload_n 0, 1) := by decide +kernel
theorem dP_common_1 : decode prog_3_method_8_code 1 = .ok (.invokevirtual 24, 3) := by decide +kernel
theorem dP_common_4 : decode prog_3_method_8_code 4 = .ok (.iload_n 1, 1) := by decide +kernel
theorem dP_common_5 : decode prog_3_method_8_code 5 = .ok (.isub, 1) := by decide +kernel
theorem dP_common_6 : decode prog_3_method_8_code 6 = .ok (.aload_n 2, 1) := by decide +kernel
theorem dP_common_7 : decode prog_3_method_8_code 7 = .ok (.invokevirtual 24, 3) := by decide +kernel
theorem dP_common_10 : decode prog_3_method_8_code 10 = .ok (.iload_n 3, 1) := by decide +kernel
theorem dP_common_11 : decode prog_3_method_8_code 11 = .ok (.isub, 1) := by decide +kernel
theorem dP_common_12 : decode prog_3_method_8_code 12 = .ok (.invokestatic 55, 3) := by decide +kernel
theorem dP_common_15 : decode prog_3_method_8_code 15 = .ok (.istore 4, 2) := by decide +kernel
theorem dP_common_17 : decode prog_3_method_8_code 17 = .ok (.iconst 0, 1) := by decide +kernel
theorem dP_common_18 : decode prog_3_method_8_code 18 = .ok (.istore 5, 2) := by decide +kernel
theorem dP_common_20 : decode prog_3_method_8_code 20 = .ok (.iload 5, 2) := by decide +kernel
theorem dP_common_22 : decode prog_3_method_8_code 22 = .ok (.iload 4, 2) := by decide +kernel
theorem dP_common_24 : decode prog_3_method_8_code 24 = .ok (.if_icmp .ge 28, 3) := by decide +kernel
theorem dP_common_27 : decode prog_3_method_8_code 27 = .ok (.aload_n 0, 1) := by decide +kernel
theorem dP_common_28 : decode prog_3_method_8_code 28 = .ok (.iload_n 1, 1) := by decide +kernel
theorem dP_common_29 : decode prog_3_method_8_code 29 = .ok (.iload 5, 2) := by decide +kernel
theorem dP_common_31 : decode prog_3_method_8_code 31 = .ok (.iadd, 1) := by decide +kernel
theorem dP_common_32 : decode prog_3_method_8_code 32 = .ok (.invokevirtual 32, 3) := by decide +kernel
theorem dP_common_35 : decode prog_3_method_8_code 35 = .ok (.aload_n 2, 1) := by decide +kernel
theorem dP_common_36 : decode prog_3_method_8_code 36 = .ok (.iload_n 3, 1) := by decide +kernel
theorem dP_common_37 : decode prog_3_method_8_code 37 = .ok (.iload 5, 2) := by decide +kernel
theorem dP_common_39 : decode prog_3_method_8_code 39 = .ok (.iadd, 1) := by decide +kernel
theorem dP_common_40 : decode prog_3_method_8_code 40 = .ok (.invokevirtual 32, 3) := by decide +kernel
theorem dP_common_43 : decode prog_3_method_8_code 43 = .ok (.if_icmp .ne 9, 3) := by decide +kernel
theorem dP_common_46 : decode prog_3_method_8_code 46 = .ok (.iinc 5 1, 3) := by decide +kernel
theorem dP_common_49 : decode prog_3_method_8_code 49 = .ok (.goto (-29), 3) := by decide +kernel
theorem dP_common_52 : decode prog_3_method_8_code 52 = .ok (.iload 5, 2) := by decide +kernel
theorem dP_common_54 : decode prog_3_method_8_code 54 = .ok (.ireturn, 1) := by decide +kernel
theorem dP_putCopy_0 : decode prog_3_method_9_code 0 = .ok (.aload_n 0, 1) := by decide +kernel
theorem dP_putCopy_1 : decode prog_3_method_9_code 1 = .ok (.getfield 14, 3) := by decide +kernel
theorem dP_putCopy_4 : decode prog_3_method_9_code 4 = .ok (.bipush 28, 2) := by decide +kernel
theorem dP_putCopy_6 : decode prog_3_method_9_code 6 = .ok (.iload_n 2, 1) := by decide +kernel
theorem dP_putCopy_7 : decode prog_3_method_9_code 7 = .ok (.iadd, 1) := by decide +kernel
theorem dP_putCopy_8 : decode prog_3_method_9_code 8 = .ok (.invokevirtual 61, 3) := by decide +kernel
theorem dP_putCopy_11 : decode prog_3_method_9_code 11 = .ok (.aload_n 0, 1) := by decide +kernel
theorem dP_putCopy_12 : decode prog_3_method_9_code 12 = .ok (.getfield 14, 3) := by decide +kernel
theorem dP_putCopy_15 : decode prog_3_method_9_code 15 = .ok (.iload_n 1, 1) := by decide +kernel
theorem dP_putCopy_16 : decode prog_3_method_9_code 16 = .ok (.invokevirtual 61, 3) := by decide +kernel
theorem dP_putCopy_19 : decode prog_3_method_9_code 19 = .ok (.aload_n 0, 1) := by decide +kernel
theorem dP_putCopy_20 : decode prog_3_method_9_code 20 = .ok (.dup, 1) := by decide +kernel
theorem dP_putCopy_21 : decode prog_3_method_9_code 21 = .ok (.getfield 20, 3) := by decide +kernel
theorem dP_putCopy_24 : decode prog_3_method_9_code 24 = .ok (.iload_n 2, 1) := by decide +kernel
theorem dP_putCopy_25 : decode prog_3_method_9_code 25 = .ok (.iadd, 1) := by decide +kernel
theorem dP_putCopy_26 : decode prog_3_method_9_code 26 = .ok (.putfield 20, 3) := by decide +kernel
theorem dP_putCopy_29 : decode prog_3_method_9_code 29 = .ok (.return_, 1) := by decide +kernel
theorem dP_putLoose_0 : decode prog_3_method_10_code 0 = .ok (.iload_n 2, 1) := by decide +kernel
theorem dP_putLoose_1 : decode prog_3_method_10_code 1 = .ok (.istore 4, 2) := by decide +kernel
theorem dP_putLoose_3 : decode prog_3_method_10_code 3 = .ok (.iload 4, 2) := by decide +kernel
theorem dP_putLoose_5 : decode prog_3_method_10_code 5 = .ok (.iload_n 3, 1) := by decide +kernel
theorem dP_putLoose_6 : decode prog_3_method_10_code 6 = .ok (.if_icmp .ge 41, 3) := by decide +kernel
theorem dP_putLoose_9 : decode prog_3_method_10_code 9 = .ok (.bipush 31, 2) := by decide +kernel
theorem dP_putLoose_11 : decode prog_3_method_10_code 11 = .ok (.iload_n 3, 1) := by decide +kernel
theorem dP_putLoose_12 : decode prog_3_method_10_code 12 = .ok (.iload 4, 2) := by decide +kernel
theorem dP_putLoose_14 : decode prog_3_method_10_code 14 = .ok (.isub, 1) := by decide +kernel
theorem dP_putLoose_15 : decode prog_3_method_10_code 15 = .ok (.invokestatic 55, 3) := by decide +kernel
theorem dP_putLoose_18 : decode prog_3_method_10_code 18 = .ok (.istore 5, 2) := by decide +kernel
theorem dP_putLoose_20 : decode prog_3_method_10_code 20 = .ok (.aload_n 0, 1) := by decide +kernel
theorem dP_putLoose_21 : decode prog_3_method_10_code 21 = .ok (.getfield 14, 3) := by decide +kernel
theorem dP_putLoose_24 : decode prog_3_method_10_code 24 = .ok (.iload 5, 2) := by decide +kernel
theorem dP_putLoose_26 : decode prog_3_method_10_code 26 = .ok (.invokevirtual 61, 3) := by decide +kernel
theorem dP_putLoose_29 : decode prog_3_method_10_code 29 = .ok (.aload_n 0, 1) := by decide +kernel
theorem dP_putLoose_30 : decode prog_3_method_10_code 30 = .ok (.getfield 14, 3) := by decide +kernel
theorem dP_putLoose_33 : decode prog_3_method_10_code 33 = .ok (.aload_n 1, 1) := by decide +kernel
theorem dP_putLoose_34 : decode prog_3_method_10_code 34 = .ok (.iload 4, 2) := by decide +kernel
theorem dP_putLoose_36 : decode prog_3_method_10_code 36 = .ok (.iload 5, 2) := by decide +kernel
theorem dP_putLoose_38 : decode prog_3_method_10_code 38 = .ok (.invokevirtual 64, 3) := by decide +kernel
theorem dP_putLoose_41 : decode prog_3_method_10_code 41 = .ok (.iinc 4 31, 3) := by decide +kernel
theorem dP_putLoose_44 : decode prog_3_method_10_code 44 = .ok (.goto (-41), 3) := by decide +kernel
theorem dP_putLoose_47 : decode prog_3_method_10_code 47 = .ok (.return_, 1) := by decide +kernel
theorem dP_blocks_0 : decode prog_3_method_11_code 0 = .ok (.aload_n 0, 1) := by decide +kernel
theorem dP_blocks_1 : decode prog_3_method_11_code 1 = .ok (.getfield 14, 3) := by decide +kernel
theorem dP_blocks_4 : decode prog_3_method_11_code 4 = .ok (.invokevirtual 24, 3) := by decide +kernel
theorem dP_blocks_7 : decode prog_3_method_11_code 7 = .ok (.iconst 5, 1) := by decide +kernel
theorem dP_blocks_8 : decode prog_3_method_11_code 8 = .ok (.iadd, 1) := by decide +kernel
theorem dP_blocks_9 : decode prog_3_method_11_code 9 = .ok (.iconst 1, 1) := by decide +kernel
theorem dP_blocks_10 : decode prog_3_method_11_code 10 = .ok (.isub, 1) := by decide +kernel
theorem dP_blocks_11 : decode prog_3_method_11_code 11 = .ok (.iconst 5, 1) := by decide +kernel
theorem dP_blocks_12 : decode prog_3_method_11_code 12 = .ok (.idiv, 1) := by decide +kernel
theorem dP_blocks_13 : decode prog_3_method_11_code 13 = .ok (.ireturn, 1) := by decide +kernel
theorem dP_putPiece_0 : decode prog_3_method_12_code 0 = .ok (.aload_n 0, 1) := by decide +kernel
theorem dP_putPiece_1 : decode prog_3_method_12_code 1 = .ok (.getfield 14, 3) := by decide +kernel
theorem dP_putPiece_4 : decode prog_3_method_12_code 4 = .ok (.iload_n 1, 1) := by decide +kernel
theorem dP_putPiece_5 : decode prog_3_method_12_code 5 = .ok (.invokevirtual 32, 3) := by decide +kernel
theorem dP_putPiece_8 : decode prog_3_method_12_code 8 = .ok (.istore 4, 2) := by decide +kernel
theorem dP_putPiece_10 : decode prog_3_method_12_code 10 = .ok (.iload 4, 2) := by decide +kernel
theorem dP_putPiece_12 : decode prog_3_method_12_code 12 = .ok (.bipush 31, 2) := by decide +kernel
theorem dP_putPiece_14 : decode prog_3_method_12_code 14 = .ok (.if_icmp .gt 23, 3) := by decide +kernel
theorem dP_putPiece_17 : decode prog_3_method_12_code 17 = .ok (.aload_n 3, 1) := by decide +kernel
theorem dP_putPiece_18 : decode prog_3_method_12_code 18 = .ok (.aload_n 0, 1) := by decide +kernel
theorem dP_putPiece_19 : decode prog_3_method_12_code 19 = .ok (.getfield 14, 3) := by decide +kernel
theorem dP_putPiece_22 : decode prog_3_method_12_code 22 = .ok (.iload_n 1, 1) := by decide +kernel
theorem dP_putPiece_23 : decode prog_3_method_12_code 23 = .ok (.iconst 1, 1) := by decide +kernel
theorem dP_putPiece_24 : decode prog_3_method_12_code 24 = .ok (.iadd, 1) := by decide +kernel
theorem dP_putPiece_25 : decode prog_3_method_12_code 25 = .ok (.iload 4, 2) := by decide +kernel
theorem dP_putPiece_27 : decode prog_3_method_12_code 27 = .ok (.invokevirtual 64, 3) := by decide +kernel
theorem dP_putPiece_30 : decode prog_3_method_12_code 30 = .ok (.iload_n 1, 1) := by decide +kernel
theorem dP_putPiece_31 : decode prog_3_method_12_code 31 = .ok (.iconst 1, 1) := by decide +kernel
theorem dP_putPiece_32 : decode prog_3_method_12_code 32 = .ok (.iadd, 1) := by decide +kernel
theorem dP_putPiece_33 : decode prog_3_method_12_code 33 = .ok (.iload 4, 2) := by decide +kernel
theorem dP_putPiece_35 : decode prog_3_method_12_code 35 = .ok (.iadd, 1) := by decide +kernel
theorem dP_putPiece_36 : decode prog_3_method_12_code 36 = .ok (.ireturn, 1) := by decide +kernel
theorem dP_putPiece_37 : decode prog_3_method_12_code 37 = .ok (.aload_n 3, 1) := by decide +kernel
theorem dP_putPiece_38 : decode prog_3_method_12_code 38 = .ok (.aload_n 2, 1) := by decide +kernel
theorem dP_putPiece_39 : decode prog_3_method_12_code 39 = .ok (.aload_n 0, 1) := by decide +kernel
theorem dP_putPiece_40 : decode prog_3_method_12_code 40 = .ok (.getfield 14, 3) := by decide +kernel
theorem dP_putPiece_43 : decode prog_3_method_12_code 43 = .ok (.iload_n 1, 1) := by decide +kernel
theorem dP_putPiece_44 : decode prog_3_method_12_code 44 = .ok (.iconst 1, 1) := by decide +kernel
theorem dP_putPiece_45 : decode prog_3_method_12_code 45 = .ok (.iadd, 1) := by decide +kernel
theorem dP_putPiece_46 : decode prog_3_method_12_code 46 = .ok (.invokevirtual 32, 3) := by decide +kernel
theorem dP_putPiece_49 : decode prog_3_method_12_code 49 = .ok (.iload 4, 2) := by decide +kernel
theorem dP_putPiece_51 : decode prog_3_method_12_code 51 = .ok (.bipush 28, 2) := by decide +kernel
theorem dP_putPiece_53 : decode prog_3_method_12_code 53 = .ok (.isub, 1) := by decide +kernel
theorem dP_putPiece_54 : decode prog_3_method_12_code 54 = .ok (.invokevirtual 64, 3) := by decide +kernel
theorem dP_putPiece_57 : decode prog_3_method_12_code 57 = .ok (.iload_n 1, 1) := by decide +kernel
theorem dP_putPiece_58 : decode prog_3_method_12_code 58 = .ok (.iconst 2, 1) := by decide +kernel
theorem dP_putPiece_59 : decode prog_3_method_12_code 59 = .ok (.iadd, 1) := by decide +kernel
theorem dP_putPiece_60 : decode prog_3_method_12_code 60 = .ok (.ireturn, 1) := by decide +kernel
theorem dR_init_0 : decode prog_4_method_1_code 0 = .ok (.aload_n 0, 1) := by decide +kernel
theorem dR_init_1 : decode prog_4_method_1_code 1 = .ok (.invokespecial 1, 3) := by decide +kernel
theorem dR_init_4 : decode prog_4_method_1_code 4 = .ok (.aload_n 0, 1) := by decide +kernel
theorem dR_init_5 : decode prog_4_method_1_code 5 = .ok (.iload_n 1, 1) := by decide +kernel
theorem dR_init_6 : decode prog_4_method_1_code 6 = .ok (.newarray .int, 2) := by decide +kernel
theorem dR_init_8 : decode prog_4_method_1_code 8 = .ok (.putfield 7, 3) := by decide +kernel
theorem dR_init_11 : decode prog_4_method_1_code 11 = .ok (.aload_n 0, 1) := by decide +kernel
theorem dR_init_12 : decode prog_4_method_1_code 12 = .ok (.iconst 0, 1) := by decide +kernel
theorem dR_init_13 : decode prog_4_method_1_code 13 = .ok (.putfield 13, 3) := by decide +kernel
theorem dR_init_16 : decode prog_4_method_1_code 16 = .ok (.return_, 1) := by decide +kernel
theorem dR_length_0 : decode prog_4_method_2_code 0 = .ok (.aload_n 0, 1) := by decide +kernel
theorem dR_length_1 : decode prog_4_method_2_code 1 = .ok (.getfield 13, 3) := by decide +kernel
theorem dR_length_4 : decode prog_4_method_2_code 4 = .ok (.ireturn, 1) := by decide +kernel
theorem dR_has_0 : decode prog_4_method_3_code 0 = .ok (.iload_n 1, 1) := by decide +kernel
theorem dR_has_1 : decode prog_4_method_3_code 1 = .ok (.ifCond .lt 15, 3) := by decide +kernel
theorem dR_has_4 : decode prog_4_method_3_code 4 = .ok (.iload_n 1, 1) := by decide +kernel
theorem dR_has_5 : decode prog_4_method_3_code 5 = .ok (.aload_n 0, 1) := by decide +kernel
theorem dR_has_6 : decode prog_4_method_3_code 6 = .ok (.getfield 13, 3) := by decide +kernel
theorem dR_has_9 : decode prog_4_method_3_code 9 = .ok (.if_icmp .ge 7, 3) := by decide +kernel
theorem dR_has_12 : decode prog_4_method_3_code 12 = .ok (.iconst 1, 1) := by decide +kernel
theorem dR_has_13 : decode prog_4_method_3_code 13 = .ok (.goto 4, 3) := by decide +kernel
theorem dR_has_16 : decode prog_4_method_3_code 16 = .ok (.iconst 0, 1) := by decide +kernel
theorem dR_has_17 : decode prog_4_method_3_code 17 = .ok (.ireturn, 1) := by decide +kernel
theorem dR_at_0 : decode prog_4_method_4_code 0 = .ok (.aload_n 0, 1) := by decide +kernel
theorem dR_at_1 : decode prog_4_method_4_code 1 = .ok (.iload_n 1, 1) := by decide +kernel
theorem dR_at_2 : decode prog_4_method_4_code 2 = .ok (.invokevirtual 17, 3) := by decide +kernel
theorem dR_at_5 : decode prog_4_method_4_code 5 = .ok (.ifCond .eq 12, 3) := by decide +kernel
theorem dR_at_8 : decode prog_4_method_4_code 8 = .ok (.aload_n 0, 1) := by decide +kernel
theorem dR_at_9 : decode prog_4_method_4_code 9 = .ok (.getfield 7, 3) := by decide +kernel
theorem dR_at_12 : decode prog_4_method_4_code 12 = .ok (.iload_n 1, 1) := by decide +kernel
theorem dR_at_13 : decode prog_4_method_4_code 13 = .ok (.iaload, 1) := by decide +kernel
theorem dR_at_14 : decode prog_4_method_4_code 14 = .ok (.goto 4, 3) := by decide +kernel
theorem dR_at_17 : decode prog_4_method_4_code 17 = .ok (.iconst 0, 1) := by decide +kernel
theorem dR_at_18 : decode prog_4_method_4_code 18 = .ok (.ireturn, 1) := by decide +kernel
theorem dR_empty_0 : decode prog_4_method_5_code 0 = .ok (.aload_n 0, 1) := by decide +kernel
theorem dR_empty_1 : decode prog_4_method_5_code 1 = .ok (.iconst 0, 1) := by decide +kernel
theorem dR_empty_2 : decode prog_4_method_5_code 2 = .ok (.putfield 13, 3) := by decide +kernel
theorem dR_empty_5 : decode prog_4_method_5_code 5 = .ok (.return_, 1) := by decide +kernel
theorem dR_append_0 : decode prog_4_method_6_code 0 = .ok (.aload_n 0, 1) := by decide +kernel
theorem dR_append_1 : decode prog_4_method_6_code 1 = .ok (.getfield 13, 3) := by decide +kernel
theorem dR_append_4 : decode prog_4_method_6_code 4 = .ok (.aload_n 0, 1) := by decide +kernel
theorem dR_append_5 : decode prog_4_method_6_code 5 = .ok (.getfield 7, 3) := by decide +kernel
theorem dR_append_8 : decode prog_4_method_6_code 8 = .ok (.arraylength, 1) := by decide +kernel
theorem dR_append_9 : decode prog_4_method_6_code 9 = .ok (.if_icmp .ge 23, 3) := by decide +kernel
theorem dR_append_12 : decode prog_4_method_6_code 12 = .ok (.aload_n 0, 1) := by decide +kernel
theorem dR_append_13 : decode prog_4_method_6_code 13 = .ok (.getfield 7, 3) := by decide +kernel
theorem dR_append_16 : decode prog_4_method_6_code 16 = .ok (.aload_n 0, 1) := by decide +kernel
theorem dR_append_17 : decode prog_4_method_6_code 17 = .ok (.getfield 13, 3) := by decide +kernel
theorem dR_append_20 : decode prog_4_method_6_code 20 = .ok (.iload_n 1, 1) := by decide +kernel
theorem dR_append_21 : decode prog_4_method_6_code 21 = .ok (.iastore, 1) := by decide +kernel
theorem dR_append_22 : decode prog_4_method_6_code 22 = .ok (.aload_n 0, 1) := by decide +kernel
theorem dR_append_23 : decode prog_4_method_6_code 23 = .ok (.dup, 1) := by decide +kernel
theorem dR_append_24 : decode prog_4_method_6_code 24 = .ok (.getfield 13, 3) := by decide +kernel
theorem dR_append_27 : decode prog_4_method_6_code 27 = .ok (.iconst 1, 1) := by decide +kernel
theorem dR_append_28 : decode prog_4_method_6_code 28 = .ok (.iadd, 1) := by decide +kernel
theorem dR_append_29 : decode prog_4_method_6_code 29 = .ok (.putfield 13, 3) := by decide +kernel
theorem dR_append_32 : decode prog_4_method_6_code 32 = .ok (.return_, 1) := by decide +kernel
theorem dR_appendFrom_0 : decode prog_4_method_7_code 0 = .ok (.iconst 0, 1) := by decide +kernel
theorem dR_appendFrom_1 : decode prog_4_method_7_code 1 = .ok (.istore 4, 2) := by decide +kernel
theorem dR_appendFrom_3 : decode prog_4_method_7_code 3 = .ok (.iload 4, 2) := by decide +kernel
theorem dR_appendFrom_5 : decode prog_4_method_7_code 5 = .ok (.iload_n 3, 1) := by decide +kernel
theorem dR_appendFrom_6 : decode prog_4_method_7_code 6 = .ok (.if_icmp .ge 21, 3) := by decide +kernel
theorem dR_appendFrom_9 : decode prog_4_method_7_code 9 = .ok (.aload_n 0, 1) := by decide +kernel
theorem dR_appendFrom_10 : decode prog_4_method_7_code 10 = .ok (.aload_n 1, 1) := by decide +kernel
theorem dR_appendFrom_11 : decode prog_4_method_7_code 11 = .ok (.iload_n 2, 1) := by decide +kernel
theorem dR_appendFrom_12 : decode prog_4_method_7_code 12 = .ok (.iload 4, 2) := by decide +kernel
theorem dR_appendFrom_14 : decode prog_4_method_7_code 14 = .ok (.iadd, 1) := by decide +kernel
theorem dR_appendFrom_15 : decode prog_4_method_7_code 15 = .ok (.invokevirtual 21, 3) := by decide +kernel
theorem dR_appendFrom_18 : decode prog_4_method_7_code 18 = .ok (.invokevirtual 25, 3) := by decide +kernel
theorem dR_appendFrom_21 : decode prog_4_method_7_code 21 = .ok (.iinc 4 1, 3) := by decide +kernel
theorem dR_appendFrom_24 : decode prog_4_method_7_code 24 = .ok (.goto (-21), 3) := by decide +kernel
theorem dR_appendFrom_27 : decode prog_4_method_7_code 27 = .ok (.return_, 1) := by decide +kernel
theorem dR_change_0 : decode prog_4_method_8_code 0 = .ok (.aload_n 0, 1) := by decide +kernel
theorem dR_change_1 : decode prog_4_method_8_code 1 = .ok (.iload_n 1, 1) := by decide +kernel
theorem dR_change_2 : decode prog_4_method_8_code 2 = .ok (.invokevirtual 17, 3) := by decide +kernel
theorem dR_change_5 : decode prog_4_method_8_code 5 = .ok (.ifCond .eq 10, 3) := by decide +kernel
theorem dR_change_8 : decode prog_4_method_8_code 8 = .ok (.aload_n 0, 1) := by decide +kernel
theorem dR_change_9 : decode prog_4_method_8_code 9 = .ok (.getfield 7, 3) := by decide +kernel
theorem dR_change_12 : decode prog_4_method_8_code 12 = .ok (.iload_n 1, 1) := by decide +kernel
theorem dR_change_13 : decode prog_4_method_8_code 13 = .ok (.iload_n 2, 1) := by decide +kernel
theorem dR_change_14 : decode prog_4_method_8_code 14 = .ok (.iastore, 1) := by decide +kernel
theorem dR_change_15 : decode prog_4_method_8_code 15 = .ok (.return_, 1) := by decide +kernel
theorem dR_check_0 : decode prog_4_method_9_code 0 = .ok (.bipush 17, 2) := by decide +kernel
theorem dR_check_2 : decode prog_4_method_9_code 2 = .ok (.istore_n 1, 1) := by decide +kernel
theorem dR_check_3 : decode prog_4_method_9_code 3 = .ok (.iconst 0, 1) := by decide +kernel
theorem dR_check_4 : decode prog_4_method_9_code 4 = .ok (.istore_n 2, 1) := by decide +kernel
theorem dR_check_5 : decode prog_4_method_9_code 5 = .ok (.iload_n 2, 1) := by decide +kernel
theorem dR_check_6 : decode prog_4_method_9_code 6 = .ok (.aload_n 0, 1) := by decide +kernel
theorem dR_check_7 : decode prog_4_method_9_code 7 = .ok (.getfield 13, 3) := by decide +kernel
theorem dR_check_10 : decode prog_4_method_9_code 10 = .ok (.if_icmp .ge 24, 3) := by decide +kernel
theorem dR_check_13 : decode prog_4_method_9_code 13 = .ok (.iload_n 1, 1) := by decide +kernel
theorem dR_check_14 : decode prog_4_method_9_code 14 = .ok (.bipush 31, 2) := by decide +kernel
theorem dR_check_16 : decode prog_4_method_9_code 16 = .ok (.imul, 1) := by decide +kernel
theorem dR_check_17 : decode prog_4_method_9_code 17 = .ok (.aload_n 0, 1) := by decide +kernel
theorem dR_check_18 : decode prog_4_method_9_code 18 = .ok (.getfield 7, 3) := by decide +kernel
theorem dR_check_21 : decode prog_4_method_9_code 21 = .ok (.iload_n 2, 1) := by decide +kernel
theorem dR_check_22 : decode prog_4_method_9_code 22 = .ok (.iaload, 1) := by decide +kernel
theorem dR_check_23 : decode prog_4_method_9_code 23 = .ok (.iadd, 1) := by decide +kernel
theorem dR_check_24 : decode prog_4_method_9_code 24 = .ok (.ldc 29, 2) := by decide +kernel
theorem dR_check_26 : decode prog_4_method_9_code 26 = .ok (.iand, 1) := by decide +kernel
theorem dR_check_27 : decode prog_4_method_9_code 27 = .ok (.istore_n 1, 1) := by decide +kernel
theorem dR_check_28 : decode prog_4_method_9_code 28 = .ok (.iinc 2 1, 3) := by decide +kernel
theorem dR_check_31 : decode prog_4_method_9_code 31 = .ok (.goto (-26), 3) := by decide +kernel
theorem dR_check_34 : decode prog_4_method_9_code 34 = .ok (.iload_n 1, 1) := by decide +kernel
theorem dR_check_35 : decode prog_4_method_9_code 35 = .ok (.ireturn, 1) := by decide +kernel
theorem dR_looksLike_0 : decode prog_4_method_10_code 0 = .ok (.aload_n 0, 1) := by decide +kernel
theorem dR_looksLike_1 : decode prog_4_method_10_code 1 = .ok (.getfield 13, 3) := by decide +kernel
theorem dR_looksLike_4 : decode prog_4_method_10_code 4 = .ok (.aload_n 1, 1) := by decide +kernel
theorem dR_looksLike_5 : decode prog_4_method_10_code 5 = .ok (.getfield 13, 3) := by decide +kernel
theorem dR_looksLike_8 : decode prog_4_method_10_code 8 = .ok (.if_icmp .ne 18, 3) := by decide +kernel
theorem dR_looksLike_11 : decode prog_4_method_10_code 11 = .ok (.aload_n 0, 1) := by decide +kernel
theorem dR_looksLike_12 : decode prog_4_method_10_code 12 = .ok (.invokevirtual 30, 3) := by decide +kernel
theorem dR_looksLike_15 : decode prog_4_method_10_code 15 = .ok (.aload_n 1, 1) := by decide +kernel
theorem dR_looksLike_16 : decode prog_4_method_10_code 16 = .ok (.invokevirtual 30, 3) := by decide +kernel
theorem dR_looksLike_19 : decode prog_4_method_10_code 19 = .ok (.if_icmp .ne 7, 3) := by decide +kernel
theorem dR_looksLike_22 : decode prog_4_method_10_code 22 = .ok (.iconst 1, 1) := by decide +kernel
theorem dR_looksLike_23 : decode prog_4_method_10_code 23 = .ok (.goto 4, 3) := by decide +kernel
theorem dR_looksLike_26 : decode prog_4_method_10_code 26 = .ok (.iconst 0, 1) := by decide +kernel
theorem dR_looksLike_27 : decode prog_4_method_10_code 27 = .ok (.ireturn, 1) := by decide +kernel
