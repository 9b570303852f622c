theorem dD_init_0 : decode prog_2_method_1_code 0 = .ok (.aload_n 0, 1) := by decide +kernel
theorem dD_init_1 : decode prog_2_method_1_code 1 = .ok (.invokespecial 3, 3) := by decide +kernel
theorem dD_init_4 : decode prog_2_method_1_code 4 = .ok (.aload_n 0, 1) := by decide +kernel
theorem dD_init_5 : decode prog_2_method_1_code 5 = .ok (.aload_n 1, 1) := by decide +kernel
theorem dD_init_6 : decode prog_2_method_1_code 6 = .ok (.putfield 9, 3) := by decide +kernel
theorem dD_init_9 : decode prog_2_method_1_code 9 = .ok (.aload_n 0, 1) := by decide +kernel
theorem dD_init_10 : decode prog_2_method_1_code 10 = .ok (.iconst 2, 1) := by decide +kernel
theorem dD_init_11 : decode prog_2_method_1_code 11 = .ok (.anewarray 15, 3) := by decide +kernel
theorem dD_init_14 : decode prog_2_method_1_code 14 = .ok (.dup, 1) := by decide +kernel
theorem dD_init_15 : decode prog_2_method_1_code 15 = .ok (.iconst 0, 1) := by decide +kernel
theorem dD_init_16 : decode prog_2_method_1_code 16 = .ok (.new 15, 3) := by decide +kernel
theorem dD_init_19 : decode prog_2_method_1_code 19 = .ok (.dup, 1) := by decide +kernel
theorem dD_init_20 : decode prog_2_method_1_code 20 = .ok (.bipush 40, 2) := by decide +kernel
theorem dD_init_22 : decode prog_2_method_1_code 22 = .ok (.invokespecial 17, 3) := by decide +kernel
theorem dD_init_25 : decode prog_2_method_1_code 25 = .ok (.aastore, 1) := by decide +kernel
theorem dD_init_26 : decode prog_2_method_1_code 26 = .ok (.dup, 1) := by decide +kernel
theorem dD_init_27 : decode prog_2_method_1_code 27 = .ok (.iconst 1, 1) := by decide +kernel
theorem dD_init_28 : decode prog_2_method_1_code 28 = .ok (.new 15, 3) := by decide +kernel
theorem dD_init_31 : decode prog_2_method_1_code 31 = .ok (.dup, 1) := by decide +kernel
theorem dD_init_32 : decode prog_2_method_1_code 32 = .ok (.bipush 40, 2) := by decide +kernel
theorem dD_init_34 : decode prog_2_method_1_code 34 = .ok (.invokespecial 17, 3) := by decide +kernel
theorem dD_init_37 : decode prog_2_method_1_code 37 = .ok (.aastore, 1) := by decide +kernel
theorem dD_init_38 : decode prog_2_method_1_code 38 = .ok (.putfield 20, 3) := by decide +kernel
theorem dD_init_41 : decode prog_2_method_1_code 41 = .ok (.aload_n 0, 1) := by decide +kernel
theorem dD_init_42 : decode prog_2_method_1_code 42 = .ok (.iconst 2, 1) := by decide +kernel
theorem dD_init_43 : decode prog_2_method_1_code 43 = .ok (.newarray .int, 2) := by decide +kernel
theorem dD_init_45 : decode prog_2_method_1_code 45 = .ok (.putfield 23, 3) := by decide +kernel
theorem dD_init_48 : decode prog_2_method_1_code 48 = .ok (.aload_n 0, 1) := by decide +kernel
theorem dD_init_49 : decode prog_2_method_1_code 49 = .ok (.iconst 0, 1) := by decide +kernel
theorem dD_init_50 : decode prog_2_method_1_code 50 = .ok (.putfield 27, 3) := by decide +kernel
theorem dD_init_53 : decode prog_2_method_1_code 53 = .ok (.aload_n 0, 1) := by decide +kernel
theorem dD_init_54 : decode prog_2_method_1_code 54 = .ok (.iconst 0, 1) := by decide +kernel
theorem dD_init_55 : decode prog_2_method_1_code 55 = .ok (.putfield 31, 3) := by decide +kernel
theorem dD_init_58 : decode prog_2_method_1_code 58 = .ok (.aload_n 0, 1) := by decide +kernel
theorem dD_init_59 : decode prog_2_method_1_code 59 = .ok (.iconst 0, 1) := by decide +kernel
theorem dD_init_60 : decode prog_2_method_1_code 60 = .ok (.putfield 34, 3) := by decide +kernel
theorem dD_init_63 : decode prog_2_method_1_code 63 = .ok (.aload_n 0, 1) := by decide +kernel
theorem dD_init_64 : decode prog_2_method_1_code 64 = .ok (.iconst 0, 1) := by decide +kernel
theorem dD_init_65 : decode prog_2_method_1_code 65 = .ok (.putfield 37, 3) := by decide +kernel
theorem dD_init_68 : decode prog_2_method_1_code 68 = .ok (.aload_n 0, 1) := by decide +kernel
theorem dD_init_69 : decode prog_2_method_1_code 69 = .ok (.new 40, 3) := by decide +kernel
theorem dD_init_72 : decode prog_2_method_1_code 72 = .ok (.dup, 1) := by decide +kernel
theorem dD_init_73 : decode prog_2_method_1_code 73 = .ok (.invokespecial 42, 3) := by decide +kernel
theorem dD_init_76 : decode prog_2_method_1_code 76 = .ok (.putfield 43, 3) := by decide +kernel
theorem dD_init_79 : decode prog_2_method_1_code 79 = .ok (.aload_n 0, 1) := by decide +kernel
theorem dD_init_80 : decode prog_2_method_1_code 80 = .ok (.bipush 9, 2) := by decide +kernel
theorem dD_init_82 : decode prog_2_method_1_code 82 = .ok (.newarray .boolean, 2) := by decide +kernel
theorem dD_init_84 : decode prog_2_method_1_code 84 = .ok (.putfield 47, 3) := by decide +kernel
theorem dD_init_87 : decode prog_2_method_1_code 87 = .ok (.aload_n 0, 1) := by decide +kernel
theorem dD_init_88 : decode prog_2_method_1_code 88 = .ok (.iconst 0, 1) := by decide +kernel
theorem dD_init_89 : decode prog_2_method_1_code 89 = .ok (.putfield 51, 3) := by decide +kernel
theorem dD_init_92 : decode prog_2_method_1_code 92 = .ok (.aload_n 0, 1) := by decide +kernel
theorem dD_init_93 : decode prog_2_method_1_code 93 = .ok (.iconst 0, 1) := by decide +kernel
theorem dD_init_94 : decode prog_2_method_1_code 94 = .ok (.putfield 54, 3) := by decide +kernel
theorem dD_init_97 : decode prog_2_method_1_code 97 = .ok (.return_, 1) := by decide +kernel
theorem dD_isIn_0 : decode prog_2_method_2_code 0 = .ok (.aload_n 0, 1) := by decide +kernel
theorem dD_isIn_1 : decode prog_2_method_2_code 1 = .ok (.getfield 31, 3) := by decide +kernel
theorem dD_isIn_4 : decode prog_2_method_2_code 4 = .ok (.iload_n 1, 1) := by decide +kernel
theorem dD_isIn_5 : decode prog_2_method_2_code 5 = .ok (.if_icmp .ne 7, 3) := by decide +kernel
theorem dD_isIn_8 : decode prog_2_method_2_code 8 = .ok (.iconst 1, 1) := by decide +kernel
theorem dD_isIn_9 : decode prog_2_method_2_code 9 = .ok (.goto 4, 3) := by decide +kernel
theorem dD_isIn_12 : decode prog_2_method_2_code 12 = .ok (.iconst 0, 1) := by decide +kernel
theorem dD_isIn_13 : decode prog_2_method_2_code 13 = .ok (.ireturn, 1) := by decide +kernel
theorem dD_stateNow_0 : decode prog_2_method_3_code 0 = .ok (.aload_n 0, 1) := by decide +kernel
theorem dD_stateNow_1 : decode prog_2_method_3_code 1 = .ok (.getfield 31, 3) := by decide +kernel
theorem dD_stateNow_4 : decode prog_2_method_3_code 4 = .ok (.ireturn, 1) := by decide +kernel
theorem dD_runningSlot_0 : decode prog_2_method_4_code 0 = .ok (.aload_n 0, 1) := by decide +kernel
theorem dD_runningSlot_1 : decode prog_2_method_4_code 1 = .ok (.getfield 27, 3) := by decide +kernel
theorem dD_runningSlot_4 : decode prog_2_method_4_code 4 = .ok (.ireturn, 1) := by decide +kernel
theorem dD_triesNow_0 : decode prog_2_method_5_code 0 = .ok (.aload_n 0, 1) := by decide +kernel
theorem dD_triesNow_1 : decode prog_2_method_5_code 1 = .ok (.getfield 31, 3) := by decide +kernel
theorem dD_triesNow_4 : decode prog_2_method_5_code 4 = .ok (.iconst 4, 1) := by decide +kernel
theorem dD_triesNow_5 : decode prog_2_method_5_code 5 = .ok (.if_icmp .ne 10, 3) := by decide +kernel
theorem dD_triesNow_8 : decode prog_2_method_5_code 8 = .ok (.aload_n 0, 1) := by decide +kernel
theorem dD_triesNow_9 : decode prog_2_method_5_code 9 = .ok (.getfield 34, 3) := by decide +kernel
theorem dD_triesNow_12 : decode prog_2_method_5_code 12 = .ok (.goto 4, 3) := by decide +kernel
theorem dD_triesNow_15 : decode prog_2_method_5_code 15 = .ok (.iconst 0, 1) := by decide +kernel
theorem dD_triesNow_16 : decode prog_2_method_5_code 16 = .ok (.ireturn, 1) := by decide +kernel
theorem dD_mark_0 : decode prog_2_method_6_code 0 = .ok (.aload_n 0, 1) := by decide +kernel
theorem dD_mark_1 : decode prog_2_method_6_code 1 = .ok (.getfield 23, 3) := by decide +kernel
theorem dD_mark_4 : decode prog_2_method_6_code 4 = .ok (.iload_n 1, 1) := by decide +kernel
theorem dD_mark_5 : decode prog_2_method_6_code 5 = .ok (.iaload, 1) := by decide +kernel
theorem dD_mark_6 : decode prog_2_method_6_code 6 = .ok (.ireturn, 1) := by decide +kernel
theorem dD_row_0 : decode prog_2_method_7_code 0 = .ok (.aload_n 0, 1) := by decide +kernel
theorem dD_row_1 : decode prog_2_method_7_code 1 = .ok (.getfield 20, 3) := by decide +kernel
theorem dD_row_4 : decode prog_2_method_7_code 4 = .ok (.iload_n 1, 1) := by decide +kernel
theorem dD_row_5 : decode prog_2_method_7_code 5 = .ok (.aaload, 1) := by decide +kernel
theorem dD_row_6 : decode prog_2_method_7_code 6 = .ok (.areturn, 1) := by decide +kernel
theorem dD_isSound_0 : decode prog_2_method_8_code 0 = .ok (.aload_n 0, 1) := by decide +kernel
theorem dD_isSound_1 : decode prog_2_method_8_code 1 = .ok (.getfield 20, 3) := by decide +kernel
theorem dD_isSound_4 : decode prog_2_method_8_code 4 = .ok (.iload_n 1, 1) := by decide +kernel
theorem dD_isSound_5 : decode prog_2_method_8_code 5 = .ok (.aaload, 1) := by decide +kernel
theorem dD_isSound_6 : decode prog_2_method_8_code 6 = .ok (.aload_n 0, 1) := by decide +kernel
theorem dD_isSound_7 : decode prog_2_method_8_code 7 = .ok (.getfield 9, 3) := by decide +kernel
theorem dD_isSound_10 : decode prog_2_method_8_code 10 = .ok (.aload_n 0, 1) := by decide +kernel
theorem dD_isSound_11 : decode prog_2_method_8_code 11 = .ok (.getfield 23, 3) := by decide +kernel
theorem dD_isSound_14 : decode prog_2_method_8_code 14 = .ok (.iload_n 1, 1) := by decide +kernel
theorem dD_isSound_15 : decode prog_2_method_8_code 15 = .ok (.iaload, 1) := by decide +kernel
theorem dD_isSound_16 : decode prog_2_method_8_code 16 = .ok (.aaload, 1) := by decide +kernel
theorem dD_isSound_17 : decode prog_2_method_8_code 17 = .ok (.invokevirtual 57, 3) := by decide +kernel
theorem dD_isSound_20 : decode prog_2_method_8_code 20 = .ok (.ireturn, 1) := by decide +kernel
theorem dD_updateVersion_0 : decode prog_2_method_9_code 0 = .ok (.aload_n 0, 1) := by decide +kernel
theorem dD_updateVersion_1 : decode prog_2_method_9_code 1 = .ok (.invokevirtual 61, 3) := by decide +kernel
theorem dD_updateVersion_4 : decode prog_2_method_9_code 4 = .ok (.ifCond .eq 10, 3) := by decide +kernel
theorem dD_updateVersion_7 : decode prog_2_method_9_code 7 = .ok (.aload_n 0, 1) := by decide +kernel
theorem dD_updateVersion_8 : decode prog_2_method_9_code 8 = .ok (.getfield 37, 3) := by decide +kernel
theorem dD_updateVersion_11 : decode prog_2_method_9_code 11 = .ok (.goto 4, 3) := by decide +kernel
theorem dD_updateVersion_14 : decode prog_2_method_9_code 14 = .ok (.iconst 0, 1) := by decide +kernel
theorem dD_updateVersion_15 : decode prog_2_method_9_code 15 = .ok (.ireturn, 1) := by decide +kernel
theorem dD_blocksThere_0 : decode prog_2_method_10_code 0 = .ok (.aload_n 0, 1) := by decide +kernel
theorem dD_blocksThere_1 : decode prog_2_method_10_code 1 = .ok (.invokevirtual 61, 3) := by decide +kernel
theorem dD_blocksThere_4 : decode prog_2_method_10_code 4 = .ok (.ifCond .eq 18, 3) := by decide +kernel
theorem dD_blocksThere_7 : decode prog_2_method_10_code 7 = .ok (.aload_n 0, 1) := by decide +kernel
theorem dD_blocksThere_8 : decode prog_2_method_10_code 8 = .ok (.getfield 43, 3) := by decide +kernel
theorem dD_blocksThere_11 : decode prog_2_method_10_code 11 = .ok (.invokevirtual 65, 3) := by decide +kernel
theorem dD_blocksThere_14 : decode prog_2_method_10_code 14 = .ok (.aload_n 0, 1) := by decide +kernel
theorem dD_blocksThere_15 : decode prog_2_method_10_code 15 = .ok (.getfield 51, 3) := by decide +kernel
theorem dD_blocksThere_18 : decode prog_2_method_10_code 18 = .ok (.isub, 1) := by decide +kernel
theorem dD_blocksThere_19 : decode prog_2_method_10_code 19 = .ok (.goto 4, 3) := by decide +kernel
theorem dD_blocksThere_22 : decode prog_2_method_10_code 22 = .ok (.iconst 0, 1) := by decide +kernel
theorem dD_blocksThere_23 : decode prog_2_method_10_code 23 = .ok (.ireturn, 1) := by decide +kernel
theorem dD_hasBlock_0 : decode prog_2_method_11_code 0 = .ok (.aload_n 0, 1) := by decide +kernel
theorem dD_hasBlock_1 : decode prog_2_method_11_code 1 = .ok (.invokevirtual 61, 3) := by decide +kernel
theorem dD_hasBlock_4 : decode prog_2_method_11_code 4 = .ok (.ifCond .eq 22, 3) := by decide +kernel
theorem dD_hasBlock_7 : decode prog_2_method_11_code 7 = .ok (.iload_n 1, 1) := by decide +kernel
theorem dD_hasBlock_8 : decode prog_2_method_11_code 8 = .ok (.ifCond .lt 18, 3) := by decide +kernel
theorem dD_hasBlock_11 : decode prog_2_method_11_code 11 = .ok (.iload_n 1, 1) := by decide +kernel
theorem dD_hasBlock_12 : decode prog_2_method_11_code 12 = .ok (.aload_n 0, 1) := by decide +kernel
theorem dD_hasBlock_13 : decode prog_2_method_11_code 13 = .ok (.getfield 43, 3) := by decide +kernel
theorem dD_hasBlock_16 : decode prog_2_method_11_code 16 = .ok (.invokevirtual 65, 3) := by decide +kernel
theorem dD_hasBlock_19 : decode prog_2_method_11_code 19 = .ok (.if_icmp .ge 7, 3) := by decide +kernel
theorem dD_hasBlock_22 : decode prog_2_method_11_code 22 = .ok (.iconst 1, 1) := by decide +kernel
theorem dD_hasBlock_23 : decode prog_2_method_11_code 23 = .ok (.goto 4, 3) := by decide +kernel
theorem dD_hasBlock_26 : decode prog_2_method_11_code 26 = .ok (.iconst 0, 1) := by decide +kernel
theorem dD_hasBlock_27 : decode prog_2_method_11_code 27 = .ok (.ireturn, 1) := by decide +kernel
theorem dD_beginUpdate_0 : decode prog_2_method_12_code 0 = .ok (.aload_n 0, 1) := by decide +kernel
theorem dD_beginUpdate_1 : decode prog_2_method_12_code 1 = .ok (.getfield 43, 3) := by decide +kernel
theorem dD_beginUpdate_4 : decode prog_2_method_12_code 4 = .ok (.aload_n 0, 1) := by decide +kernel
theorem dD_beginUpdate_5 : decode prog_2_method_12_code 5 = .ok (.getfield 9, 3) := by decide +kernel
theorem dD_beginUpdate_8 : decode prog_2_method_12_code 8 = .ok (.iload_n 1, 1) := by decide +kernel
theorem dD_beginUpdate_9 : decode prog_2_method_12_code 9 = .ok (.aaload, 1) := by decide +kernel
theorem dD_beginUpdate_10 : decode prog_2_method_12_code 10 = .ok (.aload_n 0, 1) := by decide +kernel
theorem dD_beginUpdate_11 : decode prog_2_method_12_code 11 = .ok (.getfield 9, 3) := by decide +kernel
theorem dD_beginUpdate_14 : decode prog_2_method_12_code 14 = .ok (.aload_n 0, 1) := by decide +kernel
theorem dD_beginUpdate_15 : decode prog_2_method_12_code 15 = .ok (.getfield 23, 3) := by decide +kernel
theorem dD_beginUpdate_18 : decode prog_2_method_12_code 18 = .ok (.aload_n 0, 1) := by decide +kernel
theorem dD_beginUpdate_19 : decode prog_2_method_12_code 19 = .ok (.getfield 27, 3) := by decide +kernel
theorem dD_beginUpdate_22 : decode prog_2_method_12_code 22 = .ok (.iaload, 1) := by decide +kernel
theorem dD_beginUpdate_23 : decode prog_2_method_12_code 23 = .ok (.aaload, 1) := by decide +kernel
theorem dD_beginUpdate_24 : decode prog_2_method_12_code 24 = .ok (.invokevirtual 69, 3) := by decide +kernel
theorem dD_beginUpdate_27 : decode prog_2_method_12_code 27 = .ok (.aload_n 0, 1) := by decide +kernel
theorem dD_beginUpdate_28 : decode prog_2_method_12_code 28 = .ok (.iload_n 1, 1) := by decide +kernel
theorem dD_beginUpdate_29 : decode prog_2_method_12_code 29 = .ok (.putfield 37, 3) := by decide +kernel
theorem dD_beginUpdate_32 : decode prog_2_method_12_code 32 = .ok (.aload_n 0, 1) := by decide +kernel
theorem dD_beginUpdate_33 : decode prog_2_method_12_code 33 = .ok (.aload_n 0, 1) := by decide +kernel
theorem dD_beginUpdate_34 : decode prog_2_method_12_code 34 = .ok (.getfield 43, 3) := by decide +kernel
theorem dD_beginUpdate_37 : decode prog_2_method_12_code 37 = .ok (.invokevirtual 65, 3) := by decide +kernel
theorem dD_beginUpdate_40 : decode prog_2_method_12_code 40 = .ok (.putfield 51, 3) := by decide +kernel
theorem dD_beginUpdate_43 : decode prog_2_method_12_code 43 = .ok (.iconst 0, 1) := by decide +kernel
theorem dD_beginUpdate_44 : decode prog_2_method_12_code 44 = .ok (.istore_n 2, 1) := by decide +kernel
theorem dD_beginUpdate_45 : decode prog_2_method_12_code 45 = .ok (.iload_n 2, 1) := by decide +kernel
theorem dD_beginUpdate_46 : decode prog_2_method_12_code 46 = .ok (.aload_n 0, 1) := by decide +kernel
theorem dD_beginUpdate_47 : decode prog_2_method_12_code 47 = .ok (.getfield 47, 3) := by decide +kernel
theorem dD_beginUpdate_50 : decode prog_2_method_12_code 50 = .ok (.arraylength, 1) := by decide +kernel
theorem dD_beginUpdate_51 : decode prog_2_method_12_code 51 = .ok (.if_icmp .ge 16, 3) := by decide +kernel
theorem dD_beginUpdate_54 : decode prog_2_method_12_code 54 = .ok (.aload_n 0, 1) := by decide +kernel
theorem dD_beginUpdate_55 : decode prog_2_method_12_code 55 = .ok (.getfield 47, 3) := by decide +kernel
theorem dD_beginUpdate_58 : decode prog_2_method_12_code 58 = .ok (.iload_n 2, 1) := by decide +kernel
theorem dD_beginUpdate_59 : decode prog_2_method_12_code 59 = .ok (.iconst 0, 1) := by decide +kernel
theorem dD_beginUpdate_60 : decode prog_2_method_12_code 60 = .ok (.bastore, 1) := by decide +kernel
theorem dD_beginUpdate_61 : decode prog_2_method_12_code 61 = .ok (.iinc 2 1, 3) := by decide +kernel
theorem dD_beginUpdate_64 : decode prog_2_method_12_code 64 = .ok (.goto (-19), 3) := by decide +kernel
theorem dD_beginUpdate_67 : decode prog_2_method_12_code 67 = .ok (.aload_n 0, 1) := by decide +kernel
theorem dD_beginUpdate_68 : decode prog_2_method_12_code 68 = .ok (.iconst 1, 1) := by decide +kernel
theorem dD_beginUpdate_69 : decode prog_2_method_12_code 69 = .ok (.putfield 31, 3) := by decide +kernel
theorem dD_beginUpdate_72 : decode prog_2_method_12_code 72 = .ok (.aload_n 0, 1) := by decide +kernel
theorem dD_beginUpdate_73 : decode prog_2_method_12_code 73 = .ok (.getfield 51, 3) := by decide +kernel
theorem dD_beginUpdate_76 : decode prog_2_method_12_code 76 = .ok (.ireturn, 1) := by decide +kernel
theorem dD_takeBlock_0 : decode prog_2_method_13_code 0 = .ok (.aload_n 0, 1) := by decide +kernel
theorem dD_takeBlock_1 : decode prog_2_method_13_code 1 = .ok (.getfield 47, 3) := by decide +kernel
theorem dD_takeBlock_4 : decode prog_2_method_13_code 4 = .ok (.iload_n 1, 1) := by decide +kernel
theorem dD_takeBlock_5 : decode prog_2_method_13_code 5 = .ok (.baload, 1) := by decide +kernel
theorem dD_takeBlock_6 : decode prog_2_method_13_code 6 = .ok (.ifCond .ne 20, 3) := by decide +kernel
theorem dD_takeBlock_9 : decode prog_2_method_13_code 9 = .ok (.aload_n 0, 1) := by decide +kernel
theorem dD_takeBlock_10 : decode prog_2_method_13_code 10 = .ok (.getfield 47, 3) := by decide +kernel
theorem dD_takeBlock_13 : decode prog_2_method_13_code 13 = .ok (.iload_n 1, 1) := by decide +kernel
theorem dD_takeBlock_14 : decode prog_2_method_13_code 14 = .ok (.iconst 1, 1) := by decide +kernel
theorem dD_takeBlock_15 : decode prog_2_method_13_code 15 = .ok (.bastore, 1) := by decide +kernel
theorem dD_takeBlock_16 : decode prog_2_method_13_code 16 = .ok (.aload_n 0, 1) := by decide +kernel
theorem dD_takeBlock_17 : decode prog_2_method_13_code 17 = .ok (.dup, 1) := by decide +kernel
theorem dD_takeBlock_18 : decode prog_2_method_13_code 18 = .ok (.getfield 51, 3) := by decide +kernel
theorem dD_takeBlock_21 : decode prog_2_method_13_code 21 = .ok (.iconst 1, 1) := by decide +kernel
theorem dD_takeBlock_22 : decode prog_2_method_13_code 22 = .ok (.isub, 1) := by decide +kernel
theorem dD_takeBlock_23 : decode prog_2_method_13_code 23 = .ok (.putfield 51, 3) := by decide +kernel
theorem dD_takeBlock_26 : decode prog_2_method_13_code 26 = .ok (.aload_n 0, 1) := by decide +kernel
theorem dD_takeBlock_27 : decode prog_2_method_13_code 27 = .ok (.getfield 51, 3) := by decide +kernel
theorem dD_takeBlock_30 : decode prog_2_method_13_code 30 = .ok (.ifCond .ne 7, 3) := by decide +kernel
theorem dD_takeBlock_33 : decode prog_2_method_13_code 33 = .ok (.aload_n 0, 1) := by decide +kernel
theorem dD_takeBlock_34 : decode prog_2_method_13_code 34 = .ok (.invokevirtual 73, 3) := by decide +kernel
theorem dD_takeBlock_37 : decode prog_2_method_13_code 37 = .ok (.aload_n 0, 1) := by decide +kernel
theorem dD_takeBlock_38 : decode prog_2_method_13_code 38 = .ok (.getfield 51, 3) := by decide +kernel
theorem dD_takeBlock_41 : decode prog_2_method_13_code 41 = .ok (.ireturn, 1) := by decide +kernel
theorem dD_installPieces_0 : decode prog_2_method_14_code 0 = .ok (.iconst 0, 1) := by decide +kernel
theorem dD_installPieces_1 : decode prog_2_method_14_code 1 = .ok (.istore_n 2, 1) := by decide +kernel
theorem dD_installPieces_2 : decode prog_2_method_14_code 2 = .ok (.iload_n 2, 1) := by decide +kernel
theorem dD_installPieces_3 : decode prog_2_method_14_code 3 = .ok (.iload_n 1, 1) := by decide +kernel
theorem dD_installPieces_4 : decode prog_2_method_14_code 4 = .ok (.if_icmp .ge 84, 3) := by decide +kernel
theorem dD_installPieces_7 : decode prog_2_method_14_code 7 = .ok (.aload_n 0, 1) := by decide +kernel
theorem dD_installPieces_8 : decode prog_2_method_14_code 8 = .ok (.getfield 31, 3) := by decide +kernel
theorem dD_installPieces_11 : decode prog_2_method_14_code 11 = .ok (.iconst 2, 1) := by decide +kernel
theorem dD_installPieces_12 : decode prog_2_method_14_code 12 = .ok (.if_icmp .ne 76, 3) := by decide +kernel
theorem dD_installPieces_15 : decode prog_2_method_14_code 15 = .ok (.aload_n 0, 1) := by decide +kernel
theorem dD_installPieces_16 : decode prog_2_method_14_code 16 = .ok (.aload_n 0, 1) := by decide +kernel
theorem dD_installPieces_17 : decode prog_2_method_14_code 17 = .ok (.getfield 43, 3) := by decide +kernel
theorem dD_installPieces_20 : decode prog_2_method_14_code 20 = .ok (.aload_n 0, 1) := by decide +kernel
theorem dD_installPieces_21 : decode prog_2_method_14_code 21 = .ok (.getfield 54, 3) := by decide +kernel
theorem dD_installPieces_24 : decode prog_2_method_14_code 24 = .ok (.aload_n 0, 1) := by decide +kernel
theorem dD_installPieces_25 : decode prog_2_method_14_code 25 = .ok (.getfield 20, 3) := by decide +kernel
theorem dD_installPieces_28 : decode prog_2_method_14_code 28 = .ok (.aload_n 0, 1) := by decide +kernel
theorem dD_installPieces_29 : decode prog_2_method_14_code 29 = .ok (.getfield 27, 3) := by decide +kernel
theorem dD_installPieces_32 : decode prog_2_method_14_code 32 = .ok (.aaload, 1) := by decide +kernel
theorem dD_installPieces_33 : decode prog_2_method_14_code 33 = .ok (.aload_n 0, 1) := by decide +kernel
theorem dD_installPieces_34 : decode prog_2_method_14_code 34 = .ok (.getfield 20, 3) := by decide +kernel
theorem dD_installPieces_37 : decode prog_2_method_14_code 37 = .ok (.aload_n 0, 1) := by decide +kernel
theorem dD_installPieces_38 : decode prog_2_method_14_code 38 = .ok (.invokevirtual 76, 3) := by decide +kernel
theorem dD_installPieces_41 : decode prog_2_method_14_code 41 = .ok (.aaload, 1) := by decide +kernel
theorem dD_installPieces_42 : decode prog_2_method_14_code 42 = .ok (.invokevirtual 79, 3) := by decide +kernel
theorem dD_installPieces_45 : decode prog_2_method_14_code 45 = .ok (.putfield 54, 3) := by decide +kernel
theorem dD_installPieces_48 : decode prog_2_method_14_code 48 = .ok (.aload_n 0, 1) := by decide +kernel
theorem dD_installPieces_49 : decode prog_2_method_14_code 49 = .ok (.getfield 54, 3) := by decide +kernel
theorem dD_installPieces_52 : decode prog_2_method_14_code 52 = .ok (.aload_n 0, 1) := by decide +kernel
theorem dD_installPieces_53 : decode prog_2_method_14_code 53 = .ok (.getfield 43, 3) := by decide +kernel
theorem dD_installPieces_56 : decode prog_2_method_14_code 56 = .ok (.invokevirtual 83, 3) := by decide +kernel
theorem dD_installPieces_59 : decode prog_2_method_14_code 59 = .ok (.if_icmp .lt 23, 3) := by decide +kernel
theorem dD_installPieces_62 : decode prog_2_method_14_code 62 = .ok (.aload_n 0, 1) := by decide +kernel
theorem dD_installPieces_63 : decode prog_2_method_14_code 63 = .ok (.aload_n 0, 1) := by decide +kernel
theorem dD_installPieces_64 : decode prog_2_method_14_code 64 = .ok (.aload_n 0, 1) := by decide +kernel
theorem dD_installPieces_65 : decode prog_2_method_14_code 65 = .ok (.invokevirtual 76, 3) := by decide +kernel
theorem dD_installPieces_68 : decode prog_2_method_14_code 68 = .ok (.invokevirtual 86, 3) := by decide +kernel
theorem dD_installPieces_71 : decode prog_2_method_14_code 71 = .ok (.ifCond .eq 7, 3) := by decide +kernel
theorem dD_installPieces_74 : decode prog_2_method_14_code 74 = .ok (.iconst 3, 1) := by decide +kernel
theorem dD_installPieces_75 : decode prog_2_method_14_code 75 = .ok (.goto 4, 3) := by decide +kernel
theorem dD_installPieces_78 : decode prog_2_method_14_code 78 = .ok (.iconst 0, 1) := by decide +kernel
theorem dD_installPieces_79 : decode prog_2_method_14_code 79 = .ok (.putfield 31, 3) := by decide +kernel
theorem dD_installPieces_82 : decode prog_2_method_14_code 82 = .ok (.iinc 2 1, 3) := by decide +kernel
theorem dD_installPieces_85 : decode prog_2_method_14_code 85 = .ok (.goto (-83), 3) := by decide +kernel
theorem dD_installPieces_88 : decode prog_2_method_14_code 88 = .ok (.aload_n 0, 1) := by decide +kernel
theorem dD_installPieces_89 : decode prog_2_method_14_code 89 = .ok (.getfield 31, 3) := by decide +kernel
theorem dD_installPieces_92 : decode prog_2_method_14_code 92 = .ok (.ireturn, 1) := by decide +kernel
theorem dD_start_0 : decode prog_2_method_15_code 0 = .ok (.aload_n 0, 1) := by decide +kernel
theorem dD_start_1 : decode prog_2_method_15_code 1 = .ok (.invokevirtual 90, 3) := by decide +kernel
theorem dD_start_4 : decode prog_2_method_15_code 4 = .ok (.aload_n 0, 1) := by decide +kernel
theorem dD_start_5 : decode prog_2_method_15_code 5 = .ok (.aload_n 0, 1) := by decide +kernel
theorem dD_start_6 : decode prog_2_method_15_code 6 = .ok (.getfield 27, 3) := by decide +kernel
theorem dD_start_9 : decode prog_2_method_15_code 9 = .ok (.invokevirtual 86, 3) := by decide +kernel
theorem dD_start_12 : decode prog_2_method_15_code 12 = .ok (.ifCond .eq 8, 3) := by decide +kernel
theorem dD_start_15 : decode prog_2_method_15_code 15 = .ok (.aload_n 0, 1) := by decide +kernel
theorem dD_start_16 : decode prog_2_method_15_code 16 = .ok (.getfield 27, 3) := by decide +kernel
theorem dD_start_19 : decode prog_2_method_15_code 19 = .ok (.ireturn, 1) := by decide +kernel
theorem dD_start_20 : decode prog_2_method_15_code 20 = .ok (.aload_n 0, 1) := by decide +kernel
theorem dD_start_21 : decode prog_2_method_15_code 21 = .ok (.aload_n 0, 1) := by decide +kernel
theorem dD_start_22 : decode prog_2_method_15_code 22 = .ok (.invokevirtual 76, 3) := by decide +kernel
theorem dD_start_25 : decode prog_2_method_15_code 25 = .ok (.invokevirtual 86, 3) := by decide +kernel
theorem dD_start_28 : decode prog_2_method_15_code 28 = .ok (.ifCond .ne 6, 3) := by decide +kernel
theorem dD_start_31 : decode prog_2_method_15_code 31 = .ok (.bipush (-5), 2) := by decide +kernel
theorem dD_start_33 : decode prog_2_method_15_code 33 = .ok (.ireturn, 1) := by decide +kernel
theorem dD_start_34 : decode prog_2_method_15_code 34 = .ok (.aload_n 0, 1) := by decide +kernel
theorem dD_start_35 : decode prog_2_method_15_code 35 = .ok (.invokevirtual 93, 3) := by decide +kernel
theorem dD_start_38 : decode prog_2_method_15_code 38 = .ok (.aload_n 0, 1) := by decide +kernel
theorem dD_start_39 : decode prog_2_method_15_code 39 = .ok (.getfield 27, 3) := by decide +kernel
theorem dD_start_42 : decode prog_2_method_15_code 42 = .ok (.ireturn, 1) := by decide +kernel
theorem dD_keep_0 : decode prog_2_method_16_code 0 = .ok (.aload_n 0, 1) := by decide +kernel
theorem dD_keep_1 : decode prog_2_method_16_code 1 = .ok (.iconst 0, 1) := by decide +kernel
theorem dD_keep_2 : decode prog_2_method_16_code 2 = .ok (.putfield 31, 3) := by decide +kernel
theorem dD_keep_5 : decode prog_2_method_16_code 5 = .ok (.return_, 1) := by decide +kernel
theorem dD_isUnderWay_0 : decode prog_2_method_17_code 0 = .ok (.aload_n 0, 1) := by decide +kernel
theorem dD_isUnderWay_1 : decode prog_2_method_17_code 1 = .ok (.getfield 31, 3) := by decide +kernel
theorem dD_isUnderWay_4 : decode prog_2_method_17_code 4 = .ok (.iconst 1, 1) := by decide +kernel
theorem dD_isUnderWay_5 : decode prog_2_method_17_code 5 = .ok (.if_icmp .eq 19, 3) := by decide +kernel
theorem dD_isUnderWay_8 : decode prog_2_method_17_code 8 = .ok (.aload_n 0, 1) := by decide +kernel
theorem dD_isUnderWay_9 : decode prog_2_method_17_code 9 = .ok (.getfield 31, 3) := by decide +kernel
theorem dD_isUnderWay_12 : decode prog_2_method_17_code 12 = .ok (.iconst 2, 1) := by decide +kernel
theorem dD_isUnderWay_13 : decode prog_2_method_17_code 13 = .ok (.if_icmp .eq 11, 3) := by decide +kernel
theorem dD_isUnderWay_16 : decode prog_2_method_17_code 16 = .ok (.aload_n 0, 1) := by decide +kernel
theorem dD_isUnderWay_17 : decode prog_2_method_17_code 17 = .ok (.getfield 31, 3) := by decide +kernel
theorem dD_isUnderWay_20 : decode prog_2_method_17_code 20 = .ok (.iconst 3, 1) := by decide +kernel
theorem dD_isUnderWay_21 : decode prog_2_method_17_code 21 = .ok (.if_icmp .ne 7, 3) := by decide +kernel
theorem dD_isUnderWay_24 : decode prog_2_method_17_code 24 = .ok (.iconst 1, 1) := by decide +kernel
theorem dD_isUnderWay_25 : decode prog_2_method_17_code 25 = .ok (.goto 4, 3) := by decide +kernel
theorem dD_isUnderWay_28 : decode prog_2_method_17_code 28 = .ok (.iconst 0, 1) := by decide +kernel
theorem dD_isUnderWay_29 : decode prog_2_method_17_code 29 = .ok (.ireturn, 1) := by decide +kernel
theorem dD_spare_0 : decode prog_2_method_18_code 0 = .ok (.iconst 1, 1) := by decide +kernel
theorem dD_spare_1 : decode prog_2_method_18_code 1 = .ok (.aload_n 0, 1) := by decide +kernel
theorem dD_spare_2 : decode prog_2_method_18_code 2 = .ok (.getfield 27, 3) := by decide +kernel
theorem dD_spare_5 : decode prog_2_method_18_code 5 = .ok (.isub, 1) := by decide +kernel
theorem dD_spare_6 : decode prog_2_method_18_code 6 = .ok (.ireturn, 1) := by decide +kernel
theorem dD_beginInstalling_0 : decode prog_2_method_19_code 0 = .ok (.aload_n 0, 1) := by decide +kernel
theorem dD_beginInstalling_1 : decode prog_2_method_19_code 1 = .ok (.getfield 20, 3) := by decide +kernel
theorem dD_beginInstalling_4 : decode prog_2_method_19_code 4 = .ok (.aload_n 0, 1) := by decide +kernel
theorem dD_beginInstalling_5 : decode prog_2_method_19_code 5 = .ok (.invokevirtual 76, 3) := by decide +kernel
theorem dD_beginInstalling_8 : decode prog_2_method_19_code 8 = .ok (.aaload, 1) := by decide +kernel
theorem dD_beginInstalling_9 : decode prog_2_method_19_code 9 = .ok (.invokevirtual 96, 3) := by decide +kernel
theorem dD_beginInstalling_12 : decode prog_2_method_19_code 12 = .ok (.aload_n 0, 1) := by decide +kernel
theorem dD_beginInstalling_13 : decode prog_2_method_19_code 13 = .ok (.getfield 23, 3) := by decide +kernel
theorem dD_beginInstalling_16 : decode prog_2_method_19_code 16 = .ok (.aload_n 0, 1) := by decide +kernel
theorem dD_beginInstalling_17 : decode prog_2_method_19_code 17 = .ok (.invokevirtual 76, 3) := by decide +kernel
theorem dD_beginInstalling_20 : decode prog_2_method_19_code 20 = .ok (.aload_n 0, 1) := by decide +kernel
theorem dD_beginInstalling_21 : decode prog_2_method_19_code 21 = .ok (.getfield 37, 3) := by decide +kernel
theorem dD_beginInstalling_24 : decode prog_2_method_19_code 24 = .ok (.iastore, 1) := by decide +kernel
theorem dD_beginInstalling_25 : decode prog_2_method_19_code 25 = .ok (.aload_n 0, 1) := by decide +kernel
theorem dD_beginInstalling_26 : decode prog_2_method_19_code 26 = .ok (.iconst 0, 1) := by decide +kernel
theorem dD_beginInstalling_27 : decode prog_2_method_19_code 27 = .ok (.putfield 54, 3) := by decide +kernel
theorem dD_beginInstalling_30 : decode prog_2_method_19_code 30 = .ok (.aload_n 0, 1) := by decide +kernel
theorem dD_beginInstalling_31 : decode prog_2_method_19_code 31 = .ok (.iconst 2, 1) := by decide +kernel
theorem dD_beginInstalling_32 : decode prog_2_method_19_code 32 = .ok (.putfield 31, 3) := by decide +kernel
theorem dD_beginInstalling_35 : decode prog_2_method_19_code 35 = .ok (.return_, 1) := by decide +kernel
theorem dD_stepAtBoot_0 : decode prog_2_method_20_code 0 = .ok (.aload_n 0, 1) := by decide +kernel
theorem dD_stepAtBoot_1 : decode prog_2_method_20_code 1 = .ok (.getfield 31, 3) := by decide +kernel
theorem dD_stepAtBoot_4 : decode prog_2_method_20_code 4 = .ok (.tableswitch 63 2 4 #[56, 28, 49], 28) := by decide +kernel
theorem dD_stepAtBoot_32 : decode prog_2_method_20_code 32 = .ok (.aload_n 0, 1) := by decide +kernel
theorem dD_stepAtBoot_33 : decode prog_2_method_20_code 33 = .ok (.aload_n 0, 1) := by decide +kernel
theorem dD_stepAtBoot_34 : decode prog_2_method_20_code 34 = .ok (.invokevirtual 76, 3) := by decide +kernel
theorem dD_stepAtBoot_37 : decode prog_2_method_20_code 37 = .ok (.putfield 27, 3) := by decide +kernel
theorem dD_stepAtBoot_40 : decode prog_2_method_20_code 40 = .ok (.aload_n 0, 1) := by decide +kernel
theorem dD_stepAtBoot_41 : decode prog_2_method_20_code 41 = .ok (.iconst 4, 1) := by decide +kernel
theorem dD_stepAtBoot_42 : decode prog_2_method_20_code 42 = .ok (.putfield 31, 3) := by decide +kernel
theorem dD_stepAtBoot_45 : decode prog_2_method_20_code 45 = .ok (.aload_n 0, 1) := by decide +kernel
theorem dD_stepAtBoot_46 : decode prog_2_method_20_code 46 = .ok (.iconst 2, 1) := by decide +kernel
theorem dD_stepAtBoot_47 : decode prog_2_method_20_code 47 = .ok (.putfield 34, 3) := by decide +kernel
theorem dD_stepAtBoot_50 : decode prog_2_method_20_code 50 = .ok (.goto 17, 3) := by decide +kernel
theorem dD_stepAtBoot_53 : decode prog_2_method_20_code 53 = .ok (.aload_n 0, 1) := by decide +kernel
theorem dD_stepAtBoot_54 : decode prog_2_method_20_code 54 = .ok (.invokevirtual 99, 3) := by decide +kernel
theorem dD_stepAtBoot_57 : decode prog_2_method_20_code 57 = .ok (.goto 10, 3) := by decide +kernel
theorem dD_stepAtBoot_60 : decode prog_2_method_20_code 60 = .ok (.aload_n 0, 1) := by decide +kernel
theorem dD_stepAtBoot_61 : decode prog_2_method_20_code 61 = .ok (.invokevirtual 73, 3) := by decide +kernel
theorem dD_stepAtBoot_64 : decode prog_2_method_20_code 64 = .ok (.goto 3, 3) := by decide +kernel
theorem dD_stepAtBoot_67 : decode prog_2_method_20_code 67 = .ok (.return_, 1) := by decide +kernel
theorem dD_useTry_0 : decode prog_2_method_21_code 0 = .ok (.aload_n 0, 1) := by decide +kernel
theorem dD_useTry_1 : decode prog_2_method_21_code 1 = .ok (.getfield 34, 3) := by decide +kernel
theorem dD_useTry_4 : decode prog_2_method_21_code 4 = .ok (.ifCond .le 16, 3) := by decide +kernel
theorem dD_useTry_7 : decode prog_2_method_21_code 7 = .ok (.aload_n 0, 1) := by decide +kernel
theorem dD_useTry_8 : decode prog_2_method_21_code 8 = .ok (.dup, 1) := by decide +kernel
theorem dD_useTry_9 : decode prog_2_method_21_code 9 = .ok (.getfield 34, 3) := by decide +kernel
theorem dD_useTry_12 : decode prog_2_method_21_code 12 = .ok (.iconst 1, 1) := by decide +kernel
theorem dD_useTry_13 : decode prog_2_method_21_code 13 = .ok (.isub, 1) := by decide +kernel
theorem dD_useTry_14 : decode prog_2_method_21_code 14 = .ok (.putfield 34, 3) := by decide +kernel
theorem dD_useTry_17 : decode prog_2_method_21_code 17 = .ok (.goto 7, 3) := by decide +kernel
theorem dD_useTry_20 : decode prog_2_method_21_code 20 = .ok (.aload_n 0, 1) := by decide +kernel
theorem dD_useTry_21 : decode prog_2_method_21_code 21 = .ok (.invokevirtual 93, 3) := by decide +kernel
theorem dD_useTry_24 : decode prog_2_method_21_code 24 = .ok (.return_, 1) := by decide +kernel
theorem dD_goBack_0 : decode prog_2_method_22_code 0 = .ok (.aload_n 0, 1) := by decide +kernel
theorem dD_goBack_1 : decode prog_2_method_22_code 1 = .ok (.aload_n 0, 1) := by decide +kernel
theorem dD_goBack_2 : decode prog_2_method_22_code 2 = .ok (.invokevirtual 76, 3) := by decide +kernel
theorem dD_goBack_5 : decode prog_2_method_22_code 5 = .ok (.putfield 27, 3) := by decide +kernel
theorem dD_goBack_8 : decode prog_2_method_22_code 8 = .ok (.aload_n 0, 1) := by decide +kernel
theorem dD_goBack_9 : decode prog_2_method_22_code 9 = .ok (.iconst 0, 1) := by decide +kernel
theorem dD_goBack_10 : decode prog_2_method_22_code 10 = .ok (.putfield 31, 3) := by decide +kernel
theorem dD_goBack_13 : decode prog_2_method_22_code 13 = .ok (.return_, 1) := by decide +kernel
