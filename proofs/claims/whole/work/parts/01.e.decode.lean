theorem dM_init_0 : decode prog_6_method_1_code 0 = .ok (.aload_n 0, 1) := by decide +kernel
theorem dM_init_1 : decode prog_6_method_1_code 1 = .ok (.invokespecial 1, 3) := by decide +kernel
theorem dM_init_4 : decode prog_6_method_1_code 4 = .ok (.aload_n 0, 1) := by decide +kernel
theorem dM_init_5 : decode prog_6_method_1_code 5 = .ok (.sipush 280, 3) := by decide +kernel
theorem dM_init_8 : decode prog_6_method_1_code 8 = .ok (.newarray .int, 2) := by decide +kernel
theorem dM_init_10 : decode prog_6_method_1_code 10 = .ok (.putfield 7, 3) := by decide +kernel
theorem dM_init_13 : decode prog_6_method_1_code 13 = .ok (.aload_n 0, 1) := by decide +kernel
theorem dM_init_14 : decode prog_6_method_1_code 14 = .ok (.bipush 7, 2) := by decide +kernel
theorem dM_init_16 : decode prog_6_method_1_code 16 = .ok (.newarray .int, 2) := by decide +kernel
theorem dM_init_18 : decode prog_6_method_1_code 18 = .ok (.putfield 13, 3) := by decide +kernel
theorem dM_init_21 : decode prog_6_method_1_code 21 = .ok (.aload_n 0, 1) := by decide +kernel
theorem dM_init_22 : decode prog_6_method_1_code 22 = .ok (.bipush 40, 2) := by decide +kernel
theorem dM_init_24 : decode prog_6_method_1_code 24 = .ok (.newarray .int, 2) := by decide +kernel
theorem dM_init_26 : decode prog_6_method_1_code 26 = .ok (.putfield 16, 3) := by decide +kernel
theorem dM_init_29 : decode prog_6_method_1_code 29 = .ok (.aload_n 0, 1) := by decide +kernel
theorem dM_init_30 : decode prog_6_method_1_code 30 = .ok (.sipush 128, 3) := by decide +kernel
theorem dM_init_33 : decode prog_6_method_1_code 33 = .ok (.newarray .int, 2) := by decide +kernel
theorem dM_init_35 : decode prog_6_method_1_code 35 = .ok (.putfield 19, 3) := by decide +kernel
theorem dM_init_38 : decode prog_6_method_1_code 38 = .ok (.aload_n 0, 1) := by decide +kernel
theorem dM_init_39 : decode prog_6_method_1_code 39 = .ok (.bipush 80, 2) := by decide +kernel
theorem dM_init_41 : decode prog_6_method_1_code 41 = .ok (.newarray .int, 2) := by decide +kernel
theorem dM_init_43 : decode prog_6_method_1_code 43 = .ok (.putfield 22, 3) := by decide +kernel
theorem dM_init_46 : decode prog_6_method_1_code 46 = .ok (.aload_n 0, 1) := by decide +kernel
theorem dM_init_47 : decode prog_6_method_1_code 47 = .ok (.iconst 2, 1) := by decide +kernel
theorem dM_init_48 : decode prog_6_method_1_code 48 = .ok (.newarray .int, 2) := by decide +kernel
theorem dM_init_50 : decode prog_6_method_1_code 50 = .ok (.putfield 25, 3) := by decide +kernel
theorem dM_init_53 : decode prog_6_method_1_code 53 = .ok (.aload_n 0, 1) := by decide +kernel
theorem dM_init_54 : decode prog_6_method_1_code 54 = .ok (.iconst 2, 1) := by decide +kernel
theorem dM_init_55 : decode prog_6_method_1_code 55 = .ok (.newarray .int, 2) := by decide +kernel
theorem dM_init_57 : decode prog_6_method_1_code 57 = .ok (.putfield 28, 3) := by decide +kernel
theorem dM_init_60 : decode prog_6_method_1_code 60 = .ok (.aload_n 0, 1) := by decide +kernel
theorem dM_init_61 : decode prog_6_method_1_code 61 = .ok (.bipush 32, 2) := by decide +kernel
theorem dM_init_63 : decode prog_6_method_1_code 63 = .ok (.newarray .boolean, 2) := by decide +kernel
theorem dM_init_65 : decode prog_6_method_1_code 65 = .ok (.putfield 31, 3) := by decide +kernel
theorem dM_init_68 : decode prog_6_method_1_code 68 = .ok (.return_, 1) := by decide +kernel
theorem dM_in_0 : decode prog_6_method_2_code 0 = .ok (.iload_n 0, 1) := by decide +kernel
theorem dM_in_1 : decode prog_6_method_2_code 1 = .ok (.iload_n 1, 1) := by decide +kernel
theorem dM_in_2 : decode prog_6_method_2_code 2 = .ok (.if_icmp .lt 12, 3) := by decide +kernel
theorem dM_in_5 : decode prog_6_method_2_code 5 = .ok (.iload_n 0, 1) := by decide +kernel
theorem dM_in_6 : decode prog_6_method_2_code 6 = .ok (.iload_n 2, 1) := by decide +kernel
theorem dM_in_7 : decode prog_6_method_2_code 7 = .ok (.if_icmp .gt 7, 3) := by decide +kernel
theorem dM_in_10 : decode prog_6_method_2_code 10 = .ok (.iconst 1, 1) := by decide +kernel
theorem dM_in_11 : decode prog_6_method_2_code 11 = .ok (.goto 4, 3) := by decide +kernel
theorem dM_in_14 : decode prog_6_method_2_code 14 = .ok (.iconst 0, 1) := by decide +kernel
theorem dM_in_15 : decode prog_6_method_2_code 15 = .ok (.ireturn, 1) := by decide +kernel
theorem dM_feed_0 : decode prog_6_method_3_code 0 = .ok (.iload_n 1, 1) := by decide +kernel
theorem dM_feed_1 : decode prog_6_method_3_code 1 = .ok (.iconst 0, 1) := by decide +kernel
theorem dM_feed_2 : decode prog_6_method_3_code 2 = .ok (.sipush 255, 3) := by decide +kernel
theorem dM_feed_5 : decode prog_6_method_3_code 5 = .ok (.invokestatic 35, 3) := by decide +kernel
theorem dM_feed_8 : decode prog_6_method_3_code 8 = .ok (.ifCond .ne 5, 3) := by decide +kernel
theorem dM_feed_11 : decode prog_6_method_3_code 11 = .ok (.iconst (-1), 1) := by decide +kernel
theorem dM_feed_12 : decode prog_6_method_3_code 12 = .ok (.ireturn, 1) := by decide +kernel
theorem dM_feed_13 : decode prog_6_method_3_code 13 = .ok (.aload_n 0, 1) := by decide +kernel
theorem dM_feed_14 : decode prog_6_method_3_code 14 = .ok (.getfield 39, 3) := by decide +kernel
theorem dM_feed_17 : decode prog_6_method_3_code 17 = .ok (.bipush 40, 2) := by decide +kernel
theorem dM_feed_19 : decode prog_6_method_3_code 19 = .ok (.if_icmp .ne 6, 3) := by decide +kernel
theorem dM_feed_22 : decode prog_6_method_3_code 22 = .ok (.bipush (-2), 2) := by decide +kernel
theorem dM_feed_24 : decode prog_6_method_3_code 24 = .ok (.ireturn, 1) := by decide +kernel
theorem dM_feed_25 : decode prog_6_method_3_code 25 = .ok (.aload_n 0, 1) := by decide +kernel
theorem dM_feed_26 : decode prog_6_method_3_code 26 = .ok (.getfield 16, 3) := by decide +kernel
theorem dM_feed_29 : decode prog_6_method_3_code 29 = .ok (.aload_n 0, 1) := by decide +kernel
theorem dM_feed_30 : decode prog_6_method_3_code 30 = .ok (.getfield 39, 3) := by decide +kernel
theorem dM_feed_33 : decode prog_6_method_3_code 33 = .ok (.iload_n 1, 1) := by decide +kernel
theorem dM_feed_34 : decode prog_6_method_3_code 34 = .ok (.iastore, 1) := by decide +kernel
theorem dM_feed_35 : decode prog_6_method_3_code 35 = .ok (.aload_n 0, 1) := by decide +kernel
theorem dM_feed_36 : decode prog_6_method_3_code 36 = .ok (.dup, 1) := by decide +kernel
theorem dM_feed_37 : decode prog_6_method_3_code 37 = .ok (.getfield 39, 3) := by decide +kernel
theorem dM_feed_40 : decode prog_6_method_3_code 40 = .ok (.iconst 1, 1) := by decide +kernel
theorem dM_feed_41 : decode prog_6_method_3_code 41 = .ok (.iadd, 1) := by decide +kernel
theorem dM_feed_42 : decode prog_6_method_3_code 42 = .ok (.putfield 39, 3) := by decide +kernel
theorem dM_feed_45 : decode prog_6_method_3_code 45 = .ok (.aload_n 0, 1) := by decide +kernel
theorem dM_feed_46 : decode prog_6_method_3_code 46 = .ok (.getfield 39, 3) := by decide +kernel
theorem dM_feed_49 : decode prog_6_method_3_code 49 = .ok (.ireturn, 1) := by decide +kernel
theorem dM_reuse_0 : decode prog_6_method_4_code 0 = .ok (.iload_n 1, 1) := by decide +kernel
theorem dM_reuse_1 : decode prog_6_method_4_code 1 = .ok (.iconst 0, 1) := by decide +kernel
theorem dM_reuse_2 : decode prog_6_method_4_code 2 = .ok (.aload_n 0, 1) := by decide +kernel
theorem dM_reuse_3 : decode prog_6_method_4_code 3 = .ok (.getfield 43, 3) := by decide +kernel
theorem dM_reuse_6 : decode prog_6_method_4_code 6 = .ok (.invokestatic 35, 3) := by decide +kernel
theorem dM_reuse_9 : decode prog_6_method_4_code 9 = .ok (.ifCond .eq 30, 3) := by decide +kernel
theorem dM_reuse_12 : decode prog_6_method_4_code 12 = .ok (.iload_n 3, 1) := by decide +kernel
theorem dM_reuse_13 : decode prog_6_method_4_code 13 = .ok (.iconst 1, 1) := by decide +kernel
theorem dM_reuse_14 : decode prog_6_method_4_code 14 = .ok (.if_icmp .lt 25, 3) := by decide +kernel
theorem dM_reuse_17 : decode prog_6_method_4_code 17 = .ok (.iload_n 2, 1) := by decide +kernel
theorem dM_reuse_18 : decode prog_6_method_4_code 18 = .ok (.iconst 0, 1) := by decide +kernel
theorem dM_reuse_19 : decode prog_6_method_4_code 19 = .ok (.bipush 40, 2) := by decide +kernel
theorem dM_reuse_21 : decode prog_6_method_4_code 21 = .ok (.invokestatic 35, 3) := by decide +kernel
theorem dM_reuse_24 : decode prog_6_method_4_code 24 = .ok (.ifCond .eq 15, 3) := by decide +kernel
theorem dM_reuse_27 : decode prog_6_method_4_code 27 = .ok (.iload_n 3, 1) := by decide +kernel
theorem dM_reuse_28 : decode prog_6_method_4_code 28 = .ok (.aload_n 0, 1) := by decide +kernel
theorem dM_reuse_29 : decode prog_6_method_4_code 29 = .ok (.getfield 13, 3) := by decide +kernel
theorem dM_reuse_32 : decode prog_6_method_4_code 32 = .ok (.iload_n 1, 1) := by decide +kernel
theorem dM_reuse_33 : decode prog_6_method_4_code 33 = .ok (.iaload, 1) := by decide +kernel
theorem dM_reuse_34 : decode prog_6_method_4_code 34 = .ok (.iload_n 2, 1) := by decide +kernel
theorem dM_reuse_35 : decode prog_6_method_4_code 35 = .ok (.isub, 1) := by decide +kernel
theorem dM_reuse_36 : decode prog_6_method_4_code 36 = .ok (.if_icmp .le 5, 3) := by decide +kernel
theorem dM_reuse_39 : decode prog_6_method_4_code 39 = .ok (.iconst (-1), 1) := by decide +kernel
theorem dM_reuse_40 : decode prog_6_method_4_code 40 = .ok (.ireturn, 1) := by decide +kernel
theorem dM_reuse_41 : decode prog_6_method_4_code 41 = .ok (.aload_n 0, 1) := by decide +kernel
theorem dM_reuse_42 : decode prog_6_method_4_code 42 = .ok (.getfield 39, 3) := by decide +kernel
theorem dM_reuse_45 : decode prog_6_method_4_code 45 = .ok (.iload_n 3, 1) := by decide +kernel
theorem dM_reuse_46 : decode prog_6_method_4_code 46 = .ok (.iadd, 1) := by decide +kernel
theorem dM_reuse_47 : decode prog_6_method_4_code 47 = .ok (.bipush 40, 2) := by decide +kernel
theorem dM_reuse_49 : decode prog_6_method_4_code 49 = .ok (.if_icmp .le 6, 3) := by decide +kernel
theorem dM_reuse_52 : decode prog_6_method_4_code 52 = .ok (.bipush (-2), 2) := by decide +kernel
theorem dM_reuse_54 : decode prog_6_method_4_code 54 = .ok (.ireturn, 1) := by decide +kernel
theorem dM_reuse_55 : decode prog_6_method_4_code 55 = .ok (.iconst 0, 1) := by decide +kernel
theorem dM_reuse_56 : decode prog_6_method_4_code 56 = .ok (.istore 4, 2) := by decide +kernel
theorem dM_reuse_58 : decode prog_6_method_4_code 58 = .ok (.iload 4, 2) := by decide +kernel
theorem dM_reuse_60 : decode prog_6_method_4_code 60 = .ok (.iload_n 3, 1) := by decide +kernel
theorem dM_reuse_61 : decode prog_6_method_4_code 61 = .ok (.if_icmp .ge 35, 3) := by decide +kernel
theorem dM_reuse_64 : decode prog_6_method_4_code 64 = .ok (.aload_n 0, 1) := by decide +kernel
theorem dM_reuse_65 : decode prog_6_method_4_code 65 = .ok (.getfield 16, 3) := by decide +kernel
theorem dM_reuse_68 : decode prog_6_method_4_code 68 = .ok (.aload_n 0, 1) := by decide +kernel
theorem dM_reuse_69 : decode prog_6_method_4_code 69 = .ok (.getfield 39, 3) := by decide +kernel
theorem dM_reuse_72 : decode prog_6_method_4_code 72 = .ok (.iload 4, 2) := by decide +kernel
theorem dM_reuse_74 : decode prog_6_method_4_code 74 = .ok (.iadd, 1) := by decide +kernel
theorem dM_reuse_75 : decode prog_6_method_4_code 75 = .ok (.aload_n 0, 1) := by decide +kernel
theorem dM_reuse_76 : decode prog_6_method_4_code 76 = .ok (.getfield 7, 3) := by decide +kernel
theorem dM_reuse_79 : decode prog_6_method_4_code 79 = .ok (.bipush 40, 2) := by decide +kernel
theorem dM_reuse_81 : decode prog_6_method_4_code 81 = .ok (.iload_n 1, 1) := by decide +kernel
theorem dM_reuse_82 : decode prog_6_method_4_code 82 = .ok (.imul, 1) := by decide +kernel
theorem dM_reuse_83 : decode prog_6_method_4_code 83 = .ok (.iload_n 2, 1) := by decide +kernel
theorem dM_reuse_84 : decode prog_6_method_4_code 84 = .ok (.iadd, 1) := by decide +kernel
theorem dM_reuse_85 : decode prog_6_method_4_code 85 = .ok (.iload 4, 2) := by decide +kernel
theorem dM_reuse_87 : decode prog_6_method_4_code 87 = .ok (.iadd, 1) := by decide +kernel
theorem dM_reuse_88 : decode prog_6_method_4_code 88 = .ok (.iaload, 1) := by decide +kernel
theorem dM_reuse_89 : decode prog_6_method_4_code 89 = .ok (.iastore, 1) := by decide +kernel
theorem dM_reuse_90 : decode prog_6_method_4_code 90 = .ok (.iinc 4 1, 3) := by decide +kernel
theorem dM_reuse_93 : decode prog_6_method_4_code 93 = .ok (.goto (-35), 3) := by decide +kernel
theorem dM_reuse_96 : decode prog_6_method_4_code 96 = .ok (.aload_n 0, 1) := by decide +kernel
theorem dM_reuse_97 : decode prog_6_method_4_code 97 = .ok (.dup, 1) := by decide +kernel
theorem dM_reuse_98 : decode prog_6_method_4_code 98 = .ok (.getfield 39, 3) := by decide +kernel
theorem dM_reuse_101 : decode prog_6_method_4_code 101 = .ok (.iload_n 3, 1) := by decide +kernel
theorem dM_reuse_102 : decode prog_6_method_4_code 102 = .ok (.iadd, 1) := by decide +kernel
theorem dM_reuse_103 : decode prog_6_method_4_code 103 = .ok (.putfield 39, 3) := by decide +kernel
theorem dM_reuse_106 : decode prog_6_method_4_code 106 = .ok (.aload_n 0, 1) := by decide +kernel
theorem dM_reuse_107 : decode prog_6_method_4_code 107 = .ok (.getfield 39, 3) := by decide +kernel
theorem dM_reuse_110 : decode prog_6_method_4_code 110 = .ok (.ireturn, 1) := by decide +kernel
theorem dM_publish_0 : decode prog_6_method_5_code 0 = .ok (.aload_n 0, 1) := by decide +kernel
theorem dM_publish_1 : decode prog_6_method_5_code 1 = .ok (.getfield 39, 3) := by decide +kernel
theorem dM_publish_4 : decode prog_6_method_5_code 4 = .ok (.ifCond .ne 5, 3) := by decide +kernel
theorem dM_publish_7 : decode prog_6_method_5_code 7 = .ok (.iconst (-1), 1) := by decide +kernel
theorem dM_publish_8 : decode prog_6_method_5_code 8 = .ok (.ireturn, 1) := by decide +kernel
theorem dM_publish_9 : decode prog_6_method_5_code 9 = .ok (.aload_n 0, 1) := by decide +kernel
theorem dM_publish_10 : decode prog_6_method_5_code 10 = .ok (.getfield 43, 3) := by decide +kernel
theorem dM_publish_13 : decode prog_6_method_5_code 13 = .ok (.bipush 6, 2) := by decide +kernel
theorem dM_publish_15 : decode prog_6_method_5_code 15 = .ok (.if_icmp .ne 6, 3) := by decide +kernel
theorem dM_publish_18 : decode prog_6_method_5_code 18 = .ok (.bipush (-2), 2) := by decide +kernel
theorem dM_publish_20 : decode prog_6_method_5_code 20 = .ok (.ireturn, 1) := by decide +kernel
theorem dM_publish_21 : decode prog_6_method_5_code 21 = .ok (.aload_n 0, 1) := by decide +kernel
theorem dM_publish_22 : decode prog_6_method_5_code 22 = .ok (.dup, 1) := by decide +kernel
theorem dM_publish_23 : decode prog_6_method_5_code 23 = .ok (.getfield 43, 3) := by decide +kernel
theorem dM_publish_26 : decode prog_6_method_5_code 26 = .ok (.iconst 1, 1) := by decide +kernel
theorem dM_publish_27 : decode prog_6_method_5_code 27 = .ok (.iadd, 1) := by decide +kernel
theorem dM_publish_28 : decode prog_6_method_5_code 28 = .ok (.putfield 43, 3) := by decide +kernel
theorem dM_publish_31 : decode prog_6_method_5_code 31 = .ok (.iconst 0, 1) := by decide +kernel
theorem dM_publish_32 : decode prog_6_method_5_code 32 = .ok (.istore_n 1, 1) := by decide +kernel
theorem dM_publish_33 : decode prog_6_method_5_code 33 = .ok (.iload_n 1, 1) := by decide +kernel
theorem dM_publish_34 : decode prog_6_method_5_code 34 = .ok (.aload_n 0, 1) := by decide +kernel
theorem dM_publish_35 : decode prog_6_method_5_code 35 = .ok (.getfield 39, 3) := by decide +kernel
theorem dM_publish_38 : decode prog_6_method_5_code 38 = .ok (.if_icmp .ge 29, 3) := by decide +kernel
theorem dM_publish_41 : decode prog_6_method_5_code 41 = .ok (.aload_n 0, 1) := by decide +kernel
theorem dM_publish_42 : decode prog_6_method_5_code 42 = .ok (.getfield 7, 3) := by decide +kernel
theorem dM_publish_45 : decode prog_6_method_5_code 45 = .ok (.bipush 40, 2) := by decide +kernel
theorem dM_publish_47 : decode prog_6_method_5_code 47 = .ok (.aload_n 0, 1) := by decide +kernel
theorem dM_publish_48 : decode prog_6_method_5_code 48 = .ok (.getfield 43, 3) := by decide +kernel
theorem dM_publish_51 : decode prog_6_method_5_code 51 = .ok (.imul, 1) := by decide +kernel
theorem dM_publish_52 : decode prog_6_method_5_code 52 = .ok (.iload_n 1, 1) := by decide +kernel
theorem dM_publish_53 : decode prog_6_method_5_code 53 = .ok (.iadd, 1) := by decide +kernel
theorem dM_publish_54 : decode prog_6_method_5_code 54 = .ok (.aload_n 0, 1) := by decide +kernel
theorem dM_publish_55 : decode prog_6_method_5_code 55 = .ok (.getfield 16, 3) := by decide +kernel
theorem dM_publish_58 : decode prog_6_method_5_code 58 = .ok (.iload_n 1, 1) := by decide +kernel
theorem dM_publish_59 : decode prog_6_method_5_code 59 = .ok (.iaload, 1) := by decide +kernel
theorem dM_publish_60 : decode prog_6_method_5_code 60 = .ok (.iastore, 1) := by decide +kernel
theorem dM_publish_61 : decode prog_6_method_5_code 61 = .ok (.iinc 1 1, 3) := by decide +kernel
theorem dM_publish_64 : decode prog_6_method_5_code 64 = .ok (.goto (-31), 3) := by decide +kernel
theorem dM_publish_67 : decode prog_6_method_5_code 67 = .ok (.aload_n 0, 1) := by decide +kernel
theorem dM_publish_68 : decode prog_6_method_5_code 68 = .ok (.getfield 13, 3) := by decide +kernel
theorem dM_publish_71 : decode prog_6_method_5_code 71 = .ok (.aload_n 0, 1) := by decide +kernel
theorem dM_publish_72 : decode prog_6_method_5_code 72 = .ok (.getfield 43, 3) := by decide +kernel
theorem dM_publish_75 : decode prog_6_method_5_code 75 = .ok (.aload_n 0, 1) := by decide +kernel
theorem dM_publish_76 : decode prog_6_method_5_code 76 = .ok (.getfield 39, 3) := by decide +kernel
theorem dM_publish_79 : decode prog_6_method_5_code 79 = .ok (.iastore, 1) := by decide +kernel
theorem dM_publish_80 : decode prog_6_method_5_code 80 = .ok (.aload_n 0, 1) := by decide +kernel
theorem dM_publish_81 : decode prog_6_method_5_code 81 = .ok (.iconst 0, 1) := by decide +kernel
theorem dM_publish_82 : decode prog_6_method_5_code 82 = .ok (.putfield 39, 3) := by decide +kernel
theorem dM_publish_85 : decode prog_6_method_5_code 85 = .ok (.aload_n 0, 1) := by decide +kernel
theorem dM_publish_86 : decode prog_6_method_5_code 86 = .ok (.getfield 43, 3) := by decide +kernel
theorem dM_publish_89 : decode prog_6_method_5_code 89 = .ok (.ireturn, 1) := by decide +kernel
theorem dM_agree_0 : decode prog_6_method_6_code 0 = .ok (.iconst 0, 1) := by decide +kernel
theorem dM_agree_1 : decode prog_6_method_6_code 1 = .ok (.istore 5, 2) := by decide +kernel
theorem dM_agree_3 : decode prog_6_method_6_code 3 = .ok (.iload_n 2, 1) := by decide +kernel
theorem dM_agree_4 : decode prog_6_method_6_code 4 = .ok (.iload 5, 2) := by decide +kernel
theorem dM_agree_6 : decode prog_6_method_6_code 6 = .ok (.iadd, 1) := by decide +kernel
theorem dM_agree_7 : decode prog_6_method_6_code 7 = .ok (.aload_n 0, 1) := by decide +kernel
theorem dM_agree_8 : decode prog_6_method_6_code 8 = .ok (.getfield 13, 3) := by decide +kernel
theorem dM_agree_11 : decode prog_6_method_6_code 11 = .ok (.iload_n 1, 1) := by decide +kernel
theorem dM_agree_12 : decode prog_6_method_6_code 12 = .ok (.iaload, 1) := by decide +kernel
theorem dM_agree_13 : decode prog_6_method_6_code 13 = .ok (.if_icmp .ge 55, 3) := by decide +kernel
theorem dM_agree_16 : decode prog_6_method_6_code 16 = .ok (.iload 4, 2) := by decide +kernel
theorem dM_agree_18 : decode prog_6_method_6_code 18 = .ok (.iload 5, 2) := by decide +kernel
theorem dM_agree_20 : decode prog_6_method_6_code 20 = .ok (.iadd, 1) := by decide +kernel
theorem dM_agree_21 : decode prog_6_method_6_code 21 = .ok (.aload_n 0, 1) := by decide +kernel
theorem dM_agree_22 : decode prog_6_method_6_code 22 = .ok (.getfield 13, 3) := by decide +kernel
theorem dM_agree_25 : decode prog_6_method_6_code 25 = .ok (.iload_n 3, 1) := by decide +kernel
theorem dM_agree_26 : decode prog_6_method_6_code 26 = .ok (.iaload, 1) := by decide +kernel
theorem dM_agree_27 : decode prog_6_method_6_code 27 = .ok (.if_icmp .ge 41, 3) := by decide +kernel
theorem dM_agree_30 : decode prog_6_method_6_code 30 = .ok (.aload_n 0, 1) := by decide +kernel
theorem dM_agree_31 : decode prog_6_method_6_code 31 = .ok (.getfield 7, 3) := by decide +kernel
theorem dM_agree_34 : decode prog_6_method_6_code 34 = .ok (.bipush 40, 2) := by decide +kernel
theorem dM_agree_36 : decode prog_6_method_6_code 36 = .ok (.iload_n 1, 1) := by decide +kernel
theorem dM_agree_37 : decode prog_6_method_6_code 37 = .ok (.imul, 1) := by decide +kernel
theorem dM_agree_38 : decode prog_6_method_6_code 38 = .ok (.iload_n 2, 1) := by decide +kernel
theorem dM_agree_39 : decode prog_6_method_6_code 39 = .ok (.iadd, 1) := by decide +kernel
theorem dM_agree_40 : decode prog_6_method_6_code 40 = .ok (.iload 5, 2) := by decide +kernel
theorem dM_agree_42 : decode prog_6_method_6_code 42 = .ok (.iadd, 1) := by decide +kernel
theorem dM_agree_43 : decode prog_6_method_6_code 43 = .ok (.iaload, 1) := by decide +kernel
theorem dM_agree_44 : decode prog_6_method_6_code 44 = .ok (.aload_n 0, 1) := by decide +kernel
theorem dM_agree_45 : decode prog_6_method_6_code 45 = .ok (.getfield 7, 3) := by decide +kernel
theorem dM_agree_48 : decode prog_6_method_6_code 48 = .ok (.bipush 40, 2) := by decide +kernel
theorem dM_agree_50 : decode prog_6_method_6_code 50 = .ok (.iload_n 3, 1) := by decide +kernel
theorem dM_agree_51 : decode prog_6_method_6_code 51 = .ok (.imul, 1) := by decide +kernel
theorem dM_agree_52 : decode prog_6_method_6_code 52 = .ok (.iload 4, 2) := by decide +kernel
theorem dM_agree_54 : decode prog_6_method_6_code 54 = .ok (.iadd, 1) := by decide +kernel
theorem dM_agree_55 : decode prog_6_method_6_code 55 = .ok (.iload 5, 2) := by decide +kernel
theorem dM_agree_57 : decode prog_6_method_6_code 57 = .ok (.iadd, 1) := by decide +kernel
theorem dM_agree_58 : decode prog_6_method_6_code 58 = .ok (.iaload, 1) := by decide +kernel
theorem dM_agree_59 : decode prog_6_method_6_code 59 = .ok (.if_icmp .ne 9, 3) := by decide +kernel
theorem dM_agree_62 : decode prog_6_method_6_code 62 = .ok (.iinc 5 1, 3) := by decide +kernel
theorem dM_agree_65 : decode prog_6_method_6_code 65 = .ok (.goto (-62), 3) := by decide +kernel
theorem dM_agree_68 : decode prog_6_method_6_code 68 = .ok (.iload 5, 2) := by decide +kernel
theorem dM_agree_70 : decode prog_6_method_6_code 70 = .ok (.ireturn, 1) := by decide +kernel
theorem dM_put_0 : decode prog_6_method_7_code 0 = .ok (.aload_n 0, 1) := by decide +kernel
theorem dM_put_1 : decode prog_6_method_7_code 1 = .ok (.getfield 19, 3) := by decide +kernel
theorem dM_put_4 : decode prog_6_method_7_code 4 = .ok (.aload_n 0, 1) := by decide +kernel
theorem dM_put_5 : decode prog_6_method_7_code 5 = .ok (.getfield 46, 3) := by decide +kernel
theorem dM_put_8 : decode prog_6_method_7_code 8 = .ok (.iload_n 1, 1) := by decide +kernel
theorem dM_put_9 : decode prog_6_method_7_code 9 = .ok (.iastore, 1) := by decide +kernel
theorem dM_put_10 : decode prog_6_method_7_code 10 = .ok (.aload_n 0, 1) := by decide +kernel
theorem dM_put_11 : decode prog_6_method_7_code 11 = .ok (.dup, 1) := by decide +kernel
theorem dM_put_12 : decode prog_6_method_7_code 12 = .ok (.getfield 46, 3) := by decide +kernel
theorem dM_put_15 : decode prog_6_method_7_code 15 = .ok (.iconst 1, 1) := by decide +kernel
theorem dM_put_16 : decode prog_6_method_7_code 16 = .ok (.iadd, 1) := by decide +kernel
theorem dM_put_17 : decode prog_6_method_7_code 17 = .ok (.putfield 46, 3) := by decide +kernel
theorem dM_put_20 : decode prog_6_method_7_code 20 = .ok (.return_, 1) := by decide +kernel
theorem dM_make_0 : decode prog_6_method_8_code 0 = .ok (.aload_n 0, 1) := by decide +kernel
theorem dM_make_1 : decode prog_6_method_8_code 1 = .ok (.iconst 0, 1) := by decide +kernel
theorem dM_make_2 : decode prog_6_method_8_code 2 = .ok (.putfield 46, 3) := by decide +kernel
theorem dM_make_5 : decode prog_6_method_8_code 5 = .ok (.aload_n 0, 1) := by decide +kernel
theorem dM_make_6 : decode prog_6_method_8_code 6 = .ok (.iconst 0, 1) := by decide +kernel
theorem dM_make_7 : decode prog_6_method_8_code 7 = .ok (.putfield 49, 3) := by decide +kernel
theorem dM_make_10 : decode prog_6_method_8_code 10 = .ok (.iconst 0, 1) := by decide +kernel
theorem dM_make_11 : decode prog_6_method_8_code 11 = .ok (.istore_n 3, 1) := by decide +kernel
theorem dM_make_12 : decode prog_6_method_8_code 12 = .ok (.iconst 0, 1) := by decide +kernel
theorem dM_make_13 : decode prog_6_method_8_code 13 = .ok (.istore 4, 2) := by decide +kernel
theorem dM_make_15 : decode prog_6_method_8_code 15 = .ok (.iconst 0, 1) := by decide +kernel
theorem dM_make_16 : decode prog_6_method_8_code 16 = .ok (.istore 5, 2) := by decide +kernel
theorem dM_make_18 : decode prog_6_method_8_code 18 = .ok (.iload 5, 2) := by decide +kernel
theorem dM_make_20 : decode prog_6_method_8_code 20 = .ok (.aload_n 0, 1) := by decide +kernel
theorem dM_make_21 : decode prog_6_method_8_code 21 = .ok (.getfield 13, 3) := by decide +kernel
theorem dM_make_24 : decode prog_6_method_8_code 24 = .ok (.iload_n 1, 1) := by decide +kernel
theorem dM_make_25 : decode prog_6_method_8_code 25 = .ok (.iaload, 1) := by decide +kernel
theorem dM_make_26 : decode prog_6_method_8_code 26 = .ok (.if_icmp .ge 160, 3) := by decide +kernel
theorem dM_make_29 : decode prog_6_method_8_code 29 = .ok (.iconst 0, 1) := by decide +kernel
theorem dM_make_30 : decode prog_6_method_8_code 30 = .ok (.istore 6, 2) := by decide +kernel
theorem dM_make_32 : decode prog_6_method_8_code 32 = .ok (.iconst 0, 1) := by decide +kernel
theorem dM_make_33 : decode prog_6_method_8_code 33 = .ok (.istore 7, 2) := by decide +kernel
theorem dM_make_35 : decode prog_6_method_8_code 35 = .ok (.iconst 0, 1) := by decide +kernel
theorem dM_make_36 : decode prog_6_method_8_code 36 = .ok (.istore 8, 2) := by decide +kernel
theorem dM_make_38 : decode prog_6_method_8_code 38 = .ok (.iload 8, 2) := by decide +kernel
theorem dM_make_40 : decode prog_6_method_8_code 40 = .ok (.aload_n 0, 1) := by decide +kernel
theorem dM_make_41 : decode prog_6_method_8_code 41 = .ok (.getfield 13, 3) := by decide +kernel
theorem dM_make_44 : decode prog_6_method_8_code 44 = .ok (.iload_n 2, 1) := by decide +kernel
theorem dM_make_45 : decode prog_6_method_8_code 45 = .ok (.iaload, 1) := by decide +kernel
theorem dM_make_46 : decode prog_6_method_8_code 46 = .ok (.if_icmp .ge 40, 3) := by decide +kernel
theorem dM_make_49 : decode prog_6_method_8_code 49 = .ok (.aload_n 0, 1) := by decide +kernel
theorem dM_make_50 : decode prog_6_method_8_code 50 = .ok (.iload_n 1, 1) := by decide +kernel
theorem dM_make_51 : decode prog_6_method_8_code 51 = .ok (.iload 5, 2) := by decide +kernel
theorem dM_make_53 : decode prog_6_method_8_code 53 = .ok (.iload_n 2, 1) := by decide +kernel
theorem dM_make_54 : decode prog_6_method_8_code 54 = .ok (.iload 8, 2) := by decide +kernel
theorem dM_make_56 : decode prog_6_method_8_code 56 = .ok (.invokevirtual 52, 3) := by decide +kernel
theorem dM_make_59 : decode prog_6_method_8_code 59 = .ok (.iload 6, 2) := by decide +kernel
theorem dM_make_61 : decode prog_6_method_8_code 61 = .ok (.if_icmp .le 19, 3) := by decide +kernel
theorem dM_make_64 : decode prog_6_method_8_code 64 = .ok (.aload_n 0, 1) := by decide +kernel
theorem dM_make_65 : decode prog_6_method_8_code 65 = .ok (.iload_n 1, 1) := by decide +kernel
theorem dM_make_66 : decode prog_6_method_8_code 66 = .ok (.iload 5, 2) := by decide +kernel
theorem dM_make_68 : decode prog_6_method_8_code 68 = .ok (.iload_n 2, 1) := by decide +kernel
theorem dM_make_69 : decode prog_6_method_8_code 69 = .ok (.iload 8, 2) := by decide +kernel
theorem dM_make_71 : decode prog_6_method_8_code 71 = .ok (.invokevirtual 52, 3) := by decide +kernel
theorem dM_make_74 : decode prog_6_method_8_code 74 = .ok (.istore 6, 2) := by decide +kernel
theorem dM_make_76 : decode prog_6_method_8_code 76 = .ok (.iload 8, 2) := by decide +kernel
theorem dM_make_78 : decode prog_6_method_8_code 78 = .ok (.istore 7, 2) := by decide +kernel
theorem dM_make_80 : decode prog_6_method_8_code 80 = .ok (.iinc 8 1, 3) := by decide +kernel
theorem dM_make_83 : decode prog_6_method_8_code 83 = .ok (.goto (-45), 3) := by decide +kernel
theorem dM_make_86 : decode prog_6_method_8_code 86 = .ok (.iload 6, 2) := by decide +kernel
theorem dM_make_88 : decode prog_6_method_8_code 88 = .ok (.iconst 4, 1) := by decide +kernel
theorem dM_make_89 : decode prog_6_method_8_code 89 = .ok (.if_icmp .lt 41, 3) := by decide +kernel
theorem dM_make_92 : decode prog_6_method_8_code 92 = .ok (.aload_n 0, 1) := by decide +kernel
theorem dM_make_93 : decode prog_6_method_8_code 93 = .ok (.bipush 28, 2) := by decide +kernel
theorem dM_make_95 : decode prog_6_method_8_code 95 = .ok (.iload 6, 2) := by decide +kernel
theorem dM_make_97 : decode prog_6_method_8_code 97 = .ok (.iadd, 1) := by decide +kernel
theorem dM_make_98 : decode prog_6_method_8_code 98 = .ok (.invokevirtual 56, 3) := by decide +kernel
theorem dM_make_101 : decode prog_6_method_8_code 101 = .ok (.aload_n 0, 1) := by decide +kernel
theorem dM_make_102 : decode prog_6_method_8_code 102 = .ok (.iload 7, 2) := by decide +kernel
theorem dM_make_104 : decode prog_6_method_8_code 104 = .ok (.invokevirtual 56, 3) := by decide +kernel
theorem dM_make_107 : decode prog_6_method_8_code 107 = .ok (.aload_n 0, 1) := by decide +kernel
theorem dM_make_108 : decode prog_6_method_8_code 108 = .ok (.dup, 1) := by decide +kernel
theorem dM_make_109 : decode prog_6_method_8_code 109 = .ok (.getfield 49, 3) := by decide +kernel
theorem dM_make_112 : decode prog_6_method_8_code 112 = .ok (.iload 6, 2) := by decide +kernel
theorem dM_make_114 : decode prog_6_method_8_code 114 = .ok (.iadd, 1) := by decide +kernel
theorem dM_make_115 : decode prog_6_method_8_code 115 = .ok (.putfield 49, 3) := by decide +kernel
theorem dM_make_118 : decode prog_6_method_8_code 118 = .ok (.iload 5, 2) := by decide +kernel
theorem dM_make_120 : decode prog_6_method_8_code 120 = .ok (.iload 6, 2) := by decide +kernel
theorem dM_make_122 : decode prog_6_method_8_code 122 = .ok (.iadd, 1) := by decide +kernel
theorem dM_make_123 : decode prog_6_method_8_code 123 = .ok (.istore 5, 2) := by decide +kernel
theorem dM_make_125 : decode prog_6_method_8_code 125 = .ok (.iconst 0, 1) := by decide +kernel
theorem dM_make_126 : decode prog_6_method_8_code 126 = .ok (.istore_n 3, 1) := by decide +kernel
theorem dM_make_127 : decode prog_6_method_8_code 127 = .ok (.goto (-109), 3) := by decide +kernel
theorem dM_make_130 : decode prog_6_method_8_code 130 = .ok (.iload_n 3, 1) := by decide +kernel
theorem dM_make_131 : decode prog_6_method_8_code 131 = .ok (.ifCond .eq 9, 3) := by decide +kernel
theorem dM_make_134 : decode prog_6_method_8_code 134 = .ok (.iload_n 3, 1) := by decide +kernel
theorem dM_make_135 : decode prog_6_method_8_code 135 = .ok (.bipush 31, 2) := by decide +kernel
theorem dM_make_137 : decode prog_6_method_8_code 137 = .ok (.if_icmp .ne 16, 3) := by decide +kernel
theorem dM_make_140 : decode prog_6_method_8_code 140 = .ok (.aload_n 0, 1) := by decide +kernel
theorem dM_make_141 : decode prog_6_method_8_code 141 = .ok (.getfield 46, 3) := by decide +kernel
theorem dM_make_144 : decode prog_6_method_8_code 144 = .ok (.istore 4, 2) := by decide +kernel
theorem dM_make_146 : decode prog_6_method_8_code 146 = .ok (.aload_n 0, 1) := by decide +kernel
theorem dM_make_147 : decode prog_6_method_8_code 147 = .ok (.iconst 0, 1) := by decide +kernel
theorem dM_make_148 : decode prog_6_method_8_code 148 = .ok (.invokevirtual 56, 3) := by decide +kernel
theorem dM_make_151 : decode prog_6_method_8_code 151 = .ok (.iconst 0, 1) := by decide +kernel
theorem dM_make_152 : decode prog_6_method_8_code 152 = .ok (.istore_n 3, 1) := by decide +kernel
theorem dM_make_153 : decode prog_6_method_8_code 153 = .ok (.iinc 3 1, 3) := by decide +kernel
theorem dM_make_156 : decode prog_6_method_8_code 156 = .ok (.aload_n 0, 1) := by decide +kernel
theorem dM_make_157 : decode prog_6_method_8_code 157 = .ok (.getfield 19, 3) := by decide +kernel
theorem dM_make_160 : decode prog_6_method_8_code 160 = .ok (.iload 4, 2) := by decide +kernel
theorem dM_make_162 : decode prog_6_method_8_code 162 = .ok (.iload_n 3, 1) := by decide +kernel
theorem dM_make_163 : decode prog_6_method_8_code 163 = .ok (.iastore, 1) := by decide +kernel
theorem dM_make_164 : decode prog_6_method_8_code 164 = .ok (.aload_n 0, 1) := by decide +kernel
theorem dM_make_165 : decode prog_6_method_8_code 165 = .ok (.aload_n 0, 1) := by decide +kernel
theorem dM_make_166 : decode prog_6_method_8_code 166 = .ok (.getfield 7, 3) := by decide +kernel
theorem dM_make_169 : decode prog_6_method_8_code 169 = .ok (.bipush 40, 2) := by decide +kernel
theorem dM_make_171 : decode prog_6_method_8_code 171 = .ok (.iload_n 1, 1) := by decide +kernel
theorem dM_make_172 : decode prog_6_method_8_code 172 = .ok (.imul, 1) := by decide +kernel
theorem dM_make_173 : decode prog_6_method_8_code 173 = .ok (.iload 5, 2) := by decide +kernel
theorem dM_make_175 : decode prog_6_method_8_code 175 = .ok (.iadd, 1) := by decide +kernel
theorem dM_make_176 : decode prog_6_method_8_code 176 = .ok (.iaload, 1) := by decide +kernel
theorem dM_make_177 : decode prog_6_method_8_code 177 = .ok (.invokevirtual 56, 3) := by decide +kernel
theorem dM_make_180 : decode prog_6_method_8_code 180 = .ok (.iinc 5 1, 3) := by decide +kernel
theorem dM_make_183 : decode prog_6_method_8_code 183 = .ok (.goto (-165), 3) := by decide +kernel
theorem dM_make_186 : decode prog_6_method_8_code 186 = .ok (.return_, 1) := by decide +kernel
theorem dM_pair_0 : decode prog_6_method_9_code 0 = .ok (.iload_n 1, 1) := by decide +kernel
theorem dM_pair_1 : decode prog_6_method_9_code 1 = .ok (.iconst 1, 1) := by decide +kernel
theorem dM_pair_2 : decode prog_6_method_9_code 2 = .ok (.aload_n 0, 1) := by decide +kernel
theorem dM_pair_3 : decode prog_6_method_9_code 3 = .ok (.getfield 43, 3) := by decide +kernel
theorem dM_pair_6 : decode prog_6_method_9_code 6 = .ok (.invokestatic 35, 3) := by decide +kernel
theorem dM_pair_9 : decode prog_6_method_9_code 9 = .ok (.ifCond .eq 19, 3) := by decide +kernel
theorem dM_pair_12 : decode prog_6_method_9_code 12 = .ok (.iload_n 2, 1) := by decide +kernel
theorem dM_pair_13 : decode prog_6_method_9_code 13 = .ok (.iconst 0, 1) := by decide +kernel
theorem dM_pair_14 : decode prog_6_method_9_code 14 = .ok (.aload_n 0, 1) := by decide +kernel
theorem dM_pair_15 : decode prog_6_method_9_code 15 = .ok (.getfield 43, 3) := by decide +kernel
theorem dM_pair_18 : decode prog_6_method_9_code 18 = .ok (.invokestatic 35, 3) := by decide +kernel
theorem dM_pair_21 : decode prog_6_method_9_code 21 = .ok (.ifCond .eq 7, 3) := by decide +kernel
theorem dM_pair_24 : decode prog_6_method_9_code 24 = .ok (.iconst 1, 1) := by decide +kernel
theorem dM_pair_25 : decode prog_6_method_9_code 25 = .ok (.goto 4, 3) := by decide +kernel
theorem dM_pair_28 : decode prog_6_method_9_code 28 = .ok (.iconst 0, 1) := by decide +kernel
theorem dM_pair_29 : decode prog_6_method_9_code 29 = .ok (.ireturn, 1) := by decide +kernel
theorem dM_patch_0 : decode prog_6_method_10_code 0 = .ok (.aload_n 0, 1) := by decide +kernel
theorem dM_patch_1 : decode prog_6_method_10_code 1 = .ok (.iload_n 1, 1) := by decide +kernel
theorem dM_patch_2 : decode prog_6_method_10_code 2 = .ok (.iload_n 2, 1) := by decide +kernel
theorem dM_patch_3 : decode prog_6_method_10_code 3 = .ok (.invokevirtual 60, 3) := by decide +kernel
theorem dM_patch_6 : decode prog_6_method_10_code 6 = .ok (.ifCond .ne 5, 3) := by decide +kernel
theorem dM_patch_9 : decode prog_6_method_10_code 9 = .ok (.iconst (-1), 1) := by decide +kernel
theorem dM_patch_10 : decode prog_6_method_10_code 10 = .ok (.ireturn, 1) := by decide +kernel
theorem dM_patch_11 : decode prog_6_method_10_code 11 = .ok (.aload_n 0, 1) := by decide +kernel
theorem dM_patch_12 : decode prog_6_method_10_code 12 = .ok (.iload_n 1, 1) := by decide +kernel
theorem dM_patch_13 : decode prog_6_method_10_code 13 = .ok (.iload_n 2, 1) := by decide +kernel
theorem dM_patch_14 : decode prog_6_method_10_code 14 = .ok (.invokevirtual 64, 3) := by decide +kernel
theorem dM_patch_17 : decode prog_6_method_10_code 17 = .ok (.aload_n 0, 1) := by decide +kernel
theorem dM_patch_18 : decode prog_6_method_10_code 18 = .ok (.getfield 46, 3) := by decide +kernel
theorem dM_patch_21 : decode prog_6_method_10_code 21 = .ok (.ireturn, 1) := by decide +kernel
theorem dM_patchByte_0 : decode prog_6_method_11_code 0 = .ok (.aload_n 0, 1) := by decide +kernel
theorem dM_patchByte_1 : decode prog_6_method_11_code 1 = .ok (.iload_n 1, 1) := by decide +kernel
theorem dM_patchByte_2 : decode prog_6_method_11_code 2 = .ok (.iload_n 2, 1) := by decide +kernel
theorem dM_patchByte_3 : decode prog_6_method_11_code 3 = .ok (.invokevirtual 60, 3) := by decide +kernel
theorem dM_patchByte_6 : decode prog_6_method_11_code 6 = .ok (.ifCond .ne 5, 3) := by decide +kernel
theorem dM_patchByte_9 : decode prog_6_method_11_code 9 = .ok (.iconst (-1), 1) := by decide +kernel
theorem dM_patchByte_10 : decode prog_6_method_11_code 10 = .ok (.ireturn, 1) := by decide +kernel
theorem dM_patchByte_11 : decode prog_6_method_11_code 11 = .ok (.aload_n 0, 1) := by decide +kernel
theorem dM_patchByte_12 : decode prog_6_method_11_code 12 = .ok (.iload_n 1, 1) := by decide +kernel
theorem dM_patchByte_13 : decode prog_6_method_11_code 13 = .ok (.iload_n 2, 1) := by decide +kernel
theorem dM_patchByte_14 : decode prog_6_method_11_code 14 = .ok (.invokevirtual 64, 3) := by decide +kernel
theorem dM_patchByte_17 : decode prog_6_method_11_code 17 = .ok (.iload_n 3, 1) := by decide +kernel
theorem dM_patchByte_18 : decode prog_6_method_11_code 18 = .ok (.ifCond .lt 20, 3) := by decide +kernel
theorem dM_patchByte_21 : decode prog_6_method_11_code 21 = .ok (.iload_n 3, 1) := by decide +kernel
theorem dM_patchByte_22 : decode prog_6_method_11_code 22 = .ok (.aload_n 0, 1) := by decide +kernel
theorem dM_patchByte_23 : decode prog_6_method_11_code 23 = .ok (.getfield 46, 3) := by decide +kernel
theorem dM_patchByte_26 : decode prog_6_method_11_code 26 = .ok (.if_icmp .ge 12, 3) := by decide +kernel
theorem dM_patchByte_29 : decode prog_6_method_11_code 29 = .ok (.aload_n 0, 1) := by decide +kernel
theorem dM_patchByte_30 : decode prog_6_method_11_code 30 = .ok (.getfield 19, 3) := by decide +kernel
theorem dM_patchByte_33 : decode prog_6_method_11_code 33 = .ok (.iload_n 3, 1) := by decide +kernel
theorem dM_patchByte_34 : decode prog_6_method_11_code 34 = .ok (.iaload, 1) := by decide +kernel
theorem dM_patchByte_35 : decode prog_6_method_11_code 35 = .ok (.goto 4, 3) := by decide +kernel
theorem dM_patchByte_38 : decode prog_6_method_11_code 38 = .ok (.iconst (-1), 1) := by decide +kernel
theorem dM_patchByte_39 : decode prog_6_method_11_code 39 = .ok (.ireturn, 1) := by decide +kernel
theorem dM_saved_0 : decode prog_6_method_12_code 0 = .ok (.aload_n 0, 1) := by decide +kernel
theorem dM_saved_1 : decode prog_6_method_12_code 1 = .ok (.iload_n 1, 1) := by decide +kernel
theorem dM_saved_2 : decode prog_6_method_12_code 2 = .ok (.iload_n 2, 1) := by decide +kernel
theorem dM_saved_3 : decode prog_6_method_12_code 3 = .ok (.invokevirtual 60, 3) := by decide +kernel
theorem dM_saved_6 : decode prog_6_method_12_code 6 = .ok (.ifCond .ne 5, 3) := by decide +kernel
theorem dM_saved_9 : decode prog_6_method_12_code 9 = .ok (.iconst (-1), 1) := by decide +kernel
theorem dM_saved_10 : decode prog_6_method_12_code 10 = .ok (.ireturn, 1) := by decide +kernel
theorem dM_saved_11 : decode prog_6_method_12_code 11 = .ok (.aload_n 0, 1) := by decide +kernel
theorem dM_saved_12 : decode prog_6_method_12_code 12 = .ok (.iload_n 1, 1) := by decide +kernel
theorem dM_saved_13 : decode prog_6_method_12_code 13 = .ok (.iload_n 2, 1) := by decide +kernel
theorem dM_saved_14 : decode prog_6_method_12_code 14 = .ok (.invokevirtual 64, 3) := by decide +kernel
theorem dM_saved_17 : decode prog_6_method_12_code 17 = .ok (.aload_n 0, 1) := by decide +kernel
theorem dM_saved_18 : decode prog_6_method_12_code 18 = .ok (.getfield 49, 3) := by decide +kernel
theorem dM_saved_21 : decode prog_6_method_12_code 21 = .ok (.ireturn, 1) := by decide +kernel
theorem dM_underWay_0 : decode prog_6_method_13_code 0 = .ok (.aload_n 0, 1) := by decide +kernel
theorem dM_underWay_1 : decode prog_6_method_13_code 1 = .ok (.getfield 68, 3) := by decide +kernel
theorem dM_underWay_4 : decode prog_6_method_13_code 4 = .ok (.iconst 1, 1) := by decide +kernel
theorem dM_underWay_5 : decode prog_6_method_13_code 5 = .ok (.if_icmp .eq 19, 3) := by decide +kernel
theorem dM_underWay_8 : decode prog_6_method_13_code 8 = .ok (.aload_n 0, 1) := by decide +kernel
theorem dM_underWay_9 : decode prog_6_method_13_code 9 = .ok (.getfield 68, 3) := by decide +kernel
theorem dM_underWay_12 : decode prog_6_method_13_code 12 = .ok (.iconst 2, 1) := by decide +kernel
theorem dM_underWay_13 : decode prog_6_method_13_code 13 = .ok (.if_icmp .eq 11, 3) := by decide +kernel
theorem dM_underWay_16 : decode prog_6_method_13_code 16 = .ok (.aload_n 0, 1) := by decide +kernel
theorem dM_underWay_17 : decode prog_6_method_13_code 17 = .ok (.getfield 68, 3) := by decide +kernel
theorem dM_underWay_20 : decode prog_6_method_13_code 20 = .ok (.iconst 3, 1) := by decide +kernel
theorem dM_underWay_21 : decode prog_6_method_13_code 21 = .ok (.if_icmp .ne 7, 3) := by decide +kernel
theorem dM_underWay_24 : decode prog_6_method_13_code 24 = .ok (.iconst 1, 1) := by decide +kernel
theorem dM_underWay_25 : decode prog_6_method_13_code 25 = .ok (.goto 4, 3) := by decide +kernel
theorem dM_underWay_28 : decode prog_6_method_13_code 28 = .ok (.iconst 0, 1) := by decide +kernel
theorem dM_underWay_29 : decode prog_6_method_13_code 29 = .ok (.ireturn, 1) := by decide +kernel
theorem dM_offer_0 : decode prog_6_method_14_code 0 = .ok (.iload_n 1, 1) := by decide +kernel
theorem dM_offer_1 : decode prog_6_method_14_code 1 = .ok (.iconst 1, 1) := by decide +kernel
theorem dM_offer_2 : decode prog_6_method_14_code 2 = .ok (.aload_n 0, 1) := by decide +kernel
theorem dM_offer_3 : decode prog_6_method_14_code 3 = .ok (.getfield 43, 3) := by decide +kernel
theorem dM_offer_6 : decode prog_6_method_14_code 6 = .ok (.invokestatic 35, 3) := by decide +kernel
theorem dM_offer_9 : decode prog_6_method_14_code 9 = .ok (.ifCond .ne 5, 3) := by decide +kernel
theorem dM_offer_12 : decode prog_6_method_14_code 12 = .ok (.iconst (-1), 1) := by decide +kernel
theorem dM_offer_13 : decode prog_6_method_14_code 13 = .ok (.ireturn, 1) := by decide +kernel
theorem dM_offer_14 : decode prog_6_method_14_code 14 = .ok (.aload_n 0, 1) := by decide +kernel
theorem dM_offer_15 : decode prog_6_method_14_code 15 = .ok (.getfield 68, 3) := by decide +kernel
theorem dM_offer_18 : decode prog_6_method_14_code 18 = .ok (.iconst 3, 1) := by decide +kernel
theorem dM_offer_19 : decode prog_6_method_14_code 19 = .ok (.if_icmp .eq 11, 3) := by decide +kernel
theorem dM_offer_22 : decode prog_6_method_14_code 22 = .ok (.aload_n 0, 1) := by decide +kernel
theorem dM_offer_23 : decode prog_6_method_14_code 23 = .ok (.getfield 68, 3) := by decide +kernel
theorem dM_offer_26 : decode prog_6_method_14_code 26 = .ok (.iconst 4, 1) := by decide +kernel
theorem dM_offer_27 : decode prog_6_method_14_code 27 = .ok (.if_icmp .ne 6, 3) := by decide +kernel
theorem dM_offer_30 : decode prog_6_method_14_code 30 = .ok (.bipush (-4), 2) := by decide +kernel
theorem dM_offer_32 : decode prog_6_method_14_code 32 = .ok (.ireturn, 1) := by decide +kernel
theorem dM_offer_33 : decode prog_6_method_14_code 33 = .ok (.aload_n 0, 1) := by decide +kernel
theorem dM_offer_34 : decode prog_6_method_14_code 34 = .ok (.iload_n 1, 1) := by decide +kernel
theorem dM_offer_35 : decode prog_6_method_14_code 35 = .ok (.aload_n 0, 1) := by decide +kernel
theorem dM_offer_36 : decode prog_6_method_14_code 36 = .ok (.getfield 28, 3) := by decide +kernel
theorem dM_offer_39 : decode prog_6_method_14_code 39 = .ok (.aload_n 0, 1) := by decide +kernel
theorem dM_offer_40 : decode prog_6_method_14_code 40 = .ok (.getfield 71, 3) := by decide +kernel
theorem dM_offer_43 : decode prog_6_method_14_code 43 = .ok (.iaload, 1) := by decide +kernel
theorem dM_offer_44 : decode prog_6_method_14_code 44 = .ok (.invokevirtual 64, 3) := by decide +kernel
theorem dM_offer_47 : decode prog_6_method_14_code 47 = .ok (.aload_n 0, 1) := by decide +kernel
theorem dM_offer_48 : decode prog_6_method_14_code 48 = .ok (.iload_n 1, 1) := by decide +kernel
theorem dM_offer_49 : decode prog_6_method_14_code 49 = .ok (.putfield 74, 3) := by decide +kernel
theorem dM_offer_52 : decode prog_6_method_14_code 52 = .ok (.aload_n 0, 1) := by decide +kernel
theorem dM_offer_53 : decode prog_6_method_14_code 53 = .ok (.aload_n 0, 1) := by decide +kernel
theorem dM_offer_54 : decode prog_6_method_14_code 54 = .ok (.getfield 46, 3) := by decide +kernel
theorem dM_offer_57 : decode prog_6_method_14_code 57 = .ok (.iconst 4, 1) := by decide +kernel
theorem dM_offer_58 : decode prog_6_method_14_code 58 = .ok (.iadd, 1) := by decide +kernel
theorem dM_offer_59 : decode prog_6_method_14_code 59 = .ok (.iconst 5, 1) := by decide +kernel
theorem dM_offer_60 : decode prog_6_method_14_code 60 = .ok (.idiv, 1) := by decide +kernel
theorem dM_offer_61 : decode prog_6_method_14_code 61 = .ok (.putfield 77, 3) := by decide +kernel
theorem dM_offer_64 : decode prog_6_method_14_code 64 = .ok (.iconst 0, 1) := by decide +kernel
theorem dM_offer_65 : decode prog_6_method_14_code 65 = .ok (.istore_n 2, 1) := by decide +kernel
theorem dM_offer_66 : decode prog_6_method_14_code 66 = .ok (.iload_n 2, 1) := by decide +kernel
theorem dM_offer_67 : decode prog_6_method_14_code 67 = .ok (.bipush 32, 2) := by decide +kernel
theorem dM_offer_69 : decode prog_6_method_14_code 69 = .ok (.if_icmp .ge 16, 3) := by decide +kernel
theorem dM_offer_72 : decode prog_6_method_14_code 72 = .ok (.aload_n 0, 1) := by decide +kernel
theorem dM_offer_73 : decode prog_6_method_14_code 73 = .ok (.getfield 31, 3) := by decide +kernel
theorem dM_offer_76 : decode prog_6_method_14_code 76 = .ok (.iload_n 2, 1) := by decide +kernel
theorem dM_offer_77 : decode prog_6_method_14_code 77 = .ok (.iconst 0, 1) := by decide +kernel
theorem dM_offer_78 : decode prog_6_method_14_code 78 = .ok (.bastore, 1) := by decide +kernel
theorem dM_offer_79 : decode prog_6_method_14_code 79 = .ok (.iinc 2 1, 3) := by decide +kernel
theorem dM_offer_82 : decode prog_6_method_14_code 82 = .ok (.goto (-16), 3) := by decide +kernel
theorem dM_offer_85 : decode prog_6_method_14_code 85 = .ok (.aload_n 0, 1) := by decide +kernel
theorem dM_offer_86 : decode prog_6_method_14_code 86 = .ok (.iconst 1, 1) := by decide +kernel
theorem dM_offer_87 : decode prog_6_method_14_code 87 = .ok (.putfield 68, 3) := by decide +kernel
theorem dM_offer_90 : decode prog_6_method_14_code 90 = .ok (.aload_n 0, 1) := by decide +kernel
theorem dM_offer_91 : decode prog_6_method_14_code 91 = .ok (.getfield 77, 3) := by decide +kernel
theorem dM_offer_94 : decode prog_6_method_14_code 94 = .ok (.ireturn, 1) := by decide +kernel
theorem dM_missing_0 : decode prog_6_method_15_code 0 = .ok (.iconst 0, 1) := by decide +kernel
theorem dM_missing_1 : decode prog_6_method_15_code 1 = .ok (.istore_n 1, 1) := by decide +kernel
theorem dM_missing_2 : decode prog_6_method_15_code 2 = .ok (.iconst 0, 1) := by decide +kernel
theorem dM_missing_3 : decode prog_6_method_15_code 3 = .ok (.istore_n 2, 1) := by decide +kernel
theorem dM_missing_4 : decode prog_6_method_15_code 4 = .ok (.iload_n 2, 1) := by decide +kernel
theorem dM_missing_5 : decode prog_6_method_15_code 5 = .ok (.aload_n 0, 1) := by decide +kernel
theorem dM_missing_6 : decode prog_6_method_15_code 6 = .ok (.getfield 77, 3) := by decide +kernel
theorem dM_missing_9 : decode prog_6_method_15_code 9 = .ok (.if_icmp .ge 21, 3) := by decide +kernel
theorem dM_missing_12 : decode prog_6_method_15_code 12 = .ok (.aload_n 0, 1) := by decide +kernel
theorem dM_missing_13 : decode prog_6_method_15_code 13 = .ok (.getfield 31, 3) := by decide +kernel
theorem dM_missing_16 : decode prog_6_method_15_code 16 = .ok (.iload_n 2, 1) := by decide +kernel
theorem dM_missing_17 : decode prog_6_method_15_code 17 = .ok (.baload, 1) := by decide +kernel
theorem dM_missing_18 : decode prog_6_method_15_code 18 = .ok (.ifCond .ne 6, 3) := by decide +kernel
theorem dM_missing_21 : decode prog_6_method_15_code 21 = .ok (.iinc 1 1, 3) := by decide +kernel
theorem dM_missing_24 : decode prog_6_method_15_code 24 = .ok (.iinc 2 1, 3) := by decide +kernel
theorem dM_missing_27 : decode prog_6_method_15_code 27 = .ok (.goto (-23), 3) := by decide +kernel
theorem dM_missing_30 : decode prog_6_method_15_code 30 = .ok (.iload_n 1, 1) := by decide +kernel
theorem dM_missing_31 : decode prog_6_method_15_code 31 = .ok (.ireturn, 1) := by decide +kernel
theorem dM_beginInstall_0 : decode prog_6_method_16_code 0 = .ok (.aload_n 0, 1) := by decide +kernel
theorem dM_beginInstall_1 : decode prog_6_method_16_code 1 = .ok (.iconst 2, 1) := by decide +kernel
theorem dM_beginInstall_2 : decode prog_6_method_16_code 2 = .ok (.putfield 68, 3) := by decide +kernel
theorem dM_beginInstall_5 : decode prog_6_method_16_code 5 = .ok (.aload_n 0, 1) := by decide +kernel
theorem dM_beginInstall_6 : decode prog_6_method_16_code 6 = .ok (.iconst 0, 1) := by decide +kernel
theorem dM_beginInstall_7 : decode prog_6_method_16_code 7 = .ok (.putfield 80, 3) := by decide +kernel
theorem dM_beginInstall_10 : decode prog_6_method_16_code 10 = .ok (.aload_n 0, 1) := by decide +kernel
theorem dM_beginInstall_11 : decode prog_6_method_16_code 11 = .ok (.getfield 25, 3) := by decide +kernel
theorem dM_beginInstall_14 : decode prog_6_method_16_code 14 = .ok (.iconst 1, 1) := by decide +kernel
theorem dM_beginInstall_15 : decode prog_6_method_16_code 15 = .ok (.aload_n 0, 1) := by decide +kernel
theorem dM_beginInstall_16 : decode prog_6_method_16_code 16 = .ok (.getfield 71, 3) := by decide +kernel
theorem dM_beginInstall_19 : decode prog_6_method_16_code 19 = .ok (.isub, 1) := by decide +kernel
theorem dM_beginInstall_20 : decode prog_6_method_16_code 20 = .ok (.iconst 0, 1) := by decide +kernel
theorem dM_beginInstall_21 : decode prog_6_method_16_code 21 = .ok (.iastore, 1) := by decide +kernel
theorem dM_beginInstall_22 : decode prog_6_method_16_code 22 = .ok (.aload_n 0, 1) := by decide +kernel
theorem dM_beginInstall_23 : decode prog_6_method_16_code 23 = .ok (.getfield 28, 3) := by decide +kernel
theorem dM_beginInstall_26 : decode prog_6_method_16_code 26 = .ok (.iconst 1, 1) := by decide +kernel
theorem dM_beginInstall_27 : decode prog_6_method_16_code 27 = .ok (.aload_n 0, 1) := by decide +kernel
theorem dM_beginInstall_28 : decode prog_6_method_16_code 28 = .ok (.getfield 71, 3) := by decide +kernel
theorem dM_beginInstall_31 : decode prog_6_method_16_code 31 = .ok (.isub, 1) := by decide +kernel
theorem dM_beginInstall_32 : decode prog_6_method_16_code 32 = .ok (.aload_n 0, 1) := by decide +kernel
theorem dM_beginInstall_33 : decode prog_6_method_16_code 33 = .ok (.getfield 74, 3) := by decide +kernel
theorem dM_beginInstall_36 : decode prog_6_method_16_code 36 = .ok (.iastore, 1) := by decide +kernel
theorem dM_beginInstall_37 : decode prog_6_method_16_code 37 = .ok (.return_, 1) := by decide +kernel
theorem dM_block_0 : decode prog_6_method_17_code 0 = .ok (.iload_n 2, 1) := by decide +kernel
theorem dM_block_1 : decode prog_6_method_17_code 1 = .ok (.iconst 0, 1) := by decide +kernel
theorem dM_block_2 : decode prog_6_method_17_code 2 = .ok (.sipush 255, 3) := by decide +kernel
theorem dM_block_5 : decode prog_6_method_17_code 5 = .ok (.invokestatic 35, 3) := by decide +kernel
theorem dM_block_8 : decode prog_6_method_17_code 8 = .ok (.ifCond .eq 22, 3) := by decide +kernel
theorem dM_block_11 : decode prog_6_method_17_code 11 = .ok (.aload_n 0, 1) := by decide +kernel
theorem dM_block_12 : decode prog_6_method_17_code 12 = .ok (.invokevirtual 83, 3) := by decide +kernel
theorem dM_block_15 : decode prog_6_method_17_code 15 = .ok (.ifCond .eq 15, 3) := by decide +kernel
theorem dM_block_18 : decode prog_6_method_17_code 18 = .ok (.iload_n 1, 1) := by decide +kernel
theorem dM_block_19 : decode prog_6_method_17_code 19 = .ok (.ifCond .lt 11, 3) := by decide +kernel
theorem dM_block_22 : decode prog_6_method_17_code 22 = .ok (.iload_n 1, 1) := by decide +kernel
theorem dM_block_23 : decode prog_6_method_17_code 23 = .ok (.aload_n 0, 1) := by decide +kernel
theorem dM_block_24 : decode prog_6_method_17_code 24 = .ok (.getfield 77, 3) := by decide +kernel
theorem dM_block_27 : decode prog_6_method_17_code 27 = .ok (.if_icmp .lt 5, 3) := by decide +kernel
theorem dM_block_30 : decode prog_6_method_17_code 30 = .ok (.iconst (-1), 1) := by decide +kernel
theorem dM_block_31 : decode prog_6_method_17_code 31 = .ok (.ireturn, 1) := by decide +kernel
theorem dM_block_32 : decode prog_6_method_17_code 32 = .ok (.aload_n 0, 1) := by decide +kernel
theorem dM_block_33 : decode prog_6_method_17_code 33 = .ok (.getfield 68, 3) := by decide +kernel
theorem dM_block_36 : decode prog_6_method_17_code 36 = .ok (.iconst 1, 1) := by decide +kernel
theorem dM_block_37 : decode prog_6_method_17_code 37 = .ok (.if_icmp .eq 6, 3) := by decide +kernel
theorem dM_block_40 : decode prog_6_method_17_code 40 = .ok (.bipush (-4), 2) := by decide +kernel
theorem dM_block_42 : decode prog_6_method_17_code 42 = .ok (.ireturn, 1) := by decide +kernel
theorem dM_block_43 : decode prog_6_method_17_code 43 = .ok (.iload_n 2, 1) := by decide +kernel
theorem dM_block_44 : decode prog_6_method_17_code 44 = .ok (.ifCond .eq 6, 3) := by decide +kernel
theorem dM_block_47 : decode prog_6_method_17_code 47 = .ok (.bipush (-3), 2) := by decide +kernel
theorem dM_block_49 : decode prog_6_method_17_code 49 = .ok (.ireturn, 1) := by decide +kernel
theorem dM_block_50 : decode prog_6_method_17_code 50 = .ok (.aload_n 0, 1) := by decide +kernel
theorem dM_block_51 : decode prog_6_method_17_code 51 = .ok (.getfield 31, 3) := by decide +kernel
theorem dM_block_54 : decode prog_6_method_17_code 54 = .ok (.iload_n 1, 1) := by decide +kernel
theorem dM_block_55 : decode prog_6_method_17_code 55 = .ok (.iconst 1, 1) := by decide +kernel
theorem dM_block_56 : decode prog_6_method_17_code 56 = .ok (.bastore, 1) := by decide +kernel
theorem dM_block_57 : decode prog_6_method_17_code 57 = .ok (.aload_n 0, 1) := by decide +kernel
theorem dM_block_58 : decode prog_6_method_17_code 58 = .ok (.invokevirtual 87, 3) := by decide +kernel
theorem dM_block_61 : decode prog_6_method_17_code 61 = .ok (.istore_n 3, 1) := by decide +kernel
theorem dM_block_62 : decode prog_6_method_17_code 62 = .ok (.iload_n 3, 1) := by decide +kernel
theorem dM_block_63 : decode prog_6_method_17_code 63 = .ok (.ifCond .ne 7, 3) := by decide +kernel
theorem dM_block_66 : decode prog_6_method_17_code 66 = .ok (.aload_n 0, 1) := by decide +kernel
theorem dM_block_67 : decode prog_6_method_17_code 67 = .ok (.invokevirtual 91, 3) := by decide +kernel
theorem dM_block_70 : decode prog_6_method_17_code 70 = .ok (.iload_n 3, 1) := by decide +kernel
theorem dM_block_71 : decode prog_6_method_17_code 71 = .ok (.ireturn, 1) := by decide +kernel
theorem dM_grow_0 : decode prog_6_method_18_code 0 = .ok (.iconst 1, 1) := by decide +kernel
theorem dM_grow_1 : decode prog_6_method_18_code 1 = .ok (.aload_n 0, 1) := by decide +kernel
theorem dM_grow_2 : decode prog_6_method_18_code 2 = .ok (.getfield 71, 3) := by decide +kernel
theorem dM_grow_5 : decode prog_6_method_18_code 5 = .ok (.isub, 1) := by decide +kernel
theorem dM_grow_6 : decode prog_6_method_18_code 6 = .ok (.istore_n 2, 1) := by decide +kernel
theorem dM_grow_7 : decode prog_6_method_18_code 7 = .ok (.aload_n 0, 1) := by decide +kernel
theorem dM_grow_8 : decode prog_6_method_18_code 8 = .ok (.getfield 25, 3) := by decide +kernel
theorem dM_grow_11 : decode prog_6_method_18_code 11 = .ok (.iload_n 2, 1) := by decide +kernel
theorem dM_grow_12 : decode prog_6_method_18_code 12 = .ok (.iaload, 1) := by decide +kernel
theorem dM_grow_13 : decode prog_6_method_18_code 13 = .ok (.bipush 40, 2) := by decide +kernel
theorem dM_grow_15 : decode prog_6_method_18_code 15 = .ok (.if_icmp .ne 4, 3) := by decide +kernel
theorem dM_grow_18 : decode prog_6_method_18_code 18 = .ok (.return_, 1) := by decide +kernel
theorem dM_grow_19 : decode prog_6_method_18_code 19 = .ok (.aload_n 0, 1) := by decide +kernel
theorem dM_grow_20 : decode prog_6_method_18_code 20 = .ok (.getfield 22, 3) := by decide +kernel
theorem dM_grow_23 : decode prog_6_method_18_code 23 = .ok (.bipush 40, 2) := by decide +kernel
theorem dM_grow_25 : decode prog_6_method_18_code 25 = .ok (.iload_n 2, 1) := by decide +kernel
theorem dM_grow_26 : decode prog_6_method_18_code 26 = .ok (.imul, 1) := by decide +kernel
theorem dM_grow_27 : decode prog_6_method_18_code 27 = .ok (.aload_n 0, 1) := by decide +kernel
theorem dM_grow_28 : decode prog_6_method_18_code 28 = .ok (.getfield 25, 3) := by decide +kernel
theorem dM_grow_31 : decode prog_6_method_18_code 31 = .ok (.iload_n 2, 1) := by decide +kernel
theorem dM_grow_32 : decode prog_6_method_18_code 32 = .ok (.iaload, 1) := by decide +kernel
theorem dM_grow_33 : decode prog_6_method_18_code 33 = .ok (.iadd, 1) := by decide +kernel
theorem dM_grow_34 : decode prog_6_method_18_code 34 = .ok (.iload_n 1, 1) := by decide +kernel
theorem dM_grow_35 : decode prog_6_method_18_code 35 = .ok (.iastore, 1) := by decide +kernel
theorem dM_grow_36 : decode prog_6_method_18_code 36 = .ok (.aload_n 0, 1) := by decide +kernel
theorem dM_grow_37 : decode prog_6_method_18_code 37 = .ok (.getfield 25, 3) := by decide +kernel
theorem dM_grow_40 : decode prog_6_method_18_code 40 = .ok (.iload_n 2, 1) := by decide +kernel
theorem dM_grow_41 : decode prog_6_method_18_code 41 = .ok (.dup2, 1) := by decide +kernel
theorem dM_grow_42 : decode prog_6_method_18_code 42 = .ok (.iaload, 1) := by decide +kernel
theorem dM_grow_43 : decode prog_6_method_18_code 43 = .ok (.iconst 1, 1) := by decide +kernel
theorem dM_grow_44 : decode prog_6_method_18_code 44 = .ok (.iadd, 1) := by decide +kernel
theorem dM_grow_45 : decode prog_6_method_18_code 45 = .ok (.iastore, 1) := by decide +kernel
theorem dM_grow_46 : decode prog_6_method_18_code 46 = .ok (.return_, 1) := by decide +kernel
theorem dM_piece_0 : decode prog_6_method_19_code 0 = .ok (.aload_n 0, 1) := by decide +kernel
theorem dM_piece_1 : decode prog_6_method_19_code 1 = .ok (.getfield 19, 3) := by decide +kernel
theorem dM_piece_4 : decode prog_6_method_19_code 4 = .ok (.aload_n 0, 1) := by decide +kernel
theorem dM_piece_5 : decode prog_6_method_19_code 5 = .ok (.getfield 80, 3) := by decide +kernel
theorem dM_piece_8 : decode prog_6_method_19_code 8 = .ok (.iaload, 1) := by decide +kernel
theorem dM_piece_9 : decode prog_6_method_19_code 9 = .ok (.istore_n 1, 1) := by decide +kernel
theorem dM_piece_10 : decode prog_6_method_19_code 10 = .ok (.iload_n 1, 1) := by decide +kernel
theorem dM_piece_11 : decode prog_6_method_19_code 11 = .ok (.bipush 32, 2) := by decide +kernel
theorem dM_piece_13 : decode prog_6_method_19_code 13 = .ok (.if_icmp .ge 46, 3) := by decide +kernel
theorem dM_piece_16 : decode prog_6_method_19_code 16 = .ok (.iconst 1, 1) := by decide +kernel
theorem dM_piece_17 : decode prog_6_method_19_code 17 = .ok (.istore_n 2, 1) := by decide +kernel
theorem dM_piece_18 : decode prog_6_method_19_code 18 = .ok (.iload_n 2, 1) := by decide +kernel
theorem dM_piece_19 : decode prog_6_method_19_code 19 = .ok (.iload_n 1, 1) := by decide +kernel
theorem dM_piece_20 : decode prog_6_method_19_code 20 = .ok (.if_icmp .gt 24, 3) := by decide +kernel
theorem dM_piece_23 : decode prog_6_method_19_code 23 = .ok (.aload_n 0, 1) := by decide +kernel
theorem dM_piece_24 : decode prog_6_method_19_code 24 = .ok (.aload_n 0, 1) := by decide +kernel
theorem dM_piece_25 : decode prog_6_method_19_code 25 = .ok (.getfield 19, 3) := by decide +kernel
theorem dM_piece_28 : decode prog_6_method_19_code 28 = .ok (.aload_n 0, 1) := by decide +kernel
theorem dM_piece_29 : decode prog_6_method_19_code 29 = .ok (.getfield 80, 3) := by decide +kernel
theorem dM_piece_32 : decode prog_6_method_19_code 32 = .ok (.iload_n 2, 1) := by decide +kernel
theorem dM_piece_33 : decode prog_6_method_19_code 33 = .ok (.iadd, 1) := by decide +kernel
theorem dM_piece_34 : decode prog_6_method_19_code 34 = .ok (.iaload, 1) := by decide +kernel
theorem dM_piece_35 : decode prog_6_method_19_code 35 = .ok (.invokevirtual 94, 3) := by decide +kernel
theorem dM_piece_38 : decode prog_6_method_19_code 38 = .ok (.iinc 2 1, 3) := by decide +kernel
theorem dM_piece_41 : decode prog_6_method_19_code 41 = .ok (.goto (-23), 3) := by decide +kernel
theorem dM_piece_44 : decode prog_6_method_19_code 44 = .ok (.aload_n 0, 1) := by decide +kernel
theorem dM_piece_45 : decode prog_6_method_19_code 45 = .ok (.dup, 1) := by decide +kernel
theorem dM_piece_46 : decode prog_6_method_19_code 46 = .ok (.getfield 80, 3) := by decide +kernel
theorem dM_piece_49 : decode prog_6_method_19_code 49 = .ok (.iload_n 1, 1) := by decide +kernel
theorem dM_piece_50 : decode prog_6_method_19_code 50 = .ok (.iconst 1, 1) := by decide +kernel
theorem dM_piece_51 : decode prog_6_method_19_code 51 = .ok (.iadd, 1) := by decide +kernel
theorem dM_piece_52 : decode prog_6_method_19_code 52 = .ok (.iadd, 1) := by decide +kernel
theorem dM_piece_53 : decode prog_6_method_19_code 53 = .ok (.putfield 80, 3) := by decide +kernel
theorem dM_piece_56 : decode prog_6_method_19_code 56 = .ok (.goto 78, 3) := by decide +kernel
theorem dM_piece_59 : decode prog_6_method_19_code 59 = .ok (.aload_n 0, 1) := by decide +kernel
theorem dM_piece_60 : decode prog_6_method_19_code 60 = .ok (.getfield 19, 3) := by decide +kernel
theorem dM_piece_63 : decode prog_6_method_19_code 63 = .ok (.aload_n 0, 1) := by decide +kernel
theorem dM_piece_64 : decode prog_6_method_19_code 64 = .ok (.getfield 80, 3) := by decide +kernel
theorem dM_piece_67 : decode prog_6_method_19_code 67 = .ok (.iconst 1, 1) := by decide +kernel
theorem dM_piece_68 : decode prog_6_method_19_code 68 = .ok (.iadd, 1) := by decide +kernel
theorem dM_piece_69 : decode prog_6_method_19_code 69 = .ok (.iaload, 1) := by decide +kernel
theorem dM_piece_70 : decode prog_6_method_19_code 70 = .ok (.istore_n 2, 1) := by decide +kernel
theorem dM_piece_71 : decode prog_6_method_19_code 71 = .ok (.iload_n 2, 1) := by decide +kernel
theorem dM_piece_72 : decode prog_6_method_19_code 72 = .ok (.istore_n 3, 1) := by decide +kernel
theorem dM_piece_73 : decode prog_6_method_19_code 73 = .ok (.iload_n 3, 1) := by decide +kernel
theorem dM_piece_74 : decode prog_6_method_19_code 74 = .ok (.iload_n 2, 1) := by decide +kernel
theorem dM_piece_75 : decode prog_6_method_19_code 75 = .ok (.iload_n 1, 1) := by decide +kernel
theorem dM_piece_76 : decode prog_6_method_19_code 76 = .ok (.iadd, 1) := by decide +kernel
theorem dM_piece_77 : decode prog_6_method_19_code 77 = .ok (.bipush 28, 2) := by decide +kernel
theorem dM_piece_79 : decode prog_6_method_19_code 79 = .ok (.isub, 1) := by decide +kernel
theorem dM_piece_80 : decode prog_6_method_19_code 80 = .ok (.if_icmp .ge 44, 3) := by decide +kernel
theorem dM_piece_83 : decode prog_6_method_19_code 83 = .ok (.aload_n 0, 1) := by decide +kernel
theorem dM_piece_84 : decode prog_6_method_19_code 84 = .ok (.iload_n 3, 1) := by decide +kernel
theorem dM_piece_85 : decode prog_6_method_19_code 85 = .ok (.aload_n 0, 1) := by decide +kernel
theorem dM_piece_86 : decode prog_6_method_19_code 86 = .ok (.getfield 25, 3) := by decide +kernel
theorem dM_piece_89 : decode prog_6_method_19_code 89 = .ok (.aload_n 0, 1) := by decide +kernel
theorem dM_piece_90 : decode prog_6_method_19_code 90 = .ok (.getfield 71, 3) := by decide +kernel
theorem dM_piece_93 : decode prog_6_method_19_code 93 = .ok (.iaload, 1) := by decide +kernel
theorem dM_piece_94 : decode prog_6_method_19_code 94 = .ok (.if_icmp .ge 20, 3) := by decide +kernel
theorem dM_piece_97 : decode prog_6_method_19_code 97 = .ok (.aload_n 0, 1) := by decide +kernel
theorem dM_piece_98 : decode prog_6_method_19_code 98 = .ok (.getfield 22, 3) := by decide +kernel
theorem dM_piece_101 : decode prog_6_method_19_code 101 = .ok (.bipush 40, 2) := by decide +kernel
theorem dM_piece_103 : decode prog_6_method_19_code 103 = .ok (.aload_n 0, 1) := by decide +kernel
theorem dM_piece_104 : decode prog_6_method_19_code 104 = .ok (.getfield 71, 3) := by decide +kernel
theorem dM_piece_107 : decode prog_6_method_19_code 107 = .ok (.imul, 1) := by decide +kernel
theorem dM_piece_108 : decode prog_6_method_19_code 108 = .ok (.iload_n 3, 1) := by decide +kernel
theorem dM_piece_109 : decode prog_6_method_19_code 109 = .ok (.iadd, 1) := by decide +kernel
theorem dM_piece_110 : decode prog_6_method_19_code 110 = .ok (.iaload, 1) := by decide +kernel
theorem dM_piece_111 : decode prog_6_method_19_code 111 = .ok (.goto 4, 3) := by decide +kernel
theorem dM_piece_114 : decode prog_6_method_19_code 114 = .ok (.iconst 0, 1) := by decide +kernel
theorem dM_piece_115 : decode prog_6_method_19_code 115 = .ok (.invokevirtual 94, 3) := by decide +kernel
theorem dM_piece_118 : decode prog_6_method_19_code 118 = .ok (.iinc 3 1, 3) := by decide +kernel
theorem dM_piece_121 : decode prog_6_method_19_code 121 = .ok (.goto (-48), 3) := by decide +kernel
theorem dM_piece_124 : decode prog_6_method_19_code 124 = .ok (.aload_n 0, 1) := by decide +kernel
theorem dM_piece_125 : decode prog_6_method_19_code 125 = .ok (.dup, 1) := by decide +kernel
theorem dM_piece_126 : decode prog_6_method_19_code 126 = .ok (.getfield 80, 3) := by decide +kernel
theorem dM_piece_129 : decode prog_6_method_19_code 129 = .ok (.iconst 2, 1) := by decide +kernel
theorem dM_piece_130 : decode prog_6_method_19_code 130 = .ok (.iadd, 1) := by decide +kernel
theorem dM_piece_131 : decode prog_6_method_19_code 131 = .ok (.putfield 80, 3) := by decide +kernel
theorem dM_piece_134 : decode prog_6_method_19_code 134 = .ok (.aload_n 0, 1) := by decide +kernel
theorem dM_piece_135 : decode prog_6_method_19_code 135 = .ok (.getfield 80, 3) := by decide +kernel
theorem dM_piece_138 : decode prog_6_method_19_code 138 = .ok (.aload_n 0, 1) := by decide +kernel
theorem dM_piece_139 : decode prog_6_method_19_code 139 = .ok (.getfield 46, 3) := by decide +kernel
theorem dM_piece_142 : decode prog_6_method_19_code 142 = .ok (.if_icmp .ge 4, 3) := by decide +kernel
theorem dM_piece_145 : decode prog_6_method_19_code 145 = .ok (.return_, 1) := by decide +kernel
theorem dM_piece_146 : decode prog_6_method_19_code 146 = .ok (.aload_n 0, 1) := by decide +kernel
theorem dM_piece_147 : decode prog_6_method_19_code 147 = .ok (.aload_n 0, 1) := by decide +kernel
theorem dM_piece_148 : decode prog_6_method_19_code 148 = .ok (.iconst 1, 1) := by decide +kernel
theorem dM_piece_149 : decode prog_6_method_19_code 149 = .ok (.aload_n 0, 1) := by decide +kernel
theorem dM_piece_150 : decode prog_6_method_19_code 150 = .ok (.getfield 71, 3) := by decide +kernel
theorem dM_piece_153 : decode prog_6_method_19_code 153 = .ok (.isub, 1) := by decide +kernel
theorem dM_piece_154 : decode prog_6_method_19_code 154 = .ok (.invokevirtual 97, 3) := by decide +kernel
theorem dM_piece_157 : decode prog_6_method_19_code 157 = .ok (.ifCond .eq 7, 3) := by decide +kernel
theorem dM_piece_160 : decode prog_6_method_19_code 160 = .ok (.iconst 3, 1) := by decide +kernel
theorem dM_piece_161 : decode prog_6_method_19_code 161 = .ok (.goto 4, 3) := by decide +kernel
theorem dM_piece_164 : decode prog_6_method_19_code 164 = .ok (.iconst 0, 1) := by decide +kernel
theorem dM_piece_165 : decode prog_6_method_19_code 165 = .ok (.putfield 68, 3) := by decide +kernel
theorem dM_piece_168 : decode prog_6_method_19_code 168 = .ok (.return_, 1) := by decide +kernel
theorem dM_install_0 : decode prog_6_method_20_code 0 = .ok (.iload_n 1, 1) := by decide +kernel
theorem dM_install_1 : decode prog_6_method_20_code 1 = .ok (.iconst 1, 1) := by decide +kernel
theorem dM_install_2 : decode prog_6_method_20_code 2 = .ok (.bipush 20, 2) := by decide +kernel
theorem dM_install_4 : decode prog_6_method_20_code 4 = .ok (.invokestatic 35, 3) := by decide +kernel
theorem dM_install_7 : decode prog_6_method_20_code 7 = .ok (.ifCond .ne 5, 3) := by decide +kernel
theorem dM_install_10 : decode prog_6_method_20_code 10 = .ok (.iconst (-1), 1) := by decide +kernel
theorem dM_install_11 : decode prog_6_method_20_code 11 = .ok (.ireturn, 1) := by decide +kernel
theorem dM_install_12 : decode prog_6_method_20_code 12 = .ok (.aload_n 0, 1) := by decide +kernel
theorem dM_install_13 : decode prog_6_method_20_code 13 = .ok (.getfield 68, 3) := by decide +kernel
theorem dM_install_16 : decode prog_6_method_20_code 16 = .ok (.iconst 2, 1) := by decide +kernel
theorem dM_install_17 : decode prog_6_method_20_code 17 = .ok (.if_icmp .eq 6, 3) := by decide +kernel
theorem dM_install_20 : decode prog_6_method_20_code 20 = .ok (.bipush (-4), 2) := by decide +kernel
theorem dM_install_22 : decode prog_6_method_20_code 22 = .ok (.ireturn, 1) := by decide +kernel
theorem dM_install_23 : decode prog_6_method_20_code 23 = .ok (.aload_n 0, 1) := by decide +kernel
theorem dM_install_24 : decode prog_6_method_20_code 24 = .ok (.aload_n 0, 1) := by decide +kernel
theorem dM_install_25 : decode prog_6_method_20_code 25 = .ok (.getfield 74, 3) := by decide +kernel
theorem dM_install_28 : decode prog_6_method_20_code 28 = .ok (.aload_n 0, 1) := by decide +kernel
theorem dM_install_29 : decode prog_6_method_20_code 29 = .ok (.getfield 28, 3) := by decide +kernel
theorem dM_install_32 : decode prog_6_method_20_code 32 = .ok (.aload_n 0, 1) := by decide +kernel
theorem dM_install_33 : decode prog_6_method_20_code 33 = .ok (.getfield 71, 3) := by decide +kernel
theorem dM_install_36 : decode prog_6_method_20_code 36 = .ok (.iaload, 1) := by decide +kernel
theorem dM_install_37 : decode prog_6_method_20_code 37 = .ok (.invokevirtual 64, 3) := by decide +kernel
theorem dM_install_40 : decode prog_6_method_20_code 40 = .ok (.iconst 0, 1) := by decide +kernel
theorem dM_install_41 : decode prog_6_method_20_code 41 = .ok (.istore_n 2, 1) := by decide +kernel
theorem dM_install_42 : decode prog_6_method_20_code 42 = .ok (.iload_n 2, 1) := by decide +kernel
theorem dM_install_43 : decode prog_6_method_20_code 43 = .ok (.iload_n 1, 1) := by decide +kernel
theorem dM_install_44 : decode prog_6_method_20_code 44 = .ok (.if_icmp .ge 21, 3) := by decide +kernel
theorem dM_install_47 : decode prog_6_method_20_code 47 = .ok (.aload_n 0, 1) := by decide +kernel
theorem dM_install_48 : decode prog_6_method_20_code 48 = .ok (.getfield 68, 3) := by decide +kernel
theorem dM_install_51 : decode prog_6_method_20_code 51 = .ok (.iconst 2, 1) := by decide +kernel
theorem dM_install_52 : decode prog_6_method_20_code 52 = .ok (.if_icmp .ne 13, 3) := by decide +kernel
theorem dM_install_55 : decode prog_6_method_20_code 55 = .ok (.aload_n 0, 1) := by decide +kernel
theorem dM_install_56 : decode prog_6_method_20_code 56 = .ok (.invokevirtual 101, 3) := by decide +kernel
theorem dM_install_59 : decode prog_6_method_20_code 59 = .ok (.iinc 2 1, 3) := by decide +kernel
theorem dM_install_62 : decode prog_6_method_20_code 62 = .ok (.goto (-20), 3) := by decide +kernel
theorem dM_install_65 : decode prog_6_method_20_code 65 = .ok (.aload_n 0, 1) := by decide +kernel
theorem dM_install_66 : decode prog_6_method_20_code 66 = .ok (.getfield 68, 3) := by decide +kernel
theorem dM_install_69 : decode prog_6_method_20_code 69 = .ok (.ireturn, 1) := by decide +kernel
theorem dM_check_0 : decode prog_6_method_21_code 0 = .ok (.bipush 17, 2) := by decide +kernel
theorem dM_check_2 : decode prog_6_method_21_code 2 = .ok (.istore 4, 2) := by decide +kernel
theorem dM_check_4 : decode prog_6_method_21_code 4 = .ok (.iload_n 1, 1) := by decide +kernel
theorem dM_check_5 : decode prog_6_method_21_code 5 = .ok (.istore 5, 2) := by decide +kernel
theorem dM_check_7 : decode prog_6_method_21_code 7 = .ok (.iload 5, 2) := by decide +kernel
theorem dM_check_9 : decode prog_6_method_21_code 9 = .ok (.iload_n 1, 1) := by decide +kernel
theorem dM_check_10 : decode prog_6_method_21_code 10 = .ok (.iload_n 2, 1) := by decide +kernel
theorem dM_check_11 : decode prog_6_method_21_code 11 = .ok (.iadd, 1) := by decide +kernel
theorem dM_check_12 : decode prog_6_method_21_code 12 = .ok (.if_icmp .ge 41, 3) := by decide +kernel
theorem dM_check_15 : decode prog_6_method_21_code 15 = .ok (.iload 4, 2) := by decide +kernel
theorem dM_check_17 : decode prog_6_method_21_code 17 = .ok (.bipush 31, 2) := by decide +kernel
theorem dM_check_19 : decode prog_6_method_21_code 19 = .ok (.imul, 1) := by decide +kernel
theorem dM_check_20 : decode prog_6_method_21_code 20 = .ok (.iload_n 3, 1) := by decide +kernel
theorem dM_check_21 : decode prog_6_method_21_code 21 = .ok (.ifCond .eq 13, 3) := by decide +kernel
theorem dM_check_24 : decode prog_6_method_21_code 24 = .ok (.aload_n 0, 1) := by decide +kernel
theorem dM_check_25 : decode prog_6_method_21_code 25 = .ok (.getfield 22, 3) := by decide +kernel
theorem dM_check_28 : decode prog_6_method_21_code 28 = .ok (.iload 5, 2) := by decide +kernel
theorem dM_check_30 : decode prog_6_method_21_code 30 = .ok (.iaload, 1) := by decide +kernel
theorem dM_check_31 : decode prog_6_method_21_code 31 = .ok (.goto 10, 3) := by decide +kernel
theorem dM_check_34 : decode prog_6_method_21_code 34 = .ok (.aload_n 0, 1) := by decide +kernel
theorem dM_check_35 : decode prog_6_method_21_code 35 = .ok (.getfield 7, 3) := by decide +kernel
theorem dM_check_38 : decode prog_6_method_21_code 38 = .ok (.iload 5, 2) := by decide +kernel
theorem dM_check_40 : decode prog_6_method_21_code 40 = .ok (.iaload, 1) := by decide +kernel
theorem dM_check_41 : decode prog_6_method_21_code 41 = .ok (.iadd, 1) := by decide +kernel
theorem dM_check_42 : decode prog_6_method_21_code 42 = .ok (.ldc 104, 2) := by decide +kernel
theorem dM_check_44 : decode prog_6_method_21_code 44 = .ok (.iand, 1) := by decide +kernel
theorem dM_check_45 : decode prog_6_method_21_code 45 = .ok (.istore 4, 2) := by decide +kernel
theorem dM_check_47 : decode prog_6_method_21_code 47 = .ok (.iinc 5 1, 3) := by decide +kernel
theorem dM_check_50 : decode prog_6_method_21_code 50 = .ok (.goto (-43), 3) := by decide +kernel
theorem dM_check_53 : decode prog_6_method_21_code 53 = .ok (.iload 4, 2) := by decide +kernel
theorem dM_check_55 : decode prog_6_method_21_code 55 = .ok (.ireturn, 1) := by decide +kernel
theorem dM_boot_0 : decode prog_6_method_22_code 0 = .ok (.aload_n 0, 1) := by decide +kernel
theorem dM_boot_1 : decode prog_6_method_22_code 1 = .ok (.getfield 68, 3) := by decide +kernel
theorem dM_boot_4 : decode prog_6_method_22_code 4 = .ok (.iconst 3, 1) := by decide +kernel
theorem dM_boot_5 : decode prog_6_method_22_code 5 = .ok (.if_icmp .ne 26, 3) := by decide +kernel
theorem dM_boot_8 : decode prog_6_method_22_code 8 = .ok (.aload_n 0, 1) := by decide +kernel
theorem dM_boot_9 : decode prog_6_method_22_code 9 = .ok (.iconst 1, 1) := by decide +kernel
theorem dM_boot_10 : decode prog_6_method_22_code 10 = .ok (.aload_n 0, 1) := by decide +kernel
theorem dM_boot_11 : decode prog_6_method_22_code 11 = .ok (.getfield 71, 3) := by decide +kernel
theorem dM_boot_14 : decode prog_6_method_22_code 14 = .ok (.isub, 1) := by decide +kernel
theorem dM_boot_15 : decode prog_6_method_22_code 15 = .ok (.putfield 71, 3) := by decide +kernel
theorem dM_boot_18 : decode prog_6_method_22_code 18 = .ok (.aload_n 0, 1) := by decide +kernel
theorem dM_boot_19 : decode prog_6_method_22_code 19 = .ok (.iconst 4, 1) := by decide +kernel
theorem dM_boot_20 : decode prog_6_method_22_code 20 = .ok (.putfield 68, 3) := by decide +kernel
theorem dM_boot_23 : decode prog_6_method_22_code 23 = .ok (.aload_n 0, 1) := by decide +kernel
theorem dM_boot_24 : decode prog_6_method_22_code 24 = .ok (.iconst 2, 1) := by decide +kernel
theorem dM_boot_25 : decode prog_6_method_22_code 25 = .ok (.putfield 105, 3) := by decide +kernel
theorem dM_boot_28 : decode prog_6_method_22_code 28 = .ok (.goto 69, 3) := by decide +kernel
theorem dM_boot_31 : decode prog_6_method_22_code 31 = .ok (.aload_n 0, 1) := by decide +kernel
theorem dM_boot_32 : decode prog_6_method_22_code 32 = .ok (.getfield 68, 3) := by decide +kernel
theorem dM_boot_35 : decode prog_6_method_22_code 35 = .ok (.iconst 4, 1) := by decide +kernel
theorem dM_boot_36 : decode prog_6_method_22_code 36 = .ok (.if_icmp .ne 23, 3) := by decide +kernel
theorem dM_boot_39 : decode prog_6_method_22_code 39 = .ok (.aload_n 0, 1) := by decide +kernel
theorem dM_boot_40 : decode prog_6_method_22_code 40 = .ok (.getfield 105, 3) := by decide +kernel
theorem dM_boot_43 : decode prog_6_method_22_code 43 = .ok (.ifCond .le 16, 3) := by decide +kernel
theorem dM_boot_46 : decode prog_6_method_22_code 46 = .ok (.aload_n 0, 1) := by decide +kernel
theorem dM_boot_47 : decode prog_6_method_22_code 47 = .ok (.dup, 1) := by decide +kernel
theorem dM_boot_48 : decode prog_6_method_22_code 48 = .ok (.getfield 105, 3) := by decide +kernel
theorem dM_boot_51 : decode prog_6_method_22_code 51 = .ok (.iconst 1, 1) := by decide +kernel
theorem dM_boot_52 : decode prog_6_method_22_code 52 = .ok (.isub, 1) := by decide +kernel
theorem dM_boot_53 : decode prog_6_method_22_code 53 = .ok (.putfield 105, 3) := by decide +kernel
theorem dM_boot_56 : decode prog_6_method_22_code 56 = .ok (.goto 41, 3) := by decide +kernel
theorem dM_boot_59 : decode prog_6_method_22_code 59 = .ok (.aload_n 0, 1) := by decide +kernel
theorem dM_boot_60 : decode prog_6_method_22_code 60 = .ok (.getfield 68, 3) := by decide +kernel
theorem dM_boot_63 : decode prog_6_method_22_code 63 = .ok (.iconst 4, 1) := by decide +kernel
theorem dM_boot_64 : decode prog_6_method_22_code 64 = .ok (.if_icmp .ne 21, 3) := by decide +kernel
theorem dM_boot_67 : decode prog_6_method_22_code 67 = .ok (.aload_n 0, 1) := by decide +kernel
theorem dM_boot_68 : decode prog_6_method_22_code 68 = .ok (.iconst 1, 1) := by decide +kernel
theorem dM_boot_69 : decode prog_6_method_22_code 69 = .ok (.aload_n 0, 1) := by decide +kernel
theorem dM_boot_70 : decode prog_6_method_22_code 70 = .ok (.getfield 71, 3) := by decide +kernel
theorem dM_boot_73 : decode prog_6_method_22_code 73 = .ok (.isub, 1) := by decide +kernel
theorem dM_boot_74 : decode prog_6_method_22_code 74 = .ok (.putfield 71, 3) := by decide +kernel
theorem dM_boot_77 : decode prog_6_method_22_code 77 = .ok (.aload_n 0, 1) := by decide +kernel
theorem dM_boot_78 : decode prog_6_method_22_code 78 = .ok (.iconst 0, 1) := by decide +kernel
theorem dM_boot_79 : decode prog_6_method_22_code 79 = .ok (.putfield 68, 3) := by decide +kernel
theorem dM_boot_82 : decode prog_6_method_22_code 82 = .ok (.goto 15, 3) := by decide +kernel
theorem dM_boot_85 : decode prog_6_method_22_code 85 = .ok (.aload_n 0, 1) := by decide +kernel
theorem dM_boot_86 : decode prog_6_method_22_code 86 = .ok (.getfield 68, 3) := by decide +kernel
theorem dM_boot_89 : decode prog_6_method_22_code 89 = .ok (.iconst 2, 1) := by decide +kernel
theorem dM_boot_90 : decode prog_6_method_22_code 90 = .ok (.if_icmp .ne 7, 3) := by decide +kernel
theorem dM_boot_93 : decode prog_6_method_22_code 93 = .ok (.aload_n 0, 1) := by decide +kernel
theorem dM_boot_94 : decode prog_6_method_22_code 94 = .ok (.invokevirtual 91, 3) := by decide +kernel
theorem dM_boot_97 : decode prog_6_method_22_code 97 = .ok (.aload_n 0, 1) := by decide +kernel
theorem dM_boot_98 : decode prog_6_method_22_code 98 = .ok (.aload_n 0, 1) := by decide +kernel
theorem dM_boot_99 : decode prog_6_method_22_code 99 = .ok (.getfield 71, 3) := by decide +kernel
theorem dM_boot_102 : decode prog_6_method_22_code 102 = .ok (.invokevirtual 97, 3) := by decide +kernel
theorem dM_boot_105 : decode prog_6_method_22_code 105 = .ok (.ifCond .eq 8, 3) := by decide +kernel
theorem dM_boot_108 : decode prog_6_method_22_code 108 = .ok (.aload_n 0, 1) := by decide +kernel
theorem dM_boot_109 : decode prog_6_method_22_code 109 = .ok (.getfield 71, 3) := by decide +kernel
theorem dM_boot_112 : decode prog_6_method_22_code 112 = .ok (.ireturn, 1) := by decide +kernel
theorem dM_boot_113 : decode prog_6_method_22_code 113 = .ok (.aload_n 0, 1) := by decide +kernel
theorem dM_boot_114 : decode prog_6_method_22_code 114 = .ok (.iconst 1, 1) := by decide +kernel
theorem dM_boot_115 : decode prog_6_method_22_code 115 = .ok (.aload_n 0, 1) := by decide +kernel
theorem dM_boot_116 : decode prog_6_method_22_code 116 = .ok (.getfield 71, 3) := by decide +kernel
theorem dM_boot_119 : decode prog_6_method_22_code 119 = .ok (.isub, 1) := by decide +kernel
theorem dM_boot_120 : decode prog_6_method_22_code 120 = .ok (.invokevirtual 97, 3) := by decide +kernel
theorem dM_boot_123 : decode prog_6_method_22_code 123 = .ok (.ifCond .ne 6, 3) := by decide +kernel
theorem dM_boot_126 : decode prog_6_method_22_code 126 = .ok (.bipush (-5), 2) := by decide +kernel
theorem dM_boot_128 : decode prog_6_method_22_code 128 = .ok (.ireturn, 1) := by decide +kernel
theorem dM_boot_129 : decode prog_6_method_22_code 129 = .ok (.aload_n 0, 1) := by decide +kernel
theorem dM_boot_130 : decode prog_6_method_22_code 130 = .ok (.iconst 1, 1) := by decide +kernel
theorem dM_boot_131 : decode prog_6_method_22_code 131 = .ok (.aload_n 0, 1) := by decide +kernel
theorem dM_boot_132 : decode prog_6_method_22_code 132 = .ok (.getfield 71, 3) := by decide +kernel
theorem dM_boot_135 : decode prog_6_method_22_code 135 = .ok (.isub, 1) := by decide +kernel
theorem dM_boot_136 : decode prog_6_method_22_code 136 = .ok (.putfield 71, 3) := by decide +kernel
theorem dM_boot_139 : decode prog_6_method_22_code 139 = .ok (.aload_n 0, 1) := by decide +kernel
theorem dM_boot_140 : decode prog_6_method_22_code 140 = .ok (.iconst 0, 1) := by decide +kernel
theorem dM_boot_141 : decode prog_6_method_22_code 141 = .ok (.putfield 68, 3) := by decide +kernel
theorem dM_boot_144 : decode prog_6_method_22_code 144 = .ok (.aload_n 0, 1) := by decide +kernel
theorem dM_boot_145 : decode prog_6_method_22_code 145 = .ok (.getfield 71, 3) := by decide +kernel
theorem dM_boot_148 : decode prog_6_method_22_code 148 = .ok (.ireturn, 1) := by decide +kernel
theorem dM_confirm_0 : decode prog_6_method_23_code 0 = .ok (.aload_n 0, 1) := by decide +kernel
theorem dM_confirm_1 : decode prog_6_method_23_code 1 = .ok (.getfield 68, 3) := by decide +kernel
theorem dM_confirm_4 : decode prog_6_method_23_code 4 = .ok (.iconst 4, 1) := by decide +kernel
theorem dM_confirm_5 : decode prog_6_method_23_code 5 = .ok (.if_icmp .eq 6, 3) := by decide +kernel
theorem dM_confirm_8 : decode prog_6_method_23_code 8 = .ok (.bipush (-4), 2) := by decide +kernel
theorem dM_confirm_10 : decode prog_6_method_23_code 10 = .ok (.ireturn, 1) := by decide +kernel
theorem dM_confirm_11 : decode prog_6_method_23_code 11 = .ok (.aload_n 0, 1) := by decide +kernel
theorem dM_confirm_12 : decode prog_6_method_23_code 12 = .ok (.iconst 0, 1) := by decide +kernel
theorem dM_confirm_13 : decode prog_6_method_23_code 13 = .ok (.putfield 68, 3) := by decide +kernel
theorem dM_confirm_16 : decode prog_6_method_23_code 16 = .ok (.iconst 0, 1) := by decide +kernel
theorem dM_confirm_17 : decode prog_6_method_23_code 17 = .ok (.ireturn, 1) := by decide +kernel
theorem dM_damage_0 : decode prog_6_method_24_code 0 = .ok (.iload_n 1, 1) := by decide +kernel
theorem dM_damage_1 : decode prog_6_method_24_code 1 = .ok (.iconst 0, 1) := by decide +kernel
theorem dM_damage_2 : decode prog_6_method_24_code 2 = .ok (.iconst 1, 1) := by decide +kernel
theorem dM_damage_3 : decode prog_6_method_24_code 3 = .ok (.invokestatic 35, 3) := by decide +kernel
theorem dM_damage_6 : decode prog_6_method_24_code 6 = .ok (.ifCond .eq 28, 3) := by decide +kernel
theorem dM_damage_9 : decode prog_6_method_24_code 9 = .ok (.iload_n 2, 1) := by decide +kernel
theorem dM_damage_10 : decode prog_6_method_24_code 10 = .ok (.ifCond .lt 24, 3) := by decide +kernel
theorem dM_damage_13 : decode prog_6_method_24_code 13 = .ok (.iload_n 2, 1) := by decide +kernel
theorem dM_damage_14 : decode prog_6_method_24_code 14 = .ok (.aload_n 0, 1) := by decide +kernel
theorem dM_damage_15 : decode prog_6_method_24_code 15 = .ok (.getfield 25, 3) := by decide +kernel
theorem dM_damage_18 : decode prog_6_method_24_code 18 = .ok (.iload_n 1, 1) := by decide +kernel
theorem dM_damage_19 : decode prog_6_method_24_code 19 = .ok (.iaload, 1) := by decide +kernel
theorem dM_damage_20 : decode prog_6_method_24_code 20 = .ok (.if_icmp .ge 14, 3) := by decide +kernel
theorem dM_damage_23 : decode prog_6_method_24_code 23 = .ok (.iload_n 3, 1) := by decide +kernel
theorem dM_damage_24 : decode prog_6_method_24_code 24 = .ok (.iconst 0, 1) := by decide +kernel
theorem dM_damage_25 : decode prog_6_method_24_code 25 = .ok (.sipush 255, 3) := by decide +kernel
theorem dM_damage_28 : decode prog_6_method_24_code 28 = .ok (.invokestatic 35, 3) := by decide +kernel
theorem dM_damage_31 : decode prog_6_method_24_code 31 = .ok (.ifCond .ne 5, 3) := by decide +kernel
theorem dM_damage_34 : decode prog_6_method_24_code 34 = .ok (.iconst (-1), 1) := by decide +kernel
theorem dM_damage_35 : decode prog_6_method_24_code 35 = .ok (.ireturn, 1) := by decide +kernel
theorem dM_damage_36 : decode prog_6_method_24_code 36 = .ok (.aload_n 0, 1) := by decide +kernel
theorem dM_damage_37 : decode prog_6_method_24_code 37 = .ok (.getfield 22, 3) := by decide +kernel
theorem dM_damage_40 : decode prog_6_method_24_code 40 = .ok (.bipush 40, 2) := by decide +kernel
theorem dM_damage_42 : decode prog_6_method_24_code 42 = .ok (.iload_n 1, 1) := by decide +kernel
theorem dM_damage_43 : decode prog_6_method_24_code 43 = .ok (.imul, 1) := by decide +kernel
theorem dM_damage_44 : decode prog_6_method_24_code 44 = .ok (.iload_n 2, 1) := by decide +kernel
theorem dM_damage_45 : decode prog_6_method_24_code 45 = .ok (.iadd, 1) := by decide +kernel
theorem dM_damage_46 : decode prog_6_method_24_code 46 = .ok (.iload_n 3, 1) := by decide +kernel
theorem dM_damage_47 : decode prog_6_method_24_code 47 = .ok (.iastore, 1) := by decide +kernel
theorem dM_damage_48 : decode prog_6_method_24_code 48 = .ok (.iconst 0, 1) := by decide +kernel
theorem dM_damage_49 : decode prog_6_method_24_code 49 = .ok (.ireturn, 1) := by decide +kernel
theorem dM_slot_0 : decode prog_6_method_25_code 0 = .ok (.iload_n 1, 1) := by decide +kernel
theorem dM_slot_1 : decode prog_6_method_25_code 1 = .ok (.iconst 0, 1) := by decide +kernel
theorem dM_slot_2 : decode prog_6_method_25_code 2 = .ok (.iconst 1, 1) := by decide +kernel
theorem dM_slot_3 : decode prog_6_method_25_code 3 = .ok (.invokestatic 35, 3) := by decide +kernel
theorem dM_slot_6 : decode prog_6_method_25_code 6 = .ok (.ifCond .eq 31, 3) := by decide +kernel
theorem dM_slot_9 : decode prog_6_method_25_code 9 = .ok (.iload_n 2, 1) := by decide +kernel
theorem dM_slot_10 : decode prog_6_method_25_code 10 = .ok (.ifCond .lt 27, 3) := by decide +kernel
theorem dM_slot_13 : decode prog_6_method_25_code 13 = .ok (.iload_n 2, 1) := by decide +kernel
theorem dM_slot_14 : decode prog_6_method_25_code 14 = .ok (.aload_n 0, 1) := by decide +kernel
theorem dM_slot_15 : decode prog_6_method_25_code 15 = .ok (.getfield 25, 3) := by decide +kernel
theorem dM_slot_18 : decode prog_6_method_25_code 18 = .ok (.iload_n 1, 1) := by decide +kernel
theorem dM_slot_19 : decode prog_6_method_25_code 19 = .ok (.iaload, 1) := by decide +kernel
theorem dM_slot_20 : decode prog_6_method_25_code 20 = .ok (.if_icmp .ge 17, 3) := by decide +kernel
theorem dM_slot_23 : decode prog_6_method_25_code 23 = .ok (.aload_n 0, 1) := by decide +kernel
theorem dM_slot_24 : decode prog_6_method_25_code 24 = .ok (.getfield 22, 3) := by decide +kernel
theorem dM_slot_27 : decode prog_6_method_25_code 27 = .ok (.bipush 40, 2) := by decide +kernel
theorem dM_slot_29 : decode prog_6_method_25_code 29 = .ok (.iload_n 1, 1) := by decide +kernel
theorem dM_slot_30 : decode prog_6_method_25_code 30 = .ok (.imul, 1) := by decide +kernel
theorem dM_slot_31 : decode prog_6_method_25_code 31 = .ok (.iload_n 2, 1) := by decide +kernel
theorem dM_slot_32 : decode prog_6_method_25_code 32 = .ok (.iadd, 1) := by decide +kernel
theorem dM_slot_33 : decode prog_6_method_25_code 33 = .ok (.iaload, 1) := by decide +kernel
theorem dM_slot_34 : decode prog_6_method_25_code 34 = .ok (.goto 4, 3) := by decide +kernel
theorem dM_slot_37 : decode prog_6_method_25_code 37 = .ok (.iconst (-1), 1) := by decide +kernel
theorem dM_slot_38 : decode prog_6_method_25_code 38 = .ok (.ireturn, 1) := by decide +kernel
theorem dM_state_0 : decode prog_6_method_26_code 0 = .ok (.iload_n 1, 1) := by decide +kernel
theorem dM_state_1 : decode prog_6_method_26_code 1 = .ok (.tableswitch 161 0 10 #[59, 64, 69, 86, 93, 100, 107, 114, 130, 151, 156], 59) := by decide +kernel
theorem dM_state_60 : decode prog_6_method_26_code 60 = .ok (.aload_n 0, 1) := by decide +kernel
theorem dM_state_61 : decode prog_6_method_26_code 61 = .ok (.getfield 68, 3) := by decide +kernel
theorem dM_state_64 : decode prog_6_method_26_code 64 = .ok (.ireturn, 1) := by decide +kernel
theorem dM_state_65 : decode prog_6_method_26_code 65 = .ok (.aload_n 0, 1) := by decide +kernel
theorem dM_state_66 : decode prog_6_method_26_code 66 = .ok (.getfield 71, 3) := by decide +kernel
theorem dM_state_69 : decode prog_6_method_26_code 69 = .ok (.ireturn, 1) := by decide +kernel
theorem dM_state_70 : decode prog_6_method_26_code 70 = .ok (.aload_n 0, 1) := by decide +kernel
theorem dM_state_71 : decode prog_6_method_26_code 71 = .ok (.getfield 68, 3) := by decide +kernel
theorem dM_state_74 : decode prog_6_method_26_code 74 = .ok (.iconst 4, 1) := by decide +kernel
theorem dM_state_75 : decode prog_6_method_26_code 75 = .ok (.if_icmp .ne 10, 3) := by decide +kernel
theorem dM_state_78 : decode prog_6_method_26_code 78 = .ok (.aload_n 0, 1) := by decide +kernel
theorem dM_state_79 : decode prog_6_method_26_code 79 = .ok (.getfield 105, 3) := by decide +kernel
theorem dM_state_82 : decode prog_6_method_26_code 82 = .ok (.goto 4, 3) := by decide +kernel
theorem dM_state_85 : decode prog_6_method_26_code 85 = .ok (.iconst 0, 1) := by decide +kernel
theorem dM_state_86 : decode prog_6_method_26_code 86 = .ok (.ireturn, 1) := by decide +kernel
theorem dM_state_87 : decode prog_6_method_26_code 87 = .ok (.aload_n 0, 1) := by decide +kernel
theorem dM_state_88 : decode prog_6_method_26_code 88 = .ok (.getfield 28, 3) := by decide +kernel
theorem dM_state_91 : decode prog_6_method_26_code 91 = .ok (.iconst 0, 1) := by decide +kernel
theorem dM_state_92 : decode prog_6_method_26_code 92 = .ok (.iaload, 1) := by decide +kernel
theorem dM_state_93 : decode prog_6_method_26_code 93 = .ok (.ireturn, 1) := by decide +kernel
theorem dM_state_94 : decode prog_6_method_26_code 94 = .ok (.aload_n 0, 1) := by decide +kernel
theorem dM_state_95 : decode prog_6_method_26_code 95 = .ok (.getfield 28, 3) := by decide +kernel
theorem dM_state_98 : decode prog_6_method_26_code 98 = .ok (.iconst 1, 1) := by decide +kernel
theorem dM_state_99 : decode prog_6_method_26_code 99 = .ok (.iaload, 1) := by decide +kernel
theorem dM_state_100 : decode prog_6_method_26_code 100 = .ok (.ireturn, 1) := by decide +kernel
theorem dM_state_101 : decode prog_6_method_26_code 101 = .ok (.aload_n 0, 1) := by decide +kernel
theorem dM_state_102 : decode prog_6_method_26_code 102 = .ok (.getfield 25, 3) := by decide +kernel
theorem dM_state_105 : decode prog_6_method_26_code 105 = .ok (.iconst 0, 1) := by decide +kernel
theorem dM_state_106 : decode prog_6_method_26_code 106 = .ok (.iaload, 1) := by decide +kernel
theorem dM_state_107 : decode prog_6_method_26_code 107 = .ok (.ireturn, 1) := by decide +kernel
theorem dM_state_108 : decode prog_6_method_26_code 108 = .ok (.aload_n 0, 1) := by decide +kernel
theorem dM_state_109 : decode prog_6_method_26_code 109 = .ok (.getfield 25, 3) := by decide +kernel
theorem dM_state_112 : decode prog_6_method_26_code 112 = .ok (.iconst 1, 1) := by decide +kernel
theorem dM_state_113 : decode prog_6_method_26_code 113 = .ok (.iaload, 1) := by decide +kernel
theorem dM_state_114 : decode prog_6_method_26_code 114 = .ok (.ireturn, 1) := by decide +kernel
theorem dM_state_115 : decode prog_6_method_26_code 115 = .ok (.aload_n 0, 1) := by decide +kernel
theorem dM_state_116 : decode prog_6_method_26_code 116 = .ok (.invokevirtual 83, 3) := by decide +kernel
theorem dM_state_119 : decode prog_6_method_26_code 119 = .ok (.ifCond .eq 10, 3) := by decide +kernel
theorem dM_state_122 : decode prog_6_method_26_code 122 = .ok (.aload_n 0, 1) := by decide +kernel
theorem dM_state_123 : decode prog_6_method_26_code 123 = .ok (.getfield 74, 3) := by decide +kernel
theorem dM_state_126 : decode prog_6_method_26_code 126 = .ok (.goto 4, 3) := by decide +kernel
theorem dM_state_129 : decode prog_6_method_26_code 129 = .ok (.iconst 0, 1) := by decide +kernel
theorem dM_state_130 : decode prog_6_method_26_code 130 = .ok (.ireturn, 1) := by decide +kernel
theorem dM_state_131 : decode prog_6_method_26_code 131 = .ok (.aload_n 0, 1) := by decide +kernel
theorem dM_state_132 : decode prog_6_method_26_code 132 = .ok (.invokevirtual 83, 3) := by decide +kernel
theorem dM_state_135 : decode prog_6_method_26_code 135 = .ok (.ifCond .eq 15, 3) := by decide +kernel
theorem dM_state_138 : decode prog_6_method_26_code 138 = .ok (.aload_n 0, 1) := by decide +kernel
theorem dM_state_139 : decode prog_6_method_26_code 139 = .ok (.getfield 77, 3) := by decide +kernel
theorem dM_state_142 : decode prog_6_method_26_code 142 = .ok (.aload_n 0, 1) := by decide +kernel
theorem dM_state_143 : decode prog_6_method_26_code 143 = .ok (.invokevirtual 87, 3) := by decide +kernel
theorem dM_state_146 : decode prog_6_method_26_code 146 = .ok (.isub, 1) := by decide +kernel
theorem dM_state_147 : decode prog_6_method_26_code 147 = .ok (.goto 4, 3) := by decide +kernel
theorem dM_state_150 : decode prog_6_method_26_code 150 = .ok (.iconst 0, 1) := by decide +kernel
theorem dM_state_151 : decode prog_6_method_26_code 151 = .ok (.ireturn, 1) := by decide +kernel
theorem dM_state_152 : decode prog_6_method_26_code 152 = .ok (.aload_n 0, 1) := by decide +kernel
theorem dM_state_153 : decode prog_6_method_26_code 153 = .ok (.getfield 43, 3) := by decide +kernel
theorem dM_state_156 : decode prog_6_method_26_code 156 = .ok (.ireturn, 1) := by decide +kernel
theorem dM_state_157 : decode prog_6_method_26_code 157 = .ok (.aload_n 0, 1) := by decide +kernel
theorem dM_state_158 : decode prog_6_method_26_code 158 = .ok (.getfield 39, 3) := by decide +kernel
theorem dM_state_161 : decode prog_6_method_26_code 161 = .ok (.ireturn, 1) := by decide +kernel
theorem dM_state_162 : decode prog_6_method_26_code 162 = .ok (.iconst (-1), 1) := by decide +kernel
theorem dM_state_163 : decode prog_6_method_26_code 163 = .ok (.ireturn, 1) := by decide +kernel
theorem dM_sound_0 : decode prog_6_method_27_code 0 = .ok (.iload_n 1, 1) := by decide +kernel
theorem dM_sound_1 : decode prog_6_method_27_code 1 = .ok (.iconst 0, 1) := by decide +kernel
theorem dM_sound_2 : decode prog_6_method_27_code 2 = .ok (.iconst 1, 1) := by decide +kernel
theorem dM_sound_3 : decode prog_6_method_27_code 3 = .ok (.invokestatic 35, 3) := by decide +kernel
theorem dM_sound_6 : decode prog_6_method_27_code 6 = .ok (.ifCond .eq 23, 3) := by decide +kernel
theorem dM_sound_9 : decode prog_6_method_27_code 9 = .ok (.aload_n 0, 1) := by decide +kernel
theorem dM_sound_10 : decode prog_6_method_27_code 10 = .ok (.getfield 25, 3) := by decide +kernel
theorem dM_sound_13 : decode prog_6_method_27_code 13 = .ok (.iload_n 1, 1) := by decide +kernel
theorem dM_sound_14 : decode prog_6_method_27_code 14 = .ok (.iaload, 1) := by decide +kernel
theorem dM_sound_15 : decode prog_6_method_27_code 15 = .ok (.aload_n 0, 1) := by decide +kernel
theorem dM_sound_16 : decode prog_6_method_27_code 16 = .ok (.getfield 13, 3) := by decide +kernel
theorem dM_sound_19 : decode prog_6_method_27_code 19 = .ok (.aload_n 0, 1) := by decide +kernel
theorem dM_sound_20 : decode prog_6_method_27_code 20 = .ok (.getfield 28, 3) := by decide +kernel
theorem dM_sound_23 : decode prog_6_method_27_code 23 = .ok (.iload_n 1, 1) := by decide +kernel
theorem dM_sound_24 : decode prog_6_method_27_code 24 = .ok (.iaload, 1) := by decide +kernel
theorem dM_sound_25 : decode prog_6_method_27_code 25 = .ok (.iaload, 1) := by decide +kernel
theorem dM_sound_26 : decode prog_6_method_27_code 26 = .ok (.if_icmp .eq 5, 3) := by decide +kernel
theorem dM_sound_29 : decode prog_6_method_27_code 29 = .ok (.iconst 0, 1) := by decide +kernel
theorem dM_sound_30 : decode prog_6_method_27_code 30 = .ok (.ireturn, 1) := by decide +kernel
theorem dM_sound_31 : decode prog_6_method_27_code 31 = .ok (.aload_n 0, 1) := by decide +kernel
theorem dM_sound_32 : decode prog_6_method_27_code 32 = .ok (.bipush 40, 2) := by decide +kernel
theorem dM_sound_34 : decode prog_6_method_27_code 34 = .ok (.iload_n 1, 1) := by decide +kernel
theorem dM_sound_35 : decode prog_6_method_27_code 35 = .ok (.imul, 1) := by decide +kernel
theorem dM_sound_36 : decode prog_6_method_27_code 36 = .ok (.aload_n 0, 1) := by decide +kernel
theorem dM_sound_37 : decode prog_6_method_27_code 37 = .ok (.getfield 25, 3) := by decide +kernel
theorem dM_sound_40 : decode prog_6_method_27_code 40 = .ok (.iload_n 1, 1) := by decide +kernel
theorem dM_sound_41 : decode prog_6_method_27_code 41 = .ok (.iaload, 1) := by decide +kernel
theorem dM_sound_42 : decode prog_6_method_27_code 42 = .ok (.iconst 1, 1) := by decide +kernel
theorem dM_sound_43 : decode prog_6_method_27_code 43 = .ok (.invokevirtual 108, 3) := by decide +kernel
theorem dM_sound_46 : decode prog_6_method_27_code 46 = .ok (.aload_n 0, 1) := by decide +kernel
theorem dM_sound_47 : decode prog_6_method_27_code 47 = .ok (.bipush 40, 2) := by decide +kernel
theorem dM_sound_49 : decode prog_6_method_27_code 49 = .ok (.aload_n 0, 1) := by decide +kernel
theorem dM_sound_50 : decode prog_6_method_27_code 50 = .ok (.getfield 28, 3) := by decide +kernel
theorem dM_sound_53 : decode prog_6_method_27_code 53 = .ok (.iload_n 1, 1) := by decide +kernel
theorem dM_sound_54 : decode prog_6_method_27_code 54 = .ok (.iaload, 1) := by decide +kernel
theorem dM_sound_55 : decode prog_6_method_27_code 55 = .ok (.imul, 1) := by decide +kernel
theorem dM_sound_56 : decode prog_6_method_27_code 56 = .ok (.aload_n 0, 1) := by decide +kernel
theorem dM_sound_57 : decode prog_6_method_27_code 57 = .ok (.getfield 25, 3) := by decide +kernel
theorem dM_sound_60 : decode prog_6_method_27_code 60 = .ok (.iload_n 1, 1) := by decide +kernel
theorem dM_sound_61 : decode prog_6_method_27_code 61 = .ok (.iaload, 1) := by decide +kernel
theorem dM_sound_62 : decode prog_6_method_27_code 62 = .ok (.iconst 0, 1) := by decide +kernel
theorem dM_sound_63 : decode prog_6_method_27_code 63 = .ok (.invokevirtual 108, 3) := by decide +kernel
theorem dM_sound_66 : decode prog_6_method_27_code 66 = .ok (.if_icmp .ne 7, 3) := by decide +kernel
theorem dM_sound_69 : decode prog_6_method_27_code 69 = .ok (.iconst 1, 1) := by decide +kernel
theorem dM_sound_70 : decode prog_6_method_27_code 70 = .ok (.goto 4, 3) := by decide +kernel
theorem dM_sound_73 : decode prog_6_method_27_code 73 = .ok (.iconst 0, 1) := by decide +kernel
theorem dM_sound_74 : decode prog_6_method_27_code 74 = .ok (.ireturn, 1) := by decide +kernel
