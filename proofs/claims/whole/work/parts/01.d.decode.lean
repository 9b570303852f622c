theorem dT_init_0 : decode prog_1_method_1_code 0 = .ok (.aload_n 0, 1) := by decide +kernel
theorem dT_init_1 : decode prog_1_method_1_code 1 = .ok (.invokespecial 1, 3) := by decide +kernel
theorem dT_init_4 : decode prog_1_method_1_code 4 = .ok (.aload_n 0, 1) := by decide +kernel
theorem dT_init_5 : decode prog_1_method_1_code 5 = .ok (.new 7, 3) := by decide +kernel
theorem dT_init_8 : decode prog_1_method_1_code 8 = .ok (.dup, 1) := by decide +kernel
theorem dT_init_9 : decode prog_1_method_1_code 9 = .ok (.bipush 40, 2) := by decide +kernel
theorem dT_init_11 : decode prog_1_method_1_code 11 = .ok (.invokespecial 11, 3) := by decide +kernel
theorem dT_init_14 : decode prog_1_method_1_code 14 = .ok (.putfield 14, 3) := by decide +kernel
theorem dT_init_17 : decode prog_1_method_1_code 17 = .ok (.aload_n 0, 1) := by decide +kernel
theorem dT_init_18 : decode prog_1_method_1_code 18 = .ok (.bipush 7, 2) := by decide +kernel
theorem dT_init_20 : decode prog_1_method_1_code 20 = .ok (.anewarray 7, 3) := by decide +kernel
theorem dT_init_23 : decode prog_1_method_1_code 23 = .ok (.putfield 18, 3) := by decide +kernel
theorem dT_init_26 : decode prog_1_method_1_code 26 = .ok (.iconst 0, 1) := by decide +kernel
theorem dT_init_27 : decode prog_1_method_1_code 27 = .ok (.istore_n 1, 1) := by decide +kernel
theorem dT_init_28 : decode prog_1_method_1_code 28 = .ok (.iload_n 1, 1) := by decide +kernel
theorem dT_init_29 : decode prog_1_method_1_code 29 = .ok (.aload_n 0, 1) := by decide +kernel
theorem dT_init_30 : decode prog_1_method_1_code 30 = .ok (.getfield 18, 3) := by decide +kernel
theorem dT_init_33 : decode prog_1_method_1_code 33 = .ok (.arraylength, 1) := by decide +kernel
theorem dT_init_34 : decode prog_1_method_1_code 34 = .ok (.if_icmp .ge 24, 3) := by decide +kernel
theorem dT_init_37 : decode prog_1_method_1_code 37 = .ok (.aload_n 0, 1) := by decide +kernel
theorem dT_init_38 : decode prog_1_method_1_code 38 = .ok (.getfield 18, 3) := by decide +kernel
theorem dT_init_41 : decode prog_1_method_1_code 41 = .ok (.iload_n 1, 1) := by decide +kernel
theorem dT_init_42 : decode prog_1_method_1_code 42 = .ok (.new 7, 3) := by decide +kernel
theorem dT_init_45 : decode prog_1_method_1_code 45 = .ok (.dup, 1) := by decide +kernel
theorem dT_init_46 : decode prog_1_method_1_code 46 = .ok (.bipush 40, 2) := by decide +kernel
theorem dT_init_48 : decode prog_1_method_1_code 48 = .ok (.invokespecial 11, 3) := by decide +kernel
theorem dT_init_51 : decode prog_1_method_1_code 51 = .ok (.aastore, 1) := by decide +kernel
theorem dT_init_52 : decode prog_1_method_1_code 52 = .ok (.iinc 1 1, 3) := by decide +kernel
theorem dT_init_55 : decode prog_1_method_1_code 55 = .ok (.goto (-27), 3) := by decide +kernel
theorem dT_init_58 : decode prog_1_method_1_code 58 = .ok (.aload_n 0, 1) := by decide +kernel
theorem dT_init_59 : decode prog_1_method_1_code 59 = .ok (.iconst 0, 1) := by decide +kernel
theorem dT_init_60 : decode prog_1_method_1_code 60 = .ok (.putfield 22, 3) := by decide +kernel
theorem dT_init_63 : decode prog_1_method_1_code 63 = .ok (.aload_n 0, 1) := by decide +kernel
theorem dT_init_64 : decode prog_1_method_1_code 64 = .ok (.new 26, 3) := by decide +kernel
theorem dT_init_67 : decode prog_1_method_1_code 67 = .ok (.dup, 1) := by decide +kernel
theorem dT_init_68 : decode prog_1_method_1_code 68 = .ok (.invokespecial 28, 3) := by decide +kernel
theorem dT_init_71 : decode prog_1_method_1_code 71 = .ok (.putfield 29, 3) := by decide +kernel
theorem dT_init_74 : decode prog_1_method_1_code 74 = .ok (.aload_n 0, 1) := by decide +kernel
theorem dT_init_75 : decode prog_1_method_1_code 75 = .ok (.iconst 0, 1) := by decide +kernel
theorem dT_init_76 : decode prog_1_method_1_code 76 = .ok (.putfield 33, 3) := by decide +kernel
theorem dT_init_79 : decode prog_1_method_1_code 79 = .ok (.aload_n 0, 1) := by decide +kernel
theorem dT_init_80 : decode prog_1_method_1_code 80 = .ok (.iconst 0, 1) := by decide +kernel
theorem dT_init_81 : decode prog_1_method_1_code 81 = .ok (.putfield 36, 3) := by decide +kernel
theorem dT_init_84 : decode prog_1_method_1_code 84 = .ok (.aload_n 0, 1) := by decide +kernel
theorem dT_init_85 : decode prog_1_method_1_code 85 = .ok (.new 39, 3) := by decide +kernel
theorem dT_init_88 : decode prog_1_method_1_code 88 = .ok (.dup, 1) := by decide +kernel
theorem dT_init_89 : decode prog_1_method_1_code 89 = .ok (.aload_n 0, 1) := by decide +kernel
theorem dT_init_90 : decode prog_1_method_1_code 90 = .ok (.getfield 18, 3) := by decide +kernel
theorem dT_init_93 : decode prog_1_method_1_code 93 = .ok (.invokespecial 41, 3) := by decide +kernel
theorem dT_init_96 : decode prog_1_method_1_code 96 = .ok (.putfield 44, 3) := by decide +kernel
theorem dT_init_99 : decode prog_1_method_1_code 99 = .ok (.return_, 1) := by decide +kernel
theorem dT_feed_0 : decode prog_1_method_2_code 0 = .ok (.iload_n 1, 1) := by decide +kernel
theorem dT_feed_1 : decode prog_1_method_2_code 1 = .ok (.invokestatic 48, 3) := by decide +kernel
theorem dT_feed_4 : decode prog_1_method_2_code 4 = .ok (.ifCond .ne 5, 3) := by decide +kernel
theorem dT_feed_7 : decode prog_1_method_2_code 7 = .ok (.iconst (-1), 1) := by decide +kernel
theorem dT_feed_8 : decode prog_1_method_2_code 8 = .ok (.ireturn, 1) := by decide +kernel
theorem dT_feed_9 : decode prog_1_method_2_code 9 = .ok (.aload_n 0, 1) := by decide +kernel
theorem dT_feed_10 : decode prog_1_method_2_code 10 = .ok (.getfield 14, 3) := by decide +kernel
theorem dT_feed_13 : decode prog_1_method_2_code 13 = .ok (.invokevirtual 52, 3) := by decide +kernel
theorem dT_feed_16 : decode prog_1_method_2_code 16 = .ok (.bipush 40, 2) := by decide +kernel
theorem dT_feed_18 : decode prog_1_method_2_code 18 = .ok (.if_icmp .lt 6, 3) := by decide +kernel
theorem dT_feed_21 : decode prog_1_method_2_code 21 = .ok (.bipush (-2), 2) := by decide +kernel
theorem dT_feed_23 : decode prog_1_method_2_code 23 = .ok (.ireturn, 1) := by decide +kernel
theorem dT_feed_24 : decode prog_1_method_2_code 24 = .ok (.aload_n 0, 1) := by decide +kernel
theorem dT_feed_25 : decode prog_1_method_2_code 25 = .ok (.getfield 14, 3) := by decide +kernel
theorem dT_feed_28 : decode prog_1_method_2_code 28 = .ok (.iload_n 1, 1) := by decide +kernel
theorem dT_feed_29 : decode prog_1_method_2_code 29 = .ok (.invokevirtual 56, 3) := by decide +kernel
theorem dT_feed_32 : decode prog_1_method_2_code 32 = .ok (.aload_n 0, 1) := by decide +kernel
theorem dT_feed_33 : decode prog_1_method_2_code 33 = .ok (.getfield 14, 3) := by decide +kernel
theorem dT_feed_36 : decode prog_1_method_2_code 36 = .ok (.invokevirtual 52, 3) := by decide +kernel
theorem dT_feed_39 : decode prog_1_method_2_code 39 = .ok (.ireturn, 1) := by decide +kernel
theorem dT_reuse_0 : decode prog_1_method_3_code 0 = .ok (.aload_n 0, 1) := by decide +kernel
theorem dT_reuse_1 : decode prog_1_method_3_code 1 = .ok (.iload_n 1, 1) := by decide +kernel
theorem dT_reuse_2 : decode prog_1_method_3_code 2 = .ok (.invokevirtual 59, 3) := by decide +kernel
theorem dT_reuse_5 : decode prog_1_method_3_code 5 = .ok (.ifCond .eq 12, 3) := by decide +kernel
theorem dT_reuse_8 : decode prog_1_method_3_code 8 = .ok (.iload_n 2, 1) := by decide +kernel
theorem dT_reuse_9 : decode prog_1_method_3_code 9 = .ok (.ifCond .lt 8, 3) := by decide +kernel
theorem dT_reuse_12 : decode prog_1_method_3_code 12 = .ok (.iload_n 3, 1) := by decide +kernel
theorem dT_reuse_13 : decode prog_1_method_3_code 13 = .ok (.iconst 1, 1) := by decide +kernel
theorem dT_reuse_14 : decode prog_1_method_3_code 14 = .ok (.if_icmp .ge 5, 3) := by decide +kernel
theorem dT_reuse_17 : decode prog_1_method_3_code 17 = .ok (.iconst (-1), 1) := by decide +kernel
theorem dT_reuse_18 : decode prog_1_method_3_code 18 = .ok (.ireturn, 1) := by decide +kernel
theorem dT_reuse_19 : decode prog_1_method_3_code 19 = .ok (.iload_n 3, 1) := by decide +kernel
theorem dT_reuse_20 : decode prog_1_method_3_code 20 = .ok (.aload_n 0, 1) := by decide +kernel
theorem dT_reuse_21 : decode prog_1_method_3_code 21 = .ok (.getfield 18, 3) := by decide +kernel
theorem dT_reuse_24 : decode prog_1_method_3_code 24 = .ok (.iload_n 1, 1) := by decide +kernel
theorem dT_reuse_25 : decode prog_1_method_3_code 25 = .ok (.aaload, 1) := by decide +kernel
theorem dT_reuse_26 : decode prog_1_method_3_code 26 = .ok (.invokevirtual 52, 3) := by decide +kernel
theorem dT_reuse_29 : decode prog_1_method_3_code 29 = .ok (.iload_n 2, 1) := by decide +kernel
theorem dT_reuse_30 : decode prog_1_method_3_code 30 = .ok (.isub, 1) := by decide +kernel
theorem dT_reuse_31 : decode prog_1_method_3_code 31 = .ok (.if_icmp .le 5, 3) := by decide +kernel
theorem dT_reuse_34 : decode prog_1_method_3_code 34 = .ok (.iconst (-1), 1) := by decide +kernel
theorem dT_reuse_35 : decode prog_1_method_3_code 35 = .ok (.ireturn, 1) := by decide +kernel
theorem dT_reuse_36 : decode prog_1_method_3_code 36 = .ok (.iload_n 3, 1) := by decide +kernel
theorem dT_reuse_37 : decode prog_1_method_3_code 37 = .ok (.bipush 40, 2) := by decide +kernel
theorem dT_reuse_39 : decode prog_1_method_3_code 39 = .ok (.aload_n 0, 1) := by decide +kernel
theorem dT_reuse_40 : decode prog_1_method_3_code 40 = .ok (.getfield 14, 3) := by decide +kernel
theorem dT_reuse_43 : decode prog_1_method_3_code 43 = .ok (.invokevirtual 52, 3) := by decide +kernel
theorem dT_reuse_46 : decode prog_1_method_3_code 46 = .ok (.isub, 1) := by decide +kernel
theorem dT_reuse_47 : decode prog_1_method_3_code 47 = .ok (.if_icmp .le 6, 3) := by decide +kernel
theorem dT_reuse_50 : decode prog_1_method_3_code 50 = .ok (.bipush (-2), 2) := by decide +kernel
theorem dT_reuse_52 : decode prog_1_method_3_code 52 = .ok (.ireturn, 1) := by decide +kernel
theorem dT_reuse_53 : decode prog_1_method_3_code 53 = .ok (.aload_n 0, 1) := by decide +kernel
theorem dT_reuse_54 : decode prog_1_method_3_code 54 = .ok (.getfield 14, 3) := by decide +kernel
theorem dT_reuse_57 : decode prog_1_method_3_code 57 = .ok (.aload_n 0, 1) := by decide +kernel
theorem dT_reuse_58 : decode prog_1_method_3_code 58 = .ok (.getfield 18, 3) := by decide +kernel
theorem dT_reuse_61 : decode prog_1_method_3_code 61 = .ok (.iload_n 1, 1) := by decide +kernel
theorem dT_reuse_62 : decode prog_1_method_3_code 62 = .ok (.aaload, 1) := by decide +kernel
theorem dT_reuse_63 : decode prog_1_method_3_code 63 = .ok (.iload_n 2, 1) := by decide +kernel
theorem dT_reuse_64 : decode prog_1_method_3_code 64 = .ok (.iload_n 3, 1) := by decide +kernel
theorem dT_reuse_65 : decode prog_1_method_3_code 65 = .ok (.invokevirtual 62, 3) := by decide +kernel
theorem dT_reuse_68 : decode prog_1_method_3_code 68 = .ok (.aload_n 0, 1) := by decide +kernel
theorem dT_reuse_69 : decode prog_1_method_3_code 69 = .ok (.getfield 14, 3) := by decide +kernel
theorem dT_reuse_72 : decode prog_1_method_3_code 72 = .ok (.invokevirtual 52, 3) := by decide +kernel
theorem dT_reuse_75 : decode prog_1_method_3_code 75 = .ok (.ireturn, 1) := by decide +kernel
theorem dT_publish_0 : decode prog_1_method_4_code 0 = .ok (.aload_n 0, 1) := by decide +kernel
theorem dT_publish_1 : decode prog_1_method_4_code 1 = .ok (.getfield 14, 3) := by decide +kernel
theorem dT_publish_4 : decode prog_1_method_4_code 4 = .ok (.invokevirtual 52, 3) := by decide +kernel
theorem dT_publish_7 : decode prog_1_method_4_code 7 = .ok (.ifCond .ne 5, 3) := by decide +kernel
theorem dT_publish_10 : decode prog_1_method_4_code 10 = .ok (.iconst (-1), 1) := by decide +kernel
theorem dT_publish_11 : decode prog_1_method_4_code 11 = .ok (.ireturn, 1) := by decide +kernel
theorem dT_publish_12 : decode prog_1_method_4_code 12 = .ok (.aload_n 0, 1) := by decide +kernel
theorem dT_publish_13 : decode prog_1_method_4_code 13 = .ok (.getfield 22, 3) := by decide +kernel
theorem dT_publish_16 : decode prog_1_method_4_code 16 = .ok (.bipush 6, 2) := by decide +kernel
theorem dT_publish_18 : decode prog_1_method_4_code 18 = .ok (.if_icmp .lt 6, 3) := by decide +kernel
theorem dT_publish_21 : decode prog_1_method_4_code 21 = .ok (.bipush (-2), 2) := by decide +kernel
theorem dT_publish_23 : decode prog_1_method_4_code 23 = .ok (.ireturn, 1) := by decide +kernel
theorem dT_publish_24 : decode prog_1_method_4_code 24 = .ok (.aload_n 0, 1) := by decide +kernel
theorem dT_publish_25 : decode prog_1_method_4_code 25 = .ok (.dup, 1) := by decide +kernel
theorem dT_publish_26 : decode prog_1_method_4_code 26 = .ok (.getfield 22, 3) := by decide +kernel
theorem dT_publish_29 : decode prog_1_method_4_code 29 = .ok (.iconst 1, 1) := by decide +kernel
theorem dT_publish_30 : decode prog_1_method_4_code 30 = .ok (.iadd, 1) := by decide +kernel
theorem dT_publish_31 : decode prog_1_method_4_code 31 = .ok (.putfield 22, 3) := by decide +kernel
theorem dT_publish_34 : decode prog_1_method_4_code 34 = .ok (.aload_n 0, 1) := by decide +kernel
theorem dT_publish_35 : decode prog_1_method_4_code 35 = .ok (.getfield 18, 3) := by decide +kernel
theorem dT_publish_38 : decode prog_1_method_4_code 38 = .ok (.aload_n 0, 1) := by decide +kernel
theorem dT_publish_39 : decode prog_1_method_4_code 39 = .ok (.getfield 22, 3) := by decide +kernel
theorem dT_publish_42 : decode prog_1_method_4_code 42 = .ok (.aaload, 1) := by decide +kernel
theorem dT_publish_43 : decode prog_1_method_4_code 43 = .ok (.aload_n 0, 1) := by decide +kernel
theorem dT_publish_44 : decode prog_1_method_4_code 44 = .ok (.getfield 14, 3) := by decide +kernel
theorem dT_publish_47 : decode prog_1_method_4_code 47 = .ok (.iconst 0, 1) := by decide +kernel
theorem dT_publish_48 : decode prog_1_method_4_code 48 = .ok (.aload_n 0, 1) := by decide +kernel
theorem dT_publish_49 : decode prog_1_method_4_code 49 = .ok (.getfield 14, 3) := by decide +kernel
theorem dT_publish_52 : decode prog_1_method_4_code 52 = .ok (.invokevirtual 52, 3) := by decide +kernel
theorem dT_publish_55 : decode prog_1_method_4_code 55 = .ok (.invokevirtual 62, 3) := by decide +kernel
theorem dT_publish_58 : decode prog_1_method_4_code 58 = .ok (.aload_n 0, 1) := by decide +kernel
theorem dT_publish_59 : decode prog_1_method_4_code 59 = .ok (.getfield 14, 3) := by decide +kernel
theorem dT_publish_62 : decode prog_1_method_4_code 62 = .ok (.invokevirtual 66, 3) := by decide +kernel
theorem dT_publish_65 : decode prog_1_method_4_code 65 = .ok (.aload_n 0, 1) := by decide +kernel
theorem dT_publish_66 : decode prog_1_method_4_code 66 = .ok (.getfield 22, 3) := by decide +kernel
theorem dT_publish_69 : decode prog_1_method_4_code 69 = .ok (.ireturn, 1) := by decide +kernel
theorem dT_patch_0 : decode prog_1_method_5_code 0 = .ok (.aload_n 0, 1) := by decide +kernel
theorem dT_patch_1 : decode prog_1_method_5_code 1 = .ok (.iload_n 1, 1) := by decide +kernel
theorem dT_patch_2 : decode prog_1_method_5_code 2 = .ok (.iload_n 2, 1) := by decide +kernel
theorem dT_patch_3 : decode prog_1_method_5_code 3 = .ok (.invokevirtual 69, 3) := by decide +kernel
theorem dT_patch_6 : decode prog_1_method_5_code 6 = .ok (.ifCond .eq 13, 3) := by decide +kernel
theorem dT_patch_9 : decode prog_1_method_5_code 9 = .ok (.aload_n 0, 1) := by decide +kernel
theorem dT_patch_10 : decode prog_1_method_5_code 10 = .ok (.getfield 29, 3) := by decide +kernel
theorem dT_patch_13 : decode prog_1_method_5_code 13 = .ok (.invokevirtual 73, 3) := by decide +kernel
theorem dT_patch_16 : decode prog_1_method_5_code 16 = .ok (.goto 4, 3) := by decide +kernel
theorem dT_patch_19 : decode prog_1_method_5_code 19 = .ok (.iconst (-1), 1) := by decide +kernel
theorem dT_patch_20 : decode prog_1_method_5_code 20 = .ok (.ireturn, 1) := by decide +kernel
theorem dT_patchByte_0 : decode prog_1_method_6_code 0 = .ok (.aload_n 0, 1) := by decide +kernel
theorem dT_patchByte_1 : decode prog_1_method_6_code 1 = .ok (.iload_n 1, 1) := by decide +kernel
theorem dT_patchByte_2 : decode prog_1_method_6_code 2 = .ok (.iload_n 2, 1) := by decide +kernel
theorem dT_patchByte_3 : decode prog_1_method_6_code 3 = .ok (.invokevirtual 69, 3) := by decide +kernel
theorem dT_patchByte_6 : decode prog_1_method_6_code 6 = .ok (.ifCond .eq 25, 3) := by decide +kernel
theorem dT_patchByte_9 : decode prog_1_method_6_code 9 = .ok (.aload_n 0, 1) := by decide +kernel
theorem dT_patchByte_10 : decode prog_1_method_6_code 10 = .ok (.getfield 29, 3) := by decide +kernel
theorem dT_patchByte_13 : decode prog_1_method_6_code 13 = .ok (.iload_n 3, 1) := by decide +kernel
theorem dT_patchByte_14 : decode prog_1_method_6_code 14 = .ok (.invokevirtual 74, 3) := by decide +kernel
theorem dT_patchByte_17 : decode prog_1_method_6_code 17 = .ok (.ifCond .eq 14, 3) := by decide +kernel
theorem dT_patchByte_20 : decode prog_1_method_6_code 20 = .ok (.aload_n 0, 1) := by decide +kernel
theorem dT_patchByte_21 : decode prog_1_method_6_code 21 = .ok (.getfield 29, 3) := by decide +kernel
theorem dT_patchByte_24 : decode prog_1_method_6_code 24 = .ok (.iload_n 3, 1) := by decide +kernel
theorem dT_patchByte_25 : decode prog_1_method_6_code 25 = .ok (.invokevirtual 77, 3) := by decide +kernel
theorem dT_patchByte_28 : decode prog_1_method_6_code 28 = .ok (.goto 4, 3) := by decide +kernel
theorem dT_patchByte_31 : decode prog_1_method_6_code 31 = .ok (.iconst (-1), 1) := by decide +kernel
theorem dT_patchByte_32 : decode prog_1_method_6_code 32 = .ok (.ireturn, 1) := by decide +kernel
theorem dT_saved_0 : decode prog_1_method_7_code 0 = .ok (.aload_n 0, 1) := by decide +kernel
theorem dT_saved_1 : decode prog_1_method_7_code 1 = .ok (.iload_n 1, 1) := by decide +kernel
theorem dT_saved_2 : decode prog_1_method_7_code 2 = .ok (.iload_n 2, 1) := by decide +kernel
theorem dT_saved_3 : decode prog_1_method_7_code 3 = .ok (.invokevirtual 69, 3) := by decide +kernel
theorem dT_saved_6 : decode prog_1_method_7_code 6 = .ok (.ifCond .eq 13, 3) := by decide +kernel
theorem dT_saved_9 : decode prog_1_method_7_code 9 = .ok (.aload_n 0, 1) := by decide +kernel
theorem dT_saved_10 : decode prog_1_method_7_code 10 = .ok (.getfield 29, 3) := by decide +kernel
theorem dT_saved_13 : decode prog_1_method_7_code 13 = .ok (.invokevirtual 81, 3) := by decide +kernel
theorem dT_saved_16 : decode prog_1_method_7_code 16 = .ok (.goto 4, 3) := by decide +kernel
theorem dT_saved_19 : decode prog_1_method_7_code 19 = .ok (.iconst (-1), 1) := by decide +kernel
theorem dT_saved_20 : decode prog_1_method_7_code 20 = .ok (.ireturn, 1) := by decide +kernel
theorem dT_offer_0 : decode prog_1_method_8_code 0 = .ok (.iload_n 1, 1) := by decide +kernel
theorem dT_offer_1 : decode prog_1_method_8_code 1 = .ok (.ifCond .eq 11, 3) := by decide +kernel
theorem dT_offer_4 : decode prog_1_method_8_code 4 = .ok (.aload_n 0, 1) := by decide +kernel
theorem dT_offer_5 : decode prog_1_method_8_code 5 = .ok (.iload_n 1, 1) := by decide +kernel
theorem dT_offer_6 : decode prog_1_method_8_code 6 = .ok (.invokevirtual 59, 3) := by decide +kernel
theorem dT_offer_9 : decode prog_1_method_8_code 9 = .ok (.ifCond .ne 5, 3) := by decide +kernel
theorem dT_offer_12 : decode prog_1_method_8_code 12 = .ok (.iconst (-1), 1) := by decide +kernel
theorem dT_offer_13 : decode prog_1_method_8_code 13 = .ok (.ireturn, 1) := by decide +kernel
theorem dT_offer_14 : decode prog_1_method_8_code 14 = .ok (.aload_n 0, 1) := by decide +kernel
theorem dT_offer_15 : decode prog_1_method_8_code 15 = .ok (.getfield 44, 3) := by decide +kernel
theorem dT_offer_18 : decode prog_1_method_8_code 18 = .ok (.iconst 3, 1) := by decide +kernel
theorem dT_offer_19 : decode prog_1_method_8_code 19 = .ok (.invokevirtual 84, 3) := by decide +kernel
theorem dT_offer_22 : decode prog_1_method_8_code 22 = .ok (.ifCond .ne 14, 3) := by decide +kernel
theorem dT_offer_25 : decode prog_1_method_8_code 25 = .ok (.aload_n 0, 1) := by decide +kernel
theorem dT_offer_26 : decode prog_1_method_8_code 26 = .ok (.getfield 44, 3) := by decide +kernel
theorem dT_offer_29 : decode prog_1_method_8_code 29 = .ok (.iconst 4, 1) := by decide +kernel
theorem dT_offer_30 : decode prog_1_method_8_code 30 = .ok (.invokevirtual 84, 3) := by decide +kernel
theorem dT_offer_33 : decode prog_1_method_8_code 33 = .ok (.ifCond .eq 6, 3) := by decide +kernel
theorem dT_offer_36 : decode prog_1_method_8_code 36 = .ok (.bipush (-4), 2) := by decide +kernel
theorem dT_offer_38 : decode prog_1_method_8_code 38 = .ok (.ireturn, 1) := by decide +kernel
theorem dT_offer_39 : decode prog_1_method_8_code 39 = .ok (.aload_n 0, 1) := by decide +kernel
theorem dT_offer_40 : decode prog_1_method_8_code 40 = .ok (.getfield 44, 3) := by decide +kernel
theorem dT_offer_43 : decode prog_1_method_8_code 43 = .ok (.iload_n 1, 1) := by decide +kernel
theorem dT_offer_44 : decode prog_1_method_8_code 44 = .ok (.invokevirtual 87, 3) := by decide +kernel
theorem dT_offer_47 : decode prog_1_method_8_code 47 = .ok (.ireturn, 1) := by decide +kernel
theorem dT_block_0 : decode prog_1_method_9_code 0 = .ok (.iload_n 2, 1) := by decide +kernel
theorem dT_block_1 : decode prog_1_method_9_code 1 = .ok (.invokestatic 48, 3) := by decide +kernel
theorem dT_block_4 : decode prog_1_method_9_code 4 = .ok (.ifCond .eq 14, 3) := by decide +kernel
theorem dT_block_7 : decode prog_1_method_9_code 7 = .ok (.aload_n 0, 1) := by decide +kernel
theorem dT_block_8 : decode prog_1_method_9_code 8 = .ok (.getfield 44, 3) := by decide +kernel
theorem dT_block_11 : decode prog_1_method_9_code 11 = .ok (.iload_n 1, 1) := by decide +kernel
theorem dT_block_12 : decode prog_1_method_9_code 12 = .ok (.invokevirtual 90, 3) := by decide +kernel
theorem dT_block_15 : decode prog_1_method_9_code 15 = .ok (.ifCond .ne 5, 3) := by decide +kernel
theorem dT_block_18 : decode prog_1_method_9_code 18 = .ok (.iconst (-1), 1) := by decide +kernel
theorem dT_block_19 : decode prog_1_method_9_code 19 = .ok (.ireturn, 1) := by decide +kernel
theorem dT_block_20 : decode prog_1_method_9_code 20 = .ok (.aload_n 0, 1) := by decide +kernel
theorem dT_block_21 : decode prog_1_method_9_code 21 = .ok (.getfield 44, 3) := by decide +kernel
theorem dT_block_24 : decode prog_1_method_9_code 24 = .ok (.iconst 1, 1) := by decide +kernel
theorem dT_block_25 : decode prog_1_method_9_code 25 = .ok (.invokevirtual 84, 3) := by decide +kernel
theorem dT_block_28 : decode prog_1_method_9_code 28 = .ok (.ifCond .ne 6, 3) := by decide +kernel
theorem dT_block_31 : decode prog_1_method_9_code 31 = .ok (.bipush (-4), 2) := by decide +kernel
theorem dT_block_33 : decode prog_1_method_9_code 33 = .ok (.ireturn, 1) := by decide +kernel
theorem dT_block_34 : decode prog_1_method_9_code 34 = .ok (.iload_n 2, 1) := by decide +kernel
theorem dT_block_35 : decode prog_1_method_9_code 35 = .ok (.ifCond .eq 6, 3) := by decide +kernel
theorem dT_block_38 : decode prog_1_method_9_code 38 = .ok (.bipush (-3), 2) := by decide +kernel
theorem dT_block_40 : decode prog_1_method_9_code 40 = .ok (.ireturn, 1) := by decide +kernel
theorem dT_block_41 : decode prog_1_method_9_code 41 = .ok (.aload_n 0, 1) := by decide +kernel
theorem dT_block_42 : decode prog_1_method_9_code 42 = .ok (.getfield 44, 3) := by decide +kernel
theorem dT_block_45 : decode prog_1_method_9_code 45 = .ok (.iload_n 1, 1) := by decide +kernel
theorem dT_block_46 : decode prog_1_method_9_code 46 = .ok (.invokevirtual 93, 3) := by decide +kernel
theorem dT_block_49 : decode prog_1_method_9_code 49 = .ok (.ireturn, 1) := by decide +kernel
theorem dT_install_0 : decode prog_1_method_10_code 0 = .ok (.iload_n 1, 1) := by decide +kernel
theorem dT_install_1 : decode prog_1_method_10_code 1 = .ok (.iconst 1, 1) := by decide +kernel
theorem dT_install_2 : decode prog_1_method_10_code 2 = .ok (.if_icmp .lt 9, 3) := by decide +kernel
theorem dT_install_5 : decode prog_1_method_10_code 5 = .ok (.iload_n 1, 1) := by decide +kernel
theorem dT_install_6 : decode prog_1_method_10_code 6 = .ok (.bipush 20, 2) := by decide +kernel
theorem dT_install_8 : decode prog_1_method_10_code 8 = .ok (.if_icmp .le 5, 3) := by decide +kernel
theorem dT_install_11 : decode prog_1_method_10_code 11 = .ok (.iconst (-1), 1) := by decide +kernel
theorem dT_install_12 : decode prog_1_method_10_code 12 = .ok (.ireturn, 1) := by decide +kernel
theorem dT_install_13 : decode prog_1_method_10_code 13 = .ok (.aload_n 0, 1) := by decide +kernel
theorem dT_install_14 : decode prog_1_method_10_code 14 = .ok (.getfield 44, 3) := by decide +kernel
theorem dT_install_17 : decode prog_1_method_10_code 17 = .ok (.iconst 2, 1) := by decide +kernel
theorem dT_install_18 : decode prog_1_method_10_code 18 = .ok (.invokevirtual 84, 3) := by decide +kernel
theorem dT_install_21 : decode prog_1_method_10_code 21 = .ok (.ifCond .ne 6, 3) := by decide +kernel
theorem dT_install_24 : decode prog_1_method_10_code 24 = .ok (.bipush (-4), 2) := by decide +kernel
theorem dT_install_26 : decode prog_1_method_10_code 26 = .ok (.ireturn, 1) := by decide +kernel
theorem dT_install_27 : decode prog_1_method_10_code 27 = .ok (.aload_n 0, 1) := by decide +kernel
theorem dT_install_28 : decode prog_1_method_10_code 28 = .ok (.getfield 44, 3) := by decide +kernel
theorem dT_install_31 : decode prog_1_method_10_code 31 = .ok (.iload_n 1, 1) := by decide +kernel
theorem dT_install_32 : decode prog_1_method_10_code 32 = .ok (.invokevirtual 96, 3) := by decide +kernel
theorem dT_install_35 : decode prog_1_method_10_code 35 = .ok (.ireturn, 1) := by decide +kernel
theorem dT_boot_0 : decode prog_1_method_11_code 0 = .ok (.aload_n 0, 1) := by decide +kernel
theorem dT_boot_1 : decode prog_1_method_11_code 1 = .ok (.getfield 44, 3) := by decide +kernel
theorem dT_boot_4 : decode prog_1_method_11_code 4 = .ok (.invokevirtual 99, 3) := by decide +kernel
theorem dT_boot_7 : decode prog_1_method_11_code 7 = .ok (.ireturn, 1) := by decide +kernel
theorem dT_confirm_0 : decode prog_1_method_12_code 0 = .ok (.aload_n 0, 1) := by decide +kernel
theorem dT_confirm_1 : decode prog_1_method_12_code 1 = .ok (.getfield 44, 3) := by decide +kernel
theorem dT_confirm_4 : decode prog_1_method_12_code 4 = .ok (.iconst 4, 1) := by decide +kernel
theorem dT_confirm_5 : decode prog_1_method_12_code 5 = .ok (.invokevirtual 84, 3) := by decide +kernel
theorem dT_confirm_8 : decode prog_1_method_12_code 8 = .ok (.ifCond .ne 6, 3) := by decide +kernel
theorem dT_confirm_11 : decode prog_1_method_12_code 11 = .ok (.bipush (-4), 2) := by decide +kernel
theorem dT_confirm_13 : decode prog_1_method_12_code 13 = .ok (.ireturn, 1) := by decide +kernel
theorem dT_confirm_14 : decode prog_1_method_12_code 14 = .ok (.aload_n 0, 1) := by decide +kernel
theorem dT_confirm_15 : decode prog_1_method_12_code 15 = .ok (.getfield 44, 3) := by decide +kernel
theorem dT_confirm_18 : decode prog_1_method_12_code 18 = .ok (.invokevirtual 102, 3) := by decide +kernel
theorem dT_confirm_21 : decode prog_1_method_12_code 21 = .ok (.iconst 0, 1) := by decide +kernel
theorem dT_confirm_22 : decode prog_1_method_12_code 22 = .ok (.ireturn, 1) := by decide +kernel
theorem dT_damage_0 : decode prog_1_method_13_code 0 = .ok (.iload_n 1, 1) := by decide +kernel
theorem dT_damage_1 : decode prog_1_method_13_code 1 = .ok (.invokestatic 105, 3) := by decide +kernel
theorem dT_damage_4 : decode prog_1_method_13_code 4 = .ok (.ifCond .eq 25, 3) := by decide +kernel
theorem dT_damage_7 : decode prog_1_method_13_code 7 = .ok (.aload_n 0, 1) := by decide +kernel
theorem dT_damage_8 : decode prog_1_method_13_code 8 = .ok (.getfield 44, 3) := by decide +kernel
theorem dT_damage_11 : decode prog_1_method_13_code 11 = .ok (.iload_n 1, 1) := by decide +kernel
theorem dT_damage_12 : decode prog_1_method_13_code 12 = .ok (.invokevirtual 108, 3) := by decide +kernel
theorem dT_damage_15 : decode prog_1_method_13_code 15 = .ok (.iload_n 2, 1) := by decide +kernel
theorem dT_damage_16 : decode prog_1_method_13_code 16 = .ok (.invokevirtual 112, 3) := by decide +kernel
theorem dT_damage_19 : decode prog_1_method_13_code 19 = .ok (.ifCond .eq 10, 3) := by decide +kernel
theorem dT_damage_22 : decode prog_1_method_13_code 22 = .ok (.iload_n 3, 1) := by decide +kernel
theorem dT_damage_23 : decode prog_1_method_13_code 23 = .ok (.invokestatic 48, 3) := by decide +kernel
theorem dT_damage_26 : decode prog_1_method_13_code 26 = .ok (.ifCond .ne 5, 3) := by decide +kernel
theorem dT_damage_29 : decode prog_1_method_13_code 29 = .ok (.iconst (-1), 1) := by decide +kernel
theorem dT_damage_30 : decode prog_1_method_13_code 30 = .ok (.ireturn, 1) := by decide +kernel
theorem dT_damage_31 : decode prog_1_method_13_code 31 = .ok (.aload_n 0, 1) := by decide +kernel
theorem dT_damage_32 : decode prog_1_method_13_code 32 = .ok (.getfield 44, 3) := by decide +kernel
theorem dT_damage_35 : decode prog_1_method_13_code 35 = .ok (.iload_n 1, 1) := by decide +kernel
theorem dT_damage_36 : decode prog_1_method_13_code 36 = .ok (.invokevirtual 108, 3) := by decide +kernel
theorem dT_damage_39 : decode prog_1_method_13_code 39 = .ok (.iload_n 2, 1) := by decide +kernel
theorem dT_damage_40 : decode prog_1_method_13_code 40 = .ok (.iload_n 3, 1) := by decide +kernel
theorem dT_damage_41 : decode prog_1_method_13_code 41 = .ok (.invokevirtual 113, 3) := by decide +kernel
theorem dT_damage_44 : decode prog_1_method_13_code 44 = .ok (.iconst 0, 1) := by decide +kernel
theorem dT_damage_45 : decode prog_1_method_13_code 45 = .ok (.ireturn, 1) := by decide +kernel
theorem dT_slot_0 : decode prog_1_method_14_code 0 = .ok (.iload_n 1, 1) := by decide +kernel
theorem dT_slot_1 : decode prog_1_method_14_code 1 = .ok (.invokestatic 105, 3) := by decide +kernel
theorem dT_slot_4 : decode prog_1_method_14_code 4 = .ok (.ifCond .eq 33, 3) := by decide +kernel
theorem dT_slot_7 : decode prog_1_method_14_code 7 = .ok (.aload_n 0, 1) := by decide +kernel
theorem dT_slot_8 : decode prog_1_method_14_code 8 = .ok (.getfield 44, 3) := by decide +kernel
theorem dT_slot_11 : decode prog_1_method_14_code 11 = .ok (.iload_n 1, 1) := by decide +kernel
theorem dT_slot_12 : decode prog_1_method_14_code 12 = .ok (.invokevirtual 108, 3) := by decide +kernel
theorem dT_slot_15 : decode prog_1_method_14_code 15 = .ok (.iload_n 2, 1) := by decide +kernel
theorem dT_slot_16 : decode prog_1_method_14_code 16 = .ok (.invokevirtual 112, 3) := by decide +kernel
theorem dT_slot_19 : decode prog_1_method_14_code 19 = .ok (.ifCond .eq 18, 3) := by decide +kernel
theorem dT_slot_22 : decode prog_1_method_14_code 22 = .ok (.aload_n 0, 1) := by decide +kernel
theorem dT_slot_23 : decode prog_1_method_14_code 23 = .ok (.getfield 44, 3) := by decide +kernel
theorem dT_slot_26 : decode prog_1_method_14_code 26 = .ok (.iload_n 1, 1) := by decide +kernel
theorem dT_slot_27 : decode prog_1_method_14_code 27 = .ok (.invokevirtual 108, 3) := by decide +kernel
theorem dT_slot_30 : decode prog_1_method_14_code 30 = .ok (.iload_n 2, 1) := by decide +kernel
theorem dT_slot_31 : decode prog_1_method_14_code 31 = .ok (.invokevirtual 117, 3) := by decide +kernel
theorem dT_slot_34 : decode prog_1_method_14_code 34 = .ok (.goto 4, 3) := by decide +kernel
theorem dT_slot_37 : decode prog_1_method_14_code 37 = .ok (.iconst (-1), 1) := by decide +kernel
theorem dT_slot_38 : decode prog_1_method_14_code 38 = .ok (.ireturn, 1) := by decide +kernel
theorem dT_state_0 : decode prog_1_method_15_code 0 = .ok (.iload_n 1, 1) := by decide +kernel
theorem dT_state_1 : decode prog_1_method_15_code 1 = .ok (.tableswitch 154 0 10 #[59, 67, 75, 83, 92, 101, 113, 125, 133, 141, 146], 59) := by decide +kernel
theorem dT_state_60 : decode prog_1_method_15_code 60 = .ok (.aload_n 0, 1) := by decide +kernel
theorem dT_state_61 : decode prog_1_method_15_code 61 = .ok (.getfield 44, 3) := by decide +kernel
theorem dT_state_64 : decode prog_1_method_15_code 64 = .ok (.invokevirtual 118, 3) := by decide +kernel
theorem dT_state_67 : decode prog_1_method_15_code 67 = .ok (.ireturn, 1) := by decide +kernel
theorem dT_state_68 : decode prog_1_method_15_code 68 = .ok (.aload_n 0, 1) := by decide +kernel
theorem dT_state_69 : decode prog_1_method_15_code 69 = .ok (.getfield 44, 3) := by decide +kernel
theorem dT_state_72 : decode prog_1_method_15_code 72 = .ok (.invokevirtual 121, 3) := by decide +kernel
theorem dT_state_75 : decode prog_1_method_15_code 75 = .ok (.ireturn, 1) := by decide +kernel
theorem dT_state_76 : decode prog_1_method_15_code 76 = .ok (.aload_n 0, 1) := by decide +kernel
theorem dT_state_77 : decode prog_1_method_15_code 77 = .ok (.getfield 44, 3) := by decide +kernel
theorem dT_state_80 : decode prog_1_method_15_code 80 = .ok (.invokevirtual 124, 3) := by decide +kernel
theorem dT_state_83 : decode prog_1_method_15_code 83 = .ok (.ireturn, 1) := by decide +kernel
theorem dT_state_84 : decode prog_1_method_15_code 84 = .ok (.aload_n 0, 1) := by decide +kernel
theorem dT_state_85 : decode prog_1_method_15_code 85 = .ok (.getfield 44, 3) := by decide +kernel
theorem dT_state_88 : decode prog_1_method_15_code 88 = .ok (.iconst 0, 1) := by decide +kernel
theorem dT_state_89 : decode prog_1_method_15_code 89 = .ok (.invokevirtual 127, 3) := by decide +kernel
theorem dT_state_92 : decode prog_1_method_15_code 92 = .ok (.ireturn, 1) := by decide +kernel
theorem dT_state_93 : decode prog_1_method_15_code 93 = .ok (.aload_n 0, 1) := by decide +kernel
theorem dT_state_94 : decode prog_1_method_15_code 94 = .ok (.getfield 44, 3) := by decide +kernel
theorem dT_state_97 : decode prog_1_method_15_code 97 = .ok (.iconst 1, 1) := by decide +kernel
theorem dT_state_98 : decode prog_1_method_15_code 98 = .ok (.invokevirtual 127, 3) := by decide +kernel
theorem dT_state_101 : decode prog_1_method_15_code 101 = .ok (.ireturn, 1) := by decide +kernel
theorem dT_state_102 : decode prog_1_method_15_code 102 = .ok (.aload_n 0, 1) := by decide +kernel
theorem dT_state_103 : decode prog_1_method_15_code 103 = .ok (.getfield 44, 3) := by decide +kernel
theorem dT_state_106 : decode prog_1_method_15_code 106 = .ok (.iconst 0, 1) := by decide +kernel
theorem dT_state_107 : decode prog_1_method_15_code 107 = .ok (.invokevirtual 108, 3) := by decide +kernel
theorem dT_state_110 : decode prog_1_method_15_code 110 = .ok (.invokevirtual 52, 3) := by decide +kernel
theorem dT_state_113 : decode prog_1_method_15_code 113 = .ok (.ireturn, 1) := by decide +kernel
theorem dT_state_114 : decode prog_1_method_15_code 114 = .ok (.aload_n 0, 1) := by decide +kernel
theorem dT_state_115 : decode prog_1_method_15_code 115 = .ok (.getfield 44, 3) := by decide +kernel
theorem dT_state_118 : decode prog_1_method_15_code 118 = .ok (.iconst 1, 1) := by decide +kernel
theorem dT_state_119 : decode prog_1_method_15_code 119 = .ok (.invokevirtual 108, 3) := by decide +kernel
theorem dT_state_122 : decode prog_1_method_15_code 122 = .ok (.invokevirtual 52, 3) := by decide +kernel
theorem dT_state_125 : decode prog_1_method_15_code 125 = .ok (.ireturn, 1) := by decide +kernel
theorem dT_state_126 : decode prog_1_method_15_code 126 = .ok (.aload_n 0, 1) := by decide +kernel
theorem dT_state_127 : decode prog_1_method_15_code 127 = .ok (.getfield 44, 3) := by decide +kernel
theorem dT_state_130 : decode prog_1_method_15_code 130 = .ok (.invokevirtual 130, 3) := by decide +kernel
theorem dT_state_133 : decode prog_1_method_15_code 133 = .ok (.ireturn, 1) := by decide +kernel
theorem dT_state_134 : decode prog_1_method_15_code 134 = .ok (.aload_n 0, 1) := by decide +kernel
theorem dT_state_135 : decode prog_1_method_15_code 135 = .ok (.getfield 44, 3) := by decide +kernel
theorem dT_state_138 : decode prog_1_method_15_code 138 = .ok (.invokevirtual 133, 3) := by decide +kernel
theorem dT_state_141 : decode prog_1_method_15_code 141 = .ok (.ireturn, 1) := by decide +kernel
theorem dT_state_142 : decode prog_1_method_15_code 142 = .ok (.aload_n 0, 1) := by decide +kernel
theorem dT_state_143 : decode prog_1_method_15_code 143 = .ok (.getfield 22, 3) := by decide +kernel
theorem dT_state_146 : decode prog_1_method_15_code 146 = .ok (.ireturn, 1) := by decide +kernel
theorem dT_state_147 : decode prog_1_method_15_code 147 = .ok (.aload_n 0, 1) := by decide +kernel
theorem dT_state_148 : decode prog_1_method_15_code 148 = .ok (.getfield 14, 3) := by decide +kernel
theorem dT_state_151 : decode prog_1_method_15_code 151 = .ok (.invokevirtual 52, 3) := by decide +kernel
theorem dT_state_154 : decode prog_1_method_15_code 154 = .ok (.ireturn, 1) := by decide +kernel
theorem dT_state_155 : decode prog_1_method_15_code 155 = .ok (.iconst (-1), 1) := by decide +kernel
theorem dT_state_156 : decode prog_1_method_15_code 156 = .ok (.ireturn, 1) := by decide +kernel
theorem dT_sound_0 : decode prog_1_method_16_code 0 = .ok (.iload_n 1, 1) := by decide +kernel
theorem dT_sound_1 : decode prog_1_method_16_code 1 = .ok (.invokestatic 105, 3) := by decide +kernel
theorem dT_sound_4 : decode prog_1_method_16_code 4 = .ok (.ifCond .eq 18, 3) := by decide +kernel
theorem dT_sound_7 : decode prog_1_method_16_code 7 = .ok (.aload_n 0, 1) := by decide +kernel
theorem dT_sound_8 : decode prog_1_method_16_code 8 = .ok (.getfield 44, 3) := by decide +kernel
theorem dT_sound_11 : decode prog_1_method_16_code 11 = .ok (.iload_n 1, 1) := by decide +kernel
theorem dT_sound_12 : decode prog_1_method_16_code 12 = .ok (.invokevirtual 136, 3) := by decide +kernel
theorem dT_sound_15 : decode prog_1_method_16_code 15 = .ok (.ifCond .eq 7, 3) := by decide +kernel
theorem dT_sound_18 : decode prog_1_method_16_code 18 = .ok (.iconst 1, 1) := by decide +kernel
theorem dT_sound_19 : decode prog_1_method_16_code 19 = .ok (.goto 4, 3) := by decide +kernel
theorem dT_sound_22 : decode prog_1_method_16_code 22 = .ok (.iconst 0, 1) := by decide +kernel
theorem dT_sound_23 : decode prog_1_method_16_code 23 = .ok (.ireturn, 1) := by decide +kernel
theorem dT_isByte_0 : decode prog_1_method_17_code 0 = .ok (.iload_n 0, 1) := by decide +kernel
theorem dT_isByte_1 : decode prog_1_method_17_code 1 = .ok (.ifCond .lt 14, 3) := by decide +kernel
theorem dT_isByte_4 : decode prog_1_method_17_code 4 = .ok (.iload_n 0, 1) := by decide +kernel
theorem dT_isByte_5 : decode prog_1_method_17_code 5 = .ok (.sipush 255, 3) := by decide +kernel
theorem dT_isByte_8 : decode prog_1_method_17_code 8 = .ok (.if_icmp .gt 7, 3) := by decide +kernel
theorem dT_isByte_11 : decode prog_1_method_17_code 11 = .ok (.iconst 1, 1) := by decide +kernel
theorem dT_isByte_12 : decode prog_1_method_17_code 12 = .ok (.goto 4, 3) := by decide +kernel
theorem dT_isByte_15 : decode prog_1_method_17_code 15 = .ok (.iconst 0, 1) := by decide +kernel
theorem dT_isByte_16 : decode prog_1_method_17_code 16 = .ok (.ireturn, 1) := by decide +kernel
theorem dT_isSlot_0 : decode prog_1_method_18_code 0 = .ok (.iload_n 0, 1) := by decide +kernel
theorem dT_isSlot_1 : decode prog_1_method_18_code 1 = .ok (.ifCond .eq 8, 3) := by decide +kernel
theorem dT_isSlot_4 : decode prog_1_method_18_code 4 = .ok (.iload_n 0, 1) := by decide +kernel
theorem dT_isSlot_5 : decode prog_1_method_18_code 5 = .ok (.iconst 1, 1) := by decide +kernel
theorem dT_isSlot_6 : decode prog_1_method_18_code 6 = .ok (.if_icmp .ne 7, 3) := by decide +kernel
theorem dT_isSlot_9 : decode prog_1_method_18_code 9 = .ok (.iconst 1, 1) := by decide +kernel
theorem dT_isSlot_10 : decode prog_1_method_18_code 10 = .ok (.goto 4, 3) := by decide +kernel
theorem dT_isSlot_13 : decode prog_1_method_18_code 13 = .ok (.iconst 0, 1) := by decide +kernel
theorem dT_isSlot_14 : decode prog_1_method_18_code 14 = .ok (.ireturn, 1) := by decide +kernel
theorem dT_isVersion_0 : decode prog_1_method_19_code 0 = .ok (.iload_n 1, 1) := by decide +kernel
theorem dT_isVersion_1 : decode prog_1_method_19_code 1 = .ok (.ifCond .lt 15, 3) := by decide +kernel
theorem dT_isVersion_4 : decode prog_1_method_19_code 4 = .ok (.iload_n 1, 1) := by decide +kernel
theorem dT_isVersion_5 : decode prog_1_method_19_code 5 = .ok (.aload_n 0, 1) := by decide +kernel
theorem dT_isVersion_6 : decode prog_1_method_19_code 6 = .ok (.getfield 22, 3) := by decide +kernel
theorem dT_isVersion_9 : decode prog_1_method_19_code 9 = .ok (.if_icmp .gt 7, 3) := by decide +kernel
theorem dT_isVersion_12 : decode prog_1_method_19_code 12 = .ok (.iconst 1, 1) := by decide +kernel
theorem dT_isVersion_13 : decode prog_1_method_19_code 13 = .ok (.goto 4, 3) := by decide +kernel
theorem dT_isVersion_16 : decode prog_1_method_19_code 16 = .ok (.iconst 0, 1) := by decide +kernel
theorem dT_isVersion_17 : decode prog_1_method_19_code 17 = .ok (.ireturn, 1) := by decide +kernel
theorem dT_findPatch_0 : decode prog_1_method_20_code 0 = .ok (.iload_n 1, 1) := by decide +kernel
theorem dT_findPatch_1 : decode prog_1_method_20_code 1 = .ok (.ifCond .eq 19, 3) := by decide +kernel
theorem dT_findPatch_4 : decode prog_1_method_20_code 4 = .ok (.aload_n 0, 1) := by decide +kernel
theorem dT_findPatch_5 : decode prog_1_method_20_code 5 = .ok (.iload_n 1, 1) := by decide +kernel
theorem dT_findPatch_6 : decode prog_1_method_20_code 6 = .ok (.invokevirtual 59, 3) := by decide +kernel
theorem dT_findPatch_9 : decode prog_1_method_20_code 9 = .ok (.ifCond .eq 11, 3) := by decide +kernel
theorem dT_findPatch_12 : decode prog_1_method_20_code 12 = .ok (.aload_n 0, 1) := by decide +kernel
theorem dT_findPatch_13 : decode prog_1_method_20_code 13 = .ok (.iload_n 2, 1) := by decide +kernel
theorem dT_findPatch_14 : decode prog_1_method_20_code 14 = .ok (.invokevirtual 59, 3) := by decide +kernel
theorem dT_findPatch_17 : decode prog_1_method_20_code 17 = .ok (.ifCond .ne 5, 3) := by decide +kernel
theorem dT_findPatch_20 : decode prog_1_method_20_code 20 = .ok (.iconst 0, 1) := by decide +kernel
theorem dT_findPatch_21 : decode prog_1_method_20_code 21 = .ok (.ireturn, 1) := by decide +kernel
theorem dT_findPatch_22 : decode prog_1_method_20_code 22 = .ok (.iload_n 1, 1) := by decide +kernel
theorem dT_findPatch_23 : decode prog_1_method_20_code 23 = .ok (.aload_n 0, 1) := by decide +kernel
theorem dT_findPatch_24 : decode prog_1_method_20_code 24 = .ok (.getfield 33, 3) := by decide +kernel
theorem dT_findPatch_27 : decode prog_1_method_20_code 27 = .ok (.if_icmp .ne 11, 3) := by decide +kernel
theorem dT_findPatch_30 : decode prog_1_method_20_code 30 = .ok (.iload_n 2, 1) := by decide +kernel
theorem dT_findPatch_31 : decode prog_1_method_20_code 31 = .ok (.aload_n 0, 1) := by decide +kernel
theorem dT_findPatch_32 : decode prog_1_method_20_code 32 = .ok (.getfield 36, 3) := by decide +kernel
theorem dT_findPatch_35 : decode prog_1_method_20_code 35 = .ok (.if_icmp .eq 32, 3) := by decide +kernel
theorem dT_findPatch_38 : decode prog_1_method_20_code 38 = .ok (.aload_n 0, 1) := by decide +kernel
theorem dT_findPatch_39 : decode prog_1_method_20_code 39 = .ok (.getfield 29, 3) := by decide +kernel
theorem dT_findPatch_42 : decode prog_1_method_20_code 42 = .ok (.aload_n 0, 1) := by decide +kernel
theorem dT_findPatch_43 : decode prog_1_method_20_code 43 = .ok (.getfield 18, 3) := by decide +kernel
theorem dT_findPatch_46 : decode prog_1_method_20_code 46 = .ok (.iload_n 1, 1) := by decide +kernel
theorem dT_findPatch_47 : decode prog_1_method_20_code 47 = .ok (.aaload, 1) := by decide +kernel
theorem dT_findPatch_48 : decode prog_1_method_20_code 48 = .ok (.aload_n 0, 1) := by decide +kernel
theorem dT_findPatch_49 : decode prog_1_method_20_code 49 = .ok (.getfield 18, 3) := by decide +kernel
theorem dT_findPatch_52 : decode prog_1_method_20_code 52 = .ok (.iload_n 2, 1) := by decide +kernel
theorem dT_findPatch_53 : decode prog_1_method_20_code 53 = .ok (.aaload, 1) := by decide +kernel
theorem dT_findPatch_54 : decode prog_1_method_20_code 54 = .ok (.invokevirtual 139, 3) := by decide +kernel
theorem dT_findPatch_57 : decode prog_1_method_20_code 57 = .ok (.aload_n 0, 1) := by decide +kernel
theorem dT_findPatch_58 : decode prog_1_method_20_code 58 = .ok (.iload_n 1, 1) := by decide +kernel
theorem dT_findPatch_59 : decode prog_1_method_20_code 59 = .ok (.putfield 33, 3) := by decide +kernel
theorem dT_findPatch_62 : decode prog_1_method_20_code 62 = .ok (.aload_n 0, 1) := by decide +kernel
theorem dT_findPatch_63 : decode prog_1_method_20_code 63 = .ok (.iload_n 2, 1) := by decide +kernel
theorem dT_findPatch_64 : decode prog_1_method_20_code 64 = .ok (.putfield 36, 3) := by decide +kernel
theorem dT_findPatch_67 : decode prog_1_method_20_code 67 = .ok (.iconst 1, 1) := by decide +kernel
theorem dT_findPatch_68 : decode prog_1_method_20_code 68 = .ok (.ireturn, 1) := by decide +kernel
